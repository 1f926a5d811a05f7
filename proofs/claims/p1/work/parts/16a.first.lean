set_option maxRecDepth 100000 in
set_option maxHeartbeats 0 in
theorem x_vessel_r1 (ro : UInt32 → Nat × (Nat → Int32)) (a b : Int32) (h1 : a < 0) : zWp ro 78 0 [(0, .ref 0), (1, .int a), (2, .int b)] [] hF 0 0 (fun r h1 => r = some (.int (-1)) ∧ zMF h1) := by
  refine zw_iload_n 1 f78_0 rfl rfl ?_
  refine zw_iconst 0 2 f78_1 rfl (by decide +kernel) ?_
  refine zw_iconst 4 3 f78_2 rfl (by decide +kernel) ?_
  refine zw_static_i 6 0 0 [.int a, .int 0, .int 4] [] [(0, .int a), (1, .int 0), (2, .int 4)] f78_3 rfl k78_74_99 rfl (by decide +kernel) (Nat.le_of_ble_eq_true rfl) (Nat.le_of_ble_eq_true rfl) rfl rfl (by decide +kernel) (by decide +kernel) rfl (Nat.le_of_ble_eq_true rfl) rfl ?_
  refine zw_iload_n 1 f112_0 rfl rfl ?_
  refine zw_iload_n 2 f112_1 rfl rfl ?_
  refine zw_ic_lt_t 14 f112_2 (by decide +kernel) h1 ?_
  refine zw_iconst 0 15 f112_14 rfl (by decide +kernel) ?_
  refine zw_zreturn f112_15 r112 u112 (by decide +kernel) ⟨_, rfl, ?_⟩
  refine zw_if_eq_t 20 f78_6 (by decide +kernel) (by decide +kernel) ?_
  refine zw_aload_n 21 f78_20 rfl rfl ?_
  refine zw_iconst 1 22 f78_21 rfl (by decide +kernel) ?_
  refine zw_virtual_i 25 0 0 [.ref 0, .int 1] [(0, .ref 0), (1, .int 1)] f78_22 rfl n78_78 k78_78_11 rfl rfl (by decide +kernel) (Nat.le_of_ble_eq_true rfl) rfl rfl (by decide +kernel) (by decide +kernel) rfl (Nat.le_of_ble_eq_true rfl) rfl ?_
  refine zw_aload_n 1 f105_0 rfl rfl ?_
  refine zw_iload_n 2 f105_1 rfl rfl ?_
  refine zw_putfield 5 f105_2 rfl g105_70_11 rfl rfl (Nat.le_of_ble_eq_true rfl) (by decide +kernel) ?_
  refine zw_iconst (-1) 6 f105_5 rfl (by decide +kernel) ?_
  refine zw_ireturn f105_6 r105 u105 ⟨_, rfl, ?_⟩
  refine zw_ireturn f78_25 r78 u78 ?_
  exact ⟨rfl, by repeat (first | exact zMF_0 | refine zMF_set (by decide) ?_)⟩
set_option maxRecDepth 100000 in
set_option maxHeartbeats 0 in
theorem x_vessel_r2 (ro : UInt32 → Nat × (Nat → Int32)) (a b : Int32) (h1 : ¬ a < 0) (h2 : 4 < a) : zWp ro 78 0 [(0, .ref 0), (1, .int a), (2, .int b)] [] hF 0 0 (fun r h1 => r = some (.int (-1)) ∧ zMF h1) := by
  refine zw_iload_n 1 f78_0 rfl rfl ?_
  refine zw_iconst 0 2 f78_1 rfl (by decide +kernel) ?_
  refine zw_iconst 4 3 f78_2 rfl (by decide +kernel) ?_
  refine zw_static_i 6 0 0 [.int a, .int 0, .int 4] [] [(0, .int a), (1, .int 0), (2, .int 4)] f78_3 rfl k78_74_99 rfl (by decide +kernel) (Nat.le_of_ble_eq_true rfl) (Nat.le_of_ble_eq_true rfl) rfl rfl (by decide +kernel) (by decide +kernel) rfl (Nat.le_of_ble_eq_true rfl) rfl ?_
  refine zw_iload_n 1 f112_0 rfl rfl ?_
  refine zw_iload_n 2 f112_1 rfl rfl ?_
  refine zw_ic_lt_f 5 14 f112_2 (by decide +kernel) rfl h1 ?_
  refine zw_iload_n 6 f112_5 rfl rfl ?_
  refine zw_iload_n 7 f112_6 rfl rfl ?_
  refine zw_ic_gt_t 14 f112_7 (by decide +kernel) h2 ?_
  refine zw_iconst 0 15 f112_14 rfl (by decide +kernel) ?_
  refine zw_zreturn f112_15 r112 u112 (by decide +kernel) ⟨_, rfl, ?_⟩
  refine zw_if_eq_t 20 f78_6 (by decide +kernel) (by decide +kernel) ?_
  refine zw_aload_n 21 f78_20 rfl rfl ?_
  refine zw_iconst 1 22 f78_21 rfl (by decide +kernel) ?_
  refine zw_virtual_i 25 0 0 [.ref 0, .int 1] [(0, .ref 0), (1, .int 1)] f78_22 rfl n78_78 k78_78_11 rfl rfl (by decide +kernel) (Nat.le_of_ble_eq_true rfl) rfl rfl (by decide +kernel) (by decide +kernel) rfl (Nat.le_of_ble_eq_true rfl) rfl ?_
  refine zw_aload_n 1 f105_0 rfl rfl ?_
  refine zw_iload_n 2 f105_1 rfl rfl ?_
  refine zw_putfield 5 f105_2 rfl g105_70_11 rfl rfl (Nat.le_of_ble_eq_true rfl) (by decide +kernel) ?_
  refine zw_iconst (-1) 6 f105_5 rfl (by decide +kernel) ?_
  refine zw_ireturn f105_6 r105 u105 ⟨_, rfl, ?_⟩
  refine zw_ireturn f78_25 r78 u78 ?_
  exact ⟨rfl, by repeat (first | exact zMF_0 | refine zMF_set (by decide) ?_)⟩
set_option maxRecDepth 100000 in
set_option maxHeartbeats 0 in
theorem x_vessel_r3 (ro : UInt32 → Nat × (Nat → Int32)) (a b : Int32) (h1 : ¬ a < 0) (h2 : ¬ 4 < a) (h3 : b < 1) : zWp ro 78 0 [(0, .ref 0), (1, .int a), (2, .int b)] [] hF 0 0 (fun r h1 => r = some (.int (-1)) ∧ zMF h1) := by
  refine zw_iload_n 1 f78_0 rfl rfl ?_
  refine zw_iconst 0 2 f78_1 rfl (by decide +kernel) ?_
  refine zw_iconst 4 3 f78_2 rfl (by decide +kernel) ?_
  refine zw_static_i 6 0 0 [.int a, .int 0, .int 4] [] [(0, .int a), (1, .int 0), (2, .int 4)] f78_3 rfl k78_74_99 rfl (by decide +kernel) (Nat.le_of_ble_eq_true rfl) (Nat.le_of_ble_eq_true rfl) rfl rfl (by decide +kernel) (by decide +kernel) rfl (Nat.le_of_ble_eq_true rfl) rfl ?_
  refine zw_iload_n 1 f112_0 rfl rfl ?_
  refine zw_iload_n 2 f112_1 rfl rfl ?_
  refine zw_ic_lt_f 5 14 f112_2 (by decide +kernel) rfl h1 ?_
  refine zw_iload_n 6 f112_5 rfl rfl ?_
  refine zw_iload_n 7 f112_6 rfl rfl ?_
  refine zw_ic_gt_f 10 14 f112_7 (by decide +kernel) rfl h2 ?_
  refine zw_iconst 1 11 f112_10 rfl (by decide +kernel) ?_
  refine zw_goto 15 f112_11 (by decide +kernel) ?_
  refine zw_zreturn f112_15 r112 u112 (by decide +kernel) ⟨_, rfl, ?_⟩
  refine zw_if_eq_f 9 20 f78_6 (by decide +kernel) rfl (by decide +kernel) ?_
  refine zw_iload_n 10 f78_9 rfl rfl ?_
  refine zw_iconst 1 11 f78_10 rfl (by decide +kernel) ?_
  refine zw_sipush 200 14 f78_11 rfl (by decide +kernel) ?_
  refine zw_static_i 17 0 0 [.int b, .int 1, .int 200] [] [(0, .int b), (1, .int 1), (2, .int 200)] f78_14 rfl k78_74_99 rfl (by decide +kernel) (Nat.le_of_ble_eq_true rfl) (Nat.le_of_ble_eq_true rfl) rfl rfl (by decide +kernel) (by decide +kernel) rfl (Nat.le_of_ble_eq_true rfl) rfl ?_
  refine zw_iload_n 1 f112_0 rfl rfl ?_
  refine zw_iload_n 2 f112_1 rfl rfl ?_
  refine zw_ic_lt_t 14 f112_2 (by decide +kernel) h3 ?_
  refine zw_iconst 0 15 f112_14 rfl (by decide +kernel) ?_
  refine zw_zreturn f112_15 r112 u112 (by decide +kernel) ⟨_, rfl, ?_⟩
  refine zw_if_ne_f 20 26 f78_17 (by decide +kernel) rfl (by decide +kernel) ?_
  refine zw_aload_n 21 f78_20 rfl rfl ?_
  refine zw_iconst 1 22 f78_21 rfl (by decide +kernel) ?_
  refine zw_virtual_i 25 0 0 [.ref 0, .int 1] [(0, .ref 0), (1, .int 1)] f78_22 rfl n78_78 k78_78_11 rfl rfl (by decide +kernel) (Nat.le_of_ble_eq_true rfl) rfl rfl (by decide +kernel) (by decide +kernel) rfl (Nat.le_of_ble_eq_true rfl) rfl ?_
  refine zw_aload_n 1 f105_0 rfl rfl ?_
  refine zw_iload_n 2 f105_1 rfl rfl ?_
  refine zw_putfield 5 f105_2 rfl g105_70_11 rfl rfl (Nat.le_of_ble_eq_true rfl) (by decide +kernel) ?_
  refine zw_iconst (-1) 6 f105_5 rfl (by decide +kernel) ?_
  refine zw_ireturn f105_6 r105 u105 ⟨_, rfl, ?_⟩
  refine zw_ireturn f78_25 r78 u78 ?_
  exact ⟨rfl, by repeat (first | exact zMF_0 | refine zMF_set (by decide) ?_)⟩
set_option maxRecDepth 100000 in
set_option maxHeartbeats 0 in
theorem x_vessel_r4 (ro : UInt32 → Nat × (Nat → Int32)) (a b : Int32) (h1 : ¬ a < 0) (h2 : ¬ 4 < a) (h3 : ¬ b < 1) (h4 : 200 < b) : zWp ro 78 0 [(0, .ref 0), (1, .int a), (2, .int b)] [] hF 0 0 (fun r h1 => r = some (.int (-1)) ∧ zMF h1) := by
  refine zw_iload_n 1 f78_0 rfl rfl ?_
  refine zw_iconst 0 2 f78_1 rfl (by decide +kernel) ?_
  refine zw_iconst 4 3 f78_2 rfl (by decide +kernel) ?_
  refine zw_static_i 6 0 0 [.int a, .int 0, .int 4] [] [(0, .int a), (1, .int 0), (2, .int 4)] f78_3 rfl k78_74_99 rfl (by decide +kernel) (Nat.le_of_ble_eq_true rfl) (Nat.le_of_ble_eq_true rfl) rfl rfl (by decide +kernel) (by decide +kernel) rfl (Nat.le_of_ble_eq_true rfl) rfl ?_
  refine zw_iload_n 1 f112_0 rfl rfl ?_
  refine zw_iload_n 2 f112_1 rfl rfl ?_
  refine zw_ic_lt_f 5 14 f112_2 (by decide +kernel) rfl h1 ?_
  refine zw_iload_n 6 f112_5 rfl rfl ?_
  refine zw_iload_n 7 f112_6 rfl rfl ?_
  refine zw_ic_gt_f 10 14 f112_7 (by decide +kernel) rfl h2 ?_
  refine zw_iconst 1 11 f112_10 rfl (by decide +kernel) ?_
  refine zw_goto 15 f112_11 (by decide +kernel) ?_
  refine zw_zreturn f112_15 r112 u112 (by decide +kernel) ⟨_, rfl, ?_⟩
  refine zw_if_eq_f 9 20 f78_6 (by decide +kernel) rfl (by decide +kernel) ?_
  refine zw_iload_n 10 f78_9 rfl rfl ?_
  refine zw_iconst 1 11 f78_10 rfl (by decide +kernel) ?_
  refine zw_sipush 200 14 f78_11 rfl (by decide +kernel) ?_
  refine zw_static_i 17 0 0 [.int b, .int 1, .int 200] [] [(0, .int b), (1, .int 1), (2, .int 200)] f78_14 rfl k78_74_99 rfl (by decide +kernel) (Nat.le_of_ble_eq_true rfl) (Nat.le_of_ble_eq_true rfl) rfl rfl (by decide +kernel) (by decide +kernel) rfl (Nat.le_of_ble_eq_true rfl) rfl ?_
  refine zw_iload_n 1 f112_0 rfl rfl ?_
  refine zw_iload_n 2 f112_1 rfl rfl ?_
  refine zw_ic_lt_f 5 14 f112_2 (by decide +kernel) rfl h3 ?_
  refine zw_iload_n 6 f112_5 rfl rfl ?_
  refine zw_iload_n 7 f112_6 rfl rfl ?_
  refine zw_ic_gt_t 14 f112_7 (by decide +kernel) h4 ?_
  refine zw_iconst 0 15 f112_14 rfl (by decide +kernel) ?_
  refine zw_zreturn f112_15 r112 u112 (by decide +kernel) ⟨_, rfl, ?_⟩
  refine zw_if_ne_f 20 26 f78_17 (by decide +kernel) rfl (by decide +kernel) ?_
  refine zw_aload_n 21 f78_20 rfl rfl ?_
  refine zw_iconst 1 22 f78_21 rfl (by decide +kernel) ?_
  refine zw_virtual_i 25 0 0 [.ref 0, .int 1] [(0, .ref 0), (1, .int 1)] f78_22 rfl n78_78 k78_78_11 rfl rfl (by decide +kernel) (Nat.le_of_ble_eq_true rfl) rfl rfl (by decide +kernel) (by decide +kernel) rfl (Nat.le_of_ble_eq_true rfl) rfl ?_
  refine zw_aload_n 1 f105_0 rfl rfl ?_
  refine zw_iload_n 2 f105_1 rfl rfl ?_
  refine zw_putfield 5 f105_2 rfl g105_70_11 rfl rfl (Nat.le_of_ble_eq_true rfl) (by decide +kernel) ?_
  refine zw_iconst (-1) 6 f105_5 rfl (by decide +kernel) ?_
  refine zw_ireturn f105_6 r105 u105 ⟨_, rfl, ?_⟩
  refine zw_ireturn f78_25 r78 u78 ?_
  exact ⟨rfl, by repeat (first | exact zMF_0 | refine zMF_set (by decide) ?_)⟩
set_option maxRecDepth 100000 in
set_option maxHeartbeats 0 in
theorem x_vessel_k0 (ro : UInt32 → Nat × (Nat → Int32)) (b : Int32) (h3 : ¬ b < 1) (h4 : ¬ 200 < b) : zWp ro 78 0 [(0, .ref 0), (1, .int 0), (2, .int b)] [] hF 0 0 (fun r h1 => r = some (.int 0) ∧ zMF h1) := by
  refine zw_iload_n 1 f78_0 rfl rfl ?_
  refine zw_iconst 0 2 f78_1 rfl (by decide +kernel) ?_
  refine zw_iconst 4 3 f78_2 rfl (by decide +kernel) ?_
  refine zw_static_i 6 0 0 [.int 0, .int 0, .int 4] [] [(0, .int 0), (1, .int 0), (2, .int 4)] f78_3 rfl k78_74_99 rfl (by decide +kernel) (Nat.le_of_ble_eq_true rfl) (Nat.le_of_ble_eq_true rfl) rfl rfl (by decide +kernel) (by decide +kernel) rfl (Nat.le_of_ble_eq_true rfl) rfl ?_
  refine zw_iload_n 1 f112_0 rfl rfl ?_
  refine zw_iload_n 2 f112_1 rfl rfl ?_
  refine zw_ic_lt_f 5 14 f112_2 (by decide +kernel) rfl (by decide +kernel) ?_
  refine zw_iload_n 6 f112_5 rfl rfl ?_
  refine zw_iload_n 7 f112_6 rfl rfl ?_
  refine zw_ic_gt_f 10 14 f112_7 (by decide +kernel) rfl (by decide +kernel) ?_
  refine zw_iconst 1 11 f112_10 rfl (by decide +kernel) ?_
  refine zw_goto 15 f112_11 (by decide +kernel) ?_
  refine zw_zreturn f112_15 r112 u112 (by decide +kernel) ⟨_, rfl, ?_⟩
  refine zw_if_eq_f 9 20 f78_6 (by decide +kernel) rfl (by decide +kernel) ?_
  refine zw_iload_n 10 f78_9 rfl rfl ?_
  refine zw_iconst 1 11 f78_10 rfl (by decide +kernel) ?_
  refine zw_sipush 200 14 f78_11 rfl (by decide +kernel) ?_
  refine zw_static_i 17 0 0 [.int b, .int 1, .int 200] [] [(0, .int b), (1, .int 1), (2, .int 200)] f78_14 rfl k78_74_99 rfl (by decide +kernel) (Nat.le_of_ble_eq_true rfl) (Nat.le_of_ble_eq_true rfl) rfl rfl (by decide +kernel) (by decide +kernel) rfl (Nat.le_of_ble_eq_true rfl) rfl ?_
  refine zw_iload_n 1 f112_0 rfl rfl ?_
  refine zw_iload_n 2 f112_1 rfl rfl ?_
  refine zw_ic_lt_f 5 14 f112_2 (by decide +kernel) rfl h3 ?_
  refine zw_iload_n 6 f112_5 rfl rfl ?_
  refine zw_iload_n 7 f112_6 rfl rfl ?_
  refine zw_ic_gt_f 10 14 f112_7 (by decide +kernel) rfl h4 ?_
  refine zw_iconst 1 11 f112_10 rfl (by decide +kernel) ?_
  refine zw_goto 15 f112_11 (by decide +kernel) ?_
  refine zw_zreturn f112_15 r112 u112 (by decide +kernel) ⟨_, rfl, ?_⟩
  refine zw_if_ne_t 26 f78_17 (by decide +kernel) (by decide +kernel) ?_
  refine zw_aload_n 27 f78_26 rfl rfl ?_
  refine zw_getfield 30 f78_27 rfl g78_10_11 rfl rfl ?_
  refine zw_iload_n 31 f78_30 rfl rfl ?_
  refine zw_iload_n 32 f78_31 rfl rfl ?_
  refine zw_virtual_i 35 0 0 [.ref 1, .int 0, .int b] [(0, .ref 1), (1, .int 0), (2, .int b)] f78_32 rfl n78_82 k78_82_4 rfl rfl (by decide +kernel) (Nat.le_of_ble_eq_true rfl) rfl rfl (by decide +kernel) (by decide +kernel) rfl (Nat.le_of_ble_eq_true rfl) rfl ?_
  refine zw_aload_n 1 f20_0 rfl rfl ?_
  refine zw_getfield 4 f20_1 rfl g20_39_4 rfl rfl ?_
  refine zw_istore_n [(3, .int 0), (0, .ref 1), (1, .int 0), (2, .int b)] 5 f20_4 rfl (by decide +kernel) rfl ?_
  refine zw_iload_n 6 f20_5 rfl rfl ?_
  refine zw_bipush 8 8 f20_6 rfl (by decide +kernel) ?_
  refine zw_ic_lt_t 13 f20_8 (by decide +kernel) (by decide +kernel) ?_
  refine zw_aload_n 14 f20_13 rfl rfl ?_
  refine zw_getfield 17 f20_14 rfl g20_9_4 rfl rfl ?_
  refine zw_iload_n 18 f20_17 rfl rfl ?_
  refine zw_iload_n 19 f20_18 rfl rfl ?_
  refine zw_iastoreS 0 20 f20_19 rfl rfl (by decide +kernel) (by decide +kernel) (by decide +kernel) rfl ?_
  refine zw_aload_n 21 f20_20 rfl rfl ?_
  refine zw_getfield 24 f20_21 rfl g20_15_4 rfl rfl ?_
  refine zw_iload_n 25 f20_24 rfl rfl ?_
  refine zw_iload_n 26 f20_25 rfl rfl ?_
  refine zw_iastore 0 27 f20_26 rfl rfl (by decide +kernel) (by decide +kernel) (by decide +kernel) ?_
  refine zw_aload_n 28 f20_27 rfl rfl ?_
  refine zw_getfield 31 f20_28 rfl g20_18_4 rfl rfl ?_
  refine zw_iload_n 32 f20_31 rfl rfl ?_
  refine zw_iload_n 33 f20_32 rfl rfl ?_
  refine zw_if_eq_t 41 f20_33 (by decide +kernel) (by decide +kernel) ?_
  refine zw_iconst 0 42 f20_41 rfl (by decide +kernel) ?_
  refine zw_goto 46 f20_42 (by decide +kernel) ?_
  refine zw_iastoreS 0 47 f20_46 rfl rfl (by decide +kernel) (by decide +kernel) (by decide +kernel) rfl ?_
  refine zw_aload_n 48 f20_47 rfl rfl ?_
  refine zw_getfield 51 f20_48 rfl g20_21_4 rfl rfl ?_
  refine zw_iload_n 52 f20_51 rfl rfl ?_
  refine zw_iconst 0 53 f20_52 rfl (by decide +kernel) ?_
  refine zw_iastoreS 0 54 f20_53 rfl rfl (by decide +kernel) (by decide +kernel) (by decide +kernel) rfl ?_
  refine zw_aload_n 55 f20_54 rfl rfl ?_
  refine zw_getfield 58 f20_55 rfl g20_24_4 rfl rfl ?_
  refine zw_iload_n 59 f20_58 rfl rfl ?_
  refine zw_iconst (-1) 60 f20_59 rfl (by decide +kernel) ?_
  refine zw_iastore 0 61 f20_60 rfl rfl (by decide +kernel) (by decide +kernel) (by decide +kernel) ?_
  refine zw_aload_n 62 f20_61 rfl rfl ?_
  refine zw_getfield 65 f20_62 rfl g20_27_4 rfl rfl ?_
  refine zw_iload_n 66 f20_65 rfl rfl ?_
  refine zw_iconst (-1) 67 f20_66 rfl (by decide +kernel) ?_
  refine zw_iastore 0 68 f20_67 rfl rfl (by decide +kernel) (by decide +kernel) (by decide +kernel) ?_
  refine zw_aload_n 69 f20_68 rfl rfl ?_
  refine zw_getfield 72 f20_69 rfl g20_30_4 rfl rfl ?_
  refine zw_iload_n 73 f20_72 rfl rfl ?_
  refine zw_iconst (-1) 74 f20_73 rfl (by decide +kernel) ?_
  refine zw_iastore 0 75 f20_74 rfl rfl (by decide +kernel) (by decide +kernel) (by decide +kernel) ?_
  refine zw_aload_n 76 f20_75 rfl rfl ?_
  refine zw_iload_n 77 f20_76 rfl rfl ?_
  refine zw_iconst 1 78 f20_77 rfl (by decide +kernel) ?_
  refine zw_iadd 1 79 f20_78 rfl (by decide +kernel) ?_
  refine zw_putfield 82 f20_79 rfl g20_39_4 rfl rfl (Nat.le_of_ble_eq_true rfl) (by decide +kernel) ?_
  refine zw_iload_n 83 f20_82 rfl rfl ?_
  refine zw_ireturn f20_83 r20 u20 ⟨_, rfl, ?_⟩
  refine zw_istore_n [(3, .int 0), (0, .ref 0), (1, .int 0), (2, .int b)] 36 f78_35 rfl (by decide +kernel) rfl ?_
  refine zw_iload_n 37 f78_36 rfl rfl ?_
  refine zw_iconst (-1) 38 f78_37 rfl (by decide +kernel) ?_
  refine zw_ic_ne_t 49 f78_38 (by decide +kernel) (by decide +kernel) ?_
  refine zw_aload_n 50 f78_49 rfl rfl ?_
  refine zw_iload_n 51 f78_50 rfl rfl ?_
  refine zw_virtual_i 54 0 0 [.ref 0, .int 0] [(0, .ref 0), (1, .int 0)] f78_51 rfl n78_86 k78_86_11 rfl rfl (by decide +kernel) (Nat.le_of_ble_eq_true rfl) rfl rfl (by decide +kernel) (by decide +kernel) rfl (Nat.le_of_ble_eq_true rfl) rfl ?_
  refine zw_aload_n 1 f107_0 rfl rfl ?_
  refine zw_getfield 4 f107_1 rfl g107_21_11 rfl rfl ?_
  refine zw_virtual_v 7 0 0 [.ref 11] [(0, .ref 11)] f107_4 rfl n107_318 k107_318_10 rfl rfl (by decide +kernel) (Nat.le_of_ble_eq_true rfl) rfl rfl (by decide +kernel) (by decide +kernel) rfl (Nat.le_of_ble_eq_true rfl) rfl ?_
  refine zw_aload_n 1 f70_0 rfl rfl ?_
  refine zw_iconst 0 2 f70_1 rfl (by decide +kernel) ?_
  refine zw_putfieldS 5 f70_2 rfl g70_161_10 rfl rfl rfl (by decide +kernel) ?_
  refine zw_iconst 0 6 f70_5 rfl (by decide +kernel) ?_
  refine zw_istore_n [(1, .int 0), (0, .ref 11)] 7 f70_6 rfl (by decide +kernel) rfl ?_
  refine zw_iload_n 8 f70_7 rfl rfl ?_
  refine zw_aload_n 9 f70_8 rfl rfl ?_
  refine zw_getfield 12 f70_9 rfl g70_37_10 rfl rfl ?_
  refine zw_getfield 15 f70_12 rfl g70_80_4 rfl rfl ?_
  refine zw_ic_ge_f 18 49 f70_15 (by decide +kernel) rfl (by decide +kernel) ?_
  refine zw_aload_n 19 f70_18 rfl rfl ?_
  refine zw_getfield 22 f70_19 rfl g70_37_10 rfl rfl ?_
  refine zw_iload_n 23 f70_22 rfl rfl ?_
  refine zw_virtual_i 26 0 0 [.ref 1, .int 0] [(0, .ref 1), (1, .int 0)] f70_23 rfl n70_132 k70_132_4 rfl rfl (by decide +kernel) (Nat.le_of_ble_eq_true rfl) rfl rfl (by decide +kernel) (by decide +kernel) rfl (Nat.le_of_ble_eq_true rfl) rfl ?_
  refine zw_iload_n 1 f15_0 rfl rfl ?_
  refine zw_if_lt_f 4 27 f15_1 (by decide +kernel) rfl (by decide +kernel) ?_
  refine zw_iload_n 5 f15_4 rfl rfl ?_
  refine zw_aload_n 6 f15_5 rfl rfl ?_
  refine zw_getfield 9 f15_6 rfl g15_39_4 rfl rfl ?_
  refine zw_ic_ge_f 12 27 f15_9 (by decide +kernel) rfl (by decide +kernel) ?_
  refine zw_iload_n 13 f15_12 rfl rfl ?_
  refine zw_bipush 8 15 f15_13 rfl (by decide +kernel) ?_
  refine zw_ic_ge_f 18 27 f15_15 (by decide +kernel) rfl (by decide +kernel) ?_
  refine zw_aload_n 19 f15_18 rfl rfl ?_
  refine zw_getfield 22 f15_19 rfl g15_9_4 rfl rfl ?_
  refine zw_iload_n 23 f15_22 rfl rfl ?_
  refine zw_iaload 0 0 24 f15_23 rfl rfl (by decide +kernel) (by decide +kernel) (by decide +kernel) rfl ?_
  refine zw_goto 28 f15_24 (by decide +kernel) ?_
  refine zw_ireturn f15_28 r15 u15 ⟨_, rfl, ?_⟩
  refine zw_iconst 2 27 f70_26 rfl (by decide +kernel) ?_
  refine zw_ic_ne_t 43 f70_27 (by decide +kernel) (by decide +kernel) ?_
  refine zw_iinc 1 [(1, .int 1), (0, .ref 11)] 46 f70_43 rfl rfl (by decide +kernel) (by decide +kernel) rfl ?_
  refine zw_goto 7 f70_46 (by decide +kernel) ?_
  refine zw_iload_n 8 f70_7 rfl rfl ?_
  refine zw_aload_n 9 f70_8 rfl rfl ?_
  refine zw_getfield 12 f70_9 rfl g70_37_10 rfl rfl ?_
  refine zw_getfield 15 f70_12 rfl g70_80_4 rfl rfl ?_
  refine zw_ic_ge_t 49 f70_15 (by decide +kernel) (by decide +kernel) ?_
  refine zw_iconst 0 50 f70_49 rfl (by decide +kernel) ?_
  refine zw_istore_n [(1, .int 0), (0, .ref 11)] 51 f70_50 rfl (by decide +kernel) rfl ?_
  refine zw_iload_n 52 f70_51 rfl rfl ?_
  refine zw_aload_n 53 f70_52 rfl rfl ?_
  refine zw_getfield 56 f70_53 rfl g70_37_10 rfl rfl ?_
  refine zw_getfield 59 f70_56 rfl g70_80_4 rfl rfl ?_
  refine zw_ic_ge_f 62 85 f70_59 (by decide +kernel) rfl (by decide +kernel) ?_
  refine zw_aload_n 63 f70_62 rfl rfl ?_
  refine zw_getfield 66 f70_63 rfl g70_37_10 rfl rfl ?_
  refine zw_iload_n 67 f70_66 rfl rfl ?_
  refine zw_virtual_i 70 0 0 [.ref 1, .int 0] [(0, .ref 1), (1, .int 0)] f70_67 rfl n70_132 k70_132_4 rfl rfl (by decide +kernel) (Nat.le_of_ble_eq_true rfl) rfl rfl (by decide +kernel) (by decide +kernel) rfl (Nat.le_of_ble_eq_true rfl) rfl ?_
  refine zw_iload_n 1 f15_0 rfl rfl ?_
  refine zw_if_lt_f 4 27 f15_1 (by decide +kernel) rfl (by decide +kernel) ?_
  refine zw_iload_n 5 f15_4 rfl rfl ?_
  refine zw_aload_n 6 f15_5 rfl rfl ?_
  refine zw_getfield 9 f15_6 rfl g15_39_4 rfl rfl ?_
  refine zw_ic_ge_f 12 27 f15_9 (by decide +kernel) rfl (by decide +kernel) ?_
  refine zw_iload_n 13 f15_12 rfl rfl ?_
  refine zw_bipush 8 15 f15_13 rfl (by decide +kernel) ?_
  refine zw_ic_ge_f 18 27 f15_15 (by decide +kernel) rfl (by decide +kernel) ?_
  refine zw_aload_n 19 f15_18 rfl rfl ?_
  refine zw_getfield 22 f15_19 rfl g15_9_4 rfl rfl ?_
  refine zw_iload_n 23 f15_22 rfl rfl ?_
  refine zw_iaload 0 0 24 f15_23 rfl rfl (by decide +kernel) (by decide +kernel) (by decide +kernel) rfl ?_
  refine zw_goto 28 f15_24 (by decide +kernel) ?_
  refine zw_ireturn f15_28 r15 u15 ⟨_, rfl, ?_⟩
  refine zw_iconst 1 71 f70_70 rfl (by decide +kernel) ?_
  refine zw_ic_ne_t 79 f70_71 (by decide +kernel) (by decide +kernel) ?_
  refine zw_iinc 1 [(1, .int 1), (0, .ref 11)] 82 f70_79 rfl rfl (by decide +kernel) (by decide +kernel) rfl ?_
  refine zw_goto 51 f70_82 (by decide +kernel) ?_
  refine zw_iload_n 52 f70_51 rfl rfl ?_
  refine zw_aload_n 53 f70_52 rfl rfl ?_
  refine zw_getfield 56 f70_53 rfl g70_37_10 rfl rfl ?_
  refine zw_getfield 59 f70_56 rfl g70_80_4 rfl rfl ?_
  refine zw_ic_ge_t 85 f70_59 (by decide +kernel) (by decide +kernel) ?_
  refine zw_iconst 0 86 f70_85 rfl (by decide +kernel) ?_
  refine zw_istore_n [(1, .int 0), (0, .ref 11)] 87 f70_86 rfl (by decide +kernel) rfl ?_
  refine zw_iload_n 88 f70_87 rfl rfl ?_
  refine zw_aload_n 89 f70_88 rfl rfl ?_
  refine zw_getfield 92 f70_89 rfl g70_37_10 rfl rfl ?_
  refine zw_getfield 95 f70_92 rfl g70_80_4 rfl rfl ?_
  refine zw_ic_ge_f 98 109 f70_95 (by decide +kernel) rfl (by decide +kernel) ?_
  refine zw_aload_n 99 f70_98 rfl rfl ?_
  refine zw_iload_n 100 f70_99 rfl rfl ?_
  refine zw_virtual_v 103 0 0 [.ref 11, .int 0] [(0, .ref 11), (1, .int 0)] f70_100 rfl n70_193 k70_193_10 rfl rfl (by decide +kernel) (Nat.le_of_ble_eq_true rfl) rfl rfl (by decide +kernel) (by decide +kernel) rfl (Nat.le_of_ble_eq_true rfl) rfl ?_
  refine zw_aload_n 1 f74_0 rfl rfl ?_
  refine zw_iload_n 2 f74_1 rfl rfl ?_
  refine zw_iconst 1 3 f74_2 rfl (by decide +kernel) ?_
  refine zw_virtual_i 6 0 0 [.ref 11, .int 0, .int 1] [(0, .ref 11), (1, .int 0), (2, .int 1)] f74_3 rfl n74_135 k74_135_10 rfl rfl (by decide +kernel) (Nat.le_of_ble_eq_true rfl) rfl rfl (by decide +kernel) (by decide +kernel) rfl (Nat.le_of_ble_eq_true rfl) rfl ?_
  refine zw_aload_n 1 f56_0 rfl rfl ?_
  refine zw_getfield 4 f56_1 rfl g56_37_10 rfl rfl ?_
  refine zw_iload_n 5 f56_4 rfl rfl ?_
  refine zw_virtual_i 8 0 0 [.ref 1, .int 0] [(0, .ref 1), (1, .int 0)] f56_5 rfl n56_145 k56_145_4 rfl rfl (by decide +kernel) (Nat.le_of_ble_eq_true rfl) rfl rfl (by decide +kernel) (by decide +kernel) rfl (Nat.le_of_ble_eq_true rfl) rfl ?_
  refine zw_iload_n 1 f17_0 rfl rfl ?_
  refine zw_if_lt_f 4 22 f17_1 (by decide +kernel) rfl (by decide +kernel) ?_
  refine zw_iload_n 5 f17_4 rfl rfl ?_
  refine zw_aload_n 6 f17_5 rfl rfl ?_
  refine zw_getfield 9 f17_6 rfl g17_39_4 rfl rfl ?_
  refine zw_ic_ge_f 12 22 f17_9 (by decide +kernel) rfl (by decide +kernel) ?_
  refine zw_iload_n 13 f17_12 rfl rfl ?_
  refine zw_bipush 8 15 f17_13 rfl (by decide +kernel) ?_
  refine zw_ic_ge_f 18 22 f17_15 (by decide +kernel) rfl (by decide +kernel) ?_
  refine zw_iconst 1 19 f17_18 rfl (by decide +kernel) ?_
  refine zw_goto 23 f17_19 (by decide +kernel) ?_
  refine zw_istore_n [(2, .int 1), (0, .ref 1), (1, .int 0)] 24 f17_23 rfl (by decide +kernel) rfl ?_
  refine zw_iload_n 25 f17_24 rfl rfl ?_
  refine zw_if_eq_f 28 52 f17_25 (by decide +kernel) rfl (by decide +kernel) ?_
  refine zw_aload_n 29 f17_28 rfl rfl ?_
  refine zw_getfield 32 f17_29 rfl g17_9_4 rfl rfl ?_
  refine zw_iload_n 33 f17_32 rfl rfl ?_
  refine zw_iaload 0 0 34 f17_33 rfl rfl (by decide +kernel) (by decide +kernel) (by decide +kernel) rfl ?_
  refine zw_iconst 3 35 f17_34 rfl (by decide +kernel) ?_
  refine zw_ic_eq_f 38 48 f17_35 (by decide +kernel) rfl (by decide +kernel) ?_
  refine zw_aload_n 39 f17_38 rfl rfl ?_
  refine zw_getfield 42 f17_39 rfl g17_9_4 rfl rfl ?_
  refine zw_iload_n 43 f17_42 rfl rfl ?_
  refine zw_iaload 0 0 44 f17_43 rfl rfl (by decide +kernel) (by decide +kernel) (by decide +kernel) rfl ?_
  refine zw_iconst 4 45 f17_44 rfl (by decide +kernel) ?_
  refine zw_ic_ne_t 52 f17_45 (by decide +kernel) (by decide +kernel) ?_
  refine zw_iconst 0 53 f17_52 rfl (by decide +kernel) ?_
  refine zw_zreturn f17_53 r17 u17 (by decide +kernel) ⟨_, rfl, ?_⟩
  refine zw_if_eq_t 23 f56_8 (by decide +kernel) (by decide +kernel) ?_
  refine zw_iconst (-1) 24 f56_23 rfl (by decide +kernel) ?_
  refine zw_istore_n [(3, .int (-1)), (0, .ref 11), (1, .int 0), (2, .int 1)] 25 f56_24 rfl (by decide +kernel) rfl ?_
  refine zw_iload_n 26 f56_25 rfl rfl ?_
  refine zw_iconst (-1) 27 f56_26 rfl (by decide +kernel) ?_
  refine zw_ic_eq_t 46 f56_27 (by decide +kernel) (by decide +kernel) ?_
  refine zw_iconst 0 47 f56_46 rfl (by decide +kernel) ?_
  refine zw_zreturn f56_47 r56 u56 (by decide +kernel) ⟨_, rfl, ?_⟩
  refine zw_if_eq_t 79 f74_6 (by decide +kernel) (by decide +kernel) ?_
  refine zw_aload_n 80 f74_79 rfl rfl ?_
  refine zw_iload_n 81 f74_80 rfl rfl ?_
  refine zw_iconst 0 82 f74_81 rfl (by decide +kernel) ?_
  refine zw_virtual_i 85 0 0 [.ref 11, .int 0, .int 0] [(0, .ref 11), (1, .int 0), (2, .int 0)] f74_82 rfl n74_135 k74_135_10 rfl rfl (by decide +kernel) (Nat.le_of_ble_eq_true rfl) rfl rfl (by decide +kernel) (by decide +kernel) rfl (Nat.le_of_ble_eq_true rfl) rfl ?_
  refine zw_aload_n 1 f56_0 rfl rfl ?_
  refine zw_getfield 4 f56_1 rfl g56_37_10 rfl rfl ?_
  refine zw_iload_n 5 f56_4 rfl rfl ?_
  refine zw_virtual_i 8 0 0 [.ref 1, .int 0] [(0, .ref 1), (1, .int 0)] f56_5 rfl n56_145 k56_145_4 rfl rfl (by decide +kernel) (Nat.le_of_ble_eq_true rfl) rfl rfl (by decide +kernel) (by decide +kernel) rfl (Nat.le_of_ble_eq_true rfl) rfl ?_
  refine zw_iload_n 1 f17_0 rfl rfl ?_
  refine zw_if_lt_f 4 22 f17_1 (by decide +kernel) rfl (by decide +kernel) ?_
  refine zw_iload_n 5 f17_4 rfl rfl ?_
  refine zw_aload_n 6 f17_5 rfl rfl ?_
  refine zw_getfield 9 f17_6 rfl g17_39_4 rfl rfl ?_
  refine zw_ic_ge_f 12 22 f17_9 (by decide +kernel) rfl (by decide +kernel) ?_
  refine zw_iload_n 13 f17_12 rfl rfl ?_
  refine zw_bipush 8 15 f17_13 rfl (by decide +kernel) ?_
  refine zw_ic_ge_f 18 22 f17_15 (by decide +kernel) rfl (by decide +kernel) ?_
  refine zw_iconst 1 19 f17_18 rfl (by decide +kernel) ?_
  refine zw_goto 23 f17_19 (by decide +kernel) ?_
  refine zw_istore_n [(2, .int 1), (0, .ref 1), (1, .int 0)] 24 f17_23 rfl (by decide +kernel) rfl ?_
  refine zw_iload_n 25 f17_24 rfl rfl ?_
  refine zw_if_eq_f 28 52 f17_25 (by decide +kernel) rfl (by decide +kernel) ?_
  refine zw_aload_n 29 f17_28 rfl rfl ?_
  refine zw_getfield 32 f17_29 rfl g17_9_4 rfl rfl ?_
  refine zw_iload_n 33 f17_32 rfl rfl ?_
  refine zw_iaload 0 0 34 f17_33 rfl rfl (by decide +kernel) (by decide +kernel) (by decide +kernel) rfl ?_
  refine zw_iconst 3 35 f17_34 rfl (by decide +kernel) ?_
  refine zw_ic_eq_f 38 48 f17_35 (by decide +kernel) rfl (by decide +kernel) ?_
  refine zw_aload_n 39 f17_38 rfl rfl ?_
  refine zw_getfield 42 f17_39 rfl g17_9_4 rfl rfl ?_
  refine zw_iload_n 43 f17_42 rfl rfl ?_
  refine zw_iaload 0 0 44 f17_43 rfl rfl (by decide +kernel) (by decide +kernel) (by decide +kernel) rfl ?_
  refine zw_iconst 4 45 f17_44 rfl (by decide +kernel) ?_
  refine zw_ic_ne_t 52 f17_45 (by decide +kernel) (by decide +kernel) ?_
  refine zw_iconst 0 53 f17_52 rfl (by decide +kernel) ?_
  refine zw_zreturn f17_53 r17 u17 (by decide +kernel) ⟨_, rfl, ?_⟩
  refine zw_if_eq_t 23 f56_8 (by decide +kernel) (by decide +kernel) ?_
  refine zw_iconst (-1) 24 f56_23 rfl (by decide +kernel) ?_
  refine zw_istore_n [(3, .int (-1)), (0, .ref 11), (1, .int 0), (2, .int 0)] 25 f56_24 rfl (by decide +kernel) rfl ?_
  refine zw_iload_n 26 f56_25 rfl rfl ?_
  refine zw_iconst (-1) 27 f56_26 rfl (by decide +kernel) ?_
  refine zw_ic_eq_t 46 f56_27 (by decide +kernel) (by decide +kernel) ?_
  refine zw_iconst 0 47 f56_46 rfl (by decide +kernel) ?_
  refine zw_zreturn f56_47 r56 u56 (by decide +kernel) ⟨_, rfl, ?_⟩
  refine zw_if_eq_t 142 f74_85 (by decide +kernel) (by decide +kernel) ?_
  refine zw_vreturn f74_142 r74 u74 ⟨rfl, ?_⟩
  refine zw_iinc 1 [(1, .int 1), (0, .ref 11)] 106 f70_103 rfl rfl (by decide +kernel) (by decide +kernel) rfl ?_
  refine zw_goto 87 f70_106 (by decide +kernel) ?_
  refine zw_iload_n 88 f70_87 rfl rfl ?_
  refine zw_aload_n 89 f70_88 rfl rfl ?_
  refine zw_getfield 92 f70_89 rfl g70_37_10 rfl rfl ?_
  refine zw_getfield 95 f70_92 rfl g70_80_4 rfl rfl ?_
  refine zw_ic_ge_t 109 f70_95 (by decide +kernel) (by decide +kernel) ?_
  refine zw_aload_n 110 f70_109 rfl rfl ?_
  refine zw_lconst 1 111 f70_110 rfl (by decide +kernel) ?_
  refine zw_lconst 0 112 f70_111 rfl (by decide +kernel) ?_
  refine zw_virtual_i 115 0 0 [.ref 11, .long 1, .long 0] [(0, .ref 11), (1, .long 1), (3, .long 0)] f70_112 rfl n70_164 k70_164_10 rfl rfl (by decide +kernel) (Nat.le_of_ble_eq_true rfl) rfl rfl (by decide +kernel) (by decide +kernel) rfl (Nat.le_of_ble_eq_true rfl) rfl ?_
  refine zw_aload_n 1 f68_0 rfl rfl ?_
  refine zw_getfield 4 f68_1 rfl g68_12_10 rfl rfl ?_
  refine zw_getfield 7 f68_4 rfl g68_109_9 rfl rfl ?_
  refine zw_lload_n 8 f68_7 rfl rfl ?_
  refine zw_lmul 1 9 f68_8 rfl (by decide +kernel) ?_
  refine zw_lstore [(5, .long 1), (0, .ref 11), (1, .long 1), (3, .long 0)] 11 f68_9 rfl (by decide +kernel) rfl ?_
  refine zw_aload_n 12 f68_11 rfl rfl ?_
  refine zw_lload_n 13 f68_12 rfl rfl ?_
  refine zw_lload_n 14 f68_13 rfl rfl ?_
  refine zw_lload 16 f68_14 rfl rfl ?_
  refine zw_virtual_l 19 0 0 [.ref 11, .long 1, .long 0, .long 1] [(0, .ref 11), (1, .long 1), (3, .long 0), (5, .long 1)] f68_16 rfl n68_171 k68_171_10 rfl rfl (by decide +kernel) (Nat.le_of_ble_eq_true rfl) rfl rfl (by decide +kernel) (by decide +kernel) rfl (Nat.le_of_ble_eq_true rfl) rfl ?_
  refine zw_aload_n 1 f69_0 rfl rfl ?_
  refine zw_getfield 4 f69_1 rfl g69_12_10 rfl rfl ?_
  refine zw_getfield 7 f69_4 rfl g69_151_9 rfl rfl ?_
  refine zw_lload_n 8 f69_7 rfl rfl ?_
  refine zw_lmul 0 9 f69_8 rfl (by decide +kernel) ?_
  refine zw_lload_n 10 f69_9 rfl rfl ?_
  refine zw_ladd 0 11 f69_10 rfl (by decide +kernel) ?_
  refine zw_lload 13 f69_11 rfl rfl ?_
  refine zw_static_l 16 0 0 [.long 0, .long 1] [] [(0, .long 0), (2, .long 1)] f69_13 rfl k69_183_99 rfl (by decide +kernel) (Nat.le_of_ble_eq_true rfl) (Nat.le_of_ble_eq_true rfl) rfl rfl (by decide +kernel) (by decide +kernel) rfl (Nat.le_of_ble_eq_true rfl) rfl ?_
  refine zw_lload_n 1 f115_0 rfl rfl ?_
  refine zw_lstore [(4, .long 0), (0, .long 0), (2, .long 1)] 3 f115_1 rfl (by decide +kernel) rfl ?_
  refine zw_lload_n 4 f115_3 rfl rfl ?_
  refine zw_lstore [(6, .long 1), (4, .long 0), (0, .long 0), (2, .long 1)] 6 f115_4 rfl (by decide +kernel) rfl ?_
  refine zw_iconst 0 7 f115_6 rfl (by decide +kernel) ?_
  refine zw_istore [(8, .int 0), (6, .long 1), (4, .long 0), (0, .long 0), (2, .long 1)] 9 f115_7 rfl (by decide +kernel) rfl ?_
  refine zw_iload 11 f115_9 rfl rfl ?_
  refine zw_sipush 200 14 f115_11 rfl (by decide +kernel) ?_
  refine zw_ic_ge_f 17 45 f115_14 (by decide +kernel) rfl (by decide +kernel) ?_
  refine zw_lload 19 f115_17 rfl rfl ?_
  refine zw_lconst 0 20 f115_19 rfl (by decide +kernel) ?_
  refine zw_lcmp 1 21 f115_20 rfl (by decide +kernel) ?_
  refine zw_if_eq_f 24 45 f115_21 (by decide +kernel) rfl (by decide +kernel) ?_
  refine zw_lload 26 f115_24 rfl rfl ?_
  refine zw_lload 28 f115_26 rfl rfl ?_
  refine zw_lrem 0 29 f115_28 rfl (by decide +kernel) (by decide +kernel) ?_
  refine zw_lstore [(9, .long 0), (8, .int 0), (6, .long 1), (4, .long 0), (0, .long 0), (2, .long 1)] 31 f115_29 rfl (by decide +kernel) rfl ?_
  refine zw_lload 33 f115_31 rfl rfl ?_
  refine zw_lstore [(4, .long 1), (9, .long 0), (8, .int 0), (6, .long 1), (0, .long 0), (2, .long 1)] 35 f115_33 rfl (by decide +kernel) rfl ?_
  refine zw_lload 37 f115_35 rfl rfl ?_
  refine zw_lstore [(6, .long 0), (4, .long 1), (9, .long 0), (8, .int 0), (0, .long 0), (2, .long 1)] 39 f115_37 rfl (by decide +kernel) rfl ?_
  refine zw_iinc 1 [(8, .int 1), (6, .long 0), (4, .long 1), (9, .long 0), (0, .long 0), (2, .long 1)] 42 f115_39 rfl rfl (by decide +kernel) (by decide +kernel) rfl ?_
  refine zw_goto 9 f115_42 (by decide +kernel) ?_
  refine zw_iload 11 f115_9 rfl rfl ?_
  refine zw_sipush 200 14 f115_11 rfl (by decide +kernel) ?_
  refine zw_ic_ge_f 17 45 f115_14 (by decide +kernel) rfl (by decide +kernel) ?_
  refine zw_lload 19 f115_17 rfl rfl ?_
  refine zw_lconst 0 20 f115_19 rfl (by decide +kernel) ?_
  refine zw_lcmp 0 21 f115_20 rfl (by decide +kernel) ?_
  refine zw_if_eq_t 45 f115_21 (by decide +kernel) (by decide +kernel) ?_
  refine zw_lload 47 f115_45 rfl rfl ?_
  refine zw_lconst 0 48 f115_47 rfl (by decide +kernel) ?_
  refine zw_lcmp 1 49 f115_48 rfl (by decide +kernel) ?_
  refine zw_if_ne_t 56 f115_49 (by decide +kernel) (by decide +kernel) ?_
  refine zw_lload 58 f115_56 rfl rfl ?_
  refine zw_lreturn f115_58 r115 u115 ⟨_, rfl, ?_⟩
  refine zw_lstore [(7, .long 1), (0, .ref 11), (1, .long 1), (3, .long 0), (5, .long 1)] 18 f69_16 rfl (by decide +kernel) rfl ?_
  refine zw_aload_n 19 f69_18 rfl rfl ?_
  refine zw_getfield 22 f69_19 rfl g69_12_10 rfl rfl ?_
  refine zw_getfield 25 f69_22 rfl g69_177_9 rfl rfl ?_
  refine zw_lload_n 26 f69_25 rfl rfl ?_
  refine zw_lmul 0 27 f69_26 rfl (by decide +kernel) ?_
  refine zw_aload_n 28 f69_27 rfl rfl ?_
  refine zw_getfield 31 f69_28 rfl g69_54_10 rfl rfl ?_
  refine zw_i2l 0 32 f69_31 rfl (by decide +kernel) ?_
  refine zw_lload_n 33 f69_32 rfl rfl ?_
  refine zw_lmul 0 34 f69_33 rfl (by decide +kernel) ?_
  refine zw_ladd 0 35 f69_34 rfl (by decide +kernel) ?_
  refine zw_lload 37 f69_35 rfl rfl ?_
  refine zw_static_l 40 0 0 [.long 0, .long 1] [] [(0, .long 0), (2, .long 1)] f69_37 rfl k69_183_99 rfl (by decide +kernel) (Nat.le_of_ble_eq_true rfl) (Nat.le_of_ble_eq_true rfl) rfl rfl (by decide +kernel) (by decide +kernel) rfl (Nat.le_of_ble_eq_true rfl) rfl ?_
  refine zw_lload_n 1 f115_0 rfl rfl ?_
  refine zw_lstore [(4, .long 0), (0, .long 0), (2, .long 1)] 3 f115_1 rfl (by decide +kernel) rfl ?_
  refine zw_lload_n 4 f115_3 rfl rfl ?_
  refine zw_lstore [(6, .long 1), (4, .long 0), (0, .long 0), (2, .long 1)] 6 f115_4 rfl (by decide +kernel) rfl ?_
  refine zw_iconst 0 7 f115_6 rfl (by decide +kernel) ?_
  refine zw_istore [(8, .int 0), (6, .long 1), (4, .long 0), (0, .long 0), (2, .long 1)] 9 f115_7 rfl (by decide +kernel) rfl ?_
  refine zw_iload 11 f115_9 rfl rfl ?_
  refine zw_sipush 200 14 f115_11 rfl (by decide +kernel) ?_
  refine zw_ic_ge_f 17 45 f115_14 (by decide +kernel) rfl (by decide +kernel) ?_
  refine zw_lload 19 f115_17 rfl rfl ?_
  refine zw_lconst 0 20 f115_19 rfl (by decide +kernel) ?_
  refine zw_lcmp 1 21 f115_20 rfl (by decide +kernel) ?_
  refine zw_if_eq_f 24 45 f115_21 (by decide +kernel) rfl (by decide +kernel) ?_
  refine zw_lload 26 f115_24 rfl rfl ?_
  refine zw_lload 28 f115_26 rfl rfl ?_
  refine zw_lrem 0 29 f115_28 rfl (by decide +kernel) (by decide +kernel) ?_
  refine zw_lstore [(9, .long 0), (8, .int 0), (6, .long 1), (4, .long 0), (0, .long 0), (2, .long 1)] 31 f115_29 rfl (by decide +kernel) rfl ?_
  refine zw_lload 33 f115_31 rfl rfl ?_
  refine zw_lstore [(4, .long 1), (9, .long 0), (8, .int 0), (6, .long 1), (0, .long 0), (2, .long 1)] 35 f115_33 rfl (by decide +kernel) rfl ?_
  refine zw_lload 37 f115_35 rfl rfl ?_
  refine zw_lstore [(6, .long 0), (4, .long 1), (9, .long 0), (8, .int 0), (0, .long 0), (2, .long 1)] 39 f115_37 rfl (by decide +kernel) rfl ?_
  refine zw_iinc 1 [(8, .int 1), (6, .long 0), (4, .long 1), (9, .long 0), (0, .long 0), (2, .long 1)] 42 f115_39 rfl rfl (by decide +kernel) (by decide +kernel) rfl ?_
  refine zw_goto 9 f115_42 (by decide +kernel) ?_
  refine zw_iload 11 f115_9 rfl rfl ?_
  refine zw_sipush 200 14 f115_11 rfl (by decide +kernel) ?_
  refine zw_ic_ge_f 17 45 f115_14 (by decide +kernel) rfl (by decide +kernel) ?_
  refine zw_lload 19 f115_17 rfl rfl ?_
  refine zw_lconst 0 20 f115_19 rfl (by decide +kernel) ?_
  refine zw_lcmp 0 21 f115_20 rfl (by decide +kernel) ?_
  refine zw_if_eq_t 45 f115_21 (by decide +kernel) (by decide +kernel) ?_
  refine zw_lload 47 f115_45 rfl rfl ?_
  refine zw_lconst 0 48 f115_47 rfl (by decide +kernel) ?_
  refine zw_lcmp 1 49 f115_48 rfl (by decide +kernel) ?_
  refine zw_if_ne_t 56 f115_49 (by decide +kernel) (by decide +kernel) ?_
  refine zw_lload 58 f115_56 rfl rfl ?_
  refine zw_lreturn f115_58 r115 u115 ⟨_, rfl, ?_⟩
  refine zw_lstore [(7, .long 1), (0, .ref 11), (1, .long 1), (3, .long 0), (5, .long 1)] 42 f69_40 rfl (by decide +kernel) rfl ?_
  refine zw_aload_n 43 f69_42 rfl rfl ?_
  refine zw_getfield 46 f69_43 rfl g69_12_10 rfl rfl ?_
  refine zw_getfield 49 f69_46 rfl g69_180_9 rfl rfl ?_
  refine zw_lload_n 50 f69_49 rfl rfl ?_
  refine zw_lmul 0 51 f69_50 rfl (by decide +kernel) ?_
  refine zw_aload_n 52 f69_51 rfl rfl ?_
  refine zw_getfield 55 f69_52 rfl g69_58_10 rfl rfl ?_
  refine zw_i2l 0 56 f69_55 rfl (by decide +kernel) ?_
  refine zw_lload_n 57 f69_56 rfl rfl ?_
  refine zw_lmul 0 58 f69_57 rfl (by decide +kernel) ?_
  refine zw_ladd 0 59 f69_58 rfl (by decide +kernel) ?_
  refine zw_lload 61 f69_59 rfl rfl ?_
  refine zw_static_l 64 0 0 [.long 0, .long 1] [] [(0, .long 0), (2, .long 1)] f69_61 rfl k69_183_99 rfl (by decide +kernel) (Nat.le_of_ble_eq_true rfl) (Nat.le_of_ble_eq_true rfl) rfl rfl (by decide +kernel) (by decide +kernel) rfl (Nat.le_of_ble_eq_true rfl) rfl ?_
  refine zw_lload_n 1 f115_0 rfl rfl ?_
  refine zw_lstore [(4, .long 0), (0, .long 0), (2, .long 1)] 3 f115_1 rfl (by decide +kernel) rfl ?_
  refine zw_lload_n 4 f115_3 rfl rfl ?_
  refine zw_lstore [(6, .long 1), (4, .long 0), (0, .long 0), (2, .long 1)] 6 f115_4 rfl (by decide +kernel) rfl ?_
  refine zw_iconst 0 7 f115_6 rfl (by decide +kernel) ?_
  refine zw_istore [(8, .int 0), (6, .long 1), (4, .long 0), (0, .long 0), (2, .long 1)] 9 f115_7 rfl (by decide +kernel) rfl ?_
  refine zw_iload 11 f115_9 rfl rfl ?_
  refine zw_sipush 200 14 f115_11 rfl (by decide +kernel) ?_
  refine zw_ic_ge_f 17 45 f115_14 (by decide +kernel) rfl (by decide +kernel) ?_
  refine zw_lload 19 f115_17 rfl rfl ?_
  refine zw_lconst 0 20 f115_19 rfl (by decide +kernel) ?_
  refine zw_lcmp 1 21 f115_20 rfl (by decide +kernel) ?_
  refine zw_if_eq_f 24 45 f115_21 (by decide +kernel) rfl (by decide +kernel) ?_
  refine zw_lload 26 f115_24 rfl rfl ?_
  refine zw_lload 28 f115_26 rfl rfl ?_
  refine zw_lrem 0 29 f115_28 rfl (by decide +kernel) (by decide +kernel) ?_
  refine zw_lstore [(9, .long 0), (8, .int 0), (6, .long 1), (4, .long 0), (0, .long 0), (2, .long 1)] 31 f115_29 rfl (by decide +kernel) rfl ?_
  refine zw_lload 33 f115_31 rfl rfl ?_
  refine zw_lstore [(4, .long 1), (9, .long 0), (8, .int 0), (6, .long 1), (0, .long 0), (2, .long 1)] 35 f115_33 rfl (by decide +kernel) rfl ?_
  refine zw_lload 37 f115_35 rfl rfl ?_
  refine zw_lstore [(6, .long 0), (4, .long 1), (9, .long 0), (8, .int 0), (0, .long 0), (2, .long 1)] 39 f115_37 rfl (by decide +kernel) rfl ?_
  refine zw_iinc 1 [(8, .int 1), (6, .long 0), (4, .long 1), (9, .long 0), (0, .long 0), (2, .long 1)] 42 f115_39 rfl rfl (by decide +kernel) (by decide +kernel) rfl ?_
  refine zw_goto 9 f115_42 (by decide +kernel) ?_
  refine zw_iload 11 f115_9 rfl rfl ?_
  refine zw_sipush 200 14 f115_11 rfl (by decide +kernel) ?_
  refine zw_ic_ge_f 17 45 f115_14 (by decide +kernel) rfl (by decide +kernel) ?_
  refine zw_lload 19 f115_17 rfl rfl ?_
  refine zw_lconst 0 20 f115_19 rfl (by decide +kernel) ?_
  refine zw_lcmp 0 21 f115_20 rfl (by decide +kernel) ?_
  refine zw_if_eq_t 45 f115_21 (by decide +kernel) (by decide +kernel) ?_
  refine zw_lload 47 f115_45 rfl rfl ?_
  refine zw_lconst 0 48 f115_47 rfl (by decide +kernel) ?_
  refine zw_lcmp 1 49 f115_48 rfl (by decide +kernel) ?_
  refine zw_if_ne_t 56 f115_49 (by decide +kernel) (by decide +kernel) ?_
  refine zw_lload 58 f115_56 rfl rfl ?_
  refine zw_lreturn f115_58 r115 u115 ⟨_, rfl, ?_⟩
  refine zw_lstore [(7, .long 1), (0, .ref 11), (1, .long 1), (3, .long 0), (5, .long 1)] 66 f69_64 rfl (by decide +kernel) rfl ?_
  refine zw_iconst 0 67 f69_66 rfl (by decide +kernel) ?_
  refine zw_istore [(9, .int 0), (7, .long 1), (0, .ref 11), (1, .long 1), (3, .long 0), (5, .long 1)] 69 f69_67 rfl (by decide +kernel) rfl ?_
  refine zw_iload 71 f69_69 rfl rfl ?_
  refine zw_aload_n 72 f69_71 rfl rfl ?_
  refine zw_getfield 75 f69_72 rfl g69_37_10 rfl rfl ?_
  refine zw_getfield 78 f69_75 rfl g69_80_4 rfl rfl ?_
  refine zw_ic_ge_f 81 124 f69_78 (by decide +kernel) rfl (by decide +kernel) ?_
  refine zw_lload 83 f69_81 rfl rfl ?_
  refine zw_lconst 1 84 f69_83 rfl (by decide +kernel) ?_
  refine zw_lcmp 0 85 f69_84 rfl (by decide +kernel) ?_
  refine zw_if_le_t 124 f69_85 (by decide +kernel) (by decide +kernel) ?_
  refine zw_lload 126 f69_124 rfl rfl ?_
  refine zw_lreturn f69_126 r69 u69 ⟨_, rfl, ?_⟩
  refine zw_lstore [(7, .long 1), (5, .long 1), (0, .ref 11), (1, .long 1), (3, .long 0)] 21 f68_19 rfl (by decide +kernel) rfl ?_
  refine zw_lload 23 f68_21 rfl rfl ?_
  refine zw_lconst 0 24 f68_23 rfl (by decide +kernel) ?_
  refine zw_lcmp 1 25 f68_24 rfl (by decide +kernel) ?_
  refine zw_if_eq_f 28 40 f68_25 (by decide +kernel) rfl (by decide +kernel) ?_
  refine zw_lload 30 f68_28 rfl rfl ?_
  refine zw_lload 32 f68_30 rfl rfl ?_
  refine zw_ldiv 1 33 f68_32 rfl (by decide +kernel) (by decide +kernel) ?_
  refine zw_ldc2_w 10000 36 f68_33 rfl (by decide +kernel) ?_
  refine zw_lcmp (-1) 37 f68_36 rfl (by decide +kernel) ?_
  refine zw_if_le_t 42 f68_37 (by decide +kernel) (by decide +kernel) ?_
  refine zw_aload_n 43 f68_42 rfl rfl ?_
  refine zw_getfield 46 f68_43 rfl g68_12_10 rfl rfl ?_
  refine zw_lload 48 f68_46 rfl rfl ?_
  refine zw_lload 50 f68_48 rfl rfl ?_
  refine zw_ldiv 1 51 f68_50 rfl (by decide +kernel) (by decide +kernel) ?_
  refine zw_putfieldS 54 f68_51 rfl g68_109_9 rfl rfl rfl (by decide +kernel) ?_
  refine zw_aload_n 55 f68_54 rfl rfl ?_
  refine zw_getfield 58 f68_55 rfl g68_12_10 rfl rfl ?_
  refine zw_aload_n 59 f68_58 rfl rfl ?_
  refine zw_getfield 62 f68_59 rfl g68_12_10 rfl rfl ?_
  refine zw_getfield 65 f68_62 rfl g68_151_9 rfl rfl ?_
  refine zw_lload_n 66 f68_65 rfl rfl ?_
  refine zw_lmul 0 67 f68_66 rfl (by decide +kernel) ?_
  refine zw_lload_n 68 f68_67 rfl rfl ?_
  refine zw_ladd 0 69 f68_68 rfl (by decide +kernel) ?_
  refine zw_lload 71 f68_69 rfl rfl ?_
  refine zw_ldiv 0 72 f68_71 rfl (by decide +kernel) (by decide +kernel) ?_
  refine zw_putfieldS 75 f68_72 rfl g68_151_9 rfl rfl rfl (by decide +kernel) ?_
  refine zw_aload_n 76 f68_75 rfl rfl ?_
  refine zw_getfield 79 f68_76 rfl g68_12_10 rfl rfl ?_
  refine zw_aload_n 80 f68_79 rfl rfl ?_
  refine zw_getfield 83 f68_80 rfl g68_12_10 rfl rfl ?_
  refine zw_getfield 86 f68_83 rfl g68_177_9 rfl rfl ?_
  refine zw_lload_n 87 f68_86 rfl rfl ?_
  refine zw_lmul 0 88 f68_87 rfl (by decide +kernel) ?_
  refine zw_aload_n 89 f68_88 rfl rfl ?_
  refine zw_getfield 92 f68_89 rfl g68_54_10 rfl rfl ?_
  refine zw_i2l 0 93 f68_92 rfl (by decide +kernel) ?_
  refine zw_lload_n 94 f68_93 rfl rfl ?_
  refine zw_lmul 0 95 f68_94 rfl (by decide +kernel) ?_
  refine zw_ladd 0 96 f68_95 rfl (by decide +kernel) ?_
  refine zw_lload 98 f68_96 rfl rfl ?_
  refine zw_ldiv 0 99 f68_98 rfl (by decide +kernel) (by decide +kernel) ?_
  refine zw_putfieldS 102 f68_99 rfl g68_177_9 rfl rfl rfl (by decide +kernel) ?_
  refine zw_aload_n 103 f68_102 rfl rfl ?_
  refine zw_getfield 106 f68_103 rfl g68_12_10 rfl rfl ?_
  refine zw_aload_n 107 f68_106 rfl rfl ?_
  refine zw_getfield 110 f68_107 rfl g68_12_10 rfl rfl ?_
  refine zw_getfield 113 f68_110 rfl g68_180_9 rfl rfl ?_
  refine zw_lload_n 114 f68_113 rfl rfl ?_
  refine zw_lmul 0 115 f68_114 rfl (by decide +kernel) ?_
  refine zw_aload_n 116 f68_115 rfl rfl ?_
  refine zw_getfield 119 f68_116 rfl g68_58_10 rfl rfl ?_
  refine zw_i2l 0 120 f68_119 rfl (by decide +kernel) ?_
  refine zw_lload_n 121 f68_120 rfl rfl ?_
  refine zw_lmul 0 122 f68_121 rfl (by decide +kernel) ?_
  refine zw_ladd 0 123 f68_122 rfl (by decide +kernel) ?_
  refine zw_lload 125 f68_123 rfl rfl ?_
  refine zw_ldiv 0 126 f68_125 rfl (by decide +kernel) (by decide +kernel) ?_
  refine zw_putfieldS 129 f68_126 rfl g68_180_9 rfl rfl rfl (by decide +kernel) ?_
  refine zw_iconst 0 130 f68_129 rfl (by decide +kernel) ?_
  refine zw_istore [(9, .int 0), (7, .long 1), (5, .long 1), (0, .ref 11), (1, .long 1), (3, .long 0)] 132 f68_130 rfl (by decide +kernel) rfl ?_
  refine zw_iload 134 f68_132 rfl rfl ?_
  refine zw_aload_n 135 f68_134 rfl rfl ?_
  refine zw_getfield 138 f68_135 rfl g68_37_10 rfl rfl ?_
  refine zw_getfield 141 f68_138 rfl g68_80_4 rfl rfl ?_
  refine zw_ic_ge_f 144 186 f68_141 (by decide +kernel) rfl (by decide +kernel) ?_
  refine zw_aload_n 145 f68_144 rfl rfl ?_
  refine zw_getfield 148 f68_145 rfl g68_12_10 rfl rfl ?_
  refine zw_getfield 151 f68_148 rfl g68_87_9 rfl rfl ?_
  refine zw_iload 153 f68_151 rfl rfl ?_
  refine zw_aload_n 154 f68_153 rfl rfl ?_
  refine zw_getfield 157 f68_154 rfl g68_12_10 rfl rfl ?_
  refine zw_getfield 160 f68_157 rfl g68_87_9 rfl rfl ?_
  refine zw_iload 162 f68_160 rfl rfl ?_
  refine zw_laload 0 0 163 f68_162 rfl rfl (by decide +kernel) (by decide +kernel) (by decide +kernel) rfl ?_
  refine zw_lload_n 164 f68_163 rfl rfl ?_
  refine zw_lmul 0 165 f68_164 rfl (by decide +kernel) ?_
  refine zw_aload_n 166 f68_165 rfl rfl ?_
  refine zw_getfield 169 f68_166 rfl g68_22_10 rfl rfl ?_
  refine zw_iload 171 f68_169 rfl rfl ?_
  refine zw_iaload 0 0 172 f68_171 rfl rfl (by decide +kernel) (by decide +kernel) (by decide +kernel) rfl ?_
  refine zw_i2l 0 173 f68_172 rfl (by decide +kernel) ?_
  refine zw_lload_n 174 f68_173 rfl rfl ?_
  refine zw_lmul 0 175 f68_174 rfl (by decide +kernel) ?_
  refine zw_ladd 0 176 f68_175 rfl (by decide +kernel) ?_
  refine zw_lload 178 f68_176 rfl rfl ?_
  refine zw_ldiv 0 179 f68_178 rfl (by decide +kernel) (by decide +kernel) ?_
  refine zw_lastoreS 0 180 f68_179 rfl rfl (by decide +kernel) (by decide +kernel) (by decide +kernel) rfl ?_
  refine zw_iinc 1 [(9, .int 1), (7, .long 1), (5, .long 1), (0, .ref 11), (1, .long 1), (3, .long 0)] 183 f68_180 rfl rfl (by decide +kernel) (by decide +kernel) rfl ?_
  refine zw_goto 132 f68_183 (by decide +kernel) ?_
  refine zw_iload 134 f68_132 rfl rfl ?_
  refine zw_aload_n 135 f68_134 rfl rfl ?_
  refine zw_getfield 138 f68_135 rfl g68_37_10 rfl rfl ?_
  refine zw_getfield 141 f68_138 rfl g68_80_4 rfl rfl ?_
  refine zw_ic_ge_t 186 f68_141 (by decide +kernel) (by decide +kernel) ?_
  refine zw_iconst 1 187 f68_186 rfl (by decide +kernel) ?_
  refine zw_zreturn f68_187 r68 u68 (by decide +kernel) ⟨_, rfl, ?_⟩
  refine zw_pop 116 f70_115 rfl rfl ?_
  refine zw_vreturn f70_116 r70 u70 ⟨rfl, ?_⟩
  refine zw_aload_n 8 f107_7 rfl rfl ?_
  refine zw_getfield 11 f107_8 rfl g107_31_11 rfl rfl ?_
  refine zw_aload_n 12 f107_11 rfl rfl ?_
  refine zw_getfield 15 f107_12 rfl g107_21_11 rfl rfl ?_
  refine zw_virtual_v 18 0 0 [.ref 33, .ref 11] [(0, .ref 33), (1, .ref 11)] f107_15 rfl n107_187 k107_187_3 rfl rfl (by decide +kernel) (Nat.le_of_ble_eq_true rfl) rfl rfl (by decide +kernel) (by decide +kernel) rfl (Nat.le_of_ble_eq_true rfl) rfl ?_
  refine zw_iconst 0 1 f10_0 rfl (by decide +kernel) ?_
  refine zw_istore_n [(2, .int 0), (0, .ref 33), (1, .ref 11)] 2 f10_1 rfl (by decide +kernel) rfl ?_
  refine zw_iload_n 3 f10_2 rfl rfl ?_
  refine zw_aload_n 4 f10_3 rfl rfl ?_
  refine zw_getfield 7 f10_4 rfl g10_24_10 rfl rfl ?_
  refine zw_ic_ge_t 126 f10_7 (by decide +kernel) (by decide +kernel) ?_
  refine zw_vreturn f10_126 r10 u10 ⟨rfl, ?_⟩
  refine zw_aload_n 19 f107_18 rfl rfl ?_
  refine zw_iload_n 20 f107_19 rfl rfl ?_
  refine zw_virtual_i 23 0 0 [.ref 0, .int 0] [(0, .ref 0), (1, .int 0)] f107_20 rfl n107_181 k107_181_11 rfl rfl (by decide +kernel) (Nat.le_of_ble_eq_true rfl) rfl rfl (by decide +kernel) (by decide +kernel) rfl (Nat.le_of_ble_eq_true rfl) rfl ?_
  refine zw_aload_n 1 f106_0 rfl rfl ?_
  refine zw_iconst 0 2 f106_1 rfl (by decide +kernel) ?_
  refine zw_putfieldS 5 f106_2 rfl g106_70_11 rfl rfl rfl (by decide +kernel) ?_
  refine zw_iload_n 6 f106_5 rfl rfl ?_
  refine zw_ireturn f106_6 r106 u106 ⟨_, rfl, ?_⟩
  refine zw_ireturn f107_23 r107 u107 ⟨_, rfl, ?_⟩
  refine zw_ireturn f78_54 r78 u78 ?_
  exact ⟨rfl, by repeat (first | exact zMF_0 | refine zMF_set (by decide) ?_)⟩
set_option maxRecDepth 100000 in
set_option maxHeartbeats 0 in
theorem x_vessel_k1 (ro : UInt32 → Nat × (Nat → Int32)) (b : Int32) (h3 : ¬ b < 1) (h4 : ¬ 200 < b) : zWp ro 78 0 [(0, .ref 0), (1, .int 1), (2, .int b)] [] hF 0 0 (fun r h1 => r = some (.int 0) ∧ zMF h1) := by
  refine zw_iload_n 1 f78_0 rfl rfl ?_
  refine zw_iconst 0 2 f78_1 rfl (by decide +kernel) ?_
  refine zw_iconst 4 3 f78_2 rfl (by decide +kernel) ?_
  refine zw_static_i 6 0 0 [.int 1, .int 0, .int 4] [] [(0, .int 1), (1, .int 0), (2, .int 4)] f78_3 rfl k78_74_99 rfl (by decide +kernel) (Nat.le_of_ble_eq_true rfl) (Nat.le_of_ble_eq_true rfl) rfl rfl (by decide +kernel) (by decide +kernel) rfl (Nat.le_of_ble_eq_true rfl) rfl ?_
  refine zw_iload_n 1 f112_0 rfl rfl ?_
  refine zw_iload_n 2 f112_1 rfl rfl ?_
  refine zw_ic_lt_f 5 14 f112_2 (by decide +kernel) rfl (by decide +kernel) ?_
  refine zw_iload_n 6 f112_5 rfl rfl ?_
  refine zw_iload_n 7 f112_6 rfl rfl ?_
  refine zw_ic_gt_f 10 14 f112_7 (by decide +kernel) rfl (by decide +kernel) ?_
  refine zw_iconst 1 11 f112_10 rfl (by decide +kernel) ?_
  refine zw_goto 15 f112_11 (by decide +kernel) ?_
  refine zw_zreturn f112_15 r112 u112 (by decide +kernel) ⟨_, rfl, ?_⟩
  refine zw_if_eq_f 9 20 f78_6 (by decide +kernel) rfl (by decide +kernel) ?_
  refine zw_iload_n 10 f78_9 rfl rfl ?_
  refine zw_iconst 1 11 f78_10 rfl (by decide +kernel) ?_
  refine zw_sipush 200 14 f78_11 rfl (by decide +kernel) ?_
  refine zw_static_i 17 0 0 [.int b, .int 1, .int 200] [] [(0, .int b), (1, .int 1), (2, .int 200)] f78_14 rfl k78_74_99 rfl (by decide +kernel) (Nat.le_of_ble_eq_true rfl) (Nat.le_of_ble_eq_true rfl) rfl rfl (by decide +kernel) (by decide +kernel) rfl (Nat.le_of_ble_eq_true rfl) rfl ?_
  refine zw_iload_n 1 f112_0 rfl rfl ?_
  refine zw_iload_n 2 f112_1 rfl rfl ?_
  refine zw_ic_lt_f 5 14 f112_2 (by decide +kernel) rfl h3 ?_
  refine zw_iload_n 6 f112_5 rfl rfl ?_
  refine zw_iload_n 7 f112_6 rfl rfl ?_
  refine zw_ic_gt_f 10 14 f112_7 (by decide +kernel) rfl h4 ?_
  refine zw_iconst 1 11 f112_10 rfl (by decide +kernel) ?_
  refine zw_goto 15 f112_11 (by decide +kernel) ?_
  refine zw_zreturn f112_15 r112 u112 (by decide +kernel) ⟨_, rfl, ?_⟩
  refine zw_if_ne_t 26 f78_17 (by decide +kernel) (by decide +kernel) ?_
  refine zw_aload_n 27 f78_26 rfl rfl ?_
  refine zw_getfield 30 f78_27 rfl g78_10_11 rfl rfl ?_
  refine zw_iload_n 31 f78_30 rfl rfl ?_
  refine zw_iload_n 32 f78_31 rfl rfl ?_
  refine zw_virtual_i 35 0 0 [.ref 1, .int 1, .int b] [(0, .ref 1), (1, .int 1), (2, .int b)] f78_32 rfl n78_82 k78_82_4 rfl rfl (by decide +kernel) (Nat.le_of_ble_eq_true rfl) rfl rfl (by decide +kernel) (by decide +kernel) rfl (Nat.le_of_ble_eq_true rfl) rfl ?_
  refine zw_aload_n 1 f20_0 rfl rfl ?_
  refine zw_getfield 4 f20_1 rfl g20_39_4 rfl rfl ?_
  refine zw_istore_n [(3, .int 0), (0, .ref 1), (1, .int 1), (2, .int b)] 5 f20_4 rfl (by decide +kernel) rfl ?_
  refine zw_iload_n 6 f20_5 rfl rfl ?_
  refine zw_bipush 8 8 f20_6 rfl (by decide +kernel) ?_
  refine zw_ic_lt_t 13 f20_8 (by decide +kernel) (by decide +kernel) ?_
  refine zw_aload_n 14 f20_13 rfl rfl ?_
  refine zw_getfield 17 f20_14 rfl g20_9_4 rfl rfl ?_
  refine zw_iload_n 18 f20_17 rfl rfl ?_
  refine zw_iload_n 19 f20_18 rfl rfl ?_
  refine zw_iastore 0 20 f20_19 rfl rfl (by decide +kernel) (by decide +kernel) (by decide +kernel) ?_
  refine zw_aload_n 21 f20_20 rfl rfl ?_
  refine zw_getfield 24 f20_21 rfl g20_15_4 rfl rfl ?_
  refine zw_iload_n 25 f20_24 rfl rfl ?_
  refine zw_iload_n 26 f20_25 rfl rfl ?_
  refine zw_iastore 0 27 f20_26 rfl rfl (by decide +kernel) (by decide +kernel) (by decide +kernel) ?_
  refine zw_aload_n 28 f20_27 rfl rfl ?_
  refine zw_getfield 31 f20_28 rfl g20_18_4 rfl rfl ?_
  refine zw_iload_n 32 f20_31 rfl rfl ?_
  refine zw_iload_n 33 f20_32 rfl rfl ?_
  refine zw_if_eq_f 36 41 f20_33 (by decide +kernel) rfl (by decide +kernel) ?_
  refine zw_iload_n 37 f20_36 rfl rfl ?_
  refine zw_iconst 2 38 f20_37 rfl (by decide +kernel) ?_
  refine zw_ic_ne_t 45 f20_38 (by decide +kernel) (by decide +kernel) ?_
  refine zw_iload_n 46 f20_45 rfl rfl ?_
  refine zw_iastore 0 47 f20_46 rfl rfl (by decide +kernel) (by decide +kernel) (by decide +kernel) ?_
  refine zw_aload_n 48 f20_47 rfl rfl ?_
  refine zw_getfield 51 f20_48 rfl g20_21_4 rfl rfl ?_
  refine zw_iload_n 52 f20_51 rfl rfl ?_
  refine zw_iconst 0 53 f20_52 rfl (by decide +kernel) ?_
  refine zw_iastoreS 0 54 f20_53 rfl rfl (by decide +kernel) (by decide +kernel) (by decide +kernel) rfl ?_
  refine zw_aload_n 55 f20_54 rfl rfl ?_
  refine zw_getfield 58 f20_55 rfl g20_24_4 rfl rfl ?_
  refine zw_iload_n 59 f20_58 rfl rfl ?_
  refine zw_iconst (-1) 60 f20_59 rfl (by decide +kernel) ?_
  refine zw_iastore 0 61 f20_60 rfl rfl (by decide +kernel) (by decide +kernel) (by decide +kernel) ?_
  refine zw_aload_n 62 f20_61 rfl rfl ?_
  refine zw_getfield 65 f20_62 rfl g20_27_4 rfl rfl ?_
  refine zw_iload_n 66 f20_65 rfl rfl ?_
  refine zw_iconst (-1) 67 f20_66 rfl (by decide +kernel) ?_
  refine zw_iastore 0 68 f20_67 rfl rfl (by decide +kernel) (by decide +kernel) (by decide +kernel) ?_
  refine zw_aload_n 69 f20_68 rfl rfl ?_
  refine zw_getfield 72 f20_69 rfl g20_30_4 rfl rfl ?_
  refine zw_iload_n 73 f20_72 rfl rfl ?_
  refine zw_iconst (-1) 74 f20_73 rfl (by decide +kernel) ?_
  refine zw_iastore 0 75 f20_74 rfl rfl (by decide +kernel) (by decide +kernel) (by decide +kernel) ?_
  refine zw_aload_n 76 f20_75 rfl rfl ?_
  refine zw_iload_n 77 f20_76 rfl rfl ?_
  refine zw_iconst 1 78 f20_77 rfl (by decide +kernel) ?_
  refine zw_iadd 1 79 f20_78 rfl (by decide +kernel) ?_
  refine zw_putfield 82 f20_79 rfl g20_39_4 rfl rfl (Nat.le_of_ble_eq_true rfl) (by decide +kernel) ?_
  refine zw_iload_n 83 f20_82 rfl rfl ?_
  refine zw_ireturn f20_83 r20 u20 ⟨_, rfl, ?_⟩
  refine zw_istore_n [(3, .int 0), (0, .ref 0), (1, .int 1), (2, .int b)] 36 f78_35 rfl (by decide +kernel) rfl ?_
  refine zw_iload_n 37 f78_36 rfl rfl ?_
  refine zw_iconst (-1) 38 f78_37 rfl (by decide +kernel) ?_
  refine zw_ic_ne_t 49 f78_38 (by decide +kernel) (by decide +kernel) ?_
  refine zw_aload_n 50 f78_49 rfl rfl ?_
  refine zw_iload_n 51 f78_50 rfl rfl ?_
  refine zw_virtual_i 54 0 0 [.ref 0, .int 0] [(0, .ref 0), (1, .int 0)] f78_51 rfl n78_86 k78_86_11 rfl rfl (by decide +kernel) (Nat.le_of_ble_eq_true rfl) rfl rfl (by decide +kernel) (by decide +kernel) rfl (Nat.le_of_ble_eq_true rfl) rfl ?_
  refine zw_aload_n 1 f107_0 rfl rfl ?_
  refine zw_getfield 4 f107_1 rfl g107_21_11 rfl rfl ?_
  refine zw_virtual_v 7 0 0 [.ref 11] [(0, .ref 11)] f107_4 rfl n107_318 k107_318_10 rfl rfl (by decide +kernel) (Nat.le_of_ble_eq_true rfl) rfl rfl (by decide +kernel) (by decide +kernel) rfl (Nat.le_of_ble_eq_true rfl) rfl ?_
  refine zw_aload_n 1 f70_0 rfl rfl ?_
  refine zw_iconst 0 2 f70_1 rfl (by decide +kernel) ?_
  refine zw_putfieldS 5 f70_2 rfl g70_161_10 rfl rfl rfl (by decide +kernel) ?_
  refine zw_iconst 0 6 f70_5 rfl (by decide +kernel) ?_
  refine zw_istore_n [(1, .int 0), (0, .ref 11)] 7 f70_6 rfl (by decide +kernel) rfl ?_
  refine zw_iload_n 8 f70_7 rfl rfl ?_
  refine zw_aload_n 9 f70_8 rfl rfl ?_
  refine zw_getfield 12 f70_9 rfl g70_37_10 rfl rfl ?_
  refine zw_getfield 15 f70_12 rfl g70_80_4 rfl rfl ?_
  refine zw_ic_ge_f 18 49 f70_15 (by decide +kernel) rfl (by decide +kernel) ?_
  refine zw_aload_n 19 f70_18 rfl rfl ?_
  refine zw_getfield 22 f70_19 rfl g70_37_10 rfl rfl ?_
  refine zw_iload_n 23 f70_22 rfl rfl ?_
  refine zw_virtual_i 26 0 0 [.ref 1, .int 0] [(0, .ref 1), (1, .int 0)] f70_23 rfl n70_132 k70_132_4 rfl rfl (by decide +kernel) (Nat.le_of_ble_eq_true rfl) rfl rfl (by decide +kernel) (by decide +kernel) rfl (Nat.le_of_ble_eq_true rfl) rfl ?_
  refine zw_iload_n 1 f15_0 rfl rfl ?_
  refine zw_if_lt_f 4 27 f15_1 (by decide +kernel) rfl (by decide +kernel) ?_
  refine zw_iload_n 5 f15_4 rfl rfl ?_
  refine zw_aload_n 6 f15_5 rfl rfl ?_
  refine zw_getfield 9 f15_6 rfl g15_39_4 rfl rfl ?_
  refine zw_ic_ge_f 12 27 f15_9 (by decide +kernel) rfl (by decide +kernel) ?_
  refine zw_iload_n 13 f15_12 rfl rfl ?_
  refine zw_bipush 8 15 f15_13 rfl (by decide +kernel) ?_
  refine zw_ic_ge_f 18 27 f15_15 (by decide +kernel) rfl (by decide +kernel) ?_
  refine zw_aload_n 19 f15_18 rfl rfl ?_
  refine zw_getfield 22 f15_19 rfl g15_9_4 rfl rfl ?_
  refine zw_iload_n 23 f15_22 rfl rfl ?_
  refine zw_iaload 0 1 24 f15_23 rfl rfl (by decide +kernel) (by decide +kernel) (by decide +kernel) rfl ?_
  refine zw_goto 28 f15_24 (by decide +kernel) ?_
  refine zw_ireturn f15_28 r15 u15 ⟨_, rfl, ?_⟩
  refine zw_iconst 2 27 f70_26 rfl (by decide +kernel) ?_
  refine zw_ic_ne_t 43 f70_27 (by decide +kernel) (by decide +kernel) ?_
  refine zw_iinc 1 [(1, .int 1), (0, .ref 11)] 46 f70_43 rfl rfl (by decide +kernel) (by decide +kernel) rfl ?_
  refine zw_goto 7 f70_46 (by decide +kernel) ?_
  refine zw_iload_n 8 f70_7 rfl rfl ?_
  refine zw_aload_n 9 f70_8 rfl rfl ?_
  refine zw_getfield 12 f70_9 rfl g70_37_10 rfl rfl ?_
  refine zw_getfield 15 f70_12 rfl g70_80_4 rfl rfl ?_
  refine zw_ic_ge_t 49 f70_15 (by decide +kernel) (by decide +kernel) ?_
  refine zw_iconst 0 50 f70_49 rfl (by decide +kernel) ?_
  refine zw_istore_n [(1, .int 0), (0, .ref 11)] 51 f70_50 rfl (by decide +kernel) rfl ?_
  refine zw_iload_n 52 f70_51 rfl rfl ?_
  refine zw_aload_n 53 f70_52 rfl rfl ?_
  refine zw_getfield 56 f70_53 rfl g70_37_10 rfl rfl ?_
  refine zw_getfield 59 f70_56 rfl g70_80_4 rfl rfl ?_
  refine zw_ic_ge_f 62 85 f70_59 (by decide +kernel) rfl (by decide +kernel) ?_
  refine zw_aload_n 63 f70_62 rfl rfl ?_
  refine zw_getfield 66 f70_63 rfl g70_37_10 rfl rfl ?_
  refine zw_iload_n 67 f70_66 rfl rfl ?_
  refine zw_virtual_i 70 0 0 [.ref 1, .int 0] [(0, .ref 1), (1, .int 0)] f70_67 rfl n70_132 k70_132_4 rfl rfl (by decide +kernel) (Nat.le_of_ble_eq_true rfl) rfl rfl (by decide +kernel) (by decide +kernel) rfl (Nat.le_of_ble_eq_true rfl) rfl ?_
  refine zw_iload_n 1 f15_0 rfl rfl ?_
  refine zw_if_lt_f 4 27 f15_1 (by decide +kernel) rfl (by decide +kernel) ?_
  refine zw_iload_n 5 f15_4 rfl rfl ?_
  refine zw_aload_n 6 f15_5 rfl rfl ?_
  refine zw_getfield 9 f15_6 rfl g15_39_4 rfl rfl ?_
  refine zw_ic_ge_f 12 27 f15_9 (by decide +kernel) rfl (by decide +kernel) ?_
  refine zw_iload_n 13 f15_12 rfl rfl ?_
  refine zw_bipush 8 15 f15_13 rfl (by decide +kernel) ?_
  refine zw_ic_ge_f 18 27 f15_15 (by decide +kernel) rfl (by decide +kernel) ?_
  refine zw_aload_n 19 f15_18 rfl rfl ?_
  refine zw_getfield 22 f15_19 rfl g15_9_4 rfl rfl ?_
  refine zw_iload_n 23 f15_22 rfl rfl ?_
  refine zw_iaload 0 1 24 f15_23 rfl rfl (by decide +kernel) (by decide +kernel) (by decide +kernel) rfl ?_
  refine zw_goto 28 f15_24 (by decide +kernel) ?_
  refine zw_ireturn f15_28 r15 u15 ⟨_, rfl, ?_⟩
  refine zw_iconst 1 71 f70_70 rfl (by decide +kernel) ?_
  refine zw_ic_ne_f 74 79 f70_71 (by decide +kernel) rfl (by decide +kernel) ?_
  refine zw_aload_n 75 f70_74 rfl rfl ?_
  refine zw_iload_n 76 f70_75 rfl rfl ?_
  refine zw_virtual_v 79 0 0 [.ref 11, .int 0] [(0, .ref 11), (1, .int 0)] f70_76 rfl n70_190 k70_190_10 rfl rfl (by decide +kernel) (Nat.le_of_ble_eq_true rfl) rfl rfl (by decide +kernel) (by decide +kernel) rfl (Nat.le_of_ble_eq_true rfl) rfl ?_
  refine zw_aload_n 1 f73_0 rfl rfl ?_
  refine zw_getfield 4 f73_1 rfl g73_12_10 rfl rfl ?_
  refine zw_iload_n 5 f73_4 rfl rfl ?_
  refine zw_virtual_i 8 0 0 [.ref 12, .int 0] [(0, .ref 12), (1, .int 0)] f73_5 rfl n73_51 k73_51_9 rfl rfl (by decide +kernel) (Nat.le_of_ble_eq_true rfl) rfl rfl (by decide +kernel) (by decide +kernel) rfl (Nat.le_of_ble_eq_true rfl) rfl ?_
  refine zw_aload_n 1 f45_0 rfl rfl ?_
  refine zw_getfield 4 f45_1 rfl g45_42_9 rfl rfl ?_
  refine zw_iload_n 5 f45_4 rfl rfl ?_
  refine zw_ishr 0 6 f45_5 rfl (by decide +kernel) ?_
  refine zw_iconst 1 7 f45_6 rfl (by decide +kernel) ?_
  refine zw_iand 0 8 f45_7 rfl (by decide +kernel) ?_
  refine zw_if_eq_t 15 f45_8 (by decide +kernel) (by decide +kernel) ?_
  refine zw_iconst 0 16 f45_15 rfl (by decide +kernel) ?_
  refine zw_zreturn f45_16 r45 u45 (by decide +kernel) ⟨_, rfl, ?_⟩
  refine zw_if_ne_f 11 60 f73_8 (by decide +kernel) rfl (by decide +kernel) ?_
  refine zw_aload_n 12 f73_11 rfl rfl ?_
  refine zw_getfield 15 f73_12 rfl g73_12_10 rfl rfl ?_
  refine zw_getfield 18 f73_15 rfl g73_87_9 rfl rfl ?_
  refine zw_iload_n 19 f73_18 rfl rfl ?_
  refine zw_laload 0 0 20 f73_19 rfl rfl (by decide +kernel) (by decide +kernel) (by decide +kernel) rfl ?_
  refine zw_aload_n 21 f73_20 rfl rfl ?_
  refine zw_getfield 24 f73_21 rfl g73_37_10 rfl rfl ?_
  refine zw_getfield 27 f73_24 rfl g73_139_4 rfl rfl ?_
  refine zw_iload_n 28 f73_27 rfl rfl ?_
  refine zw_iaload 0 b 29 f73_28 rfl rfl (by decide +kernel) (by decide +kernel) (by decide +kernel) rfl ?_
  refine zw_i2l b.toInt64 30 f73_29 rfl rfl ?_
  refine zw_aload_n 31 f73_30 rfl rfl ?_
  refine zw_getfield 34 f73_31 rfl g73_12_10 rfl rfl ?_
  refine zw_getfield 37 f73_34 rfl g73_109_9 rfl rfl ?_
  refine zw_lmul b.toInt64 38 f73_37 rfl (Int64.mul_one _) ?_
  refine zw_lcmp (-1) 39 f73_38 rfl (zl_pos (zl_one h3)).1 ?_
  refine zw_if_lt_t 89 f73_39 (by decide +kernel) (by decide +kernel) ?_
  refine zw_vreturn f73_89 r73 u73 ⟨rfl, ?_⟩
  refine zw_iinc 1 [(1, .int 1), (0, .ref 11)] 82 f70_79 rfl rfl (by decide +kernel) (by decide +kernel) rfl ?_
  refine zw_goto 51 f70_82 (by decide +kernel) ?_
  refine zw_iload_n 52 f70_51 rfl rfl ?_
  refine zw_aload_n 53 f70_52 rfl rfl ?_
  refine zw_getfield 56 f70_53 rfl g70_37_10 rfl rfl ?_
  refine zw_getfield 59 f70_56 rfl g70_80_4 rfl rfl ?_
  refine zw_ic_ge_t 85 f70_59 (by decide +kernel) (by decide +kernel) ?_
  refine zw_iconst 0 86 f70_85 rfl (by decide +kernel) ?_
  refine zw_istore_n [(1, .int 0), (0, .ref 11)] 87 f70_86 rfl (by decide +kernel) rfl ?_
  refine zw_iload_n 88 f70_87 rfl rfl ?_
  refine zw_aload_n 89 f70_88 rfl rfl ?_
  refine zw_getfield 92 f70_89 rfl g70_37_10 rfl rfl ?_
  refine zw_getfield 95 f70_92 rfl g70_80_4 rfl rfl ?_
  refine zw_ic_ge_f 98 109 f70_95 (by decide +kernel) rfl (by decide +kernel) ?_
  refine zw_aload_n 99 f70_98 rfl rfl ?_
  refine zw_iload_n 100 f70_99 rfl rfl ?_
  refine zw_virtual_v 103 0 0 [.ref 11, .int 0] [(0, .ref 11), (1, .int 0)] f70_100 rfl n70_193 k70_193_10 rfl rfl (by decide +kernel) (Nat.le_of_ble_eq_true rfl) rfl rfl (by decide +kernel) (by decide +kernel) rfl (Nat.le_of_ble_eq_true rfl) rfl ?_
  refine zw_aload_n 1 f74_0 rfl rfl ?_
  refine zw_iload_n 2 f74_1 rfl rfl ?_
  refine zw_iconst 1 3 f74_2 rfl (by decide +kernel) ?_
  refine zw_virtual_i 6 0 0 [.ref 11, .int 0, .int 1] [(0, .ref 11), (1, .int 0), (2, .int 1)] f74_3 rfl n74_135 k74_135_10 rfl rfl (by decide +kernel) (Nat.le_of_ble_eq_true rfl) rfl rfl (by decide +kernel) (by decide +kernel) rfl (Nat.le_of_ble_eq_true rfl) rfl ?_
  refine zw_aload_n 1 f56_0 rfl rfl ?_
  refine zw_getfield 4 f56_1 rfl g56_37_10 rfl rfl ?_
  refine zw_iload_n 5 f56_4 rfl rfl ?_
  refine zw_virtual_i 8 0 0 [.ref 1, .int 0] [(0, .ref 1), (1, .int 0)] f56_5 rfl n56_145 k56_145_4 rfl rfl (by decide +kernel) (Nat.le_of_ble_eq_true rfl) rfl rfl (by decide +kernel) (by decide +kernel) rfl (Nat.le_of_ble_eq_true rfl) rfl ?_
  refine zw_iload_n 1 f17_0 rfl rfl ?_
  refine zw_if_lt_f 4 22 f17_1 (by decide +kernel) rfl (by decide +kernel) ?_
  refine zw_iload_n 5 f17_4 rfl rfl ?_
  refine zw_aload_n 6 f17_5 rfl rfl ?_
  refine zw_getfield 9 f17_6 rfl g17_39_4 rfl rfl ?_
  refine zw_ic_ge_f 12 22 f17_9 (by decide +kernel) rfl (by decide +kernel) ?_
  refine zw_iload_n 13 f17_12 rfl rfl ?_
  refine zw_bipush 8 15 f17_13 rfl (by decide +kernel) ?_
  refine zw_ic_ge_f 18 22 f17_15 (by decide +kernel) rfl (by decide +kernel) ?_
  refine zw_iconst 1 19 f17_18 rfl (by decide +kernel) ?_
  refine zw_goto 23 f17_19 (by decide +kernel) ?_
  refine zw_istore_n [(2, .int 1), (0, .ref 1), (1, .int 0)] 24 f17_23 rfl (by decide +kernel) rfl ?_
  refine zw_iload_n 25 f17_24 rfl rfl ?_
  refine zw_if_eq_f 28 52 f17_25 (by decide +kernel) rfl (by decide +kernel) ?_
  refine zw_aload_n 29 f17_28 rfl rfl ?_
  refine zw_getfield 32 f17_29 rfl g17_9_4 rfl rfl ?_
  refine zw_iload_n 33 f17_32 rfl rfl ?_
  refine zw_iaload 0 1 34 f17_33 rfl rfl (by decide +kernel) (by decide +kernel) (by decide +kernel) rfl ?_
  refine zw_iconst 3 35 f17_34 rfl (by decide +kernel) ?_
  refine zw_ic_eq_f 38 48 f17_35 (by decide +kernel) rfl (by decide +kernel) ?_
  refine zw_aload_n 39 f17_38 rfl rfl ?_
  refine zw_getfield 42 f17_39 rfl g17_9_4 rfl rfl ?_
  refine zw_iload_n 43 f17_42 rfl rfl ?_
  refine zw_iaload 0 1 44 f17_43 rfl rfl (by decide +kernel) (by decide +kernel) (by decide +kernel) rfl ?_
  refine zw_iconst 4 45 f17_44 rfl (by decide +kernel) ?_
  refine zw_ic_ne_t 52 f17_45 (by decide +kernel) (by decide +kernel) ?_
  refine zw_iconst 0 53 f17_52 rfl (by decide +kernel) ?_
  refine zw_zreturn f17_53 r17 u17 (by decide +kernel) ⟨_, rfl, ?_⟩
  refine zw_if_eq_t 23 f56_8 (by decide +kernel) (by decide +kernel) ?_
  refine zw_iconst (-1) 24 f56_23 rfl (by decide +kernel) ?_
  refine zw_istore_n [(3, .int (-1)), (0, .ref 11), (1, .int 0), (2, .int 1)] 25 f56_24 rfl (by decide +kernel) rfl ?_
  refine zw_iload_n 26 f56_25 rfl rfl ?_
  refine zw_iconst (-1) 27 f56_26 rfl (by decide +kernel) ?_
  refine zw_ic_eq_t 46 f56_27 (by decide +kernel) (by decide +kernel) ?_
  refine zw_iconst 0 47 f56_46 rfl (by decide +kernel) ?_
  refine zw_zreturn f56_47 r56 u56 (by decide +kernel) ⟨_, rfl, ?_⟩
  refine zw_if_eq_t 79 f74_6 (by decide +kernel) (by decide +kernel) ?_
  refine zw_aload_n 80 f74_79 rfl rfl ?_
  refine zw_iload_n 81 f74_80 rfl rfl ?_
  refine zw_iconst 0 82 f74_81 rfl (by decide +kernel) ?_
  refine zw_virtual_i 85 0 0 [.ref 11, .int 0, .int 0] [(0, .ref 11), (1, .int 0), (2, .int 0)] f74_82 rfl n74_135 k74_135_10 rfl rfl (by decide +kernel) (Nat.le_of_ble_eq_true rfl) rfl rfl (by decide +kernel) (by decide +kernel) rfl (Nat.le_of_ble_eq_true rfl) rfl ?_
  refine zw_aload_n 1 f56_0 rfl rfl ?_
  refine zw_getfield 4 f56_1 rfl g56_37_10 rfl rfl ?_
  refine zw_iload_n 5 f56_4 rfl rfl ?_
  refine zw_virtual_i 8 0 0 [.ref 1, .int 0] [(0, .ref 1), (1, .int 0)] f56_5 rfl n56_145 k56_145_4 rfl rfl (by decide +kernel) (Nat.le_of_ble_eq_true rfl) rfl rfl (by decide +kernel) (by decide +kernel) rfl (Nat.le_of_ble_eq_true rfl) rfl ?_
  refine zw_iload_n 1 f17_0 rfl rfl ?_
  refine zw_if_lt_f 4 22 f17_1 (by decide +kernel) rfl (by decide +kernel) ?_
  refine zw_iload_n 5 f17_4 rfl rfl ?_
  refine zw_aload_n 6 f17_5 rfl rfl ?_
  refine zw_getfield 9 f17_6 rfl g17_39_4 rfl rfl ?_
  refine zw_ic_ge_f 12 22 f17_9 (by decide +kernel) rfl (by decide +kernel) ?_
  refine zw_iload_n 13 f17_12 rfl rfl ?_
  refine zw_bipush 8 15 f17_13 rfl (by decide +kernel) ?_
  refine zw_ic_ge_f 18 22 f17_15 (by decide +kernel) rfl (by decide +kernel) ?_
  refine zw_iconst 1 19 f17_18 rfl (by decide +kernel) ?_
  refine zw_goto 23 f17_19 (by decide +kernel) ?_
  refine zw_istore_n [(2, .int 1), (0, .ref 1), (1, .int 0)] 24 f17_23 rfl (by decide +kernel) rfl ?_
  refine zw_iload_n 25 f17_24 rfl rfl ?_
  refine zw_if_eq_f 28 52 f17_25 (by decide +kernel) rfl (by decide +kernel) ?_
  refine zw_aload_n 29 f17_28 rfl rfl ?_
  refine zw_getfield 32 f17_29 rfl g17_9_4 rfl rfl ?_
  refine zw_iload_n 33 f17_32 rfl rfl ?_
  refine zw_iaload 0 1 34 f17_33 rfl rfl (by decide +kernel) (by decide +kernel) (by decide +kernel) rfl ?_
  refine zw_iconst 3 35 f17_34 rfl (by decide +kernel) ?_
  refine zw_ic_eq_f 38 48 f17_35 (by decide +kernel) rfl (by decide +kernel) ?_
  refine zw_aload_n 39 f17_38 rfl rfl ?_
  refine zw_getfield 42 f17_39 rfl g17_9_4 rfl rfl ?_
  refine zw_iload_n 43 f17_42 rfl rfl ?_
  refine zw_iaload 0 1 44 f17_43 rfl rfl (by decide +kernel) (by decide +kernel) (by decide +kernel) rfl ?_
  refine zw_iconst 4 45 f17_44 rfl (by decide +kernel) ?_
  refine zw_ic_ne_t 52 f17_45 (by decide +kernel) (by decide +kernel) ?_
  refine zw_iconst 0 53 f17_52 rfl (by decide +kernel) ?_
  refine zw_zreturn f17_53 r17 u17 (by decide +kernel) ⟨_, rfl, ?_⟩
  refine zw_if_eq_t 23 f56_8 (by decide +kernel) (by decide +kernel) ?_
  refine zw_iconst (-1) 24 f56_23 rfl (by decide +kernel) ?_
  refine zw_istore_n [(3, .int (-1)), (0, .ref 11), (1, .int 0), (2, .int 0)] 25 f56_24 rfl (by decide +kernel) rfl ?_
  refine zw_iload_n 26 f56_25 rfl rfl ?_
  refine zw_iconst (-1) 27 f56_26 rfl (by decide +kernel) ?_
  refine zw_ic_eq_t 46 f56_27 (by decide +kernel) (by decide +kernel) ?_
  refine zw_iconst 0 47 f56_46 rfl (by decide +kernel) ?_
  refine zw_zreturn f56_47 r56 u56 (by decide +kernel) ⟨_, rfl, ?_⟩
  refine zw_if_eq_t 142 f74_85 (by decide +kernel) (by decide +kernel) ?_
  refine zw_vreturn f74_142 r74 u74 ⟨rfl, ?_⟩
  refine zw_iinc 1 [(1, .int 1), (0, .ref 11)] 106 f70_103 rfl rfl (by decide +kernel) (by decide +kernel) rfl ?_
  refine zw_goto 87 f70_106 (by decide +kernel) ?_
  refine zw_iload_n 88 f70_87 rfl rfl ?_
  refine zw_aload_n 89 f70_88 rfl rfl ?_
  refine zw_getfield 92 f70_89 rfl g70_37_10 rfl rfl ?_
  refine zw_getfield 95 f70_92 rfl g70_80_4 rfl rfl ?_
  refine zw_ic_ge_t 109 f70_95 (by decide +kernel) (by decide +kernel) ?_
  refine zw_aload_n 110 f70_109 rfl rfl ?_
  refine zw_lconst 1 111 f70_110 rfl (by decide +kernel) ?_
  refine zw_lconst 0 112 f70_111 rfl (by decide +kernel) ?_
  refine zw_virtual_i 115 0 0 [.ref 11, .long 1, .long 0] [(0, .ref 11), (1, .long 1), (3, .long 0)] f70_112 rfl n70_164 k70_164_10 rfl rfl (by decide +kernel) (Nat.le_of_ble_eq_true rfl) rfl rfl (by decide +kernel) (by decide +kernel) rfl (Nat.le_of_ble_eq_true rfl) rfl ?_
  refine zw_aload_n 1 f68_0 rfl rfl ?_
  refine zw_getfield 4 f68_1 rfl g68_12_10 rfl rfl ?_
  refine zw_getfield 7 f68_4 rfl g68_109_9 rfl rfl ?_
  refine zw_lload_n 8 f68_7 rfl rfl ?_
  refine zw_lmul 1 9 f68_8 rfl (by decide +kernel) ?_
  refine zw_lstore [(5, .long 1), (0, .ref 11), (1, .long 1), (3, .long 0)] 11 f68_9 rfl (by decide +kernel) rfl ?_
  refine zw_aload_n 12 f68_11 rfl rfl ?_
  refine zw_lload_n 13 f68_12 rfl rfl ?_
  refine zw_lload_n 14 f68_13 rfl rfl ?_
  refine zw_lload 16 f68_14 rfl rfl ?_
  refine zw_virtual_l 19 0 0 [.ref 11, .long 1, .long 0, .long 1] [(0, .ref 11), (1, .long 1), (3, .long 0), (5, .long 1)] f68_16 rfl n68_171 k68_171_10 rfl rfl (by decide +kernel) (Nat.le_of_ble_eq_true rfl) rfl rfl (by decide +kernel) (by decide +kernel) rfl (Nat.le_of_ble_eq_true rfl) rfl ?_
  refine zw_aload_n 1 f69_0 rfl rfl ?_
  refine zw_getfield 4 f69_1 rfl g69_12_10 rfl rfl ?_
  refine zw_getfield 7 f69_4 rfl g69_151_9 rfl rfl ?_
  refine zw_lload_n 8 f69_7 rfl rfl ?_
  refine zw_lmul 0 9 f69_8 rfl (by decide +kernel) ?_
  refine zw_lload_n 10 f69_9 rfl rfl ?_
  refine zw_ladd 0 11 f69_10 rfl (by decide +kernel) ?_
  refine zw_lload 13 f69_11 rfl rfl ?_
  refine zw_static_l 16 0 0 [.long 0, .long 1] [] [(0, .long 0), (2, .long 1)] f69_13 rfl k69_183_99 rfl (by decide +kernel) (Nat.le_of_ble_eq_true rfl) (Nat.le_of_ble_eq_true rfl) rfl rfl (by decide +kernel) (by decide +kernel) rfl (Nat.le_of_ble_eq_true rfl) rfl ?_
  refine zw_lload_n 1 f115_0 rfl rfl ?_
  refine zw_lstore [(4, .long 0), (0, .long 0), (2, .long 1)] 3 f115_1 rfl (by decide +kernel) rfl ?_
  refine zw_lload_n 4 f115_3 rfl rfl ?_
  refine zw_lstore [(6, .long 1), (4, .long 0), (0, .long 0), (2, .long 1)] 6 f115_4 rfl (by decide +kernel) rfl ?_
  refine zw_iconst 0 7 f115_6 rfl (by decide +kernel) ?_
  refine zw_istore [(8, .int 0), (6, .long 1), (4, .long 0), (0, .long 0), (2, .long 1)] 9 f115_7 rfl (by decide +kernel) rfl ?_
  refine zw_iload 11 f115_9 rfl rfl ?_
  refine zw_sipush 200 14 f115_11 rfl (by decide +kernel) ?_
  refine zw_ic_ge_f 17 45 f115_14 (by decide +kernel) rfl (by decide +kernel) ?_
  refine zw_lload 19 f115_17 rfl rfl ?_
  refine zw_lconst 0 20 f115_19 rfl (by decide +kernel) ?_
  refine zw_lcmp 1 21 f115_20 rfl (by decide +kernel) ?_
  refine zw_if_eq_f 24 45 f115_21 (by decide +kernel) rfl (by decide +kernel) ?_
  refine zw_lload 26 f115_24 rfl rfl ?_
  refine zw_lload 28 f115_26 rfl rfl ?_
  refine zw_lrem 0 29 f115_28 rfl (by decide +kernel) (by decide +kernel) ?_
  refine zw_lstore [(9, .long 0), (8, .int 0), (6, .long 1), (4, .long 0), (0, .long 0), (2, .long 1)] 31 f115_29 rfl (by decide +kernel) rfl ?_
  refine zw_lload 33 f115_31 rfl rfl ?_
  refine zw_lstore [(4, .long 1), (9, .long 0), (8, .int 0), (6, .long 1), (0, .long 0), (2, .long 1)] 35 f115_33 rfl (by decide +kernel) rfl ?_
  refine zw_lload 37 f115_35 rfl rfl ?_
  refine zw_lstore [(6, .long 0), (4, .long 1), (9, .long 0), (8, .int 0), (0, .long 0), (2, .long 1)] 39 f115_37 rfl (by decide +kernel) rfl ?_
  refine zw_iinc 1 [(8, .int 1), (6, .long 0), (4, .long 1), (9, .long 0), (0, .long 0), (2, .long 1)] 42 f115_39 rfl rfl (by decide +kernel) (by decide +kernel) rfl ?_
  refine zw_goto 9 f115_42 (by decide +kernel) ?_
  refine zw_iload 11 f115_9 rfl rfl ?_
  refine zw_sipush 200 14 f115_11 rfl (by decide +kernel) ?_
  refine zw_ic_ge_f 17 45 f115_14 (by decide +kernel) rfl (by decide +kernel) ?_
  refine zw_lload 19 f115_17 rfl rfl ?_
  refine zw_lconst 0 20 f115_19 rfl (by decide +kernel) ?_
  refine zw_lcmp 0 21 f115_20 rfl (by decide +kernel) ?_
  refine zw_if_eq_t 45 f115_21 (by decide +kernel) (by decide +kernel) ?_
  refine zw_lload 47 f115_45 rfl rfl ?_
  refine zw_lconst 0 48 f115_47 rfl (by decide +kernel) ?_
  refine zw_lcmp 1 49 f115_48 rfl (by decide +kernel) ?_
  refine zw_if_ne_t 56 f115_49 (by decide +kernel) (by decide +kernel) ?_
  refine zw_lload 58 f115_56 rfl rfl ?_
  refine zw_lreturn f115_58 r115 u115 ⟨_, rfl, ?_⟩
  refine zw_lstore [(7, .long 1), (0, .ref 11), (1, .long 1), (3, .long 0), (5, .long 1)] 18 f69_16 rfl (by decide +kernel) rfl ?_
  refine zw_aload_n 19 f69_18 rfl rfl ?_
  refine zw_getfield 22 f69_19 rfl g69_12_10 rfl rfl ?_
  refine zw_getfield 25 f69_22 rfl g69_177_9 rfl rfl ?_
  refine zw_lload_n 26 f69_25 rfl rfl ?_
  refine zw_lmul 0 27 f69_26 rfl (by decide +kernel) ?_
  refine zw_aload_n 28 f69_27 rfl rfl ?_
  refine zw_getfield 31 f69_28 rfl g69_54_10 rfl rfl ?_
  refine zw_i2l 0 32 f69_31 rfl (by decide +kernel) ?_
  refine zw_lload_n 33 f69_32 rfl rfl ?_
  refine zw_lmul 0 34 f69_33 rfl (by decide +kernel) ?_
  refine zw_ladd 0 35 f69_34 rfl (by decide +kernel) ?_
  refine zw_lload 37 f69_35 rfl rfl ?_
  refine zw_static_l 40 0 0 [.long 0, .long 1] [] [(0, .long 0), (2, .long 1)] f69_37 rfl k69_183_99 rfl (by decide +kernel) (Nat.le_of_ble_eq_true rfl) (Nat.le_of_ble_eq_true rfl) rfl rfl (by decide +kernel) (by decide +kernel) rfl (Nat.le_of_ble_eq_true rfl) rfl ?_
  refine zw_lload_n 1 f115_0 rfl rfl ?_
  refine zw_lstore [(4, .long 0), (0, .long 0), (2, .long 1)] 3 f115_1 rfl (by decide +kernel) rfl ?_
  refine zw_lload_n 4 f115_3 rfl rfl ?_
  refine zw_lstore [(6, .long 1), (4, .long 0), (0, .long 0), (2, .long 1)] 6 f115_4 rfl (by decide +kernel) rfl ?_
  refine zw_iconst 0 7 f115_6 rfl (by decide +kernel) ?_
  refine zw_istore [(8, .int 0), (6, .long 1), (4, .long 0), (0, .long 0), (2, .long 1)] 9 f115_7 rfl (by decide +kernel) rfl ?_
  refine zw_iload 11 f115_9 rfl rfl ?_
  refine zw_sipush 200 14 f115_11 rfl (by decide +kernel) ?_
  refine zw_ic_ge_f 17 45 f115_14 (by decide +kernel) rfl (by decide +kernel) ?_
  refine zw_lload 19 f115_17 rfl rfl ?_
  refine zw_lconst 0 20 f115_19 rfl (by decide +kernel) ?_
  refine zw_lcmp 1 21 f115_20 rfl (by decide +kernel) ?_
  refine zw_if_eq_f 24 45 f115_21 (by decide +kernel) rfl (by decide +kernel) ?_
  refine zw_lload 26 f115_24 rfl rfl ?_
  refine zw_lload 28 f115_26 rfl rfl ?_
  refine zw_lrem 0 29 f115_28 rfl (by decide +kernel) (by decide +kernel) ?_
  refine zw_lstore [(9, .long 0), (8, .int 0), (6, .long 1), (4, .long 0), (0, .long 0), (2, .long 1)] 31 f115_29 rfl (by decide +kernel) rfl ?_
  refine zw_lload 33 f115_31 rfl rfl ?_
  refine zw_lstore [(4, .long 1), (9, .long 0), (8, .int 0), (6, .long 1), (0, .long 0), (2, .long 1)] 35 f115_33 rfl (by decide +kernel) rfl ?_
  refine zw_lload 37 f115_35 rfl rfl ?_
  refine zw_lstore [(6, .long 0), (4, .long 1), (9, .long 0), (8, .int 0), (0, .long 0), (2, .long 1)] 39 f115_37 rfl (by decide +kernel) rfl ?_
  refine zw_iinc 1 [(8, .int 1), (6, .long 0), (4, .long 1), (9, .long 0), (0, .long 0), (2, .long 1)] 42 f115_39 rfl rfl (by decide +kernel) (by decide +kernel) rfl ?_
  refine zw_goto 9 f115_42 (by decide +kernel) ?_
  refine zw_iload 11 f115_9 rfl rfl ?_
  refine zw_sipush 200 14 f115_11 rfl (by decide +kernel) ?_
  refine zw_ic_ge_f 17 45 f115_14 (by decide +kernel) rfl (by decide +kernel) ?_
  refine zw_lload 19 f115_17 rfl rfl ?_
  refine zw_lconst 0 20 f115_19 rfl (by decide +kernel) ?_
  refine zw_lcmp 0 21 f115_20 rfl (by decide +kernel) ?_
  refine zw_if_eq_t 45 f115_21 (by decide +kernel) (by decide +kernel) ?_
  refine zw_lload 47 f115_45 rfl rfl ?_
  refine zw_lconst 0 48 f115_47 rfl (by decide +kernel) ?_
  refine zw_lcmp 1 49 f115_48 rfl (by decide +kernel) ?_
  refine zw_if_ne_t 56 f115_49 (by decide +kernel) (by decide +kernel) ?_
  refine zw_lload 58 f115_56 rfl rfl ?_
  refine zw_lreturn f115_58 r115 u115 ⟨_, rfl, ?_⟩
  refine zw_lstore [(7, .long 1), (0, .ref 11), (1, .long 1), (3, .long 0), (5, .long 1)] 42 f69_40 rfl (by decide +kernel) rfl ?_
  refine zw_aload_n 43 f69_42 rfl rfl ?_
  refine zw_getfield 46 f69_43 rfl g69_12_10 rfl rfl ?_
  refine zw_getfield 49 f69_46 rfl g69_180_9 rfl rfl ?_
  refine zw_lload_n 50 f69_49 rfl rfl ?_
  refine zw_lmul 0 51 f69_50 rfl (by decide +kernel) ?_
  refine zw_aload_n 52 f69_51 rfl rfl ?_
  refine zw_getfield 55 f69_52 rfl g69_58_10 rfl rfl ?_
  refine zw_i2l 0 56 f69_55 rfl (by decide +kernel) ?_
  refine zw_lload_n 57 f69_56 rfl rfl ?_
  refine zw_lmul 0 58 f69_57 rfl (by decide +kernel) ?_
  refine zw_ladd 0 59 f69_58 rfl (by decide +kernel) ?_
  refine zw_lload 61 f69_59 rfl rfl ?_
  refine zw_static_l 64 0 0 [.long 0, .long 1] [] [(0, .long 0), (2, .long 1)] f69_61 rfl k69_183_99 rfl (by decide +kernel) (Nat.le_of_ble_eq_true rfl) (Nat.le_of_ble_eq_true rfl) rfl rfl (by decide +kernel) (by decide +kernel) rfl (Nat.le_of_ble_eq_true rfl) rfl ?_
  refine zw_lload_n 1 f115_0 rfl rfl ?_
  refine zw_lstore [(4, .long 0), (0, .long 0), (2, .long 1)] 3 f115_1 rfl (by decide +kernel) rfl ?_
  refine zw_lload_n 4 f115_3 rfl rfl ?_
  refine zw_lstore [(6, .long 1), (4, .long 0), (0, .long 0), (2, .long 1)] 6 f115_4 rfl (by decide +kernel) rfl ?_
  refine zw_iconst 0 7 f115_6 rfl (by decide +kernel) ?_
  refine zw_istore [(8, .int 0), (6, .long 1), (4, .long 0), (0, .long 0), (2, .long 1)] 9 f115_7 rfl (by decide +kernel) rfl ?_
  refine zw_iload 11 f115_9 rfl rfl ?_
  refine zw_sipush 200 14 f115_11 rfl (by decide +kernel) ?_
  refine zw_ic_ge_f 17 45 f115_14 (by decide +kernel) rfl (by decide +kernel) ?_
  refine zw_lload 19 f115_17 rfl rfl ?_
  refine zw_lconst 0 20 f115_19 rfl (by decide +kernel) ?_
  refine zw_lcmp 1 21 f115_20 rfl (by decide +kernel) ?_
  refine zw_if_eq_f 24 45 f115_21 (by decide +kernel) rfl (by decide +kernel) ?_
  refine zw_lload 26 f115_24 rfl rfl ?_
  refine zw_lload 28 f115_26 rfl rfl ?_
  refine zw_lrem 0 29 f115_28 rfl (by decide +kernel) (by decide +kernel) ?_
  refine zw_lstore [(9, .long 0), (8, .int 0), (6, .long 1), (4, .long 0), (0, .long 0), (2, .long 1)] 31 f115_29 rfl (by decide +kernel) rfl ?_
  refine zw_lload 33 f115_31 rfl rfl ?_
  refine zw_lstore [(4, .long 1), (9, .long 0), (8, .int 0), (6, .long 1), (0, .long 0), (2, .long 1)] 35 f115_33 rfl (by decide +kernel) rfl ?_
  refine zw_lload 37 f115_35 rfl rfl ?_
  refine zw_lstore [(6, .long 0), (4, .long 1), (9, .long 0), (8, .int 0), (0, .long 0), (2, .long 1)] 39 f115_37 rfl (by decide +kernel) rfl ?_
  refine zw_iinc 1 [(8, .int 1), (6, .long 0), (4, .long 1), (9, .long 0), (0, .long 0), (2, .long 1)] 42 f115_39 rfl rfl (by decide +kernel) (by decide +kernel) rfl ?_
  refine zw_goto 9 f115_42 (by decide +kernel) ?_
  refine zw_iload 11 f115_9 rfl rfl ?_
  refine zw_sipush 200 14 f115_11 rfl (by decide +kernel) ?_
  refine zw_ic_ge_f 17 45 f115_14 (by decide +kernel) rfl (by decide +kernel) ?_
  refine zw_lload 19 f115_17 rfl rfl ?_
  refine zw_lconst 0 20 f115_19 rfl (by decide +kernel) ?_
  refine zw_lcmp 0 21 f115_20 rfl (by decide +kernel) ?_
  refine zw_if_eq_t 45 f115_21 (by decide +kernel) (by decide +kernel) ?_
  refine zw_lload 47 f115_45 rfl rfl ?_
  refine zw_lconst 0 48 f115_47 rfl (by decide +kernel) ?_
  refine zw_lcmp 1 49 f115_48 rfl (by decide +kernel) ?_
  refine zw_if_ne_t 56 f115_49 (by decide +kernel) (by decide +kernel) ?_
  refine zw_lload 58 f115_56 rfl rfl ?_
  refine zw_lreturn f115_58 r115 u115 ⟨_, rfl, ?_⟩
  refine zw_lstore [(7, .long 1), (0, .ref 11), (1, .long 1), (3, .long 0), (5, .long 1)] 66 f69_64 rfl (by decide +kernel) rfl ?_
  refine zw_iconst 0 67 f69_66 rfl (by decide +kernel) ?_
  refine zw_istore [(9, .int 0), (7, .long 1), (0, .ref 11), (1, .long 1), (3, .long 0), (5, .long 1)] 69 f69_67 rfl (by decide +kernel) rfl ?_
  refine zw_iload 71 f69_69 rfl rfl ?_
  refine zw_aload_n 72 f69_71 rfl rfl ?_
  refine zw_getfield 75 f69_72 rfl g69_37_10 rfl rfl ?_
  refine zw_getfield 78 f69_75 rfl g69_80_4 rfl rfl ?_
  refine zw_ic_ge_f 81 124 f69_78 (by decide +kernel) rfl (by decide +kernel) ?_
  refine zw_lload 83 f69_81 rfl rfl ?_
  refine zw_lconst 1 84 f69_83 rfl (by decide +kernel) ?_
  refine zw_lcmp 0 85 f69_84 rfl (by decide +kernel) ?_
  refine zw_if_le_t 124 f69_85 (by decide +kernel) (by decide +kernel) ?_
  refine zw_lload 126 f69_124 rfl rfl ?_
  refine zw_lreturn f69_126 r69 u69 ⟨_, rfl, ?_⟩
  refine zw_lstore [(7, .long 1), (5, .long 1), (0, .ref 11), (1, .long 1), (3, .long 0)] 21 f68_19 rfl (by decide +kernel) rfl ?_
  refine zw_lload 23 f68_21 rfl rfl ?_
  refine zw_lconst 0 24 f68_23 rfl (by decide +kernel) ?_
  refine zw_lcmp 1 25 f68_24 rfl (by decide +kernel) ?_
  refine zw_if_eq_f 28 40 f68_25 (by decide +kernel) rfl (by decide +kernel) ?_
  refine zw_lload 30 f68_28 rfl rfl ?_
  refine zw_lload 32 f68_30 rfl rfl ?_
  refine zw_ldiv 1 33 f68_32 rfl (by decide +kernel) (by decide +kernel) ?_
  refine zw_ldc2_w 10000 36 f68_33 rfl (by decide +kernel) ?_
  refine zw_lcmp (-1) 37 f68_36 rfl (by decide +kernel) ?_
  refine zw_if_le_t 42 f68_37 (by decide +kernel) (by decide +kernel) ?_
  refine zw_aload_n 43 f68_42 rfl rfl ?_
  refine zw_getfield 46 f68_43 rfl g68_12_10 rfl rfl ?_
  refine zw_lload 48 f68_46 rfl rfl ?_
  refine zw_lload 50 f68_48 rfl rfl ?_
  refine zw_ldiv 1 51 f68_50 rfl (by decide +kernel) (by decide +kernel) ?_
  refine zw_putfieldS 54 f68_51 rfl g68_109_9 rfl rfl rfl (by decide +kernel) ?_
  refine zw_aload_n 55 f68_54 rfl rfl ?_
  refine zw_getfield 58 f68_55 rfl g68_12_10 rfl rfl ?_
  refine zw_aload_n 59 f68_58 rfl rfl ?_
  refine zw_getfield 62 f68_59 rfl g68_12_10 rfl rfl ?_
  refine zw_getfield 65 f68_62 rfl g68_151_9 rfl rfl ?_
  refine zw_lload_n 66 f68_65 rfl rfl ?_
  refine zw_lmul 0 67 f68_66 rfl (by decide +kernel) ?_
  refine zw_lload_n 68 f68_67 rfl rfl ?_
  refine zw_ladd 0 69 f68_68 rfl (by decide +kernel) ?_
  refine zw_lload 71 f68_69 rfl rfl ?_
  refine zw_ldiv 0 72 f68_71 rfl (by decide +kernel) (by decide +kernel) ?_
  refine zw_putfieldS 75 f68_72 rfl g68_151_9 rfl rfl rfl (by decide +kernel) ?_
  refine zw_aload_n 76 f68_75 rfl rfl ?_
  refine zw_getfield 79 f68_76 rfl g68_12_10 rfl rfl ?_
  refine zw_aload_n 80 f68_79 rfl rfl ?_
  refine zw_getfield 83 f68_80 rfl g68_12_10 rfl rfl ?_
  refine zw_getfield 86 f68_83 rfl g68_177_9 rfl rfl ?_
  refine zw_lload_n 87 f68_86 rfl rfl ?_
  refine zw_lmul 0 88 f68_87 rfl (by decide +kernel) ?_
  refine zw_aload_n 89 f68_88 rfl rfl ?_
  refine zw_getfield 92 f68_89 rfl g68_54_10 rfl rfl ?_
  refine zw_i2l 0 93 f68_92 rfl (by decide +kernel) ?_
  refine zw_lload_n 94 f68_93 rfl rfl ?_
  refine zw_lmul 0 95 f68_94 rfl (by decide +kernel) ?_
  refine zw_ladd 0 96 f68_95 rfl (by decide +kernel) ?_
  refine zw_lload 98 f68_96 rfl rfl ?_
  refine zw_ldiv 0 99 f68_98 rfl (by decide +kernel) (by decide +kernel) ?_
  refine zw_putfieldS 102 f68_99 rfl g68_177_9 rfl rfl rfl (by decide +kernel) ?_
  refine zw_aload_n 103 f68_102 rfl rfl ?_
  refine zw_getfield 106 f68_103 rfl g68_12_10 rfl rfl ?_
  refine zw_aload_n 107 f68_106 rfl rfl ?_
  refine zw_getfield 110 f68_107 rfl g68_12_10 rfl rfl ?_
  refine zw_getfield 113 f68_110 rfl g68_180_9 rfl rfl ?_
  refine zw_lload_n 114 f68_113 rfl rfl ?_
  refine zw_lmul 0 115 f68_114 rfl (by decide +kernel) ?_
  refine zw_aload_n 116 f68_115 rfl rfl ?_
  refine zw_getfield 119 f68_116 rfl g68_58_10 rfl rfl ?_
  refine zw_i2l 0 120 f68_119 rfl (by decide +kernel) ?_
  refine zw_lload_n 121 f68_120 rfl rfl ?_
  refine zw_lmul 0 122 f68_121 rfl (by decide +kernel) ?_
  refine zw_ladd 0 123 f68_122 rfl (by decide +kernel) ?_
  refine zw_lload 125 f68_123 rfl rfl ?_
  refine zw_ldiv 0 126 f68_125 rfl (by decide +kernel) (by decide +kernel) ?_
  refine zw_putfieldS 129 f68_126 rfl g68_180_9 rfl rfl rfl (by decide +kernel) ?_
  refine zw_iconst 0 130 f68_129 rfl (by decide +kernel) ?_
  refine zw_istore [(9, .int 0), (7, .long 1), (5, .long 1), (0, .ref 11), (1, .long 1), (3, .long 0)] 132 f68_130 rfl (by decide +kernel) rfl ?_
  refine zw_iload 134 f68_132 rfl rfl ?_
  refine zw_aload_n 135 f68_134 rfl rfl ?_
  refine zw_getfield 138 f68_135 rfl g68_37_10 rfl rfl ?_
  refine zw_getfield 141 f68_138 rfl g68_80_4 rfl rfl ?_
  refine zw_ic_ge_f 144 186 f68_141 (by decide +kernel) rfl (by decide +kernel) ?_
  refine zw_aload_n 145 f68_144 rfl rfl ?_
  refine zw_getfield 148 f68_145 rfl g68_12_10 rfl rfl ?_
  refine zw_getfield 151 f68_148 rfl g68_87_9 rfl rfl ?_
  refine zw_iload 153 f68_151 rfl rfl ?_
  refine zw_aload_n 154 f68_153 rfl rfl ?_
  refine zw_getfield 157 f68_154 rfl g68_12_10 rfl rfl ?_
  refine zw_getfield 160 f68_157 rfl g68_87_9 rfl rfl ?_
  refine zw_iload 162 f68_160 rfl rfl ?_
  refine zw_laload 0 0 163 f68_162 rfl rfl (by decide +kernel) (by decide +kernel) (by decide +kernel) rfl ?_
  refine zw_lload_n 164 f68_163 rfl rfl ?_
  refine zw_lmul 0 165 f68_164 rfl (by decide +kernel) ?_
  refine zw_aload_n 166 f68_165 rfl rfl ?_
  refine zw_getfield 169 f68_166 rfl g68_22_10 rfl rfl ?_
  refine zw_iload 171 f68_169 rfl rfl ?_
  refine zw_iaload 0 0 172 f68_171 rfl rfl (by decide +kernel) (by decide +kernel) (by decide +kernel) rfl ?_
  refine zw_i2l 0 173 f68_172 rfl (by decide +kernel) ?_
  refine zw_lload_n 174 f68_173 rfl rfl ?_
  refine zw_lmul 0 175 f68_174 rfl (by decide +kernel) ?_
  refine zw_ladd 0 176 f68_175 rfl (by decide +kernel) ?_
  refine zw_lload 178 f68_176 rfl rfl ?_
  refine zw_ldiv 0 179 f68_178 rfl (by decide +kernel) (by decide +kernel) ?_
  refine zw_lastoreS 0 180 f68_179 rfl rfl (by decide +kernel) (by decide +kernel) (by decide +kernel) rfl ?_
  refine zw_iinc 1 [(9, .int 1), (7, .long 1), (5, .long 1), (0, .ref 11), (1, .long 1), (3, .long 0)] 183 f68_180 rfl rfl (by decide +kernel) (by decide +kernel) rfl ?_
  refine zw_goto 132 f68_183 (by decide +kernel) ?_
  refine zw_iload 134 f68_132 rfl rfl ?_
  refine zw_aload_n 135 f68_134 rfl rfl ?_
  refine zw_getfield 138 f68_135 rfl g68_37_10 rfl rfl ?_
  refine zw_getfield 141 f68_138 rfl g68_80_4 rfl rfl ?_
  refine zw_ic_ge_t 186 f68_141 (by decide +kernel) (by decide +kernel) ?_
  refine zw_iconst 1 187 f68_186 rfl (by decide +kernel) ?_
  refine zw_zreturn f68_187 r68 u68 (by decide +kernel) ⟨_, rfl, ?_⟩
  refine zw_pop 116 f70_115 rfl rfl ?_
  refine zw_vreturn f70_116 r70 u70 ⟨rfl, ?_⟩
  refine zw_aload_n 8 f107_7 rfl rfl ?_
  refine zw_getfield 11 f107_8 rfl g107_31_11 rfl rfl ?_
  refine zw_aload_n 12 f107_11 rfl rfl ?_
  refine zw_getfield 15 f107_12 rfl g107_21_11 rfl rfl ?_
  refine zw_virtual_v 18 0 0 [.ref 33, .ref 11] [(0, .ref 33), (1, .ref 11)] f107_15 rfl n107_187 k107_187_3 rfl rfl (by decide +kernel) (Nat.le_of_ble_eq_true rfl) rfl rfl (by decide +kernel) (by decide +kernel) rfl (Nat.le_of_ble_eq_true rfl) rfl ?_
  refine zw_iconst 0 1 f10_0 rfl (by decide +kernel) ?_
  refine zw_istore_n [(2, .int 0), (0, .ref 33), (1, .ref 11)] 2 f10_1 rfl (by decide +kernel) rfl ?_
  refine zw_iload_n 3 f10_2 rfl rfl ?_
  refine zw_aload_n 4 f10_3 rfl rfl ?_
  refine zw_getfield 7 f10_4 rfl g10_24_10 rfl rfl ?_
  refine zw_ic_ge_t 126 f10_7 (by decide +kernel) (by decide +kernel) ?_
  refine zw_vreturn f10_126 r10 u10 ⟨rfl, ?_⟩
  refine zw_aload_n 19 f107_18 rfl rfl ?_
  refine zw_iload_n 20 f107_19 rfl rfl ?_
  refine zw_virtual_i 23 0 0 [.ref 0, .int 0] [(0, .ref 0), (1, .int 0)] f107_20 rfl n107_181 k107_181_11 rfl rfl (by decide +kernel) (Nat.le_of_ble_eq_true rfl) rfl rfl (by decide +kernel) (by decide +kernel) rfl (Nat.le_of_ble_eq_true rfl) rfl ?_
  refine zw_aload_n 1 f106_0 rfl rfl ?_
  refine zw_iconst 0 2 f106_1 rfl (by decide +kernel) ?_
  refine zw_putfieldS 5 f106_2 rfl g106_70_11 rfl rfl rfl (by decide +kernel) ?_
  refine zw_iload_n 6 f106_5 rfl rfl ?_
  refine zw_ireturn f106_6 r106 u106 ⟨_, rfl, ?_⟩
  refine zw_ireturn f107_23 r107 u107 ⟨_, rfl, ?_⟩
  refine zw_ireturn f78_54 r78 u78 ?_
  exact ⟨rfl, by repeat (first | exact zMF_0 | refine zMF_set (by decide) ?_)⟩
set_option maxRecDepth 100000 in
set_option maxHeartbeats 0 in
theorem x_vessel_k2 (ro : UInt32 → Nat × (Nat → Int32)) (b : Int32) (h3 : ¬ b < 1) (h4 : ¬ 200 < b) : zWp ro 78 0 [(0, .ref 0), (1, .int 2), (2, .int b)] [] hF 0 0 (fun r h1 => r = some (.int 0) ∧ zMF h1) := by
  refine zw_iload_n 1 f78_0 rfl rfl ?_
  refine zw_iconst 0 2 f78_1 rfl (by decide +kernel) ?_
  refine zw_iconst 4 3 f78_2 rfl (by decide +kernel) ?_
  refine zw_static_i 6 0 0 [.int 2, .int 0, .int 4] [] [(0, .int 2), (1, .int 0), (2, .int 4)] f78_3 rfl k78_74_99 rfl (by decide +kernel) (Nat.le_of_ble_eq_true rfl) (Nat.le_of_ble_eq_true rfl) rfl rfl (by decide +kernel) (by decide +kernel) rfl (Nat.le_of_ble_eq_true rfl) rfl ?_
  refine zw_iload_n 1 f112_0 rfl rfl ?_
  refine zw_iload_n 2 f112_1 rfl rfl ?_
  refine zw_ic_lt_f 5 14 f112_2 (by decide +kernel) rfl (by decide +kernel) ?_
  refine zw_iload_n 6 f112_5 rfl rfl ?_
  refine zw_iload_n 7 f112_6 rfl rfl ?_
  refine zw_ic_gt_f 10 14 f112_7 (by decide +kernel) rfl (by decide +kernel) ?_
  refine zw_iconst 1 11 f112_10 rfl (by decide +kernel) ?_
  refine zw_goto 15 f112_11 (by decide +kernel) ?_
  refine zw_zreturn f112_15 r112 u112 (by decide +kernel) ⟨_, rfl, ?_⟩
  refine zw_if_eq_f 9 20 f78_6 (by decide +kernel) rfl (by decide +kernel) ?_
  refine zw_iload_n 10 f78_9 rfl rfl ?_
  refine zw_iconst 1 11 f78_10 rfl (by decide +kernel) ?_
  refine zw_sipush 200 14 f78_11 rfl (by decide +kernel) ?_
  refine zw_static_i 17 0 0 [.int b, .int 1, .int 200] [] [(0, .int b), (1, .int 1), (2, .int 200)] f78_14 rfl k78_74_99 rfl (by decide +kernel) (Nat.le_of_ble_eq_true rfl) (Nat.le_of_ble_eq_true rfl) rfl rfl (by decide +kernel) (by decide +kernel) rfl (Nat.le_of_ble_eq_true rfl) rfl ?_
  refine zw_iload_n 1 f112_0 rfl rfl ?_
  refine zw_iload_n 2 f112_1 rfl rfl ?_
  refine zw_ic_lt_f 5 14 f112_2 (by decide +kernel) rfl h3 ?_
  refine zw_iload_n 6 f112_5 rfl rfl ?_
  refine zw_iload_n 7 f112_6 rfl rfl ?_
  refine zw_ic_gt_f 10 14 f112_7 (by decide +kernel) rfl h4 ?_
  refine zw_iconst 1 11 f112_10 rfl (by decide +kernel) ?_
  refine zw_goto 15 f112_11 (by decide +kernel) ?_
  refine zw_zreturn f112_15 r112 u112 (by decide +kernel) ⟨_, rfl, ?_⟩
  refine zw_if_ne_t 26 f78_17 (by decide +kernel) (by decide +kernel) ?_
  refine zw_aload_n 27 f78_26 rfl rfl ?_
  refine zw_getfield 30 f78_27 rfl g78_10_11 rfl rfl ?_
  refine zw_iload_n 31 f78_30 rfl rfl ?_
  refine zw_iload_n 32 f78_31 rfl rfl ?_
  refine zw_virtual_i 35 0 0 [.ref 1, .int 2, .int b] [(0, .ref 1), (1, .int 2), (2, .int b)] f78_32 rfl n78_82 k78_82_4 rfl rfl (by decide +kernel) (Nat.le_of_ble_eq_true rfl) rfl rfl (by decide +kernel) (by decide +kernel) rfl (Nat.le_of_ble_eq_true rfl) rfl ?_
  refine zw_aload_n 1 f20_0 rfl rfl ?_
  refine zw_getfield 4 f20_1 rfl g20_39_4 rfl rfl ?_
  refine zw_istore_n [(3, .int 0), (0, .ref 1), (1, .int 2), (2, .int b)] 5 f20_4 rfl (by decide +kernel) rfl ?_
  refine zw_iload_n 6 f20_5 rfl rfl ?_
  refine zw_bipush 8 8 f20_6 rfl (by decide +kernel) ?_
  refine zw_ic_lt_t 13 f20_8 (by decide +kernel) (by decide +kernel) ?_
  refine zw_aload_n 14 f20_13 rfl rfl ?_
  refine zw_getfield 17 f20_14 rfl g20_9_4 rfl rfl ?_
  refine zw_iload_n 18 f20_17 rfl rfl ?_
  refine zw_iload_n 19 f20_18 rfl rfl ?_
  refine zw_iastore 0 20 f20_19 rfl rfl (by decide +kernel) (by decide +kernel) (by decide +kernel) ?_
  refine zw_aload_n 21 f20_20 rfl rfl ?_
  refine zw_getfield 24 f20_21 rfl g20_15_4 rfl rfl ?_
  refine zw_iload_n 25 f20_24 rfl rfl ?_
  refine zw_iload_n 26 f20_25 rfl rfl ?_
  refine zw_iastore 0 27 f20_26 rfl rfl (by decide +kernel) (by decide +kernel) (by decide +kernel) ?_
  refine zw_aload_n 28 f20_27 rfl rfl ?_
  refine zw_getfield 31 f20_28 rfl g20_18_4 rfl rfl ?_
  refine zw_iload_n 32 f20_31 rfl rfl ?_
  refine zw_iload_n 33 f20_32 rfl rfl ?_
  refine zw_if_eq_f 36 41 f20_33 (by decide +kernel) rfl (by decide +kernel) ?_
  refine zw_iload_n 37 f20_36 rfl rfl ?_
  refine zw_iconst 2 38 f20_37 rfl (by decide +kernel) ?_
  refine zw_ic_ne_f 41 45 f20_38 (by decide +kernel) rfl (by decide +kernel) ?_
  refine zw_iconst 0 42 f20_41 rfl (by decide +kernel) ?_
  refine zw_goto 46 f20_42 (by decide +kernel) ?_
  refine zw_iastoreS 0 47 f20_46 rfl rfl (by decide +kernel) (by decide +kernel) (by decide +kernel) rfl ?_
  refine zw_aload_n 48 f20_47 rfl rfl ?_
  refine zw_getfield 51 f20_48 rfl g20_21_4 rfl rfl ?_
  refine zw_iload_n 52 f20_51 rfl rfl ?_
  refine zw_iconst 0 53 f20_52 rfl (by decide +kernel) ?_
  refine zw_iastoreS 0 54 f20_53 rfl rfl (by decide +kernel) (by decide +kernel) (by decide +kernel) rfl ?_
  refine zw_aload_n 55 f20_54 rfl rfl ?_
  refine zw_getfield 58 f20_55 rfl g20_24_4 rfl rfl ?_
  refine zw_iload_n 59 f20_58 rfl rfl ?_
  refine zw_iconst (-1) 60 f20_59 rfl (by decide +kernel) ?_
  refine zw_iastore 0 61 f20_60 rfl rfl (by decide +kernel) (by decide +kernel) (by decide +kernel) ?_
  refine zw_aload_n 62 f20_61 rfl rfl ?_
  refine zw_getfield 65 f20_62 rfl g20_27_4 rfl rfl ?_
  refine zw_iload_n 66 f20_65 rfl rfl ?_
  refine zw_iconst (-1) 67 f20_66 rfl (by decide +kernel) ?_
  refine zw_iastore 0 68 f20_67 rfl rfl (by decide +kernel) (by decide +kernel) (by decide +kernel) ?_
  refine zw_aload_n 69 f20_68 rfl rfl ?_
  refine zw_getfield 72 f20_69 rfl g20_30_4 rfl rfl ?_
  refine zw_iload_n 73 f20_72 rfl rfl ?_
  refine zw_iconst (-1) 74 f20_73 rfl (by decide +kernel) ?_
  refine zw_iastore 0 75 f20_74 rfl rfl (by decide +kernel) (by decide +kernel) (by decide +kernel) ?_
  refine zw_aload_n 76 f20_75 rfl rfl ?_
  refine zw_iload_n 77 f20_76 rfl rfl ?_
  refine zw_iconst 1 78 f20_77 rfl (by decide +kernel) ?_
  refine zw_iadd 1 79 f20_78 rfl (by decide +kernel) ?_
  refine zw_putfield 82 f20_79 rfl g20_39_4 rfl rfl (Nat.le_of_ble_eq_true rfl) (by decide +kernel) ?_
  refine zw_iload_n 83 f20_82 rfl rfl ?_
  refine zw_ireturn f20_83 r20 u20 ⟨_, rfl, ?_⟩
  refine zw_istore_n [(3, .int 0), (0, .ref 0), (1, .int 2), (2, .int b)] 36 f78_35 rfl (by decide +kernel) rfl ?_
  refine zw_iload_n 37 f78_36 rfl rfl ?_
  refine zw_iconst (-1) 38 f78_37 rfl (by decide +kernel) ?_
  refine zw_ic_ne_t 49 f78_38 (by decide +kernel) (by decide +kernel) ?_
  refine zw_aload_n 50 f78_49 rfl rfl ?_
  refine zw_iload_n 51 f78_50 rfl rfl ?_
  refine zw_virtual_i 54 0 0 [.ref 0, .int 0] [(0, .ref 0), (1, .int 0)] f78_51 rfl n78_86 k78_86_11 rfl rfl (by decide +kernel) (Nat.le_of_ble_eq_true rfl) rfl rfl (by decide +kernel) (by decide +kernel) rfl (Nat.le_of_ble_eq_true rfl) rfl ?_
  refine zw_aload_n 1 f107_0 rfl rfl ?_
  refine zw_getfield 4 f107_1 rfl g107_21_11 rfl rfl ?_
  refine zw_virtual_v 7 0 0 [.ref 11] [(0, .ref 11)] f107_4 rfl n107_318 k107_318_10 rfl rfl (by decide +kernel) (Nat.le_of_ble_eq_true rfl) rfl rfl (by decide +kernel) (by decide +kernel) rfl (Nat.le_of_ble_eq_true rfl) rfl ?_
  refine zw_aload_n 1 f70_0 rfl rfl ?_
  refine zw_iconst 0 2 f70_1 rfl (by decide +kernel) ?_
  refine zw_putfieldS 5 f70_2 rfl g70_161_10 rfl rfl rfl (by decide +kernel) ?_
  refine zw_iconst 0 6 f70_5 rfl (by decide +kernel) ?_
  refine zw_istore_n [(1, .int 0), (0, .ref 11)] 7 f70_6 rfl (by decide +kernel) rfl ?_
  refine zw_iload_n 8 f70_7 rfl rfl ?_
  refine zw_aload_n 9 f70_8 rfl rfl ?_
  refine zw_getfield 12 f70_9 rfl g70_37_10 rfl rfl ?_
  refine zw_getfield 15 f70_12 rfl g70_80_4 rfl rfl ?_
  refine zw_ic_ge_f 18 49 f70_15 (by decide +kernel) rfl (by decide +kernel) ?_
  refine zw_aload_n 19 f70_18 rfl rfl ?_
  refine zw_getfield 22 f70_19 rfl g70_37_10 rfl rfl ?_
  refine zw_iload_n 23 f70_22 rfl rfl ?_
  refine zw_virtual_i 26 0 0 [.ref 1, .int 0] [(0, .ref 1), (1, .int 0)] f70_23 rfl n70_132 k70_132_4 rfl rfl (by decide +kernel) (Nat.le_of_ble_eq_true rfl) rfl rfl (by decide +kernel) (by decide +kernel) rfl (Nat.le_of_ble_eq_true rfl) rfl ?_
  refine zw_iload_n 1 f15_0 rfl rfl ?_
  refine zw_if_lt_f 4 27 f15_1 (by decide +kernel) rfl (by decide +kernel) ?_
  refine zw_iload_n 5 f15_4 rfl rfl ?_
  refine zw_aload_n 6 f15_5 rfl rfl ?_
  refine zw_getfield 9 f15_6 rfl g15_39_4 rfl rfl ?_
  refine zw_ic_ge_f 12 27 f15_9 (by decide +kernel) rfl (by decide +kernel) ?_
  refine zw_iload_n 13 f15_12 rfl rfl ?_
  refine zw_bipush 8 15 f15_13 rfl (by decide +kernel) ?_
  refine zw_ic_ge_f 18 27 f15_15 (by decide +kernel) rfl (by decide +kernel) ?_
  refine zw_aload_n 19 f15_18 rfl rfl ?_
  refine zw_getfield 22 f15_19 rfl g15_9_4 rfl rfl ?_
  refine zw_iload_n 23 f15_22 rfl rfl ?_
  refine zw_iaload 0 2 24 f15_23 rfl rfl (by decide +kernel) (by decide +kernel) (by decide +kernel) rfl ?_
  refine zw_goto 28 f15_24 (by decide +kernel) ?_
  refine zw_ireturn f15_28 r15 u15 ⟨_, rfl, ?_⟩
  refine zw_iconst 2 27 f70_26 rfl (by decide +kernel) ?_
  refine zw_ic_ne_f 30 43 f70_27 (by decide +kernel) rfl (by decide +kernel) ?_
  refine zw_aload_n 31 f70_30 rfl rfl ?_
  refine zw_iload_n 32 f70_31 rfl rfl ?_
  refine zw_virtual_i 35 0 0 [.ref 11, .int 0] [(0, .ref 11), (1, .int 0)] f70_32 rfl n70_97 k70_97_10 rfl rfl (by decide +kernel) (Nat.le_of_ble_eq_true rfl) rfl rfl (by decide +kernel) (by decide +kernel) rfl (Nat.le_of_ble_eq_true rfl) rfl ?_
  refine zw_aload_n 1 f52_0 rfl rfl ?_
  refine zw_getfield 4 f52_1 rfl g52_12_10 rfl rfl ?_
  refine zw_getfield 7 f52_4 rfl g52_87_9 rfl rfl ?_
  refine zw_iload_n 8 f52_7 rfl rfl ?_
  refine zw_laload 0 0 9 f52_8 rfl rfl (by decide +kernel) (by decide +kernel) (by decide +kernel) rfl ?_
  refine zw_aload_n 10 f52_9 rfl rfl ?_
  refine zw_getfield 13 f52_10 rfl g52_37_10 rfl rfl ?_
  refine zw_getfield 16 f52_13 rfl g52_106_4 rfl rfl ?_
  refine zw_iload_n 17 f52_16 rfl rfl ?_
  refine zw_iaload 0 b 18 f52_17 rfl rfl (by decide +kernel) (by decide +kernel) (by decide +kernel) rfl ?_
  refine zw_i2l b.toInt64 19 f52_18 rfl rfl ?_
  refine zw_aload_n 20 f52_19 rfl rfl ?_
  refine zw_getfield 23 f52_20 rfl g52_12_10 rfl rfl ?_
  refine zw_getfield 26 f52_23 rfl g52_109_9 rfl rfl ?_
  refine zw_lmul b.toInt64 27 f52_26 rfl (Int64.mul_one _) ?_
  refine zw_lcmp (-1) 28 f52_27 rfl (zl_pos (zl_one h3)).1 ?_
  refine zw_if_lt_t 35 f52_28 (by decide +kernel) (by decide +kernel) ?_
  refine zw_iconst 0 36 f52_35 rfl (by decide +kernel) ?_
  refine zw_zreturn f52_36 r52 u52 (by decide +kernel) ⟨_, rfl, ?_⟩
  refine zw_if_eq_t 43 f70_35 (by decide +kernel) (by decide +kernel) ?_
  refine zw_iinc 1 [(1, .int 1), (0, .ref 11)] 46 f70_43 rfl rfl (by decide +kernel) (by decide +kernel) rfl ?_
  refine zw_goto 7 f70_46 (by decide +kernel) ?_
  refine zw_iload_n 8 f70_7 rfl rfl ?_
  refine zw_aload_n 9 f70_8 rfl rfl ?_
  refine zw_getfield 12 f70_9 rfl g70_37_10 rfl rfl ?_
  refine zw_getfield 15 f70_12 rfl g70_80_4 rfl rfl ?_
  refine zw_ic_ge_t 49 f70_15 (by decide +kernel) (by decide +kernel) ?_
  refine zw_iconst 0 50 f70_49 rfl (by decide +kernel) ?_
  refine zw_istore_n [(1, .int 0), (0, .ref 11)] 51 f70_50 rfl (by decide +kernel) rfl ?_
  refine zw_iload_n 52 f70_51 rfl rfl ?_
  refine zw_aload_n 53 f70_52 rfl rfl ?_
  refine zw_getfield 56 f70_53 rfl g70_37_10 rfl rfl ?_
  refine zw_getfield 59 f70_56 rfl g70_80_4 rfl rfl ?_
  refine zw_ic_ge_f 62 85 f70_59 (by decide +kernel) rfl (by decide +kernel) ?_
  refine zw_aload_n 63 f70_62 rfl rfl ?_
  refine zw_getfield 66 f70_63 rfl g70_37_10 rfl rfl ?_
  refine zw_iload_n 67 f70_66 rfl rfl ?_
  refine zw_virtual_i 70 0 0 [.ref 1, .int 0] [(0, .ref 1), (1, .int 0)] f70_67 rfl n70_132 k70_132_4 rfl rfl (by decide +kernel) (Nat.le_of_ble_eq_true rfl) rfl rfl (by decide +kernel) (by decide +kernel) rfl (Nat.le_of_ble_eq_true rfl) rfl ?_
  refine zw_iload_n 1 f15_0 rfl rfl ?_
  refine zw_if_lt_f 4 27 f15_1 (by decide +kernel) rfl (by decide +kernel) ?_
  refine zw_iload_n 5 f15_4 rfl rfl ?_
  refine zw_aload_n 6 f15_5 rfl rfl ?_
  refine zw_getfield 9 f15_6 rfl g15_39_4 rfl rfl ?_
  refine zw_ic_ge_f 12 27 f15_9 (by decide +kernel) rfl (by decide +kernel) ?_
  refine zw_iload_n 13 f15_12 rfl rfl ?_
  refine zw_bipush 8 15 f15_13 rfl (by decide +kernel) ?_
  refine zw_ic_ge_f 18 27 f15_15 (by decide +kernel) rfl (by decide +kernel) ?_
  refine zw_aload_n 19 f15_18 rfl rfl ?_
  refine zw_getfield 22 f15_19 rfl g15_9_4 rfl rfl ?_
  refine zw_iload_n 23 f15_22 rfl rfl ?_
  refine zw_iaload 0 2 24 f15_23 rfl rfl (by decide +kernel) (by decide +kernel) (by decide +kernel) rfl ?_
  refine zw_goto 28 f15_24 (by decide +kernel) ?_
  refine zw_ireturn f15_28 r15 u15 ⟨_, rfl, ?_⟩
  refine zw_iconst 1 71 f70_70 rfl (by decide +kernel) ?_
  refine zw_ic_ne_t 79 f70_71 (by decide +kernel) (by decide +kernel) ?_
  refine zw_iinc 1 [(1, .int 1), (0, .ref 11)] 82 f70_79 rfl rfl (by decide +kernel) (by decide +kernel) rfl ?_
  refine zw_goto 51 f70_82 (by decide +kernel) ?_
  refine zw_iload_n 52 f70_51 rfl rfl ?_
  refine zw_aload_n 53 f70_52 rfl rfl ?_
  refine zw_getfield 56 f70_53 rfl g70_37_10 rfl rfl ?_
  refine zw_getfield 59 f70_56 rfl g70_80_4 rfl rfl ?_
  refine zw_ic_ge_t 85 f70_59 (by decide +kernel) (by decide +kernel) ?_
  refine zw_iconst 0 86 f70_85 rfl (by decide +kernel) ?_
  refine zw_istore_n [(1, .int 0), (0, .ref 11)] 87 f70_86 rfl (by decide +kernel) rfl ?_
  refine zw_iload_n 88 f70_87 rfl rfl ?_
  refine zw_aload_n 89 f70_88 rfl rfl ?_
  refine zw_getfield 92 f70_89 rfl g70_37_10 rfl rfl ?_
  refine zw_getfield 95 f70_92 rfl g70_80_4 rfl rfl ?_
  refine zw_ic_ge_f 98 109 f70_95 (by decide +kernel) rfl (by decide +kernel) ?_
  refine zw_aload_n 99 f70_98 rfl rfl ?_
  refine zw_iload_n 100 f70_99 rfl rfl ?_
  refine zw_virtual_v 103 0 0 [.ref 11, .int 0] [(0, .ref 11), (1, .int 0)] f70_100 rfl n70_193 k70_193_10 rfl rfl (by decide +kernel) (Nat.le_of_ble_eq_true rfl) rfl rfl (by decide +kernel) (by decide +kernel) rfl (Nat.le_of_ble_eq_true rfl) rfl ?_
  refine zw_aload_n 1 f74_0 rfl rfl ?_
  refine zw_iload_n 2 f74_1 rfl rfl ?_
  refine zw_iconst 1 3 f74_2 rfl (by decide +kernel) ?_
  refine zw_virtual_i 6 0 0 [.ref 11, .int 0, .int 1] [(0, .ref 11), (1, .int 0), (2, .int 1)] f74_3 rfl n74_135 k74_135_10 rfl rfl (by decide +kernel) (Nat.le_of_ble_eq_true rfl) rfl rfl (by decide +kernel) (by decide +kernel) rfl (Nat.le_of_ble_eq_true rfl) rfl ?_
  refine zw_aload_n 1 f56_0 rfl rfl ?_
  refine zw_getfield 4 f56_1 rfl g56_37_10 rfl rfl ?_
  refine zw_iload_n 5 f56_4 rfl rfl ?_
  refine zw_virtual_i 8 0 0 [.ref 1, .int 0] [(0, .ref 1), (1, .int 0)] f56_5 rfl n56_145 k56_145_4 rfl rfl (by decide +kernel) (Nat.le_of_ble_eq_true rfl) rfl rfl (by decide +kernel) (by decide +kernel) rfl (Nat.le_of_ble_eq_true rfl) rfl ?_
  refine zw_iload_n 1 f17_0 rfl rfl ?_
  refine zw_if_lt_f 4 22 f17_1 (by decide +kernel) rfl (by decide +kernel) ?_
  refine zw_iload_n 5 f17_4 rfl rfl ?_
  refine zw_aload_n 6 f17_5 rfl rfl ?_
  refine zw_getfield 9 f17_6 rfl g17_39_4 rfl rfl ?_
  refine zw_ic_ge_f 12 22 f17_9 (by decide +kernel) rfl (by decide +kernel) ?_
  refine zw_iload_n 13 f17_12 rfl rfl ?_
  refine zw_bipush 8 15 f17_13 rfl (by decide +kernel) ?_
  refine zw_ic_ge_f 18 22 f17_15 (by decide +kernel) rfl (by decide +kernel) ?_
  refine zw_iconst 1 19 f17_18 rfl (by decide +kernel) ?_
  refine zw_goto 23 f17_19 (by decide +kernel) ?_
  refine zw_istore_n [(2, .int 1), (0, .ref 1), (1, .int 0)] 24 f17_23 rfl (by decide +kernel) rfl ?_
  refine zw_iload_n 25 f17_24 rfl rfl ?_
  refine zw_if_eq_f 28 52 f17_25 (by decide +kernel) rfl (by decide +kernel) ?_
  refine zw_aload_n 29 f17_28 rfl rfl ?_
  refine zw_getfield 32 f17_29 rfl g17_9_4 rfl rfl ?_
  refine zw_iload_n 33 f17_32 rfl rfl ?_
  refine zw_iaload 0 2 34 f17_33 rfl rfl (by decide +kernel) (by decide +kernel) (by decide +kernel) rfl ?_
  refine zw_iconst 3 35 f17_34 rfl (by decide +kernel) ?_
  refine zw_ic_eq_f 38 48 f17_35 (by decide +kernel) rfl (by decide +kernel) ?_
  refine zw_aload_n 39 f17_38 rfl rfl ?_
  refine zw_getfield 42 f17_39 rfl g17_9_4 rfl rfl ?_
  refine zw_iload_n 43 f17_42 rfl rfl ?_
  refine zw_iaload 0 2 44 f17_43 rfl rfl (by decide +kernel) (by decide +kernel) (by decide +kernel) rfl ?_
  refine zw_iconst 4 45 f17_44 rfl (by decide +kernel) ?_
  refine zw_ic_ne_t 52 f17_45 (by decide +kernel) (by decide +kernel) ?_
  refine zw_iconst 0 53 f17_52 rfl (by decide +kernel) ?_
  refine zw_zreturn f17_53 r17 u17 (by decide +kernel) ⟨_, rfl, ?_⟩
  refine zw_if_eq_t 23 f56_8 (by decide +kernel) (by decide +kernel) ?_
  refine zw_iconst (-1) 24 f56_23 rfl (by decide +kernel) ?_
  refine zw_istore_n [(3, .int (-1)), (0, .ref 11), (1, .int 0), (2, .int 1)] 25 f56_24 rfl (by decide +kernel) rfl ?_
  refine zw_iload_n 26 f56_25 rfl rfl ?_
  refine zw_iconst (-1) 27 f56_26 rfl (by decide +kernel) ?_
  refine zw_ic_eq_t 46 f56_27 (by decide +kernel) (by decide +kernel) ?_
  refine zw_iconst 0 47 f56_46 rfl (by decide +kernel) ?_
  refine zw_zreturn f56_47 r56 u56 (by decide +kernel) ⟨_, rfl, ?_⟩
  refine zw_if_eq_t 79 f74_6 (by decide +kernel) (by decide +kernel) ?_
  refine zw_aload_n 80 f74_79 rfl rfl ?_
  refine zw_iload_n 81 f74_80 rfl rfl ?_
  refine zw_iconst 0 82 f74_81 rfl (by decide +kernel) ?_
  refine zw_virtual_i 85 0 0 [.ref 11, .int 0, .int 0] [(0, .ref 11), (1, .int 0), (2, .int 0)] f74_82 rfl n74_135 k74_135_10 rfl rfl (by decide +kernel) (Nat.le_of_ble_eq_true rfl) rfl rfl (by decide +kernel) (by decide +kernel) rfl (Nat.le_of_ble_eq_true rfl) rfl ?_
  refine zw_aload_n 1 f56_0 rfl rfl ?_
  refine zw_getfield 4 f56_1 rfl g56_37_10 rfl rfl ?_
  refine zw_iload_n 5 f56_4 rfl rfl ?_
  refine zw_virtual_i 8 0 0 [.ref 1, .int 0] [(0, .ref 1), (1, .int 0)] f56_5 rfl n56_145 k56_145_4 rfl rfl (by decide +kernel) (Nat.le_of_ble_eq_true rfl) rfl rfl (by decide +kernel) (by decide +kernel) rfl (Nat.le_of_ble_eq_true rfl) rfl ?_
  refine zw_iload_n 1 f17_0 rfl rfl ?_
  refine zw_if_lt_f 4 22 f17_1 (by decide +kernel) rfl (by decide +kernel) ?_
  refine zw_iload_n 5 f17_4 rfl rfl ?_
  refine zw_aload_n 6 f17_5 rfl rfl ?_
  refine zw_getfield 9 f17_6 rfl g17_39_4 rfl rfl ?_
  refine zw_ic_ge_f 12 22 f17_9 (by decide +kernel) rfl (by decide +kernel) ?_
  refine zw_iload_n 13 f17_12 rfl rfl ?_
  refine zw_bipush 8 15 f17_13 rfl (by decide +kernel) ?_
  refine zw_ic_ge_f 18 22 f17_15 (by decide +kernel) rfl (by decide +kernel) ?_
  refine zw_iconst 1 19 f17_18 rfl (by decide +kernel) ?_
  refine zw_goto 23 f17_19 (by decide +kernel) ?_
  refine zw_istore_n [(2, .int 1), (0, .ref 1), (1, .int 0)] 24 f17_23 rfl (by decide +kernel) rfl ?_
  refine zw_iload_n 25 f17_24 rfl rfl ?_
  refine zw_if_eq_f 28 52 f17_25 (by decide +kernel) rfl (by decide +kernel) ?_
  refine zw_aload_n 29 f17_28 rfl rfl ?_
  refine zw_getfield 32 f17_29 rfl g17_9_4 rfl rfl ?_
  refine zw_iload_n 33 f17_32 rfl rfl ?_
  refine zw_iaload 0 2 34 f17_33 rfl rfl (by decide +kernel) (by decide +kernel) (by decide +kernel) rfl ?_
  refine zw_iconst 3 35 f17_34 rfl (by decide +kernel) ?_
  refine zw_ic_eq_f 38 48 f17_35 (by decide +kernel) rfl (by decide +kernel) ?_
  refine zw_aload_n 39 f17_38 rfl rfl ?_
  refine zw_getfield 42 f17_39 rfl g17_9_4 rfl rfl ?_
  refine zw_iload_n 43 f17_42 rfl rfl ?_
  refine zw_iaload 0 2 44 f17_43 rfl rfl (by decide +kernel) (by decide +kernel) (by decide +kernel) rfl ?_
  refine zw_iconst 4 45 f17_44 rfl (by decide +kernel) ?_
  refine zw_ic_ne_t 52 f17_45 (by decide +kernel) (by decide +kernel) ?_
  refine zw_iconst 0 53 f17_52 rfl (by decide +kernel) ?_
  refine zw_zreturn f17_53 r17 u17 (by decide +kernel) ⟨_, rfl, ?_⟩
  refine zw_if_eq_t 23 f56_8 (by decide +kernel) (by decide +kernel) ?_
  refine zw_iconst (-1) 24 f56_23 rfl (by decide +kernel) ?_
  refine zw_istore_n [(3, .int (-1)), (0, .ref 11), (1, .int 0), (2, .int 0)] 25 f56_24 rfl (by decide +kernel) rfl ?_
  refine zw_iload_n 26 f56_25 rfl rfl ?_
  refine zw_iconst (-1) 27 f56_26 rfl (by decide +kernel) ?_
  refine zw_ic_eq_t 46 f56_27 (by decide +kernel) (by decide +kernel) ?_
  refine zw_iconst 0 47 f56_46 rfl (by decide +kernel) ?_
  refine zw_zreturn f56_47 r56 u56 (by decide +kernel) ⟨_, rfl, ?_⟩
  refine zw_if_eq_t 142 f74_85 (by decide +kernel) (by decide +kernel) ?_
  refine zw_vreturn f74_142 r74 u74 ⟨rfl, ?_⟩
  refine zw_iinc 1 [(1, .int 1), (0, .ref 11)] 106 f70_103 rfl rfl (by decide +kernel) (by decide +kernel) rfl ?_
  refine zw_goto 87 f70_106 (by decide +kernel) ?_
  refine zw_iload_n 88 f70_87 rfl rfl ?_
  refine zw_aload_n 89 f70_88 rfl rfl ?_
  refine zw_getfield 92 f70_89 rfl g70_37_10 rfl rfl ?_
  refine zw_getfield 95 f70_92 rfl g70_80_4 rfl rfl ?_
  refine zw_ic_ge_t 109 f70_95 (by decide +kernel) (by decide +kernel) ?_
  refine zw_aload_n 110 f70_109 rfl rfl ?_
  refine zw_lconst 1 111 f70_110 rfl (by decide +kernel) ?_
  refine zw_lconst 0 112 f70_111 rfl (by decide +kernel) ?_
  refine zw_virtual_i 115 0 0 [.ref 11, .long 1, .long 0] [(0, .ref 11), (1, .long 1), (3, .long 0)] f70_112 rfl n70_164 k70_164_10 rfl rfl (by decide +kernel) (Nat.le_of_ble_eq_true rfl) rfl rfl (by decide +kernel) (by decide +kernel) rfl (Nat.le_of_ble_eq_true rfl) rfl ?_
  refine zw_aload_n 1 f68_0 rfl rfl ?_
  refine zw_getfield 4 f68_1 rfl g68_12_10 rfl rfl ?_
  refine zw_getfield 7 f68_4 rfl g68_109_9 rfl rfl ?_
  refine zw_lload_n 8 f68_7 rfl rfl ?_
  refine zw_lmul 1 9 f68_8 rfl (by decide +kernel) ?_
  refine zw_lstore [(5, .long 1), (0, .ref 11), (1, .long 1), (3, .long 0)] 11 f68_9 rfl (by decide +kernel) rfl ?_
  refine zw_aload_n 12 f68_11 rfl rfl ?_
  refine zw_lload_n 13 f68_12 rfl rfl ?_
  refine zw_lload_n 14 f68_13 rfl rfl ?_
  refine zw_lload 16 f68_14 rfl rfl ?_
  refine zw_virtual_l 19 0 0 [.ref 11, .long 1, .long 0, .long 1] [(0, .ref 11), (1, .long 1), (3, .long 0), (5, .long 1)] f68_16 rfl n68_171 k68_171_10 rfl rfl (by decide +kernel) (Nat.le_of_ble_eq_true rfl) rfl rfl (by decide +kernel) (by decide +kernel) rfl (Nat.le_of_ble_eq_true rfl) rfl ?_
  refine zw_aload_n 1 f69_0 rfl rfl ?_
  refine zw_getfield 4 f69_1 rfl g69_12_10 rfl rfl ?_
  refine zw_getfield 7 f69_4 rfl g69_151_9 rfl rfl ?_
  refine zw_lload_n 8 f69_7 rfl rfl ?_
  refine zw_lmul 0 9 f69_8 rfl (by decide +kernel) ?_
  refine zw_lload_n 10 f69_9 rfl rfl ?_
  refine zw_ladd 0 11 f69_10 rfl (by decide +kernel) ?_
  refine zw_lload 13 f69_11 rfl rfl ?_
  refine zw_static_l 16 0 0 [.long 0, .long 1] [] [(0, .long 0), (2, .long 1)] f69_13 rfl k69_183_99 rfl (by decide +kernel) (Nat.le_of_ble_eq_true rfl) (Nat.le_of_ble_eq_true rfl) rfl rfl (by decide +kernel) (by decide +kernel) rfl (Nat.le_of_ble_eq_true rfl) rfl ?_
  refine zw_lload_n 1 f115_0 rfl rfl ?_
  refine zw_lstore [(4, .long 0), (0, .long 0), (2, .long 1)] 3 f115_1 rfl (by decide +kernel) rfl ?_
  refine zw_lload_n 4 f115_3 rfl rfl ?_
  refine zw_lstore [(6, .long 1), (4, .long 0), (0, .long 0), (2, .long 1)] 6 f115_4 rfl (by decide +kernel) rfl ?_
  refine zw_iconst 0 7 f115_6 rfl (by decide +kernel) ?_
  refine zw_istore [(8, .int 0), (6, .long 1), (4, .long 0), (0, .long 0), (2, .long 1)] 9 f115_7 rfl (by decide +kernel) rfl ?_
  refine zw_iload 11 f115_9 rfl rfl ?_
  refine zw_sipush 200 14 f115_11 rfl (by decide +kernel) ?_
  refine zw_ic_ge_f 17 45 f115_14 (by decide +kernel) rfl (by decide +kernel) ?_
  refine zw_lload 19 f115_17 rfl rfl ?_
  refine zw_lconst 0 20 f115_19 rfl (by decide +kernel) ?_
  refine zw_lcmp 1 21 f115_20 rfl (by decide +kernel) ?_
  refine zw_if_eq_f 24 45 f115_21 (by decide +kernel) rfl (by decide +kernel) ?_
  refine zw_lload 26 f115_24 rfl rfl ?_
  refine zw_lload 28 f115_26 rfl rfl ?_
  refine zw_lrem 0 29 f115_28 rfl (by decide +kernel) (by decide +kernel) ?_
  refine zw_lstore [(9, .long 0), (8, .int 0), (6, .long 1), (4, .long 0), (0, .long 0), (2, .long 1)] 31 f115_29 rfl (by decide +kernel) rfl ?_
  refine zw_lload 33 f115_31 rfl rfl ?_
  refine zw_lstore [(4, .long 1), (9, .long 0), (8, .int 0), (6, .long 1), (0, .long 0), (2, .long 1)] 35 f115_33 rfl (by decide +kernel) rfl ?_
  refine zw_lload 37 f115_35 rfl rfl ?_
  refine zw_lstore [(6, .long 0), (4, .long 1), (9, .long 0), (8, .int 0), (0, .long 0), (2, .long 1)] 39 f115_37 rfl (by decide +kernel) rfl ?_
  refine zw_iinc 1 [(8, .int 1), (6, .long 0), (4, .long 1), (9, .long 0), (0, .long 0), (2, .long 1)] 42 f115_39 rfl rfl (by decide +kernel) (by decide +kernel) rfl ?_
  refine zw_goto 9 f115_42 (by decide +kernel) ?_
  refine zw_iload 11 f115_9 rfl rfl ?_
  refine zw_sipush 200 14 f115_11 rfl (by decide +kernel) ?_
  refine zw_ic_ge_f 17 45 f115_14 (by decide +kernel) rfl (by decide +kernel) ?_
  refine zw_lload 19 f115_17 rfl rfl ?_
  refine zw_lconst 0 20 f115_19 rfl (by decide +kernel) ?_
  refine zw_lcmp 0 21 f115_20 rfl (by decide +kernel) ?_
  refine zw_if_eq_t 45 f115_21 (by decide +kernel) (by decide +kernel) ?_
  refine zw_lload 47 f115_45 rfl rfl ?_
  refine zw_lconst 0 48 f115_47 rfl (by decide +kernel) ?_
  refine zw_lcmp 1 49 f115_48 rfl (by decide +kernel) ?_
  refine zw_if_ne_t 56 f115_49 (by decide +kernel) (by decide +kernel) ?_
  refine zw_lload 58 f115_56 rfl rfl ?_
  refine zw_lreturn f115_58 r115 u115 ⟨_, rfl, ?_⟩
  refine zw_lstore [(7, .long 1), (0, .ref 11), (1, .long 1), (3, .long 0), (5, .long 1)] 18 f69_16 rfl (by decide +kernel) rfl ?_
  refine zw_aload_n 19 f69_18 rfl rfl ?_
  refine zw_getfield 22 f69_19 rfl g69_12_10 rfl rfl ?_
  refine zw_getfield 25 f69_22 rfl g69_177_9 rfl rfl ?_
  refine zw_lload_n 26 f69_25 rfl rfl ?_
  refine zw_lmul 0 27 f69_26 rfl (by decide +kernel) ?_
  refine zw_aload_n 28 f69_27 rfl rfl ?_
  refine zw_getfield 31 f69_28 rfl g69_54_10 rfl rfl ?_
  refine zw_i2l 0 32 f69_31 rfl (by decide +kernel) ?_
  refine zw_lload_n 33 f69_32 rfl rfl ?_
  refine zw_lmul 0 34 f69_33 rfl (by decide +kernel) ?_
  refine zw_ladd 0 35 f69_34 rfl (by decide +kernel) ?_
  refine zw_lload 37 f69_35 rfl rfl ?_
  refine zw_static_l 40 0 0 [.long 0, .long 1] [] [(0, .long 0), (2, .long 1)] f69_37 rfl k69_183_99 rfl (by decide +kernel) (Nat.le_of_ble_eq_true rfl) (Nat.le_of_ble_eq_true rfl) rfl rfl (by decide +kernel) (by decide +kernel) rfl (Nat.le_of_ble_eq_true rfl) rfl ?_
  refine zw_lload_n 1 f115_0 rfl rfl ?_
  refine zw_lstore [(4, .long 0), (0, .long 0), (2, .long 1)] 3 f115_1 rfl (by decide +kernel) rfl ?_
  refine zw_lload_n 4 f115_3 rfl rfl ?_
  refine zw_lstore [(6, .long 1), (4, .long 0), (0, .long 0), (2, .long 1)] 6 f115_4 rfl (by decide +kernel) rfl ?_
  refine zw_iconst 0 7 f115_6 rfl (by decide +kernel) ?_
  refine zw_istore [(8, .int 0), (6, .long 1), (4, .long 0), (0, .long 0), (2, .long 1)] 9 f115_7 rfl (by decide +kernel) rfl ?_
  refine zw_iload 11 f115_9 rfl rfl ?_
  refine zw_sipush 200 14 f115_11 rfl (by decide +kernel) ?_
  refine zw_ic_ge_f 17 45 f115_14 (by decide +kernel) rfl (by decide +kernel) ?_
  refine zw_lload 19 f115_17 rfl rfl ?_
  refine zw_lconst 0 20 f115_19 rfl (by decide +kernel) ?_
  refine zw_lcmp 1 21 f115_20 rfl (by decide +kernel) ?_
  refine zw_if_eq_f 24 45 f115_21 (by decide +kernel) rfl (by decide +kernel) ?_
  refine zw_lload 26 f115_24 rfl rfl ?_
  refine zw_lload 28 f115_26 rfl rfl ?_
  refine zw_lrem 0 29 f115_28 rfl (by decide +kernel) (by decide +kernel) ?_
  refine zw_lstore [(9, .long 0), (8, .int 0), (6, .long 1), (4, .long 0), (0, .long 0), (2, .long 1)] 31 f115_29 rfl (by decide +kernel) rfl ?_
  refine zw_lload 33 f115_31 rfl rfl ?_
  refine zw_lstore [(4, .long 1), (9, .long 0), (8, .int 0), (6, .long 1), (0, .long 0), (2, .long 1)] 35 f115_33 rfl (by decide +kernel) rfl ?_
  refine zw_lload 37 f115_35 rfl rfl ?_
  refine zw_lstore [(6, .long 0), (4, .long 1), (9, .long 0), (8, .int 0), (0, .long 0), (2, .long 1)] 39 f115_37 rfl (by decide +kernel) rfl ?_
  refine zw_iinc 1 [(8, .int 1), (6, .long 0), (4, .long 1), (9, .long 0), (0, .long 0), (2, .long 1)] 42 f115_39 rfl rfl (by decide +kernel) (by decide +kernel) rfl ?_
  refine zw_goto 9 f115_42 (by decide +kernel) ?_
  refine zw_iload 11 f115_9 rfl rfl ?_
  refine zw_sipush 200 14 f115_11 rfl (by decide +kernel) ?_
  refine zw_ic_ge_f 17 45 f115_14 (by decide +kernel) rfl (by decide +kernel) ?_
  refine zw_lload 19 f115_17 rfl rfl ?_
  refine zw_lconst 0 20 f115_19 rfl (by decide +kernel) ?_
  refine zw_lcmp 0 21 f115_20 rfl (by decide +kernel) ?_
  refine zw_if_eq_t 45 f115_21 (by decide +kernel) (by decide +kernel) ?_
  refine zw_lload 47 f115_45 rfl rfl ?_
  refine zw_lconst 0 48 f115_47 rfl (by decide +kernel) ?_
  refine zw_lcmp 1 49 f115_48 rfl (by decide +kernel) ?_
  refine zw_if_ne_t 56 f115_49 (by decide +kernel) (by decide +kernel) ?_
  refine zw_lload 58 f115_56 rfl rfl ?_
  refine zw_lreturn f115_58 r115 u115 ⟨_, rfl, ?_⟩
  refine zw_lstore [(7, .long 1), (0, .ref 11), (1, .long 1), (3, .long 0), (5, .long 1)] 42 f69_40 rfl (by decide +kernel) rfl ?_
  refine zw_aload_n 43 f69_42 rfl rfl ?_
  refine zw_getfield 46 f69_43 rfl g69_12_10 rfl rfl ?_
  refine zw_getfield 49 f69_46 rfl g69_180_9 rfl rfl ?_
  refine zw_lload_n 50 f69_49 rfl rfl ?_
  refine zw_lmul 0 51 f69_50 rfl (by decide +kernel) ?_
  refine zw_aload_n 52 f69_51 rfl rfl ?_
  refine zw_getfield 55 f69_52 rfl g69_58_10 rfl rfl ?_
  refine zw_i2l 0 56 f69_55 rfl (by decide +kernel) ?_
  refine zw_lload_n 57 f69_56 rfl rfl ?_
  refine zw_lmul 0 58 f69_57 rfl (by decide +kernel) ?_
  refine zw_ladd 0 59 f69_58 rfl (by decide +kernel) ?_
  refine zw_lload 61 f69_59 rfl rfl ?_
  refine zw_static_l 64 0 0 [.long 0, .long 1] [] [(0, .long 0), (2, .long 1)] f69_61 rfl k69_183_99 rfl (by decide +kernel) (Nat.le_of_ble_eq_true rfl) (Nat.le_of_ble_eq_true rfl) rfl rfl (by decide +kernel) (by decide +kernel) rfl (Nat.le_of_ble_eq_true rfl) rfl ?_
  refine zw_lload_n 1 f115_0 rfl rfl ?_
  refine zw_lstore [(4, .long 0), (0, .long 0), (2, .long 1)] 3 f115_1 rfl (by decide +kernel) rfl ?_
  refine zw_lload_n 4 f115_3 rfl rfl ?_
  refine zw_lstore [(6, .long 1), (4, .long 0), (0, .long 0), (2, .long 1)] 6 f115_4 rfl (by decide +kernel) rfl ?_
  refine zw_iconst 0 7 f115_6 rfl (by decide +kernel) ?_
  refine zw_istore [(8, .int 0), (6, .long 1), (4, .long 0), (0, .long 0), (2, .long 1)] 9 f115_7 rfl (by decide +kernel) rfl ?_
  refine zw_iload 11 f115_9 rfl rfl ?_
  refine zw_sipush 200 14 f115_11 rfl (by decide +kernel) ?_
  refine zw_ic_ge_f 17 45 f115_14 (by decide +kernel) rfl (by decide +kernel) ?_
  refine zw_lload 19 f115_17 rfl rfl ?_
  refine zw_lconst 0 20 f115_19 rfl (by decide +kernel) ?_
  refine zw_lcmp 1 21 f115_20 rfl (by decide +kernel) ?_
  refine zw_if_eq_f 24 45 f115_21 (by decide +kernel) rfl (by decide +kernel) ?_
  refine zw_lload 26 f115_24 rfl rfl ?_
  refine zw_lload 28 f115_26 rfl rfl ?_
  refine zw_lrem 0 29 f115_28 rfl (by decide +kernel) (by decide +kernel) ?_
  refine zw_lstore [(9, .long 0), (8, .int 0), (6, .long 1), (4, .long 0), (0, .long 0), (2, .long 1)] 31 f115_29 rfl (by decide +kernel) rfl ?_
  refine zw_lload 33 f115_31 rfl rfl ?_
  refine zw_lstore [(4, .long 1), (9, .long 0), (8, .int 0), (6, .long 1), (0, .long 0), (2, .long 1)] 35 f115_33 rfl (by decide +kernel) rfl ?_
  refine zw_lload 37 f115_35 rfl rfl ?_
  refine zw_lstore [(6, .long 0), (4, .long 1), (9, .long 0), (8, .int 0), (0, .long 0), (2, .long 1)] 39 f115_37 rfl (by decide +kernel) rfl ?_
  refine zw_iinc 1 [(8, .int 1), (6, .long 0), (4, .long 1), (9, .long 0), (0, .long 0), (2, .long 1)] 42 f115_39 rfl rfl (by decide +kernel) (by decide +kernel) rfl ?_
  refine zw_goto 9 f115_42 (by decide +kernel) ?_
  refine zw_iload 11 f115_9 rfl rfl ?_
  refine zw_sipush 200 14 f115_11 rfl (by decide +kernel) ?_
  refine zw_ic_ge_f 17 45 f115_14 (by decide +kernel) rfl (by decide +kernel) ?_
  refine zw_lload 19 f115_17 rfl rfl ?_
  refine zw_lconst 0 20 f115_19 rfl (by decide +kernel) ?_
  refine zw_lcmp 0 21 f115_20 rfl (by decide +kernel) ?_
  refine zw_if_eq_t 45 f115_21 (by decide +kernel) (by decide +kernel) ?_
  refine zw_lload 47 f115_45 rfl rfl ?_
  refine zw_lconst 0 48 f115_47 rfl (by decide +kernel) ?_
  refine zw_lcmp 1 49 f115_48 rfl (by decide +kernel) ?_
  refine zw_if_ne_t 56 f115_49 (by decide +kernel) (by decide +kernel) ?_
  refine zw_lload 58 f115_56 rfl rfl ?_
  refine zw_lreturn f115_58 r115 u115 ⟨_, rfl, ?_⟩
  refine zw_lstore [(7, .long 1), (0, .ref 11), (1, .long 1), (3, .long 0), (5, .long 1)] 66 f69_64 rfl (by decide +kernel) rfl ?_
  refine zw_iconst 0 67 f69_66 rfl (by decide +kernel) ?_
  refine zw_istore [(9, .int 0), (7, .long 1), (0, .ref 11), (1, .long 1), (3, .long 0), (5, .long 1)] 69 f69_67 rfl (by decide +kernel) rfl ?_
  refine zw_iload 71 f69_69 rfl rfl ?_
  refine zw_aload_n 72 f69_71 rfl rfl ?_
  refine zw_getfield 75 f69_72 rfl g69_37_10 rfl rfl ?_
  refine zw_getfield 78 f69_75 rfl g69_80_4 rfl rfl ?_
  refine zw_ic_ge_f 81 124 f69_78 (by decide +kernel) rfl (by decide +kernel) ?_
  refine zw_lload 83 f69_81 rfl rfl ?_
  refine zw_lconst 1 84 f69_83 rfl (by decide +kernel) ?_
  refine zw_lcmp 0 85 f69_84 rfl (by decide +kernel) ?_
  refine zw_if_le_t 124 f69_85 (by decide +kernel) (by decide +kernel) ?_
  refine zw_lload 126 f69_124 rfl rfl ?_
  refine zw_lreturn f69_126 r69 u69 ⟨_, rfl, ?_⟩
  refine zw_lstore [(7, .long 1), (5, .long 1), (0, .ref 11), (1, .long 1), (3, .long 0)] 21 f68_19 rfl (by decide +kernel) rfl ?_
  refine zw_lload 23 f68_21 rfl rfl ?_
  refine zw_lconst 0 24 f68_23 rfl (by decide +kernel) ?_
  refine zw_lcmp 1 25 f68_24 rfl (by decide +kernel) ?_
  refine zw_if_eq_f 28 40 f68_25 (by decide +kernel) rfl (by decide +kernel) ?_
  refine zw_lload 30 f68_28 rfl rfl ?_
  refine zw_lload 32 f68_30 rfl rfl ?_
  refine zw_ldiv 1 33 f68_32 rfl (by decide +kernel) (by decide +kernel) ?_
  refine zw_ldc2_w 10000 36 f68_33 rfl (by decide +kernel) ?_
  refine zw_lcmp (-1) 37 f68_36 rfl (by decide +kernel) ?_
  refine zw_if_le_t 42 f68_37 (by decide +kernel) (by decide +kernel) ?_
  refine zw_aload_n 43 f68_42 rfl rfl ?_
  refine zw_getfield 46 f68_43 rfl g68_12_10 rfl rfl ?_
  refine zw_lload 48 f68_46 rfl rfl ?_
  refine zw_lload 50 f68_48 rfl rfl ?_
  refine zw_ldiv 1 51 f68_50 rfl (by decide +kernel) (by decide +kernel) ?_
  refine zw_putfieldS 54 f68_51 rfl g68_109_9 rfl rfl rfl (by decide +kernel) ?_
  refine zw_aload_n 55 f68_54 rfl rfl ?_
  refine zw_getfield 58 f68_55 rfl g68_12_10 rfl rfl ?_
  refine zw_aload_n 59 f68_58 rfl rfl ?_
  refine zw_getfield 62 f68_59 rfl g68_12_10 rfl rfl ?_
  refine zw_getfield 65 f68_62 rfl g68_151_9 rfl rfl ?_
  refine zw_lload_n 66 f68_65 rfl rfl ?_
  refine zw_lmul 0 67 f68_66 rfl (by decide +kernel) ?_
  refine zw_lload_n 68 f68_67 rfl rfl ?_
  refine zw_ladd 0 69 f68_68 rfl (by decide +kernel) ?_
  refine zw_lload 71 f68_69 rfl rfl ?_
  refine zw_ldiv 0 72 f68_71 rfl (by decide +kernel) (by decide +kernel) ?_
  refine zw_putfieldS 75 f68_72 rfl g68_151_9 rfl rfl rfl (by decide +kernel) ?_
  refine zw_aload_n 76 f68_75 rfl rfl ?_
  refine zw_getfield 79 f68_76 rfl g68_12_10 rfl rfl ?_
  refine zw_aload_n 80 f68_79 rfl rfl ?_
  refine zw_getfield 83 f68_80 rfl g68_12_10 rfl rfl ?_
  refine zw_getfield 86 f68_83 rfl g68_177_9 rfl rfl ?_
  refine zw_lload_n 87 f68_86 rfl rfl ?_
  refine zw_lmul 0 88 f68_87 rfl (by decide +kernel) ?_
  refine zw_aload_n 89 f68_88 rfl rfl ?_
  refine zw_getfield 92 f68_89 rfl g68_54_10 rfl rfl ?_
  refine zw_i2l 0 93 f68_92 rfl (by decide +kernel) ?_
  refine zw_lload_n 94 f68_93 rfl rfl ?_
  refine zw_lmul 0 95 f68_94 rfl (by decide +kernel) ?_
  refine zw_ladd 0 96 f68_95 rfl (by decide +kernel) ?_
  refine zw_lload 98 f68_96 rfl rfl ?_
  refine zw_ldiv 0 99 f68_98 rfl (by decide +kernel) (by decide +kernel) ?_
  refine zw_putfieldS 102 f68_99 rfl g68_177_9 rfl rfl rfl (by decide +kernel) ?_
  refine zw_aload_n 103 f68_102 rfl rfl ?_
  refine zw_getfield 106 f68_103 rfl g68_12_10 rfl rfl ?_
  refine zw_aload_n 107 f68_106 rfl rfl ?_
  refine zw_getfield 110 f68_107 rfl g68_12_10 rfl rfl ?_
  refine zw_getfield 113 f68_110 rfl g68_180_9 rfl rfl ?_
  refine zw_lload_n 114 f68_113 rfl rfl ?_
  refine zw_lmul 0 115 f68_114 rfl (by decide +kernel) ?_
  refine zw_aload_n 116 f68_115 rfl rfl ?_
  refine zw_getfield 119 f68_116 rfl g68_58_10 rfl rfl ?_
  refine zw_i2l 0 120 f68_119 rfl (by decide +kernel) ?_
  refine zw_lload_n 121 f68_120 rfl rfl ?_
  refine zw_lmul 0 122 f68_121 rfl (by decide +kernel) ?_
  refine zw_ladd 0 123 f68_122 rfl (by decide +kernel) ?_
  refine zw_lload 125 f68_123 rfl rfl ?_
  refine zw_ldiv 0 126 f68_125 rfl (by decide +kernel) (by decide +kernel) ?_
  refine zw_putfieldS 129 f68_126 rfl g68_180_9 rfl rfl rfl (by decide +kernel) ?_
  refine zw_iconst 0 130 f68_129 rfl (by decide +kernel) ?_
  refine zw_istore [(9, .int 0), (7, .long 1), (5, .long 1), (0, .ref 11), (1, .long 1), (3, .long 0)] 132 f68_130 rfl (by decide +kernel) rfl ?_
  refine zw_iload 134 f68_132 rfl rfl ?_
  refine zw_aload_n 135 f68_134 rfl rfl ?_
  refine zw_getfield 138 f68_135 rfl g68_37_10 rfl rfl ?_
  refine zw_getfield 141 f68_138 rfl g68_80_4 rfl rfl ?_
  refine zw_ic_ge_f 144 186 f68_141 (by decide +kernel) rfl (by decide +kernel) ?_
  refine zw_aload_n 145 f68_144 rfl rfl ?_
  refine zw_getfield 148 f68_145 rfl g68_12_10 rfl rfl ?_
  refine zw_getfield 151 f68_148 rfl g68_87_9 rfl rfl ?_
  refine zw_iload 153 f68_151 rfl rfl ?_
  refine zw_aload_n 154 f68_153 rfl rfl ?_
  refine zw_getfield 157 f68_154 rfl g68_12_10 rfl rfl ?_
  refine zw_getfield 160 f68_157 rfl g68_87_9 rfl rfl ?_
  refine zw_iload 162 f68_160 rfl rfl ?_
  refine zw_laload 0 0 163 f68_162 rfl rfl (by decide +kernel) (by decide +kernel) (by decide +kernel) rfl ?_
  refine zw_lload_n 164 f68_163 rfl rfl ?_
  refine zw_lmul 0 165 f68_164 rfl (by decide +kernel) ?_
  refine zw_aload_n 166 f68_165 rfl rfl ?_
  refine zw_getfield 169 f68_166 rfl g68_22_10 rfl rfl ?_
  refine zw_iload 171 f68_169 rfl rfl ?_
  refine zw_iaload 0 0 172 f68_171 rfl rfl (by decide +kernel) (by decide +kernel) (by decide +kernel) rfl ?_
  refine zw_i2l 0 173 f68_172 rfl (by decide +kernel) ?_
  refine zw_lload_n 174 f68_173 rfl rfl ?_
  refine zw_lmul 0 175 f68_174 rfl (by decide +kernel) ?_
  refine zw_ladd 0 176 f68_175 rfl (by decide +kernel) ?_
  refine zw_lload 178 f68_176 rfl rfl ?_
  refine zw_ldiv 0 179 f68_178 rfl (by decide +kernel) (by decide +kernel) ?_
  refine zw_lastoreS 0 180 f68_179 rfl rfl (by decide +kernel) (by decide +kernel) (by decide +kernel) rfl ?_
  refine zw_iinc 1 [(9, .int 1), (7, .long 1), (5, .long 1), (0, .ref 11), (1, .long 1), (3, .long 0)] 183 f68_180 rfl rfl (by decide +kernel) (by decide +kernel) rfl ?_
  refine zw_goto 132 f68_183 (by decide +kernel) ?_
  refine zw_iload 134 f68_132 rfl rfl ?_
  refine zw_aload_n 135 f68_134 rfl rfl ?_
  refine zw_getfield 138 f68_135 rfl g68_37_10 rfl rfl ?_
  refine zw_getfield 141 f68_138 rfl g68_80_4 rfl rfl ?_
  refine zw_ic_ge_t 186 f68_141 (by decide +kernel) (by decide +kernel) ?_
  refine zw_iconst 1 187 f68_186 rfl (by decide +kernel) ?_
  refine zw_zreturn f68_187 r68 u68 (by decide +kernel) ⟨_, rfl, ?_⟩
  refine zw_pop 116 f70_115 rfl rfl ?_
  refine zw_vreturn f70_116 r70 u70 ⟨rfl, ?_⟩
  refine zw_aload_n 8 f107_7 rfl rfl ?_
  refine zw_getfield 11 f107_8 rfl g107_31_11 rfl rfl ?_
  refine zw_aload_n 12 f107_11 rfl rfl ?_
  refine zw_getfield 15 f107_12 rfl g107_21_11 rfl rfl ?_
  refine zw_virtual_v 18 0 0 [.ref 33, .ref 11] [(0, .ref 33), (1, .ref 11)] f107_15 rfl n107_187 k107_187_3 rfl rfl (by decide +kernel) (Nat.le_of_ble_eq_true rfl) rfl rfl (by decide +kernel) (by decide +kernel) rfl (Nat.le_of_ble_eq_true rfl) rfl ?_
  refine zw_iconst 0 1 f10_0 rfl (by decide +kernel) ?_
  refine zw_istore_n [(2, .int 0), (0, .ref 33), (1, .ref 11)] 2 f10_1 rfl (by decide +kernel) rfl ?_
  refine zw_iload_n 3 f10_2 rfl rfl ?_
  refine zw_aload_n 4 f10_3 rfl rfl ?_
  refine zw_getfield 7 f10_4 rfl g10_24_10 rfl rfl ?_
  refine zw_ic_ge_t 126 f10_7 (by decide +kernel) (by decide +kernel) ?_
  refine zw_vreturn f10_126 r10 u10 ⟨rfl, ?_⟩
  refine zw_aload_n 19 f107_18 rfl rfl ?_
  refine zw_iload_n 20 f107_19 rfl rfl ?_
  refine zw_virtual_i 23 0 0 [.ref 0, .int 0] [(0, .ref 0), (1, .int 0)] f107_20 rfl n107_181 k107_181_11 rfl rfl (by decide +kernel) (Nat.le_of_ble_eq_true rfl) rfl rfl (by decide +kernel) (by decide +kernel) rfl (Nat.le_of_ble_eq_true rfl) rfl ?_
  refine zw_aload_n 1 f106_0 rfl rfl ?_
  refine zw_iconst 0 2 f106_1 rfl (by decide +kernel) ?_
  refine zw_putfieldS 5 f106_2 rfl g106_70_11 rfl rfl rfl (by decide +kernel) ?_
  refine zw_iload_n 6 f106_5 rfl rfl ?_
  refine zw_ireturn f106_6 r106 u106 ⟨_, rfl, ?_⟩
  refine zw_ireturn f107_23 r107 u107 ⟨_, rfl, ?_⟩
  refine zw_ireturn f78_54 r78 u78 ?_
  exact ⟨rfl, by repeat (first | exact zMF_0 | refine zMF_set (by decide) ?_)⟩
set_option maxRecDepth 100000 in
set_option maxHeartbeats 0 in
theorem x_vessel_k3 (ro : UInt32 → Nat × (Nat → Int32)) (b : Int32) (h3 : ¬ b < 1) (h4 : ¬ 200 < b) : zWp ro 78 0 [(0, .ref 0), (1, .int 3), (2, .int b)] [] hF 0 0 (fun r h1 => r = some (.int 0) ∧ zMF h1) := by
  refine zw_iload_n 1 f78_0 rfl rfl ?_
  refine zw_iconst 0 2 f78_1 rfl (by decide +kernel) ?_
  refine zw_iconst 4 3 f78_2 rfl (by decide +kernel) ?_
  refine zw_static_i 6 0 0 [.int 3, .int 0, .int 4] [] [(0, .int 3), (1, .int 0), (2, .int 4)] f78_3 rfl k78_74_99 rfl (by decide +kernel) (Nat.le_of_ble_eq_true rfl) (Nat.le_of_ble_eq_true rfl) rfl rfl (by decide +kernel) (by decide +kernel) rfl (Nat.le_of_ble_eq_true rfl) rfl ?_
  refine zw_iload_n 1 f112_0 rfl rfl ?_
  refine zw_iload_n 2 f112_1 rfl rfl ?_
  refine zw_ic_lt_f 5 14 f112_2 (by decide +kernel) rfl (by decide +kernel) ?_
  refine zw_iload_n 6 f112_5 rfl rfl ?_
  refine zw_iload_n 7 f112_6 rfl rfl ?_
  refine zw_ic_gt_f 10 14 f112_7 (by decide +kernel) rfl (by decide +kernel) ?_
  refine zw_iconst 1 11 f112_10 rfl (by decide +kernel) ?_
  refine zw_goto 15 f112_11 (by decide +kernel) ?_
  refine zw_zreturn f112_15 r112 u112 (by decide +kernel) ⟨_, rfl, ?_⟩
  refine zw_if_eq_f 9 20 f78_6 (by decide +kernel) rfl (by decide +kernel) ?_
  refine zw_iload_n 10 f78_9 rfl rfl ?_
  refine zw_iconst 1 11 f78_10 rfl (by decide +kernel) ?_
  refine zw_sipush 200 14 f78_11 rfl (by decide +kernel) ?_
  refine zw_static_i 17 0 0 [.int b, .int 1, .int 200] [] [(0, .int b), (1, .int 1), (2, .int 200)] f78_14 rfl k78_74_99 rfl (by decide +kernel) (Nat.le_of_ble_eq_true rfl) (Nat.le_of_ble_eq_true rfl) rfl rfl (by decide +kernel) (by decide +kernel) rfl (Nat.le_of_ble_eq_true rfl) rfl ?_
  refine zw_iload_n 1 f112_0 rfl rfl ?_
  refine zw_iload_n 2 f112_1 rfl rfl ?_
  refine zw_ic_lt_f 5 14 f112_2 (by decide +kernel) rfl h3 ?_
  refine zw_iload_n 6 f112_5 rfl rfl ?_
  refine zw_iload_n 7 f112_6 rfl rfl ?_
  refine zw_ic_gt_f 10 14 f112_7 (by decide +kernel) rfl h4 ?_
  refine zw_iconst 1 11 f112_10 rfl (by decide +kernel) ?_
  refine zw_goto 15 f112_11 (by decide +kernel) ?_
  refine zw_zreturn f112_15 r112 u112 (by decide +kernel) ⟨_, rfl, ?_⟩
  refine zw_if_ne_t 26 f78_17 (by decide +kernel) (by decide +kernel) ?_
  refine zw_aload_n 27 f78_26 rfl rfl ?_
  refine zw_getfield 30 f78_27 rfl g78_10_11 rfl rfl ?_
  refine zw_iload_n 31 f78_30 rfl rfl ?_
  refine zw_iload_n 32 f78_31 rfl rfl ?_
  refine zw_virtual_i 35 0 0 [.ref 1, .int 3, .int b] [(0, .ref 1), (1, .int 3), (2, .int b)] f78_32 rfl n78_82 k78_82_4 rfl rfl (by decide +kernel) (Nat.le_of_ble_eq_true rfl) rfl rfl (by decide +kernel) (by decide +kernel) rfl (Nat.le_of_ble_eq_true rfl) rfl ?_
  refine zw_aload_n 1 f20_0 rfl rfl ?_
  refine zw_getfield 4 f20_1 rfl g20_39_4 rfl rfl ?_
  refine zw_istore_n [(3, .int 0), (0, .ref 1), (1, .int 3), (2, .int b)] 5 f20_4 rfl (by decide +kernel) rfl ?_
  refine zw_iload_n 6 f20_5 rfl rfl ?_
  refine zw_bipush 8 8 f20_6 rfl (by decide +kernel) ?_
  refine zw_ic_lt_t 13 f20_8 (by decide +kernel) (by decide +kernel) ?_
  refine zw_aload_n 14 f20_13 rfl rfl ?_
  refine zw_getfield 17 f20_14 rfl g20_9_4 rfl rfl ?_
  refine zw_iload_n 18 f20_17 rfl rfl ?_
  refine zw_iload_n 19 f20_18 rfl rfl ?_
  refine zw_iastore 0 20 f20_19 rfl rfl (by decide +kernel) (by decide +kernel) (by decide +kernel) ?_
  refine zw_aload_n 21 f20_20 rfl rfl ?_
  refine zw_getfield 24 f20_21 rfl g20_15_4 rfl rfl ?_
  refine zw_iload_n 25 f20_24 rfl rfl ?_
  refine zw_iload_n 26 f20_25 rfl rfl ?_
  refine zw_iastore 0 27 f20_26 rfl rfl (by decide +kernel) (by decide +kernel) (by decide +kernel) ?_
  refine zw_aload_n 28 f20_27 rfl rfl ?_
  refine zw_getfield 31 f20_28 rfl g20_18_4 rfl rfl ?_
  refine zw_iload_n 32 f20_31 rfl rfl ?_
  refine zw_iload_n 33 f20_32 rfl rfl ?_
  refine zw_if_eq_f 36 41 f20_33 (by decide +kernel) rfl (by decide +kernel) ?_
  refine zw_iload_n 37 f20_36 rfl rfl ?_
  refine zw_iconst 2 38 f20_37 rfl (by decide +kernel) ?_
  refine zw_ic_ne_t 45 f20_38 (by decide +kernel) (by decide +kernel) ?_
  refine zw_iload_n 46 f20_45 rfl rfl ?_
  refine zw_iastore 0 47 f20_46 rfl rfl (by decide +kernel) (by decide +kernel) (by decide +kernel) ?_
  refine zw_aload_n 48 f20_47 rfl rfl ?_
  refine zw_getfield 51 f20_48 rfl g20_21_4 rfl rfl ?_
  refine zw_iload_n 52 f20_51 rfl rfl ?_
  refine zw_iconst 0 53 f20_52 rfl (by decide +kernel) ?_
  refine zw_iastoreS 0 54 f20_53 rfl rfl (by decide +kernel) (by decide +kernel) (by decide +kernel) rfl ?_
  refine zw_aload_n 55 f20_54 rfl rfl ?_
  refine zw_getfield 58 f20_55 rfl g20_24_4 rfl rfl ?_
  refine zw_iload_n 59 f20_58 rfl rfl ?_
  refine zw_iconst (-1) 60 f20_59 rfl (by decide +kernel) ?_
  refine zw_iastore 0 61 f20_60 rfl rfl (by decide +kernel) (by decide +kernel) (by decide +kernel) ?_
  refine zw_aload_n 62 f20_61 rfl rfl ?_
  refine zw_getfield 65 f20_62 rfl g20_27_4 rfl rfl ?_
  refine zw_iload_n 66 f20_65 rfl rfl ?_
  refine zw_iconst (-1) 67 f20_66 rfl (by decide +kernel) ?_
  refine zw_iastore 0 68 f20_67 rfl rfl (by decide +kernel) (by decide +kernel) (by decide +kernel) ?_
  refine zw_aload_n 69 f20_68 rfl rfl ?_
  refine zw_getfield 72 f20_69 rfl g20_30_4 rfl rfl ?_
  refine zw_iload_n 73 f20_72 rfl rfl ?_
  refine zw_iconst (-1) 74 f20_73 rfl (by decide +kernel) ?_
  refine zw_iastore 0 75 f20_74 rfl rfl (by decide +kernel) (by decide +kernel) (by decide +kernel) ?_
  refine zw_aload_n 76 f20_75 rfl rfl ?_
  refine zw_iload_n 77 f20_76 rfl rfl ?_
  refine zw_iconst 1 78 f20_77 rfl (by decide +kernel) ?_
  refine zw_iadd 1 79 f20_78 rfl (by decide +kernel) ?_
  refine zw_putfield 82 f20_79 rfl g20_39_4 rfl rfl (Nat.le_of_ble_eq_true rfl) (by decide +kernel) ?_
  refine zw_iload_n 83 f20_82 rfl rfl ?_
  refine zw_ireturn f20_83 r20 u20 ⟨_, rfl, ?_⟩
  refine zw_istore_n [(3, .int 0), (0, .ref 0), (1, .int 3), (2, .int b)] 36 f78_35 rfl (by decide +kernel) rfl ?_
  refine zw_iload_n 37 f78_36 rfl rfl ?_
  refine zw_iconst (-1) 38 f78_37 rfl (by decide +kernel) ?_
  refine zw_ic_ne_t 49 f78_38 (by decide +kernel) (by decide +kernel) ?_
  refine zw_aload_n 50 f78_49 rfl rfl ?_
  refine zw_iload_n 51 f78_50 rfl rfl ?_
  refine zw_virtual_i 54 0 0 [.ref 0, .int 0] [(0, .ref 0), (1, .int 0)] f78_51 rfl n78_86 k78_86_11 rfl rfl (by decide +kernel) (Nat.le_of_ble_eq_true rfl) rfl rfl (by decide +kernel) (by decide +kernel) rfl (Nat.le_of_ble_eq_true rfl) rfl ?_
  refine zw_aload_n 1 f107_0 rfl rfl ?_
  refine zw_getfield 4 f107_1 rfl g107_21_11 rfl rfl ?_
  refine zw_virtual_v 7 0 0 [.ref 11] [(0, .ref 11)] f107_4 rfl n107_318 k107_318_10 rfl rfl (by decide +kernel) (Nat.le_of_ble_eq_true rfl) rfl rfl (by decide +kernel) (by decide +kernel) rfl (Nat.le_of_ble_eq_true rfl) rfl ?_
  refine zw_aload_n 1 f70_0 rfl rfl ?_
  refine zw_iconst 0 2 f70_1 rfl (by decide +kernel) ?_
  refine zw_putfieldS 5 f70_2 rfl g70_161_10 rfl rfl rfl (by decide +kernel) ?_
  refine zw_iconst 0 6 f70_5 rfl (by decide +kernel) ?_
  refine zw_istore_n [(1, .int 0), (0, .ref 11)] 7 f70_6 rfl (by decide +kernel) rfl ?_
  refine zw_iload_n 8 f70_7 rfl rfl ?_
  refine zw_aload_n 9 f70_8 rfl rfl ?_
  refine zw_getfield 12 f70_9 rfl g70_37_10 rfl rfl ?_
  refine zw_getfield 15 f70_12 rfl g70_80_4 rfl rfl ?_
  refine zw_ic_ge_f 18 49 f70_15 (by decide +kernel) rfl (by decide +kernel) ?_
  refine zw_aload_n 19 f70_18 rfl rfl ?_
  refine zw_getfield 22 f70_19 rfl g70_37_10 rfl rfl ?_
  refine zw_iload_n 23 f70_22 rfl rfl ?_
  refine zw_virtual_i 26 0 0 [.ref 1, .int 0] [(0, .ref 1), (1, .int 0)] f70_23 rfl n70_132 k70_132_4 rfl rfl (by decide +kernel) (Nat.le_of_ble_eq_true rfl) rfl rfl (by decide +kernel) (by decide +kernel) rfl (Nat.le_of_ble_eq_true rfl) rfl ?_
  refine zw_iload_n 1 f15_0 rfl rfl ?_
  refine zw_if_lt_f 4 27 f15_1 (by decide +kernel) rfl (by decide +kernel) ?_
  refine zw_iload_n 5 f15_4 rfl rfl ?_
  refine zw_aload_n 6 f15_5 rfl rfl ?_
  refine zw_getfield 9 f15_6 rfl g15_39_4 rfl rfl ?_
  refine zw_ic_ge_f 12 27 f15_9 (by decide +kernel) rfl (by decide +kernel) ?_
  refine zw_iload_n 13 f15_12 rfl rfl ?_
  refine zw_bipush 8 15 f15_13 rfl (by decide +kernel) ?_
  refine zw_ic_ge_f 18 27 f15_15 (by decide +kernel) rfl (by decide +kernel) ?_
  refine zw_aload_n 19 f15_18 rfl rfl ?_
  refine zw_getfield 22 f15_19 rfl g15_9_4 rfl rfl ?_
  refine zw_iload_n 23 f15_22 rfl rfl ?_
  refine zw_iaload 0 3 24 f15_23 rfl rfl (by decide +kernel) (by decide +kernel) (by decide +kernel) rfl ?_
  refine zw_goto 28 f15_24 (by decide +kernel) ?_
  refine zw_ireturn f15_28 r15 u15 ⟨_, rfl, ?_⟩
  refine zw_iconst 2 27 f70_26 rfl (by decide +kernel) ?_
  refine zw_ic_ne_t 43 f70_27 (by decide +kernel) (by decide +kernel) ?_
  refine zw_iinc 1 [(1, .int 1), (0, .ref 11)] 46 f70_43 rfl rfl (by decide +kernel) (by decide +kernel) rfl ?_
  refine zw_goto 7 f70_46 (by decide +kernel) ?_
  refine zw_iload_n 8 f70_7 rfl rfl ?_
  refine zw_aload_n 9 f70_8 rfl rfl ?_
  refine zw_getfield 12 f70_9 rfl g70_37_10 rfl rfl ?_
  refine zw_getfield 15 f70_12 rfl g70_80_4 rfl rfl ?_
  refine zw_ic_ge_t 49 f70_15 (by decide +kernel) (by decide +kernel) ?_
  refine zw_iconst 0 50 f70_49 rfl (by decide +kernel) ?_
  refine zw_istore_n [(1, .int 0), (0, .ref 11)] 51 f70_50 rfl (by decide +kernel) rfl ?_
  refine zw_iload_n 52 f70_51 rfl rfl ?_
  refine zw_aload_n 53 f70_52 rfl rfl ?_
  refine zw_getfield 56 f70_53 rfl g70_37_10 rfl rfl ?_
  refine zw_getfield 59 f70_56 rfl g70_80_4 rfl rfl ?_
  refine zw_ic_ge_f 62 85 f70_59 (by decide +kernel) rfl (by decide +kernel) ?_
  refine zw_aload_n 63 f70_62 rfl rfl ?_
  refine zw_getfield 66 f70_63 rfl g70_37_10 rfl rfl ?_
  refine zw_iload_n 67 f70_66 rfl rfl ?_
  refine zw_virtual_i 70 0 0 [.ref 1, .int 0] [(0, .ref 1), (1, .int 0)] f70_67 rfl n70_132 k70_132_4 rfl rfl (by decide +kernel) (Nat.le_of_ble_eq_true rfl) rfl rfl (by decide +kernel) (by decide +kernel) rfl (Nat.le_of_ble_eq_true rfl) rfl ?_
  refine zw_iload_n 1 f15_0 rfl rfl ?_
  refine zw_if_lt_f 4 27 f15_1 (by decide +kernel) rfl (by decide +kernel) ?_
  refine zw_iload_n 5 f15_4 rfl rfl ?_
  refine zw_aload_n 6 f15_5 rfl rfl ?_
  refine zw_getfield 9 f15_6 rfl g15_39_4 rfl rfl ?_
  refine zw_ic_ge_f 12 27 f15_9 (by decide +kernel) rfl (by decide +kernel) ?_
  refine zw_iload_n 13 f15_12 rfl rfl ?_
  refine zw_bipush 8 15 f15_13 rfl (by decide +kernel) ?_
  refine zw_ic_ge_f 18 27 f15_15 (by decide +kernel) rfl (by decide +kernel) ?_
  refine zw_aload_n 19 f15_18 rfl rfl ?_
  refine zw_getfield 22 f15_19 rfl g15_9_4 rfl rfl ?_
  refine zw_iload_n 23 f15_22 rfl rfl ?_
  refine zw_iaload 0 3 24 f15_23 rfl rfl (by decide +kernel) (by decide +kernel) (by decide +kernel) rfl ?_
  refine zw_goto 28 f15_24 (by decide +kernel) ?_
  refine zw_ireturn f15_28 r15 u15 ⟨_, rfl, ?_⟩
  refine zw_iconst 1 71 f70_70 rfl (by decide +kernel) ?_
  refine zw_ic_ne_t 79 f70_71 (by decide +kernel) (by decide +kernel) ?_
  refine zw_iinc 1 [(1, .int 1), (0, .ref 11)] 82 f70_79 rfl rfl (by decide +kernel) (by decide +kernel) rfl ?_
  refine zw_goto 51 f70_82 (by decide +kernel) ?_
  refine zw_iload_n 52 f70_51 rfl rfl ?_
  refine zw_aload_n 53 f70_52 rfl rfl ?_
  refine zw_getfield 56 f70_53 rfl g70_37_10 rfl rfl ?_
  refine zw_getfield 59 f70_56 rfl g70_80_4 rfl rfl ?_
  refine zw_ic_ge_t 85 f70_59 (by decide +kernel) (by decide +kernel) ?_
  refine zw_iconst 0 86 f70_85 rfl (by decide +kernel) ?_
  refine zw_istore_n [(1, .int 0), (0, .ref 11)] 87 f70_86 rfl (by decide +kernel) rfl ?_
  refine zw_iload_n 88 f70_87 rfl rfl ?_
  refine zw_aload_n 89 f70_88 rfl rfl ?_
  refine zw_getfield 92 f70_89 rfl g70_37_10 rfl rfl ?_
  refine zw_getfield 95 f70_92 rfl g70_80_4 rfl rfl ?_
  refine zw_ic_ge_f 98 109 f70_95 (by decide +kernel) rfl (by decide +kernel) ?_
  refine zw_aload_n 99 f70_98 rfl rfl ?_
  refine zw_iload_n 100 f70_99 rfl rfl ?_
  refine zw_virtual_v 103 0 0 [.ref 11, .int 0] [(0, .ref 11), (1, .int 0)] f70_100 rfl n70_193 k70_193_10 rfl rfl (by decide +kernel) (Nat.le_of_ble_eq_true rfl) rfl rfl (by decide +kernel) (by decide +kernel) rfl (Nat.le_of_ble_eq_true rfl) rfl ?_
  refine zw_aload_n 1 f74_0 rfl rfl ?_
  refine zw_iload_n 2 f74_1 rfl rfl ?_
  refine zw_iconst 1 3 f74_2 rfl (by decide +kernel) ?_
  refine zw_virtual_i 6 0 0 [.ref 11, .int 0, .int 1] [(0, .ref 11), (1, .int 0), (2, .int 1)] f74_3 rfl n74_135 k74_135_10 rfl rfl (by decide +kernel) (Nat.le_of_ble_eq_true rfl) rfl rfl (by decide +kernel) (by decide +kernel) rfl (Nat.le_of_ble_eq_true rfl) rfl ?_
  refine zw_aload_n 1 f56_0 rfl rfl ?_
  refine zw_getfield 4 f56_1 rfl g56_37_10 rfl rfl ?_
  refine zw_iload_n 5 f56_4 rfl rfl ?_
  refine zw_virtual_i 8 0 0 [.ref 1, .int 0] [(0, .ref 1), (1, .int 0)] f56_5 rfl n56_145 k56_145_4 rfl rfl (by decide +kernel) (Nat.le_of_ble_eq_true rfl) rfl rfl (by decide +kernel) (by decide +kernel) rfl (Nat.le_of_ble_eq_true rfl) rfl ?_
  refine zw_iload_n 1 f17_0 rfl rfl ?_
  refine zw_if_lt_f 4 22 f17_1 (by decide +kernel) rfl (by decide +kernel) ?_
  refine zw_iload_n 5 f17_4 rfl rfl ?_
  refine zw_aload_n 6 f17_5 rfl rfl ?_
  refine zw_getfield 9 f17_6 rfl g17_39_4 rfl rfl ?_
  refine zw_ic_ge_f 12 22 f17_9 (by decide +kernel) rfl (by decide +kernel) ?_
  refine zw_iload_n 13 f17_12 rfl rfl ?_
  refine zw_bipush 8 15 f17_13 rfl (by decide +kernel) ?_
  refine zw_ic_ge_f 18 22 f17_15 (by decide +kernel) rfl (by decide +kernel) ?_
  refine zw_iconst 1 19 f17_18 rfl (by decide +kernel) ?_
  refine zw_goto 23 f17_19 (by decide +kernel) ?_
  refine zw_istore_n [(2, .int 1), (0, .ref 1), (1, .int 0)] 24 f17_23 rfl (by decide +kernel) rfl ?_
  refine zw_iload_n 25 f17_24 rfl rfl ?_
  refine zw_if_eq_f 28 52 f17_25 (by decide +kernel) rfl (by decide +kernel) ?_
  refine zw_aload_n 29 f17_28 rfl rfl ?_
  refine zw_getfield 32 f17_29 rfl g17_9_4 rfl rfl ?_
  refine zw_iload_n 33 f17_32 rfl rfl ?_
  refine zw_iaload 0 3 34 f17_33 rfl rfl (by decide +kernel) (by decide +kernel) (by decide +kernel) rfl ?_
  refine zw_iconst 3 35 f17_34 rfl (by decide +kernel) ?_
  refine zw_ic_eq_t 48 f17_35 (by decide +kernel) (by decide +kernel) ?_
  refine zw_iconst 1 49 f17_48 rfl (by decide +kernel) ?_
  refine zw_goto 53 f17_49 (by decide +kernel) ?_
  refine zw_zreturn f17_53 r17 u17 (by decide +kernel) ⟨_, rfl, ?_⟩
  refine zw_if_eq_f 11 23 f56_8 (by decide +kernel) rfl (by decide +kernel) ?_
  refine zw_aload_n 12 f56_11 rfl rfl ?_
  refine zw_getfield 15 f56_12 rfl g56_37_10 rfl rfl ?_
  refine zw_getfield 18 f56_15 rfl g56_148_4 rfl rfl ?_
  refine zw_iload_n 19 f56_18 rfl rfl ?_
  refine zw_iaload 0 (-1) 20 f56_19 rfl rfl (by decide +kernel) (by decide +kernel) (by decide +kernel) rfl ?_
  refine zw_goto 24 f56_20 (by decide +kernel) ?_
  refine zw_istore_n [(3, .int (-1)), (0, .ref 11), (1, .int 0), (2, .int 1)] 25 f56_24 rfl (by decide +kernel) rfl ?_
  refine zw_iload_n 26 f56_25 rfl rfl ?_
  refine zw_iconst (-1) 27 f56_26 rfl (by decide +kernel) ?_
  refine zw_ic_eq_t 46 f56_27 (by decide +kernel) (by decide +kernel) ?_
  refine zw_iconst 0 47 f56_46 rfl (by decide +kernel) ?_
  refine zw_zreturn f56_47 r56 u56 (by decide +kernel) ⟨_, rfl, ?_⟩
  refine zw_if_eq_t 79 f74_6 (by decide +kernel) (by decide +kernel) ?_
  refine zw_aload_n 80 f74_79 rfl rfl ?_
  refine zw_iload_n 81 f74_80 rfl rfl ?_
  refine zw_iconst 0 82 f74_81 rfl (by decide +kernel) ?_
  refine zw_virtual_i 85 0 0 [.ref 11, .int 0, .int 0] [(0, .ref 11), (1, .int 0), (2, .int 0)] f74_82 rfl n74_135 k74_135_10 rfl rfl (by decide +kernel) (Nat.le_of_ble_eq_true rfl) rfl rfl (by decide +kernel) (by decide +kernel) rfl (Nat.le_of_ble_eq_true rfl) rfl ?_
  refine zw_aload_n 1 f56_0 rfl rfl ?_
  refine zw_getfield 4 f56_1 rfl g56_37_10 rfl rfl ?_
  refine zw_iload_n 5 f56_4 rfl rfl ?_
  refine zw_virtual_i 8 0 0 [.ref 1, .int 0] [(0, .ref 1), (1, .int 0)] f56_5 rfl n56_145 k56_145_4 rfl rfl (by decide +kernel) (Nat.le_of_ble_eq_true rfl) rfl rfl (by decide +kernel) (by decide +kernel) rfl (Nat.le_of_ble_eq_true rfl) rfl ?_
  refine zw_iload_n 1 f17_0 rfl rfl ?_
  refine zw_if_lt_f 4 22 f17_1 (by decide +kernel) rfl (by decide +kernel) ?_
  refine zw_iload_n 5 f17_4 rfl rfl ?_
  refine zw_aload_n 6 f17_5 rfl rfl ?_
  refine zw_getfield 9 f17_6 rfl g17_39_4 rfl rfl ?_
  refine zw_ic_ge_f 12 22 f17_9 (by decide +kernel) rfl (by decide +kernel) ?_
  refine zw_iload_n 13 f17_12 rfl rfl ?_
  refine zw_bipush 8 15 f17_13 rfl (by decide +kernel) ?_
  refine zw_ic_ge_f 18 22 f17_15 (by decide +kernel) rfl (by decide +kernel) ?_
  refine zw_iconst 1 19 f17_18 rfl (by decide +kernel) ?_
  refine zw_goto 23 f17_19 (by decide +kernel) ?_
  refine zw_istore_n [(2, .int 1), (0, .ref 1), (1, .int 0)] 24 f17_23 rfl (by decide +kernel) rfl ?_
  refine zw_iload_n 25 f17_24 rfl rfl ?_
  refine zw_if_eq_f 28 52 f17_25 (by decide +kernel) rfl (by decide +kernel) ?_
  refine zw_aload_n 29 f17_28 rfl rfl ?_
  refine zw_getfield 32 f17_29 rfl g17_9_4 rfl rfl ?_
  refine zw_iload_n 33 f17_32 rfl rfl ?_
  refine zw_iaload 0 3 34 f17_33 rfl rfl (by decide +kernel) (by decide +kernel) (by decide +kernel) rfl ?_
  refine zw_iconst 3 35 f17_34 rfl (by decide +kernel) ?_
  refine zw_ic_eq_t 48 f17_35 (by decide +kernel) (by decide +kernel) ?_
  refine zw_iconst 1 49 f17_48 rfl (by decide +kernel) ?_
  refine zw_goto 53 f17_49 (by decide +kernel) ?_
  refine zw_zreturn f17_53 r17 u17 (by decide +kernel) ⟨_, rfl, ?_⟩
  refine zw_if_eq_f 11 23 f56_8 (by decide +kernel) rfl (by decide +kernel) ?_
  refine zw_aload_n 12 f56_11 rfl rfl ?_
  refine zw_getfield 15 f56_12 rfl g56_37_10 rfl rfl ?_
  refine zw_getfield 18 f56_15 rfl g56_148_4 rfl rfl ?_
  refine zw_iload_n 19 f56_18 rfl rfl ?_
  refine zw_iaload 0 (-1) 20 f56_19 rfl rfl (by decide +kernel) (by decide +kernel) (by decide +kernel) rfl ?_
  refine zw_goto 24 f56_20 (by decide +kernel) ?_
  refine zw_istore_n [(3, .int (-1)), (0, .ref 11), (1, .int 0), (2, .int 0)] 25 f56_24 rfl (by decide +kernel) rfl ?_
  refine zw_iload_n 26 f56_25 rfl rfl ?_
  refine zw_iconst (-1) 27 f56_26 rfl (by decide +kernel) ?_
  refine zw_ic_eq_t 46 f56_27 (by decide +kernel) (by decide +kernel) ?_
  refine zw_iconst 0 47 f56_46 rfl (by decide +kernel) ?_
  refine zw_zreturn f56_47 r56 u56 (by decide +kernel) ⟨_, rfl, ?_⟩
  refine zw_if_eq_t 142 f74_85 (by decide +kernel) (by decide +kernel) ?_
  refine zw_vreturn f74_142 r74 u74 ⟨rfl, ?_⟩
  refine zw_iinc 1 [(1, .int 1), (0, .ref 11)] 106 f70_103 rfl rfl (by decide +kernel) (by decide +kernel) rfl ?_
  refine zw_goto 87 f70_106 (by decide +kernel) ?_
  refine zw_iload_n 88 f70_87 rfl rfl ?_
  refine zw_aload_n 89 f70_88 rfl rfl ?_
  refine zw_getfield 92 f70_89 rfl g70_37_10 rfl rfl ?_
  refine zw_getfield 95 f70_92 rfl g70_80_4 rfl rfl ?_
  refine zw_ic_ge_t 109 f70_95 (by decide +kernel) (by decide +kernel) ?_
  refine zw_aload_n 110 f70_109 rfl rfl ?_
  refine zw_lconst 1 111 f70_110 rfl (by decide +kernel) ?_
  refine zw_lconst 0 112 f70_111 rfl (by decide +kernel) ?_
  refine zw_virtual_i 115 0 0 [.ref 11, .long 1, .long 0] [(0, .ref 11), (1, .long 1), (3, .long 0)] f70_112 rfl n70_164 k70_164_10 rfl rfl (by decide +kernel) (Nat.le_of_ble_eq_true rfl) rfl rfl (by decide +kernel) (by decide +kernel) rfl (Nat.le_of_ble_eq_true rfl) rfl ?_
  refine zw_aload_n 1 f68_0 rfl rfl ?_
  refine zw_getfield 4 f68_1 rfl g68_12_10 rfl rfl ?_
  refine zw_getfield 7 f68_4 rfl g68_109_9 rfl rfl ?_
  refine zw_lload_n 8 f68_7 rfl rfl ?_
  refine zw_lmul 1 9 f68_8 rfl (by decide +kernel) ?_
  refine zw_lstore [(5, .long 1), (0, .ref 11), (1, .long 1), (3, .long 0)] 11 f68_9 rfl (by decide +kernel) rfl ?_
  refine zw_aload_n 12 f68_11 rfl rfl ?_
  refine zw_lload_n 13 f68_12 rfl rfl ?_
  refine zw_lload_n 14 f68_13 rfl rfl ?_
  refine zw_lload 16 f68_14 rfl rfl ?_
  refine zw_virtual_l 19 0 0 [.ref 11, .long 1, .long 0, .long 1] [(0, .ref 11), (1, .long 1), (3, .long 0), (5, .long 1)] f68_16 rfl n68_171 k68_171_10 rfl rfl (by decide +kernel) (Nat.le_of_ble_eq_true rfl) rfl rfl (by decide +kernel) (by decide +kernel) rfl (Nat.le_of_ble_eq_true rfl) rfl ?_
  refine zw_aload_n 1 f69_0 rfl rfl ?_
  refine zw_getfield 4 f69_1 rfl g69_12_10 rfl rfl ?_
  refine zw_getfield 7 f69_4 rfl g69_151_9 rfl rfl ?_
  refine zw_lload_n 8 f69_7 rfl rfl ?_
  refine zw_lmul 0 9 f69_8 rfl (by decide +kernel) ?_
  refine zw_lload_n 10 f69_9 rfl rfl ?_
  refine zw_ladd 0 11 f69_10 rfl (by decide +kernel) ?_
  refine zw_lload 13 f69_11 rfl rfl ?_
  refine zw_static_l 16 0 0 [.long 0, .long 1] [] [(0, .long 0), (2, .long 1)] f69_13 rfl k69_183_99 rfl (by decide +kernel) (Nat.le_of_ble_eq_true rfl) (Nat.le_of_ble_eq_true rfl) rfl rfl (by decide +kernel) (by decide +kernel) rfl (Nat.le_of_ble_eq_true rfl) rfl ?_
  refine zw_lload_n 1 f115_0 rfl rfl ?_
  refine zw_lstore [(4, .long 0), (0, .long 0), (2, .long 1)] 3 f115_1 rfl (by decide +kernel) rfl ?_
  refine zw_lload_n 4 f115_3 rfl rfl ?_
  refine zw_lstore [(6, .long 1), (4, .long 0), (0, .long 0), (2, .long 1)] 6 f115_4 rfl (by decide +kernel) rfl ?_
  refine zw_iconst 0 7 f115_6 rfl (by decide +kernel) ?_
  refine zw_istore [(8, .int 0), (6, .long 1), (4, .long 0), (0, .long 0), (2, .long 1)] 9 f115_7 rfl (by decide +kernel) rfl ?_
  refine zw_iload 11 f115_9 rfl rfl ?_
  refine zw_sipush 200 14 f115_11 rfl (by decide +kernel) ?_
  refine zw_ic_ge_f 17 45 f115_14 (by decide +kernel) rfl (by decide +kernel) ?_
  refine zw_lload 19 f115_17 rfl rfl ?_
  refine zw_lconst 0 20 f115_19 rfl (by decide +kernel) ?_
  refine zw_lcmp 1 21 f115_20 rfl (by decide +kernel) ?_
  refine zw_if_eq_f 24 45 f115_21 (by decide +kernel) rfl (by decide +kernel) ?_
  refine zw_lload 26 f115_24 rfl rfl ?_
  refine zw_lload 28 f115_26 rfl rfl ?_
  refine zw_lrem 0 29 f115_28 rfl (by decide +kernel) (by decide +kernel) ?_
  refine zw_lstore [(9, .long 0), (8, .int 0), (6, .long 1), (4, .long 0), (0, .long 0), (2, .long 1)] 31 f115_29 rfl (by decide +kernel) rfl ?_
  refine zw_lload 33 f115_31 rfl rfl ?_
  refine zw_lstore [(4, .long 1), (9, .long 0), (8, .int 0), (6, .long 1), (0, .long 0), (2, .long 1)] 35 f115_33 rfl (by decide +kernel) rfl ?_
  refine zw_lload 37 f115_35 rfl rfl ?_
  refine zw_lstore [(6, .long 0), (4, .long 1), (9, .long 0), (8, .int 0), (0, .long 0), (2, .long 1)] 39 f115_37 rfl (by decide +kernel) rfl ?_
  refine zw_iinc 1 [(8, .int 1), (6, .long 0), (4, .long 1), (9, .long 0), (0, .long 0), (2, .long 1)] 42 f115_39 rfl rfl (by decide +kernel) (by decide +kernel) rfl ?_
  refine zw_goto 9 f115_42 (by decide +kernel) ?_
  refine zw_iload 11 f115_9 rfl rfl ?_
  refine zw_sipush 200 14 f115_11 rfl (by decide +kernel) ?_
  refine zw_ic_ge_f 17 45 f115_14 (by decide +kernel) rfl (by decide +kernel) ?_
  refine zw_lload 19 f115_17 rfl rfl ?_
  refine zw_lconst 0 20 f115_19 rfl (by decide +kernel) ?_
  refine zw_lcmp 0 21 f115_20 rfl (by decide +kernel) ?_
  refine zw_if_eq_t 45 f115_21 (by decide +kernel) (by decide +kernel) ?_
  refine zw_lload 47 f115_45 rfl rfl ?_
  refine zw_lconst 0 48 f115_47 rfl (by decide +kernel) ?_
  refine zw_lcmp 1 49 f115_48 rfl (by decide +kernel) ?_
  refine zw_if_ne_t 56 f115_49 (by decide +kernel) (by decide +kernel) ?_
  refine zw_lload 58 f115_56 rfl rfl ?_
  refine zw_lreturn f115_58 r115 u115 ⟨_, rfl, ?_⟩
  refine zw_lstore [(7, .long 1), (0, .ref 11), (1, .long 1), (3, .long 0), (5, .long 1)] 18 f69_16 rfl (by decide +kernel) rfl ?_
  refine zw_aload_n 19 f69_18 rfl rfl ?_
  refine zw_getfield 22 f69_19 rfl g69_12_10 rfl rfl ?_
  refine zw_getfield 25 f69_22 rfl g69_177_9 rfl rfl ?_
  refine zw_lload_n 26 f69_25 rfl rfl ?_
  refine zw_lmul 0 27 f69_26 rfl (by decide +kernel) ?_
  refine zw_aload_n 28 f69_27 rfl rfl ?_
  refine zw_getfield 31 f69_28 rfl g69_54_10 rfl rfl ?_
  refine zw_i2l 0 32 f69_31 rfl (by decide +kernel) ?_
  refine zw_lload_n 33 f69_32 rfl rfl ?_
  refine zw_lmul 0 34 f69_33 rfl (by decide +kernel) ?_
  refine zw_ladd 0 35 f69_34 rfl (by decide +kernel) ?_
  refine zw_lload 37 f69_35 rfl rfl ?_
  refine zw_static_l 40 0 0 [.long 0, .long 1] [] [(0, .long 0), (2, .long 1)] f69_37 rfl k69_183_99 rfl (by decide +kernel) (Nat.le_of_ble_eq_true rfl) (Nat.le_of_ble_eq_true rfl) rfl rfl (by decide +kernel) (by decide +kernel) rfl (Nat.le_of_ble_eq_true rfl) rfl ?_
  refine zw_lload_n 1 f115_0 rfl rfl ?_
  refine zw_lstore [(4, .long 0), (0, .long 0), (2, .long 1)] 3 f115_1 rfl (by decide +kernel) rfl ?_
  refine zw_lload_n 4 f115_3 rfl rfl ?_
  refine zw_lstore [(6, .long 1), (4, .long 0), (0, .long 0), (2, .long 1)] 6 f115_4 rfl (by decide +kernel) rfl ?_
  refine zw_iconst 0 7 f115_6 rfl (by decide +kernel) ?_
  refine zw_istore [(8, .int 0), (6, .long 1), (4, .long 0), (0, .long 0), (2, .long 1)] 9 f115_7 rfl (by decide +kernel) rfl ?_
  refine zw_iload 11 f115_9 rfl rfl ?_
  refine zw_sipush 200 14 f115_11 rfl (by decide +kernel) ?_
  refine zw_ic_ge_f 17 45 f115_14 (by decide +kernel) rfl (by decide +kernel) ?_
  refine zw_lload 19 f115_17 rfl rfl ?_
  refine zw_lconst 0 20 f115_19 rfl (by decide +kernel) ?_
  refine zw_lcmp 1 21 f115_20 rfl (by decide +kernel) ?_
  refine zw_if_eq_f 24 45 f115_21 (by decide +kernel) rfl (by decide +kernel) ?_
  refine zw_lload 26 f115_24 rfl rfl ?_
  refine zw_lload 28 f115_26 rfl rfl ?_
  refine zw_lrem 0 29 f115_28 rfl (by decide +kernel) (by decide +kernel) ?_
  refine zw_lstore [(9, .long 0), (8, .int 0), (6, .long 1), (4, .long 0), (0, .long 0), (2, .long 1)] 31 f115_29 rfl (by decide +kernel) rfl ?_
  refine zw_lload 33 f115_31 rfl rfl ?_
  refine zw_lstore [(4, .long 1), (9, .long 0), (8, .int 0), (6, .long 1), (0, .long 0), (2, .long 1)] 35 f115_33 rfl (by decide +kernel) rfl ?_
  refine zw_lload 37 f115_35 rfl rfl ?_
  refine zw_lstore [(6, .long 0), (4, .long 1), (9, .long 0), (8, .int 0), (0, .long 0), (2, .long 1)] 39 f115_37 rfl (by decide +kernel) rfl ?_
  refine zw_iinc 1 [(8, .int 1), (6, .long 0), (4, .long 1), (9, .long 0), (0, .long 0), (2, .long 1)] 42 f115_39 rfl rfl (by decide +kernel) (by decide +kernel) rfl ?_
  refine zw_goto 9 f115_42 (by decide +kernel) ?_
  refine zw_iload 11 f115_9 rfl rfl ?_
  refine zw_sipush 200 14 f115_11 rfl (by decide +kernel) ?_
  refine zw_ic_ge_f 17 45 f115_14 (by decide +kernel) rfl (by decide +kernel) ?_
  refine zw_lload 19 f115_17 rfl rfl ?_
  refine zw_lconst 0 20 f115_19 rfl (by decide +kernel) ?_
  refine zw_lcmp 0 21 f115_20 rfl (by decide +kernel) ?_
  refine zw_if_eq_t 45 f115_21 (by decide +kernel) (by decide +kernel) ?_
  refine zw_lload 47 f115_45 rfl rfl ?_
  refine zw_lconst 0 48 f115_47 rfl (by decide +kernel) ?_
  refine zw_lcmp 1 49 f115_48 rfl (by decide +kernel) ?_
  refine zw_if_ne_t 56 f115_49 (by decide +kernel) (by decide +kernel) ?_
  refine zw_lload 58 f115_56 rfl rfl ?_
  refine zw_lreturn f115_58 r115 u115 ⟨_, rfl, ?_⟩
  refine zw_lstore [(7, .long 1), (0, .ref 11), (1, .long 1), (3, .long 0), (5, .long 1)] 42 f69_40 rfl (by decide +kernel) rfl ?_
  refine zw_aload_n 43 f69_42 rfl rfl ?_
  refine zw_getfield 46 f69_43 rfl g69_12_10 rfl rfl ?_
  refine zw_getfield 49 f69_46 rfl g69_180_9 rfl rfl ?_
  refine zw_lload_n 50 f69_49 rfl rfl ?_
  refine zw_lmul 0 51 f69_50 rfl (by decide +kernel) ?_
  refine zw_aload_n 52 f69_51 rfl rfl ?_
  refine zw_getfield 55 f69_52 rfl g69_58_10 rfl rfl ?_
  refine zw_i2l 0 56 f69_55 rfl (by decide +kernel) ?_
  refine zw_lload_n 57 f69_56 rfl rfl ?_
  refine zw_lmul 0 58 f69_57 rfl (by decide +kernel) ?_
  refine zw_ladd 0 59 f69_58 rfl (by decide +kernel) ?_
  refine zw_lload 61 f69_59 rfl rfl ?_
  refine zw_static_l 64 0 0 [.long 0, .long 1] [] [(0, .long 0), (2, .long 1)] f69_61 rfl k69_183_99 rfl (by decide +kernel) (Nat.le_of_ble_eq_true rfl) (Nat.le_of_ble_eq_true rfl) rfl rfl (by decide +kernel) (by decide +kernel) rfl (Nat.le_of_ble_eq_true rfl) rfl ?_
  refine zw_lload_n 1 f115_0 rfl rfl ?_
  refine zw_lstore [(4, .long 0), (0, .long 0), (2, .long 1)] 3 f115_1 rfl (by decide +kernel) rfl ?_
  refine zw_lload_n 4 f115_3 rfl rfl ?_
  refine zw_lstore [(6, .long 1), (4, .long 0), (0, .long 0), (2, .long 1)] 6 f115_4 rfl (by decide +kernel) rfl ?_
  refine zw_iconst 0 7 f115_6 rfl (by decide +kernel) ?_
  refine zw_istore [(8, .int 0), (6, .long 1), (4, .long 0), (0, .long 0), (2, .long 1)] 9 f115_7 rfl (by decide +kernel) rfl ?_
  refine zw_iload 11 f115_9 rfl rfl ?_
  refine zw_sipush 200 14 f115_11 rfl (by decide +kernel) ?_
  refine zw_ic_ge_f 17 45 f115_14 (by decide +kernel) rfl (by decide +kernel) ?_
  refine zw_lload 19 f115_17 rfl rfl ?_
  refine zw_lconst 0 20 f115_19 rfl (by decide +kernel) ?_
  refine zw_lcmp 1 21 f115_20 rfl (by decide +kernel) ?_
  refine zw_if_eq_f 24 45 f115_21 (by decide +kernel) rfl (by decide +kernel) ?_
  refine zw_lload 26 f115_24 rfl rfl ?_
  refine zw_lload 28 f115_26 rfl rfl ?_
  refine zw_lrem 0 29 f115_28 rfl (by decide +kernel) (by decide +kernel) ?_
  refine zw_lstore [(9, .long 0), (8, .int 0), (6, .long 1), (4, .long 0), (0, .long 0), (2, .long 1)] 31 f115_29 rfl (by decide +kernel) rfl ?_
  refine zw_lload 33 f115_31 rfl rfl ?_
  refine zw_lstore [(4, .long 1), (9, .long 0), (8, .int 0), (6, .long 1), (0, .long 0), (2, .long 1)] 35 f115_33 rfl (by decide +kernel) rfl ?_
  refine zw_lload 37 f115_35 rfl rfl ?_
  refine zw_lstore [(6, .long 0), (4, .long 1), (9, .long 0), (8, .int 0), (0, .long 0), (2, .long 1)] 39 f115_37 rfl (by decide +kernel) rfl ?_
  refine zw_iinc 1 [(8, .int 1), (6, .long 0), (4, .long 1), (9, .long 0), (0, .long 0), (2, .long 1)] 42 f115_39 rfl rfl (by decide +kernel) (by decide +kernel) rfl ?_
  refine zw_goto 9 f115_42 (by decide +kernel) ?_
  refine zw_iload 11 f115_9 rfl rfl ?_
  refine zw_sipush 200 14 f115_11 rfl (by decide +kernel) ?_
  refine zw_ic_ge_f 17 45 f115_14 (by decide +kernel) rfl (by decide +kernel) ?_
  refine zw_lload 19 f115_17 rfl rfl ?_
  refine zw_lconst 0 20 f115_19 rfl (by decide +kernel) ?_
  refine zw_lcmp 0 21 f115_20 rfl (by decide +kernel) ?_
  refine zw_if_eq_t 45 f115_21 (by decide +kernel) (by decide +kernel) ?_
  refine zw_lload 47 f115_45 rfl rfl ?_
  refine zw_lconst 0 48 f115_47 rfl (by decide +kernel) ?_
  refine zw_lcmp 1 49 f115_48 rfl (by decide +kernel) ?_
  refine zw_if_ne_t 56 f115_49 (by decide +kernel) (by decide +kernel) ?_
  refine zw_lload 58 f115_56 rfl rfl ?_
  refine zw_lreturn f115_58 r115 u115 ⟨_, rfl, ?_⟩
  refine zw_lstore [(7, .long 1), (0, .ref 11), (1, .long 1), (3, .long 0), (5, .long 1)] 66 f69_64 rfl (by decide +kernel) rfl ?_
  refine zw_iconst 0 67 f69_66 rfl (by decide +kernel) ?_
  refine zw_istore [(9, .int 0), (7, .long 1), (0, .ref 11), (1, .long 1), (3, .long 0), (5, .long 1)] 69 f69_67 rfl (by decide +kernel) rfl ?_
  refine zw_iload 71 f69_69 rfl rfl ?_
  refine zw_aload_n 72 f69_71 rfl rfl ?_
  refine zw_getfield 75 f69_72 rfl g69_37_10 rfl rfl ?_
  refine zw_getfield 78 f69_75 rfl g69_80_4 rfl rfl ?_
  refine zw_ic_ge_f 81 124 f69_78 (by decide +kernel) rfl (by decide +kernel) ?_
  refine zw_lload 83 f69_81 rfl rfl ?_
  refine zw_lconst 1 84 f69_83 rfl (by decide +kernel) ?_
  refine zw_lcmp 0 85 f69_84 rfl (by decide +kernel) ?_
  refine zw_if_le_t 124 f69_85 (by decide +kernel) (by decide +kernel) ?_
  refine zw_lload 126 f69_124 rfl rfl ?_
  refine zw_lreturn f69_126 r69 u69 ⟨_, rfl, ?_⟩
  refine zw_lstore [(7, .long 1), (5, .long 1), (0, .ref 11), (1, .long 1), (3, .long 0)] 21 f68_19 rfl (by decide +kernel) rfl ?_
  refine zw_lload 23 f68_21 rfl rfl ?_
  refine zw_lconst 0 24 f68_23 rfl (by decide +kernel) ?_
  refine zw_lcmp 1 25 f68_24 rfl (by decide +kernel) ?_
  refine zw_if_eq_f 28 40 f68_25 (by decide +kernel) rfl (by decide +kernel) ?_
  refine zw_lload 30 f68_28 rfl rfl ?_
  refine zw_lload 32 f68_30 rfl rfl ?_
  refine zw_ldiv 1 33 f68_32 rfl (by decide +kernel) (by decide +kernel) ?_
  refine zw_ldc2_w 10000 36 f68_33 rfl (by decide +kernel) ?_
  refine zw_lcmp (-1) 37 f68_36 rfl (by decide +kernel) ?_
  refine zw_if_le_t 42 f68_37 (by decide +kernel) (by decide +kernel) ?_
  refine zw_aload_n 43 f68_42 rfl rfl ?_
  refine zw_getfield 46 f68_43 rfl g68_12_10 rfl rfl ?_
  refine zw_lload 48 f68_46 rfl rfl ?_
  refine zw_lload 50 f68_48 rfl rfl ?_
  refine zw_ldiv 1 51 f68_50 rfl (by decide +kernel) (by decide +kernel) ?_
  refine zw_putfieldS 54 f68_51 rfl g68_109_9 rfl rfl rfl (by decide +kernel) ?_
  refine zw_aload_n 55 f68_54 rfl rfl ?_
  refine zw_getfield 58 f68_55 rfl g68_12_10 rfl rfl ?_
  refine zw_aload_n 59 f68_58 rfl rfl ?_
  refine zw_getfield 62 f68_59 rfl g68_12_10 rfl rfl ?_
  refine zw_getfield 65 f68_62 rfl g68_151_9 rfl rfl ?_
  refine zw_lload_n 66 f68_65 rfl rfl ?_
  refine zw_lmul 0 67 f68_66 rfl (by decide +kernel) ?_
  refine zw_lload_n 68 f68_67 rfl rfl ?_
  refine zw_ladd 0 69 f68_68 rfl (by decide +kernel) ?_
  refine zw_lload 71 f68_69 rfl rfl ?_
  refine zw_ldiv 0 72 f68_71 rfl (by decide +kernel) (by decide +kernel) ?_
  refine zw_putfieldS 75 f68_72 rfl g68_151_9 rfl rfl rfl (by decide +kernel) ?_
  refine zw_aload_n 76 f68_75 rfl rfl ?_
  refine zw_getfield 79 f68_76 rfl g68_12_10 rfl rfl ?_
  refine zw_aload_n 80 f68_79 rfl rfl ?_
  refine zw_getfield 83 f68_80 rfl g68_12_10 rfl rfl ?_
  refine zw_getfield 86 f68_83 rfl g68_177_9 rfl rfl ?_
  refine zw_lload_n 87 f68_86 rfl rfl ?_
  refine zw_lmul 0 88 f68_87 rfl (by decide +kernel) ?_
  refine zw_aload_n 89 f68_88 rfl rfl ?_
  refine zw_getfield 92 f68_89 rfl g68_54_10 rfl rfl ?_
  refine zw_i2l 0 93 f68_92 rfl (by decide +kernel) ?_
  refine zw_lload_n 94 f68_93 rfl rfl ?_
  refine zw_lmul 0 95 f68_94 rfl (by decide +kernel) ?_
  refine zw_ladd 0 96 f68_95 rfl (by decide +kernel) ?_
  refine zw_lload 98 f68_96 rfl rfl ?_
  refine zw_ldiv 0 99 f68_98 rfl (by decide +kernel) (by decide +kernel) ?_
  refine zw_putfieldS 102 f68_99 rfl g68_177_9 rfl rfl rfl (by decide +kernel) ?_
  refine zw_aload_n 103 f68_102 rfl rfl ?_
  refine zw_getfield 106 f68_103 rfl g68_12_10 rfl rfl ?_
  refine zw_aload_n 107 f68_106 rfl rfl ?_
  refine zw_getfield 110 f68_107 rfl g68_12_10 rfl rfl ?_
  refine zw_getfield 113 f68_110 rfl g68_180_9 rfl rfl ?_
  refine zw_lload_n 114 f68_113 rfl rfl ?_
  refine zw_lmul 0 115 f68_114 rfl (by decide +kernel) ?_
  refine zw_aload_n 116 f68_115 rfl rfl ?_
  refine zw_getfield 119 f68_116 rfl g68_58_10 rfl rfl ?_
  refine zw_i2l 0 120 f68_119 rfl (by decide +kernel) ?_
  refine zw_lload_n 121 f68_120 rfl rfl ?_
  refine zw_lmul 0 122 f68_121 rfl (by decide +kernel) ?_
  refine zw_ladd 0 123 f68_122 rfl (by decide +kernel) ?_
  refine zw_lload 125 f68_123 rfl rfl ?_
  refine zw_ldiv 0 126 f68_125 rfl (by decide +kernel) (by decide +kernel) ?_
  refine zw_putfieldS 129 f68_126 rfl g68_180_9 rfl rfl rfl (by decide +kernel) ?_
  refine zw_iconst 0 130 f68_129 rfl (by decide +kernel) ?_
  refine zw_istore [(9, .int 0), (7, .long 1), (5, .long 1), (0, .ref 11), (1, .long 1), (3, .long 0)] 132 f68_130 rfl (by decide +kernel) rfl ?_
  refine zw_iload 134 f68_132 rfl rfl ?_
  refine zw_aload_n 135 f68_134 rfl rfl ?_
  refine zw_getfield 138 f68_135 rfl g68_37_10 rfl rfl ?_
  refine zw_getfield 141 f68_138 rfl g68_80_4 rfl rfl ?_
  refine zw_ic_ge_f 144 186 f68_141 (by decide +kernel) rfl (by decide +kernel) ?_
  refine zw_aload_n 145 f68_144 rfl rfl ?_
  refine zw_getfield 148 f68_145 rfl g68_12_10 rfl rfl ?_
  refine zw_getfield 151 f68_148 rfl g68_87_9 rfl rfl ?_
  refine zw_iload 153 f68_151 rfl rfl ?_
  refine zw_aload_n 154 f68_153 rfl rfl ?_
  refine zw_getfield 157 f68_154 rfl g68_12_10 rfl rfl ?_
  refine zw_getfield 160 f68_157 rfl g68_87_9 rfl rfl ?_
  refine zw_iload 162 f68_160 rfl rfl ?_
  refine zw_laload 0 0 163 f68_162 rfl rfl (by decide +kernel) (by decide +kernel) (by decide +kernel) rfl ?_
  refine zw_lload_n 164 f68_163 rfl rfl ?_
  refine zw_lmul 0 165 f68_164 rfl (by decide +kernel) ?_
  refine zw_aload_n 166 f68_165 rfl rfl ?_
  refine zw_getfield 169 f68_166 rfl g68_22_10 rfl rfl ?_
  refine zw_iload 171 f68_169 rfl rfl ?_
  refine zw_iaload 0 0 172 f68_171 rfl rfl (by decide +kernel) (by decide +kernel) (by decide +kernel) rfl ?_
  refine zw_i2l 0 173 f68_172 rfl (by decide +kernel) ?_
  refine zw_lload_n 174 f68_173 rfl rfl ?_
  refine zw_lmul 0 175 f68_174 rfl (by decide +kernel) ?_
  refine zw_ladd 0 176 f68_175 rfl (by decide +kernel) ?_
  refine zw_lload 178 f68_176 rfl rfl ?_
  refine zw_ldiv 0 179 f68_178 rfl (by decide +kernel) (by decide +kernel) ?_
  refine zw_lastoreS 0 180 f68_179 rfl rfl (by decide +kernel) (by decide +kernel) (by decide +kernel) rfl ?_
  refine zw_iinc 1 [(9, .int 1), (7, .long 1), (5, .long 1), (0, .ref 11), (1, .long 1), (3, .long 0)] 183 f68_180 rfl rfl (by decide +kernel) (by decide +kernel) rfl ?_
  refine zw_goto 132 f68_183 (by decide +kernel) ?_
  refine zw_iload 134 f68_132 rfl rfl ?_
  refine zw_aload_n 135 f68_134 rfl rfl ?_
  refine zw_getfield 138 f68_135 rfl g68_37_10 rfl rfl ?_
  refine zw_getfield 141 f68_138 rfl g68_80_4 rfl rfl ?_
  refine zw_ic_ge_t 186 f68_141 (by decide +kernel) (by decide +kernel) ?_
  refine zw_iconst 1 187 f68_186 rfl (by decide +kernel) ?_
  refine zw_zreturn f68_187 r68 u68 (by decide +kernel) ⟨_, rfl, ?_⟩
  refine zw_pop 116 f70_115 rfl rfl ?_
  refine zw_vreturn f70_116 r70 u70 ⟨rfl, ?_⟩
  refine zw_aload_n 8 f107_7 rfl rfl ?_
  refine zw_getfield 11 f107_8 rfl g107_31_11 rfl rfl ?_
  refine zw_aload_n 12 f107_11 rfl rfl ?_
  refine zw_getfield 15 f107_12 rfl g107_21_11 rfl rfl ?_
  refine zw_virtual_v 18 0 0 [.ref 33, .ref 11] [(0, .ref 33), (1, .ref 11)] f107_15 rfl n107_187 k107_187_3 rfl rfl (by decide +kernel) (Nat.le_of_ble_eq_true rfl) rfl rfl (by decide +kernel) (by decide +kernel) rfl (Nat.le_of_ble_eq_true rfl) rfl ?_
  refine zw_iconst 0 1 f10_0 rfl (by decide +kernel) ?_
  refine zw_istore_n [(2, .int 0), (0, .ref 33), (1, .ref 11)] 2 f10_1 rfl (by decide +kernel) rfl ?_
  refine zw_iload_n 3 f10_2 rfl rfl ?_
  refine zw_aload_n 4 f10_3 rfl rfl ?_
  refine zw_getfield 7 f10_4 rfl g10_24_10 rfl rfl ?_
  refine zw_ic_ge_t 126 f10_7 (by decide +kernel) (by decide +kernel) ?_
  refine zw_vreturn f10_126 r10 u10 ⟨rfl, ?_⟩
  refine zw_aload_n 19 f107_18 rfl rfl ?_
  refine zw_iload_n 20 f107_19 rfl rfl ?_
  refine zw_virtual_i 23 0 0 [.ref 0, .int 0] [(0, .ref 0), (1, .int 0)] f107_20 rfl n107_181 k107_181_11 rfl rfl (by decide +kernel) (Nat.le_of_ble_eq_true rfl) rfl rfl (by decide +kernel) (by decide +kernel) rfl (Nat.le_of_ble_eq_true rfl) rfl ?_
  refine zw_aload_n 1 f106_0 rfl rfl ?_
  refine zw_iconst 0 2 f106_1 rfl (by decide +kernel) ?_
  refine zw_putfieldS 5 f106_2 rfl g106_70_11 rfl rfl rfl (by decide +kernel) ?_
  refine zw_iload_n 6 f106_5 rfl rfl ?_
  refine zw_ireturn f106_6 r106 u106 ⟨_, rfl, ?_⟩
  refine zw_ireturn f107_23 r107 u107 ⟨_, rfl, ?_⟩
  refine zw_ireturn f78_54 r78 u78 ?_
  exact ⟨rfl, by repeat (first | exact zMF_0 | refine zMF_set (by decide) ?_)⟩
set_option maxRecDepth 100000 in
set_option maxHeartbeats 0 in
theorem x_vessel_k4 (ro : UInt32 → Nat × (Nat → Int32)) (b : Int32) (h3 : ¬ b < 1) (h4 : ¬ 200 < b) : zWp ro 78 0 [(0, .ref 0), (1, .int 4), (2, .int b)] [] hF 0 0 (fun r h1 => r = some (.int 0) ∧ zMF h1) := by
  refine zw_iload_n 1 f78_0 rfl rfl ?_
  refine zw_iconst 0 2 f78_1 rfl (by decide +kernel) ?_
  refine zw_iconst 4 3 f78_2 rfl (by decide +kernel) ?_
  refine zw_static_i 6 0 0 [.int 4, .int 0, .int 4] [] [(0, .int 4), (1, .int 0), (2, .int 4)] f78_3 rfl k78_74_99 rfl (by decide +kernel) (Nat.le_of_ble_eq_true rfl) (Nat.le_of_ble_eq_true rfl) rfl rfl (by decide +kernel) (by decide +kernel) rfl (Nat.le_of_ble_eq_true rfl) rfl ?_
  refine zw_iload_n 1 f112_0 rfl rfl ?_
  refine zw_iload_n 2 f112_1 rfl rfl ?_
  refine zw_ic_lt_f 5 14 f112_2 (by decide +kernel) rfl (by decide +kernel) ?_
  refine zw_iload_n 6 f112_5 rfl rfl ?_
  refine zw_iload_n 7 f112_6 rfl rfl ?_
  refine zw_ic_gt_f 10 14 f112_7 (by decide +kernel) rfl (by decide +kernel) ?_
  refine zw_iconst 1 11 f112_10 rfl (by decide +kernel) ?_
  refine zw_goto 15 f112_11 (by decide +kernel) ?_
  refine zw_zreturn f112_15 r112 u112 (by decide +kernel) ⟨_, rfl, ?_⟩
  refine zw_if_eq_f 9 20 f78_6 (by decide +kernel) rfl (by decide +kernel) ?_
  refine zw_iload_n 10 f78_9 rfl rfl ?_
  refine zw_iconst 1 11 f78_10 rfl (by decide +kernel) ?_
  refine zw_sipush 200 14 f78_11 rfl (by decide +kernel) ?_
  refine zw_static_i 17 0 0 [.int b, .int 1, .int 200] [] [(0, .int b), (1, .int 1), (2, .int 200)] f78_14 rfl k78_74_99 rfl (by decide +kernel) (Nat.le_of_ble_eq_true rfl) (Nat.le_of_ble_eq_true rfl) rfl rfl (by decide +kernel) (by decide +kernel) rfl (Nat.le_of_ble_eq_true rfl) rfl ?_
  refine zw_iload_n 1 f112_0 rfl rfl ?_
  refine zw_iload_n 2 f112_1 rfl rfl ?_
  refine zw_ic_lt_f 5 14 f112_2 (by decide +kernel) rfl h3 ?_
  refine zw_iload_n 6 f112_5 rfl rfl ?_
  refine zw_iload_n 7 f112_6 rfl rfl ?_
  refine zw_ic_gt_f 10 14 f112_7 (by decide +kernel) rfl h4 ?_
  refine zw_iconst 1 11 f112_10 rfl (by decide +kernel) ?_
  refine zw_goto 15 f112_11 (by decide +kernel) ?_
  refine zw_zreturn f112_15 r112 u112 (by decide +kernel) ⟨_, rfl, ?_⟩
  refine zw_if_ne_t 26 f78_17 (by decide +kernel) (by decide +kernel) ?_
  refine zw_aload_n 27 f78_26 rfl rfl ?_
  refine zw_getfield 30 f78_27 rfl g78_10_11 rfl rfl ?_
  refine zw_iload_n 31 f78_30 rfl rfl ?_
  refine zw_iload_n 32 f78_31 rfl rfl ?_
  refine zw_virtual_i 35 0 0 [.ref 1, .int 4, .int b] [(0, .ref 1), (1, .int 4), (2, .int b)] f78_32 rfl n78_82 k78_82_4 rfl rfl (by decide +kernel) (Nat.le_of_ble_eq_true rfl) rfl rfl (by decide +kernel) (by decide +kernel) rfl (Nat.le_of_ble_eq_true rfl) rfl ?_
  refine zw_aload_n 1 f20_0 rfl rfl ?_
  refine zw_getfield 4 f20_1 rfl g20_39_4 rfl rfl ?_
  refine zw_istore_n [(3, .int 0), (0, .ref 1), (1, .int 4), (2, .int b)] 5 f20_4 rfl (by decide +kernel) rfl ?_
  refine zw_iload_n 6 f20_5 rfl rfl ?_
  refine zw_bipush 8 8 f20_6 rfl (by decide +kernel) ?_
  refine zw_ic_lt_t 13 f20_8 (by decide +kernel) (by decide +kernel) ?_
  refine zw_aload_n 14 f20_13 rfl rfl ?_
  refine zw_getfield 17 f20_14 rfl g20_9_4 rfl rfl ?_
  refine zw_iload_n 18 f20_17 rfl rfl ?_
  refine zw_iload_n 19 f20_18 rfl rfl ?_
  refine zw_iastore 0 20 f20_19 rfl rfl (by decide +kernel) (by decide +kernel) (by decide +kernel) ?_
  refine zw_aload_n 21 f20_20 rfl rfl ?_
  refine zw_getfield 24 f20_21 rfl g20_15_4 rfl rfl ?_
  refine zw_iload_n 25 f20_24 rfl rfl ?_
  refine zw_iload_n 26 f20_25 rfl rfl ?_
  refine zw_iastore 0 27 f20_26 rfl rfl (by decide +kernel) (by decide +kernel) (by decide +kernel) ?_
  refine zw_aload_n 28 f20_27 rfl rfl ?_
  refine zw_getfield 31 f20_28 rfl g20_18_4 rfl rfl ?_
  refine zw_iload_n 32 f20_31 rfl rfl ?_
  refine zw_iload_n 33 f20_32 rfl rfl ?_
  refine zw_if_eq_f 36 41 f20_33 (by decide +kernel) rfl (by decide +kernel) ?_
  refine zw_iload_n 37 f20_36 rfl rfl ?_
  refine zw_iconst 2 38 f20_37 rfl (by decide +kernel) ?_
  refine zw_ic_ne_t 45 f20_38 (by decide +kernel) (by decide +kernel) ?_
  refine zw_iload_n 46 f20_45 rfl rfl ?_
  refine zw_iastore 0 47 f20_46 rfl rfl (by decide +kernel) (by decide +kernel) (by decide +kernel) ?_
  refine zw_aload_n 48 f20_47 rfl rfl ?_
  refine zw_getfield 51 f20_48 rfl g20_21_4 rfl rfl ?_
  refine zw_iload_n 52 f20_51 rfl rfl ?_
  refine zw_iconst 0 53 f20_52 rfl (by decide +kernel) ?_
  refine zw_iastoreS 0 54 f20_53 rfl rfl (by decide +kernel) (by decide +kernel) (by decide +kernel) rfl ?_
  refine zw_aload_n 55 f20_54 rfl rfl ?_
  refine zw_getfield 58 f20_55 rfl g20_24_4 rfl rfl ?_
  refine zw_iload_n 59 f20_58 rfl rfl ?_
  refine zw_iconst (-1) 60 f20_59 rfl (by decide +kernel) ?_
  refine zw_iastore 0 61 f20_60 rfl rfl (by decide +kernel) (by decide +kernel) (by decide +kernel) ?_
  refine zw_aload_n 62 f20_61 rfl rfl ?_
  refine zw_getfield 65 f20_62 rfl g20_27_4 rfl rfl ?_
  refine zw_iload_n 66 f20_65 rfl rfl ?_
  refine zw_iconst (-1) 67 f20_66 rfl (by decide +kernel) ?_
  refine zw_iastore 0 68 f20_67 rfl rfl (by decide +kernel) (by decide +kernel) (by decide +kernel) ?_
  refine zw_aload_n 69 f20_68 rfl rfl ?_
  refine zw_getfield 72 f20_69 rfl g20_30_4 rfl rfl ?_
  refine zw_iload_n 73 f20_72 rfl rfl ?_
  refine zw_iconst (-1) 74 f20_73 rfl (by decide +kernel) ?_
  refine zw_iastore 0 75 f20_74 rfl rfl (by decide +kernel) (by decide +kernel) (by decide +kernel) ?_
  refine zw_aload_n 76 f20_75 rfl rfl ?_
  refine zw_iload_n 77 f20_76 rfl rfl ?_
  refine zw_iconst 1 78 f20_77 rfl (by decide +kernel) ?_
  refine zw_iadd 1 79 f20_78 rfl (by decide +kernel) ?_
  refine zw_putfield 82 f20_79 rfl g20_39_4 rfl rfl (Nat.le_of_ble_eq_true rfl) (by decide +kernel) ?_
  refine zw_iload_n 83 f20_82 rfl rfl ?_
  refine zw_ireturn f20_83 r20 u20 ⟨_, rfl, ?_⟩
  refine zw_istore_n [(3, .int 0), (0, .ref 0), (1, .int 4), (2, .int b)] 36 f78_35 rfl (by decide +kernel) rfl ?_
  refine zw_iload_n 37 f78_36 rfl rfl ?_
  refine zw_iconst (-1) 38 f78_37 rfl (by decide +kernel) ?_
  refine zw_ic_ne_t 49 f78_38 (by decide +kernel) (by decide +kernel) ?_
  refine zw_aload_n 50 f78_49 rfl rfl ?_
  refine zw_iload_n 51 f78_50 rfl rfl ?_
  refine zw_virtual_i 54 0 0 [.ref 0, .int 0] [(0, .ref 0), (1, .int 0)] f78_51 rfl n78_86 k78_86_11 rfl rfl (by decide +kernel) (Nat.le_of_ble_eq_true rfl) rfl rfl (by decide +kernel) (by decide +kernel) rfl (Nat.le_of_ble_eq_true rfl) rfl ?_
  refine zw_aload_n 1 f107_0 rfl rfl ?_
  refine zw_getfield 4 f107_1 rfl g107_21_11 rfl rfl ?_
  refine zw_virtual_v 7 0 0 [.ref 11] [(0, .ref 11)] f107_4 rfl n107_318 k107_318_10 rfl rfl (by decide +kernel) (Nat.le_of_ble_eq_true rfl) rfl rfl (by decide +kernel) (by decide +kernel) rfl (Nat.le_of_ble_eq_true rfl) rfl ?_
  refine zw_aload_n 1 f70_0 rfl rfl ?_
  refine zw_iconst 0 2 f70_1 rfl (by decide +kernel) ?_
  refine zw_putfieldS 5 f70_2 rfl g70_161_10 rfl rfl rfl (by decide +kernel) ?_
  refine zw_iconst 0 6 f70_5 rfl (by decide +kernel) ?_
  refine zw_istore_n [(1, .int 0), (0, .ref 11)] 7 f70_6 rfl (by decide +kernel) rfl ?_
  refine zw_iload_n 8 f70_7 rfl rfl ?_
  refine zw_aload_n 9 f70_8 rfl rfl ?_
  refine zw_getfield 12 f70_9 rfl g70_37_10 rfl rfl ?_
  refine zw_getfield 15 f70_12 rfl g70_80_4 rfl rfl ?_
  refine zw_ic_ge_f 18 49 f70_15 (by decide +kernel) rfl (by decide +kernel) ?_
  refine zw_aload_n 19 f70_18 rfl rfl ?_
  refine zw_getfield 22 f70_19 rfl g70_37_10 rfl rfl ?_
  refine zw_iload_n 23 f70_22 rfl rfl ?_
  refine zw_virtual_i 26 0 0 [.ref 1, .int 0] [(0, .ref 1), (1, .int 0)] f70_23 rfl n70_132 k70_132_4 rfl rfl (by decide +kernel) (Nat.le_of_ble_eq_true rfl) rfl rfl (by decide +kernel) (by decide +kernel) rfl (Nat.le_of_ble_eq_true rfl) rfl ?_
  refine zw_iload_n 1 f15_0 rfl rfl ?_
  refine zw_if_lt_f 4 27 f15_1 (by decide +kernel) rfl (by decide +kernel) ?_
  refine zw_iload_n 5 f15_4 rfl rfl ?_
  refine zw_aload_n 6 f15_5 rfl rfl ?_
  refine zw_getfield 9 f15_6 rfl g15_39_4 rfl rfl ?_
  refine zw_ic_ge_f 12 27 f15_9 (by decide +kernel) rfl (by decide +kernel) ?_
  refine zw_iload_n 13 f15_12 rfl rfl ?_
  refine zw_bipush 8 15 f15_13 rfl (by decide +kernel) ?_
  refine zw_ic_ge_f 18 27 f15_15 (by decide +kernel) rfl (by decide +kernel) ?_
  refine zw_aload_n 19 f15_18 rfl rfl ?_
  refine zw_getfield 22 f15_19 rfl g15_9_4 rfl rfl ?_
  refine zw_iload_n 23 f15_22 rfl rfl ?_
  refine zw_iaload 0 4 24 f15_23 rfl rfl (by decide +kernel) (by decide +kernel) (by decide +kernel) rfl ?_
  refine zw_goto 28 f15_24 (by decide +kernel) ?_
  refine zw_ireturn f15_28 r15 u15 ⟨_, rfl, ?_⟩
  refine zw_iconst 2 27 f70_26 rfl (by decide +kernel) ?_
  refine zw_ic_ne_t 43 f70_27 (by decide +kernel) (by decide +kernel) ?_
  refine zw_iinc 1 [(1, .int 1), (0, .ref 11)] 46 f70_43 rfl rfl (by decide +kernel) (by decide +kernel) rfl ?_
  refine zw_goto 7 f70_46 (by decide +kernel) ?_
  refine zw_iload_n 8 f70_7 rfl rfl ?_
  refine zw_aload_n 9 f70_8 rfl rfl ?_
  refine zw_getfield 12 f70_9 rfl g70_37_10 rfl rfl ?_
  refine zw_getfield 15 f70_12 rfl g70_80_4 rfl rfl ?_
  refine zw_ic_ge_t 49 f70_15 (by decide +kernel) (by decide +kernel) ?_
  refine zw_iconst 0 50 f70_49 rfl (by decide +kernel) ?_
  refine zw_istore_n [(1, .int 0), (0, .ref 11)] 51 f70_50 rfl (by decide +kernel) rfl ?_
  refine zw_iload_n 52 f70_51 rfl rfl ?_
  refine zw_aload_n 53 f70_52 rfl rfl ?_
  refine zw_getfield 56 f70_53 rfl g70_37_10 rfl rfl ?_
  refine zw_getfield 59 f70_56 rfl g70_80_4 rfl rfl ?_
  refine zw_ic_ge_f 62 85 f70_59 (by decide +kernel) rfl (by decide +kernel) ?_
  refine zw_aload_n 63 f70_62 rfl rfl ?_
  refine zw_getfield 66 f70_63 rfl g70_37_10 rfl rfl ?_
  refine zw_iload_n 67 f70_66 rfl rfl ?_
  refine zw_virtual_i 70 0 0 [.ref 1, .int 0] [(0, .ref 1), (1, .int 0)] f70_67 rfl n70_132 k70_132_4 rfl rfl (by decide +kernel) (Nat.le_of_ble_eq_true rfl) rfl rfl (by decide +kernel) (by decide +kernel) rfl (Nat.le_of_ble_eq_true rfl) rfl ?_
  refine zw_iload_n 1 f15_0 rfl rfl ?_
  refine zw_if_lt_f 4 27 f15_1 (by decide +kernel) rfl (by decide +kernel) ?_
  refine zw_iload_n 5 f15_4 rfl rfl ?_
  refine zw_aload_n 6 f15_5 rfl rfl ?_
  refine zw_getfield 9 f15_6 rfl g15_39_4 rfl rfl ?_
  refine zw_ic_ge_f 12 27 f15_9 (by decide +kernel) rfl (by decide +kernel) ?_
  refine zw_iload_n 13 f15_12 rfl rfl ?_
  refine zw_bipush 8 15 f15_13 rfl (by decide +kernel) ?_
  refine zw_ic_ge_f 18 27 f15_15 (by decide +kernel) rfl (by decide +kernel) ?_
  refine zw_aload_n 19 f15_18 rfl rfl ?_
  refine zw_getfield 22 f15_19 rfl g15_9_4 rfl rfl ?_
  refine zw_iload_n 23 f15_22 rfl rfl ?_
  refine zw_iaload 0 4 24 f15_23 rfl rfl (by decide +kernel) (by decide +kernel) (by decide +kernel) rfl ?_
  refine zw_goto 28 f15_24 (by decide +kernel) ?_
  refine zw_ireturn f15_28 r15 u15 ⟨_, rfl, ?_⟩
  refine zw_iconst 1 71 f70_70 rfl (by decide +kernel) ?_
  refine zw_ic_ne_t 79 f70_71 (by decide +kernel) (by decide +kernel) ?_
  refine zw_iinc 1 [(1, .int 1), (0, .ref 11)] 82 f70_79 rfl rfl (by decide +kernel) (by decide +kernel) rfl ?_
  refine zw_goto 51 f70_82 (by decide +kernel) ?_
  refine zw_iload_n 52 f70_51 rfl rfl ?_
  refine zw_aload_n 53 f70_52 rfl rfl ?_
  refine zw_getfield 56 f70_53 rfl g70_37_10 rfl rfl ?_
  refine zw_getfield 59 f70_56 rfl g70_80_4 rfl rfl ?_
  refine zw_ic_ge_t 85 f70_59 (by decide +kernel) (by decide +kernel) ?_
  refine zw_iconst 0 86 f70_85 rfl (by decide +kernel) ?_
  refine zw_istore_n [(1, .int 0), (0, .ref 11)] 87 f70_86 rfl (by decide +kernel) rfl ?_
  refine zw_iload_n 88 f70_87 rfl rfl ?_
  refine zw_aload_n 89 f70_88 rfl rfl ?_
  refine zw_getfield 92 f70_89 rfl g70_37_10 rfl rfl ?_
  refine zw_getfield 95 f70_92 rfl g70_80_4 rfl rfl ?_
  refine zw_ic_ge_f 98 109 f70_95 (by decide +kernel) rfl (by decide +kernel) ?_
  refine zw_aload_n 99 f70_98 rfl rfl ?_
  refine zw_iload_n 100 f70_99 rfl rfl ?_
  refine zw_virtual_v 103 0 0 [.ref 11, .int 0] [(0, .ref 11), (1, .int 0)] f70_100 rfl n70_193 k70_193_10 rfl rfl (by decide +kernel) (Nat.le_of_ble_eq_true rfl) rfl rfl (by decide +kernel) (by decide +kernel) rfl (Nat.le_of_ble_eq_true rfl) rfl ?_
  refine zw_aload_n 1 f74_0 rfl rfl ?_
  refine zw_iload_n 2 f74_1 rfl rfl ?_
  refine zw_iconst 1 3 f74_2 rfl (by decide +kernel) ?_
  refine zw_virtual_i 6 0 0 [.ref 11, .int 0, .int 1] [(0, .ref 11), (1, .int 0), (2, .int 1)] f74_3 rfl n74_135 k74_135_10 rfl rfl (by decide +kernel) (Nat.le_of_ble_eq_true rfl) rfl rfl (by decide +kernel) (by decide +kernel) rfl (Nat.le_of_ble_eq_true rfl) rfl ?_
  refine zw_aload_n 1 f56_0 rfl rfl ?_
  refine zw_getfield 4 f56_1 rfl g56_37_10 rfl rfl ?_
  refine zw_iload_n 5 f56_4 rfl rfl ?_
  refine zw_virtual_i 8 0 0 [.ref 1, .int 0] [(0, .ref 1), (1, .int 0)] f56_5 rfl n56_145 k56_145_4 rfl rfl (by decide +kernel) (Nat.le_of_ble_eq_true rfl) rfl rfl (by decide +kernel) (by decide +kernel) rfl (Nat.le_of_ble_eq_true rfl) rfl ?_
  refine zw_iload_n 1 f17_0 rfl rfl ?_
  refine zw_if_lt_f 4 22 f17_1 (by decide +kernel) rfl (by decide +kernel) ?_
  refine zw_iload_n 5 f17_4 rfl rfl ?_
  refine zw_aload_n 6 f17_5 rfl rfl ?_
  refine zw_getfield 9 f17_6 rfl g17_39_4 rfl rfl ?_
  refine zw_ic_ge_f 12 22 f17_9 (by decide +kernel) rfl (by decide +kernel) ?_
  refine zw_iload_n 13 f17_12 rfl rfl ?_
  refine zw_bipush 8 15 f17_13 rfl (by decide +kernel) ?_
  refine zw_ic_ge_f 18 22 f17_15 (by decide +kernel) rfl (by decide +kernel) ?_
  refine zw_iconst 1 19 f17_18 rfl (by decide +kernel) ?_
  refine zw_goto 23 f17_19 (by decide +kernel) ?_
  refine zw_istore_n [(2, .int 1), (0, .ref 1), (1, .int 0)] 24 f17_23 rfl (by decide +kernel) rfl ?_
  refine zw_iload_n 25 f17_24 rfl rfl ?_
  refine zw_if_eq_f 28 52 f17_25 (by decide +kernel) rfl (by decide +kernel) ?_
  refine zw_aload_n 29 f17_28 rfl rfl ?_
  refine zw_getfield 32 f17_29 rfl g17_9_4 rfl rfl ?_
  refine zw_iload_n 33 f17_32 rfl rfl ?_
  refine zw_iaload 0 4 34 f17_33 rfl rfl (by decide +kernel) (by decide +kernel) (by decide +kernel) rfl ?_
  refine zw_iconst 3 35 f17_34 rfl (by decide +kernel) ?_
  refine zw_ic_eq_f 38 48 f17_35 (by decide +kernel) rfl (by decide +kernel) ?_
  refine zw_aload_n 39 f17_38 rfl rfl ?_
  refine zw_getfield 42 f17_39 rfl g17_9_4 rfl rfl ?_
  refine zw_iload_n 43 f17_42 rfl rfl ?_
  refine zw_iaload 0 4 44 f17_43 rfl rfl (by decide +kernel) (by decide +kernel) (by decide +kernel) rfl ?_
  refine zw_iconst 4 45 f17_44 rfl (by decide +kernel) ?_
  refine zw_ic_ne_f 48 52 f17_45 (by decide +kernel) rfl (by decide +kernel) ?_
  refine zw_iconst 1 49 f17_48 rfl (by decide +kernel) ?_
  refine zw_goto 53 f17_49 (by decide +kernel) ?_
  refine zw_zreturn f17_53 r17 u17 (by decide +kernel) ⟨_, rfl, ?_⟩
  refine zw_if_eq_f 11 23 f56_8 (by decide +kernel) rfl (by decide +kernel) ?_
  refine zw_aload_n 12 f56_11 rfl rfl ?_
  refine zw_getfield 15 f56_12 rfl g56_37_10 rfl rfl ?_
  refine zw_getfield 18 f56_15 rfl g56_148_4 rfl rfl ?_
  refine zw_iload_n 19 f56_18 rfl rfl ?_
  refine zw_iaload 0 (-1) 20 f56_19 rfl rfl (by decide +kernel) (by decide +kernel) (by decide +kernel) rfl ?_
  refine zw_goto 24 f56_20 (by decide +kernel) ?_
  refine zw_istore_n [(3, .int (-1)), (0, .ref 11), (1, .int 0), (2, .int 1)] 25 f56_24 rfl (by decide +kernel) rfl ?_
  refine zw_iload_n 26 f56_25 rfl rfl ?_
  refine zw_iconst (-1) 27 f56_26 rfl (by decide +kernel) ?_
  refine zw_ic_eq_t 46 f56_27 (by decide +kernel) (by decide +kernel) ?_
  refine zw_iconst 0 47 f56_46 rfl (by decide +kernel) ?_
  refine zw_zreturn f56_47 r56 u56 (by decide +kernel) ⟨_, rfl, ?_⟩
  refine zw_if_eq_t 79 f74_6 (by decide +kernel) (by decide +kernel) ?_
  refine zw_aload_n 80 f74_79 rfl rfl ?_
  refine zw_iload_n 81 f74_80 rfl rfl ?_
  refine zw_iconst 0 82 f74_81 rfl (by decide +kernel) ?_
  refine zw_virtual_i 85 0 0 [.ref 11, .int 0, .int 0] [(0, .ref 11), (1, .int 0), (2, .int 0)] f74_82 rfl n74_135 k74_135_10 rfl rfl (by decide +kernel) (Nat.le_of_ble_eq_true rfl) rfl rfl (by decide +kernel) (by decide +kernel) rfl (Nat.le_of_ble_eq_true rfl) rfl ?_
  refine zw_aload_n 1 f56_0 rfl rfl ?_
  refine zw_getfield 4 f56_1 rfl g56_37_10 rfl rfl ?_
  refine zw_iload_n 5 f56_4 rfl rfl ?_
  refine zw_virtual_i 8 0 0 [.ref 1, .int 0] [(0, .ref 1), (1, .int 0)] f56_5 rfl n56_145 k56_145_4 rfl rfl (by decide +kernel) (Nat.le_of_ble_eq_true rfl) rfl rfl (by decide +kernel) (by decide +kernel) rfl (Nat.le_of_ble_eq_true rfl) rfl ?_
  refine zw_iload_n 1 f17_0 rfl rfl ?_
  refine zw_if_lt_f 4 22 f17_1 (by decide +kernel) rfl (by decide +kernel) ?_
  refine zw_iload_n 5 f17_4 rfl rfl ?_
  refine zw_aload_n 6 f17_5 rfl rfl ?_
  refine zw_getfield 9 f17_6 rfl g17_39_4 rfl rfl ?_
  refine zw_ic_ge_f 12 22 f17_9 (by decide +kernel) rfl (by decide +kernel) ?_
  refine zw_iload_n 13 f17_12 rfl rfl ?_
  refine zw_bipush 8 15 f17_13 rfl (by decide +kernel) ?_
  refine zw_ic_ge_f 18 22 f17_15 (by decide +kernel) rfl (by decide +kernel) ?_
  refine zw_iconst 1 19 f17_18 rfl (by decide +kernel) ?_
  refine zw_goto 23 f17_19 (by decide +kernel) ?_
  refine zw_istore_n [(2, .int 1), (0, .ref 1), (1, .int 0)] 24 f17_23 rfl (by decide +kernel) rfl ?_
  refine zw_iload_n 25 f17_24 rfl rfl ?_
  refine zw_if_eq_f 28 52 f17_25 (by decide +kernel) rfl (by decide +kernel) ?_
  refine zw_aload_n 29 f17_28 rfl rfl ?_
  refine zw_getfield 32 f17_29 rfl g17_9_4 rfl rfl ?_
  refine zw_iload_n 33 f17_32 rfl rfl ?_
  refine zw_iaload 0 4 34 f17_33 rfl rfl (by decide +kernel) (by decide +kernel) (by decide +kernel) rfl ?_
  refine zw_iconst 3 35 f17_34 rfl (by decide +kernel) ?_
  refine zw_ic_eq_f 38 48 f17_35 (by decide +kernel) rfl (by decide +kernel) ?_
  refine zw_aload_n 39 f17_38 rfl rfl ?_
  refine zw_getfield 42 f17_39 rfl g17_9_4 rfl rfl ?_
  refine zw_iload_n 43 f17_42 rfl rfl ?_
  refine zw_iaload 0 4 44 f17_43 rfl rfl (by decide +kernel) (by decide +kernel) (by decide +kernel) rfl ?_
  refine zw_iconst 4 45 f17_44 rfl (by decide +kernel) ?_
  refine zw_ic_ne_f 48 52 f17_45 (by decide +kernel) rfl (by decide +kernel) ?_
  refine zw_iconst 1 49 f17_48 rfl (by decide +kernel) ?_
  refine zw_goto 53 f17_49 (by decide +kernel) ?_
  refine zw_zreturn f17_53 r17 u17 (by decide +kernel) ⟨_, rfl, ?_⟩
  refine zw_if_eq_f 11 23 f56_8 (by decide +kernel) rfl (by decide +kernel) ?_
  refine zw_aload_n 12 f56_11 rfl rfl ?_
  refine zw_getfield 15 f56_12 rfl g56_37_10 rfl rfl ?_
  refine zw_getfield 18 f56_15 rfl g56_148_4 rfl rfl ?_
  refine zw_iload_n 19 f56_18 rfl rfl ?_
  refine zw_iaload 0 (-1) 20 f56_19 rfl rfl (by decide +kernel) (by decide +kernel) (by decide +kernel) rfl ?_
  refine zw_goto 24 f56_20 (by decide +kernel) ?_
  refine zw_istore_n [(3, .int (-1)), (0, .ref 11), (1, .int 0), (2, .int 0)] 25 f56_24 rfl (by decide +kernel) rfl ?_
  refine zw_iload_n 26 f56_25 rfl rfl ?_
  refine zw_iconst (-1) 27 f56_26 rfl (by decide +kernel) ?_
  refine zw_ic_eq_t 46 f56_27 (by decide +kernel) (by decide +kernel) ?_
  refine zw_iconst 0 47 f56_46 rfl (by decide +kernel) ?_
  refine zw_zreturn f56_47 r56 u56 (by decide +kernel) ⟨_, rfl, ?_⟩
  refine zw_if_eq_t 142 f74_85 (by decide +kernel) (by decide +kernel) ?_
  refine zw_vreturn f74_142 r74 u74 ⟨rfl, ?_⟩
  refine zw_iinc 1 [(1, .int 1), (0, .ref 11)] 106 f70_103 rfl rfl (by decide +kernel) (by decide +kernel) rfl ?_
  refine zw_goto 87 f70_106 (by decide +kernel) ?_
  refine zw_iload_n 88 f70_87 rfl rfl ?_
  refine zw_aload_n 89 f70_88 rfl rfl ?_
  refine zw_getfield 92 f70_89 rfl g70_37_10 rfl rfl ?_
  refine zw_getfield 95 f70_92 rfl g70_80_4 rfl rfl ?_
  refine zw_ic_ge_t 109 f70_95 (by decide +kernel) (by decide +kernel) ?_
  refine zw_aload_n 110 f70_109 rfl rfl ?_
  refine zw_lconst 1 111 f70_110 rfl (by decide +kernel) ?_
  refine zw_lconst 0 112 f70_111 rfl (by decide +kernel) ?_
  refine zw_virtual_i 115 0 0 [.ref 11, .long 1, .long 0] [(0, .ref 11), (1, .long 1), (3, .long 0)] f70_112 rfl n70_164 k70_164_10 rfl rfl (by decide +kernel) (Nat.le_of_ble_eq_true rfl) rfl rfl (by decide +kernel) (by decide +kernel) rfl (Nat.le_of_ble_eq_true rfl) rfl ?_
  refine zw_aload_n 1 f68_0 rfl rfl ?_
  refine zw_getfield 4 f68_1 rfl g68_12_10 rfl rfl ?_
  refine zw_getfield 7 f68_4 rfl g68_109_9 rfl rfl ?_
  refine zw_lload_n 8 f68_7 rfl rfl ?_
  refine zw_lmul 1 9 f68_8 rfl (by decide +kernel) ?_
  refine zw_lstore [(5, .long 1), (0, .ref 11), (1, .long 1), (3, .long 0)] 11 f68_9 rfl (by decide +kernel) rfl ?_
  refine zw_aload_n 12 f68_11 rfl rfl ?_
  refine zw_lload_n 13 f68_12 rfl rfl ?_
  refine zw_lload_n 14 f68_13 rfl rfl ?_
  refine zw_lload 16 f68_14 rfl rfl ?_
  refine zw_virtual_l 19 0 0 [.ref 11, .long 1, .long 0, .long 1] [(0, .ref 11), (1, .long 1), (3, .long 0), (5, .long 1)] f68_16 rfl n68_171 k68_171_10 rfl rfl (by decide +kernel) (Nat.le_of_ble_eq_true rfl) rfl rfl (by decide +kernel) (by decide +kernel) rfl (Nat.le_of_ble_eq_true rfl) rfl ?_
  refine zw_aload_n 1 f69_0 rfl rfl ?_
  refine zw_getfield 4 f69_1 rfl g69_12_10 rfl rfl ?_
  refine zw_getfield 7 f69_4 rfl g69_151_9 rfl rfl ?_
  refine zw_lload_n 8 f69_7 rfl rfl ?_
  refine zw_lmul 0 9 f69_8 rfl (by decide +kernel) ?_
  refine zw_lload_n 10 f69_9 rfl rfl ?_
  refine zw_ladd 0 11 f69_10 rfl (by decide +kernel) ?_
  refine zw_lload 13 f69_11 rfl rfl ?_
  refine zw_static_l 16 0 0 [.long 0, .long 1] [] [(0, .long 0), (2, .long 1)] f69_13 rfl k69_183_99 rfl (by decide +kernel) (Nat.le_of_ble_eq_true rfl) (Nat.le_of_ble_eq_true rfl) rfl rfl (by decide +kernel) (by decide +kernel) rfl (Nat.le_of_ble_eq_true rfl) rfl ?_
  refine zw_lload_n 1 f115_0 rfl rfl ?_
  refine zw_lstore [(4, .long 0), (0, .long 0), (2, .long 1)] 3 f115_1 rfl (by decide +kernel) rfl ?_
  refine zw_lload_n 4 f115_3 rfl rfl ?_
  refine zw_lstore [(6, .long 1), (4, .long 0), (0, .long 0), (2, .long 1)] 6 f115_4 rfl (by decide +kernel) rfl ?_
  refine zw_iconst 0 7 f115_6 rfl (by decide +kernel) ?_
  refine zw_istore [(8, .int 0), (6, .long 1), (4, .long 0), (0, .long 0), (2, .long 1)] 9 f115_7 rfl (by decide +kernel) rfl ?_
  refine zw_iload 11 f115_9 rfl rfl ?_
  refine zw_sipush 200 14 f115_11 rfl (by decide +kernel) ?_
  refine zw_ic_ge_f 17 45 f115_14 (by decide +kernel) rfl (by decide +kernel) ?_
  refine zw_lload 19 f115_17 rfl rfl ?_
  refine zw_lconst 0 20 f115_19 rfl (by decide +kernel) ?_
  refine zw_lcmp 1 21 f115_20 rfl (by decide +kernel) ?_
  refine zw_if_eq_f 24 45 f115_21 (by decide +kernel) rfl (by decide +kernel) ?_
  refine zw_lload 26 f115_24 rfl rfl ?_
  refine zw_lload 28 f115_26 rfl rfl ?_
  refine zw_lrem 0 29 f115_28 rfl (by decide +kernel) (by decide +kernel) ?_
  refine zw_lstore [(9, .long 0), (8, .int 0), (6, .long 1), (4, .long 0), (0, .long 0), (2, .long 1)] 31 f115_29 rfl (by decide +kernel) rfl ?_
  refine zw_lload 33 f115_31 rfl rfl ?_
  refine zw_lstore [(4, .long 1), (9, .long 0), (8, .int 0), (6, .long 1), (0, .long 0), (2, .long 1)] 35 f115_33 rfl (by decide +kernel) rfl ?_
  refine zw_lload 37 f115_35 rfl rfl ?_
  refine zw_lstore [(6, .long 0), (4, .long 1), (9, .long 0), (8, .int 0), (0, .long 0), (2, .long 1)] 39 f115_37 rfl (by decide +kernel) rfl ?_
  refine zw_iinc 1 [(8, .int 1), (6, .long 0), (4, .long 1), (9, .long 0), (0, .long 0), (2, .long 1)] 42 f115_39 rfl rfl (by decide +kernel) (by decide +kernel) rfl ?_
  refine zw_goto 9 f115_42 (by decide +kernel) ?_
  refine zw_iload 11 f115_9 rfl rfl ?_
  refine zw_sipush 200 14 f115_11 rfl (by decide +kernel) ?_
  refine zw_ic_ge_f 17 45 f115_14 (by decide +kernel) rfl (by decide +kernel) ?_
  refine zw_lload 19 f115_17 rfl rfl ?_
  refine zw_lconst 0 20 f115_19 rfl (by decide +kernel) ?_
  refine zw_lcmp 0 21 f115_20 rfl (by decide +kernel) ?_
  refine zw_if_eq_t 45 f115_21 (by decide +kernel) (by decide +kernel) ?_
  refine zw_lload 47 f115_45 rfl rfl ?_
  refine zw_lconst 0 48 f115_47 rfl (by decide +kernel) ?_
  refine zw_lcmp 1 49 f115_48 rfl (by decide +kernel) ?_
  refine zw_if_ne_t 56 f115_49 (by decide +kernel) (by decide +kernel) ?_
  refine zw_lload 58 f115_56 rfl rfl ?_
  refine zw_lreturn f115_58 r115 u115 ⟨_, rfl, ?_⟩
  refine zw_lstore [(7, .long 1), (0, .ref 11), (1, .long 1), (3, .long 0), (5, .long 1)] 18 f69_16 rfl (by decide +kernel) rfl ?_
  refine zw_aload_n 19 f69_18 rfl rfl ?_
  refine zw_getfield 22 f69_19 rfl g69_12_10 rfl rfl ?_
  refine zw_getfield 25 f69_22 rfl g69_177_9 rfl rfl ?_
  refine zw_lload_n 26 f69_25 rfl rfl ?_
  refine zw_lmul 0 27 f69_26 rfl (by decide +kernel) ?_
  refine zw_aload_n 28 f69_27 rfl rfl ?_
  refine zw_getfield 31 f69_28 rfl g69_54_10 rfl rfl ?_
  refine zw_i2l 0 32 f69_31 rfl (by decide +kernel) ?_
  refine zw_lload_n 33 f69_32 rfl rfl ?_
  refine zw_lmul 0 34 f69_33 rfl (by decide +kernel) ?_
  refine zw_ladd 0 35 f69_34 rfl (by decide +kernel) ?_
  refine zw_lload 37 f69_35 rfl rfl ?_
  refine zw_static_l 40 0 0 [.long 0, .long 1] [] [(0, .long 0), (2, .long 1)] f69_37 rfl k69_183_99 rfl (by decide +kernel) (Nat.le_of_ble_eq_true rfl) (Nat.le_of_ble_eq_true rfl) rfl rfl (by decide +kernel) (by decide +kernel) rfl (Nat.le_of_ble_eq_true rfl) rfl ?_
  refine zw_lload_n 1 f115_0 rfl rfl ?_
  refine zw_lstore [(4, .long 0), (0, .long 0), (2, .long 1)] 3 f115_1 rfl (by decide +kernel) rfl ?_
  refine zw_lload_n 4 f115_3 rfl rfl ?_
  refine zw_lstore [(6, .long 1), (4, .long 0), (0, .long 0), (2, .long 1)] 6 f115_4 rfl (by decide +kernel) rfl ?_
  refine zw_iconst 0 7 f115_6 rfl (by decide +kernel) ?_
  refine zw_istore [(8, .int 0), (6, .long 1), (4, .long 0), (0, .long 0), (2, .long 1)] 9 f115_7 rfl (by decide +kernel) rfl ?_
  refine zw_iload 11 f115_9 rfl rfl ?_
  refine zw_sipush 200 14 f115_11 rfl (by decide +kernel) ?_
  refine zw_ic_ge_f 17 45 f115_14 (by decide +kernel) rfl (by decide +kernel) ?_
  refine zw_lload 19 f115_17 rfl rfl ?_
  refine zw_lconst 0 20 f115_19 rfl (by decide +kernel) ?_
  refine zw_lcmp 1 21 f115_20 rfl (by decide +kernel) ?_
  refine zw_if_eq_f 24 45 f115_21 (by decide +kernel) rfl (by decide +kernel) ?_
  refine zw_lload 26 f115_24 rfl rfl ?_
  refine zw_lload 28 f115_26 rfl rfl ?_
  refine zw_lrem 0 29 f115_28 rfl (by decide +kernel) (by decide +kernel) ?_
  refine zw_lstore [(9, .long 0), (8, .int 0), (6, .long 1), (4, .long 0), (0, .long 0), (2, .long 1)] 31 f115_29 rfl (by decide +kernel) rfl ?_
  refine zw_lload 33 f115_31 rfl rfl ?_
  refine zw_lstore [(4, .long 1), (9, .long 0), (8, .int 0), (6, .long 1), (0, .long 0), (2, .long 1)] 35 f115_33 rfl (by decide +kernel) rfl ?_
  refine zw_lload 37 f115_35 rfl rfl ?_
  refine zw_lstore [(6, .long 0), (4, .long 1), (9, .long 0), (8, .int 0), (0, .long 0), (2, .long 1)] 39 f115_37 rfl (by decide +kernel) rfl ?_
  refine zw_iinc 1 [(8, .int 1), (6, .long 0), (4, .long 1), (9, .long 0), (0, .long 0), (2, .long 1)] 42 f115_39 rfl rfl (by decide +kernel) (by decide +kernel) rfl ?_
  refine zw_goto 9 f115_42 (by decide +kernel) ?_
  refine zw_iload 11 f115_9 rfl rfl ?_
  refine zw_sipush 200 14 f115_11 rfl (by decide +kernel) ?_
  refine zw_ic_ge_f 17 45 f115_14 (by decide +kernel) rfl (by decide +kernel) ?_
  refine zw_lload 19 f115_17 rfl rfl ?_
  refine zw_lconst 0 20 f115_19 rfl (by decide +kernel) ?_
  refine zw_lcmp 0 21 f115_20 rfl (by decide +kernel) ?_
  refine zw_if_eq_t 45 f115_21 (by decide +kernel) (by decide +kernel) ?_
  refine zw_lload 47 f115_45 rfl rfl ?_
  refine zw_lconst 0 48 f115_47 rfl (by decide +kernel) ?_
  refine zw_lcmp 1 49 f115_48 rfl (by decide +kernel) ?_
  refine zw_if_ne_t 56 f115_49 (by decide +kernel) (by decide +kernel) ?_
  refine zw_lload 58 f115_56 rfl rfl ?_
  refine zw_lreturn f115_58 r115 u115 ⟨_, rfl, ?_⟩
  refine zw_lstore [(7, .long 1), (0, .ref 11), (1, .long 1), (3, .long 0), (5, .long 1)] 42 f69_40 rfl (by decide +kernel) rfl ?_
  refine zw_aload_n 43 f69_42 rfl rfl ?_
  refine zw_getfield 46 f69_43 rfl g69_12_10 rfl rfl ?_
  refine zw_getfield 49 f69_46 rfl g69_180_9 rfl rfl ?_
  refine zw_lload_n 50 f69_49 rfl rfl ?_
  refine zw_lmul 0 51 f69_50 rfl (by decide +kernel) ?_
  refine zw_aload_n 52 f69_51 rfl rfl ?_
  refine zw_getfield 55 f69_52 rfl g69_58_10 rfl rfl ?_
  refine zw_i2l 0 56 f69_55 rfl (by decide +kernel) ?_
  refine zw_lload_n 57 f69_56 rfl rfl ?_
  refine zw_lmul 0 58 f69_57 rfl (by decide +kernel) ?_
  refine zw_ladd 0 59 f69_58 rfl (by decide +kernel) ?_
  refine zw_lload 61 f69_59 rfl rfl ?_
  refine zw_static_l 64 0 0 [.long 0, .long 1] [] [(0, .long 0), (2, .long 1)] f69_61 rfl k69_183_99 rfl (by decide +kernel) (Nat.le_of_ble_eq_true rfl) (Nat.le_of_ble_eq_true rfl) rfl rfl (by decide +kernel) (by decide +kernel) rfl (Nat.le_of_ble_eq_true rfl) rfl ?_
  refine zw_lload_n 1 f115_0 rfl rfl ?_
  refine zw_lstore [(4, .long 0), (0, .long 0), (2, .long 1)] 3 f115_1 rfl (by decide +kernel) rfl ?_
  refine zw_lload_n 4 f115_3 rfl rfl ?_
  refine zw_lstore [(6, .long 1), (4, .long 0), (0, .long 0), (2, .long 1)] 6 f115_4 rfl (by decide +kernel) rfl ?_
  refine zw_iconst 0 7 f115_6 rfl (by decide +kernel) ?_
  refine zw_istore [(8, .int 0), (6, .long 1), (4, .long 0), (0, .long 0), (2, .long 1)] 9 f115_7 rfl (by decide +kernel) rfl ?_
  refine zw_iload 11 f115_9 rfl rfl ?_
  refine zw_sipush 200 14 f115_11 rfl (by decide +kernel) ?_
  refine zw_ic_ge_f 17 45 f115_14 (by decide +kernel) rfl (by decide +kernel) ?_
  refine zw_lload 19 f115_17 rfl rfl ?_
  refine zw_lconst 0 20 f115_19 rfl (by decide +kernel) ?_
  refine zw_lcmp 1 21 f115_20 rfl (by decide +kernel) ?_
  refine zw_if_eq_f 24 45 f115_21 (by decide +kernel) rfl (by decide +kernel) ?_
  refine zw_lload 26 f115_24 rfl rfl ?_
  refine zw_lload 28 f115_26 rfl rfl ?_
  refine zw_lrem 0 29 f115_28 rfl (by decide +kernel) (by decide +kernel) ?_
  refine zw_lstore [(9, .long 0), (8, .int 0), (6, .long 1), (4, .long 0), (0, .long 0), (2, .long 1)] 31 f115_29 rfl (by decide +kernel) rfl ?_
  refine zw_lload 33 f115_31 rfl rfl ?_
  refine zw_lstore [(4, .long 1), (9, .long 0), (8, .int 0), (6, .long 1), (0, .long 0), (2, .long 1)] 35 f115_33 rfl (by decide +kernel) rfl ?_
  refine zw_lload 37 f115_35 rfl rfl ?_
  refine zw_lstore [(6, .long 0), (4, .long 1), (9, .long 0), (8, .int 0), (0, .long 0), (2, .long 1)] 39 f115_37 rfl (by decide +kernel) rfl ?_
  refine zw_iinc 1 [(8, .int 1), (6, .long 0), (4, .long 1), (9, .long 0), (0, .long 0), (2, .long 1)] 42 f115_39 rfl rfl (by decide +kernel) (by decide +kernel) rfl ?_
  refine zw_goto 9 f115_42 (by decide +kernel) ?_
  refine zw_iload 11 f115_9 rfl rfl ?_
  refine zw_sipush 200 14 f115_11 rfl (by decide +kernel) ?_
  refine zw_ic_ge_f 17 45 f115_14 (by decide +kernel) rfl (by decide +kernel) ?_
  refine zw_lload 19 f115_17 rfl rfl ?_
  refine zw_lconst 0 20 f115_19 rfl (by decide +kernel) ?_
  refine zw_lcmp 0 21 f115_20 rfl (by decide +kernel) ?_
  refine zw_if_eq_t 45 f115_21 (by decide +kernel) (by decide +kernel) ?_
  refine zw_lload 47 f115_45 rfl rfl ?_
  refine zw_lconst 0 48 f115_47 rfl (by decide +kernel) ?_
  refine zw_lcmp 1 49 f115_48 rfl (by decide +kernel) ?_
  refine zw_if_ne_t 56 f115_49 (by decide +kernel) (by decide +kernel) ?_
  refine zw_lload 58 f115_56 rfl rfl ?_
  refine zw_lreturn f115_58 r115 u115 ⟨_, rfl, ?_⟩
  refine zw_lstore [(7, .long 1), (0, .ref 11), (1, .long 1), (3, .long 0), (5, .long 1)] 66 f69_64 rfl (by decide +kernel) rfl ?_
  refine zw_iconst 0 67 f69_66 rfl (by decide +kernel) ?_
  refine zw_istore [(9, .int 0), (7, .long 1), (0, .ref 11), (1, .long 1), (3, .long 0), (5, .long 1)] 69 f69_67 rfl (by decide +kernel) rfl ?_
  refine zw_iload 71 f69_69 rfl rfl ?_
  refine zw_aload_n 72 f69_71 rfl rfl ?_
  refine zw_getfield 75 f69_72 rfl g69_37_10 rfl rfl ?_
  refine zw_getfield 78 f69_75 rfl g69_80_4 rfl rfl ?_
  refine zw_ic_ge_f 81 124 f69_78 (by decide +kernel) rfl (by decide +kernel) ?_
  refine zw_lload 83 f69_81 rfl rfl ?_
  refine zw_lconst 1 84 f69_83 rfl (by decide +kernel) ?_
  refine zw_lcmp 0 85 f69_84 rfl (by decide +kernel) ?_
  refine zw_if_le_t 124 f69_85 (by decide +kernel) (by decide +kernel) ?_
  refine zw_lload 126 f69_124 rfl rfl ?_
  refine zw_lreturn f69_126 r69 u69 ⟨_, rfl, ?_⟩
  refine zw_lstore [(7, .long 1), (5, .long 1), (0, .ref 11), (1, .long 1), (3, .long 0)] 21 f68_19 rfl (by decide +kernel) rfl ?_
  refine zw_lload 23 f68_21 rfl rfl ?_
  refine zw_lconst 0 24 f68_23 rfl (by decide +kernel) ?_
  refine zw_lcmp 1 25 f68_24 rfl (by decide +kernel) ?_
  refine zw_if_eq_f 28 40 f68_25 (by decide +kernel) rfl (by decide +kernel) ?_
  refine zw_lload 30 f68_28 rfl rfl ?_
  refine zw_lload 32 f68_30 rfl rfl ?_
  refine zw_ldiv 1 33 f68_32 rfl (by decide +kernel) (by decide +kernel) ?_
  refine zw_ldc2_w 10000 36 f68_33 rfl (by decide +kernel) ?_
  refine zw_lcmp (-1) 37 f68_36 rfl (by decide +kernel) ?_
  refine zw_if_le_t 42 f68_37 (by decide +kernel) (by decide +kernel) ?_
  refine zw_aload_n 43 f68_42 rfl rfl ?_
  refine zw_getfield 46 f68_43 rfl g68_12_10 rfl rfl ?_
  refine zw_lload 48 f68_46 rfl rfl ?_
  refine zw_lload 50 f68_48 rfl rfl ?_
  refine zw_ldiv 1 51 f68_50 rfl (by decide +kernel) (by decide +kernel) ?_
  refine zw_putfieldS 54 f68_51 rfl g68_109_9 rfl rfl rfl (by decide +kernel) ?_
  refine zw_aload_n 55 f68_54 rfl rfl ?_
  refine zw_getfield 58 f68_55 rfl g68_12_10 rfl rfl ?_
  refine zw_aload_n 59 f68_58 rfl rfl ?_
  refine zw_getfield 62 f68_59 rfl g68_12_10 rfl rfl ?_
  refine zw_getfield 65 f68_62 rfl g68_151_9 rfl rfl ?_
  refine zw_lload_n 66 f68_65 rfl rfl ?_
  refine zw_lmul 0 67 f68_66 rfl (by decide +kernel) ?_
  refine zw_lload_n 68 f68_67 rfl rfl ?_
  refine zw_ladd 0 69 f68_68 rfl (by decide +kernel) ?_
  refine zw_lload 71 f68_69 rfl rfl ?_
  refine zw_ldiv 0 72 f68_71 rfl (by decide +kernel) (by decide +kernel) ?_
  refine zw_putfieldS 75 f68_72 rfl g68_151_9 rfl rfl rfl (by decide +kernel) ?_
  refine zw_aload_n 76 f68_75 rfl rfl ?_
  refine zw_getfield 79 f68_76 rfl g68_12_10 rfl rfl ?_
  refine zw_aload_n 80 f68_79 rfl rfl ?_
  refine zw_getfield 83 f68_80 rfl g68_12_10 rfl rfl ?_
  refine zw_getfield 86 f68_83 rfl g68_177_9 rfl rfl ?_
  refine zw_lload_n 87 f68_86 rfl rfl ?_
  refine zw_lmul 0 88 f68_87 rfl (by decide +kernel) ?_
  refine zw_aload_n 89 f68_88 rfl rfl ?_
  refine zw_getfield 92 f68_89 rfl g68_54_10 rfl rfl ?_
  refine zw_i2l 0 93 f68_92 rfl (by decide +kernel) ?_
  refine zw_lload_n 94 f68_93 rfl rfl ?_
  refine zw_lmul 0 95 f68_94 rfl (by decide +kernel) ?_
  refine zw_ladd 0 96 f68_95 rfl (by decide +kernel) ?_
  refine zw_lload 98 f68_96 rfl rfl ?_
  refine zw_ldiv 0 99 f68_98 rfl (by decide +kernel) (by decide +kernel) ?_
  refine zw_putfieldS 102 f68_99 rfl g68_177_9 rfl rfl rfl (by decide +kernel) ?_
  refine zw_aload_n 103 f68_102 rfl rfl ?_
  refine zw_getfield 106 f68_103 rfl g68_12_10 rfl rfl ?_
  refine zw_aload_n 107 f68_106 rfl rfl ?_
  refine zw_getfield 110 f68_107 rfl g68_12_10 rfl rfl ?_
  refine zw_getfield 113 f68_110 rfl g68_180_9 rfl rfl ?_
  refine zw_lload_n 114 f68_113 rfl rfl ?_
  refine zw_lmul 0 115 f68_114 rfl (by decide +kernel) ?_
  refine zw_aload_n 116 f68_115 rfl rfl ?_
  refine zw_getfield 119 f68_116 rfl g68_58_10 rfl rfl ?_
  refine zw_i2l 0 120 f68_119 rfl (by decide +kernel) ?_
  refine zw_lload_n 121 f68_120 rfl rfl ?_
  refine zw_lmul 0 122 f68_121 rfl (by decide +kernel) ?_
  refine zw_ladd 0 123 f68_122 rfl (by decide +kernel) ?_
  refine zw_lload 125 f68_123 rfl rfl ?_
  refine zw_ldiv 0 126 f68_125 rfl (by decide +kernel) (by decide +kernel) ?_
  refine zw_putfieldS 129 f68_126 rfl g68_180_9 rfl rfl rfl (by decide +kernel) ?_
  refine zw_iconst 0 130 f68_129 rfl (by decide +kernel) ?_
  refine zw_istore [(9, .int 0), (7, .long 1), (5, .long 1), (0, .ref 11), (1, .long 1), (3, .long 0)] 132 f68_130 rfl (by decide +kernel) rfl ?_
  refine zw_iload 134 f68_132 rfl rfl ?_
  refine zw_aload_n 135 f68_134 rfl rfl ?_
  refine zw_getfield 138 f68_135 rfl g68_37_10 rfl rfl ?_
  refine zw_getfield 141 f68_138 rfl g68_80_4 rfl rfl ?_
  refine zw_ic_ge_f 144 186 f68_141 (by decide +kernel) rfl (by decide +kernel) ?_
  refine zw_aload_n 145 f68_144 rfl rfl ?_
  refine zw_getfield 148 f68_145 rfl g68_12_10 rfl rfl ?_
  refine zw_getfield 151 f68_148 rfl g68_87_9 rfl rfl ?_
  refine zw_iload 153 f68_151 rfl rfl ?_
  refine zw_aload_n 154 f68_153 rfl rfl ?_
  refine zw_getfield 157 f68_154 rfl g68_12_10 rfl rfl ?_
  refine zw_getfield 160 f68_157 rfl g68_87_9 rfl rfl ?_
  refine zw_iload 162 f68_160 rfl rfl ?_
  refine zw_laload 0 0 163 f68_162 rfl rfl (by decide +kernel) (by decide +kernel) (by decide +kernel) rfl ?_
  refine zw_lload_n 164 f68_163 rfl rfl ?_
  refine zw_lmul 0 165 f68_164 rfl (by decide +kernel) ?_
  refine zw_aload_n 166 f68_165 rfl rfl ?_
  refine zw_getfield 169 f68_166 rfl g68_22_10 rfl rfl ?_
  refine zw_iload 171 f68_169 rfl rfl ?_
  refine zw_iaload 0 0 172 f68_171 rfl rfl (by decide +kernel) (by decide +kernel) (by decide +kernel) rfl ?_
  refine zw_i2l 0 173 f68_172 rfl (by decide +kernel) ?_
  refine zw_lload_n 174 f68_173 rfl rfl ?_
  refine zw_lmul 0 175 f68_174 rfl (by decide +kernel) ?_
  refine zw_ladd 0 176 f68_175 rfl (by decide +kernel) ?_
  refine zw_lload 178 f68_176 rfl rfl ?_
  refine zw_ldiv 0 179 f68_178 rfl (by decide +kernel) (by decide +kernel) ?_
  refine zw_lastoreS 0 180 f68_179 rfl rfl (by decide +kernel) (by decide +kernel) (by decide +kernel) rfl ?_
  refine zw_iinc 1 [(9, .int 1), (7, .long 1), (5, .long 1), (0, .ref 11), (1, .long 1), (3, .long 0)] 183 f68_180 rfl rfl (by decide +kernel) (by decide +kernel) rfl ?_
  refine zw_goto 132 f68_183 (by decide +kernel) ?_
  refine zw_iload 134 f68_132 rfl rfl ?_
  refine zw_aload_n 135 f68_134 rfl rfl ?_
  refine zw_getfield 138 f68_135 rfl g68_37_10 rfl rfl ?_
  refine zw_getfield 141 f68_138 rfl g68_80_4 rfl rfl ?_
  refine zw_ic_ge_t 186 f68_141 (by decide +kernel) (by decide +kernel) ?_
  refine zw_iconst 1 187 f68_186 rfl (by decide +kernel) ?_
  refine zw_zreturn f68_187 r68 u68 (by decide +kernel) ⟨_, rfl, ?_⟩
  refine zw_pop 116 f70_115 rfl rfl ?_
  refine zw_vreturn f70_116 r70 u70 ⟨rfl, ?_⟩
  refine zw_aload_n 8 f107_7 rfl rfl ?_
  refine zw_getfield 11 f107_8 rfl g107_31_11 rfl rfl ?_
  refine zw_aload_n 12 f107_11 rfl rfl ?_
  refine zw_getfield 15 f107_12 rfl g107_21_11 rfl rfl ?_
  refine zw_virtual_v 18 0 0 [.ref 33, .ref 11] [(0, .ref 33), (1, .ref 11)] f107_15 rfl n107_187 k107_187_3 rfl rfl (by decide +kernel) (Nat.le_of_ble_eq_true rfl) rfl rfl (by decide +kernel) (by decide +kernel) rfl (Nat.le_of_ble_eq_true rfl) rfl ?_
  refine zw_iconst 0 1 f10_0 rfl (by decide +kernel) ?_
  refine zw_istore_n [(2, .int 0), (0, .ref 33), (1, .ref 11)] 2 f10_1 rfl (by decide +kernel) rfl ?_
  refine zw_iload_n 3 f10_2 rfl rfl ?_
  refine zw_aload_n 4 f10_3 rfl rfl ?_
  refine zw_getfield 7 f10_4 rfl g10_24_10 rfl rfl ?_
  refine zw_ic_ge_t 126 f10_7 (by decide +kernel) (by decide +kernel) ?_
  refine zw_vreturn f10_126 r10 u10 ⟨rfl, ?_⟩
  refine zw_aload_n 19 f107_18 rfl rfl ?_
  refine zw_iload_n 20 f107_19 rfl rfl ?_
  refine zw_virtual_i 23 0 0 [.ref 0, .int 0] [(0, .ref 0), (1, .int 0)] f107_20 rfl n107_181 k107_181_11 rfl rfl (by decide +kernel) (Nat.le_of_ble_eq_true rfl) rfl rfl (by decide +kernel) (by decide +kernel) rfl (Nat.le_of_ble_eq_true rfl) rfl ?_
  refine zw_aload_n 1 f106_0 rfl rfl ?_
  refine zw_iconst 0 2 f106_1 rfl (by decide +kernel) ?_
  refine zw_putfieldS 5 f106_2 rfl g106_70_11 rfl rfl rfl (by decide +kernel) ?_
  refine zw_iload_n 6 f106_5 rfl rfl ?_
  refine zw_ireturn f106_6 r106 u106 ⟨_, rfl, ?_⟩
  refine zw_ireturn f107_23 r107 u107 ⟨_, rfl, ?_⟩
  refine zw_ireturn f78_54 r78 u78 ?_
  exact ⟨rfl, by repeat (first | exact zMF_0 | refine zMF_set (by decide) ?_)⟩
set_option maxRecDepth 100000 in
set_option maxHeartbeats 0 in
theorem x_marks_r (ro : UInt32 → Nat × (Nat → Int32)) (a b c : Int32) : zWp ro 79 0 [(0, .ref 0), (1, .int a), (2, .int b), (3, .int c)] [] hF 0 0 (fun r h1 => r = some (.int (-1)) ∧ zMF h1) := by
  refine zw_aload_n 1 f79_0 rfl rfl ?_
  refine zw_getfield 4 f79_1 rfl g79_10_11 rfl rfl ?_
  refine zw_iload_n 5 f79_4 rfl rfl ?_
  refine zw_virtual_i 8 0 0 [.ref 1, .int a] [(0, .ref 1), (1, .int a)] f79_5 rfl n79_89 k79_89_4 rfl rfl (by decide +kernel) (Nat.le_of_ble_eq_true rfl) rfl rfl (by decide +kernel) (by decide +kernel) rfl (Nat.le_of_ble_eq_true rfl) rfl ?_
  refine zw_iload_n 1 f13_0 rfl rfl ?_
  refine zw_if_lt 4 22 f13_1 (by decide +kernel) rfl (fun hc1 => ?_) (fun hc1 => ?_)
  · refine zw_iconst 0 23 f13_22 rfl (by decide +kernel) ?_
    refine zw_zreturn f13_23 r13 u13 (by decide +kernel) ⟨_, rfl, ?_⟩
    refine zw_if_ne_f 11 17 f79_8 (by decide +kernel) rfl (by decide +kernel) ?_
    refine zw_aload_n 12 f79_11 rfl rfl ?_
    refine zw_iconst 1 13 f79_12 rfl (by decide +kernel) ?_
    refine zw_virtual_i 16 0 0 [.ref 0, .int 1] [(0, .ref 0), (1, .int 1)] f79_13 rfl n79_78 k79_78_11 rfl rfl (by decide +kernel) (Nat.le_of_ble_eq_true rfl) rfl rfl (by decide +kernel) (by decide +kernel) rfl (Nat.le_of_ble_eq_true rfl) rfl ?_
    refine zw_aload_n 1 f105_0 rfl rfl ?_
    refine zw_iload_n 2 f105_1 rfl rfl ?_
    refine zw_putfield 5 f105_2 rfl g105_70_11 rfl rfl (Nat.le_of_ble_eq_true rfl) (by decide +kernel) ?_
    refine zw_iconst (-1) 6 f105_5 rfl (by decide +kernel) ?_
    refine zw_ireturn f105_6 r105 u105 ⟨_, rfl, ?_⟩
    refine zw_ireturn f79_16 r79 u79 ?_
    exact ⟨rfl, by repeat (first | exact zMF_0 | refine zMF_set (by decide) ?_)⟩
  · refine zw_iload_n 5 f13_4 rfl rfl ?_
    refine zw_aload_n 6 f13_5 rfl rfl ?_
    refine zw_getfield 9 f13_6 rfl g13_39_4 rfl rfl ?_
    refine zw_ic_ge_t 22 f13_9 (by decide +kernel) (Int32.not_lt.mp hc1) ?_
    refine zw_iconst 0 23 f13_22 rfl (by decide +kernel) ?_
    refine zw_zreturn f13_23 r13 u13 (by decide +kernel) ⟨_, rfl, ?_⟩
    refine zw_if_ne_f 11 17 f79_8 (by decide +kernel) rfl (by decide +kernel) ?_
    refine zw_aload_n 12 f79_11 rfl rfl ?_
    refine zw_iconst 1 13 f79_12 rfl (by decide +kernel) ?_
    refine zw_virtual_i 16 0 0 [.ref 0, .int 1] [(0, .ref 0), (1, .int 1)] f79_13 rfl n79_78 k79_78_11 rfl rfl (by decide +kernel) (Nat.le_of_ble_eq_true rfl) rfl rfl (by decide +kernel) (by decide +kernel) rfl (Nat.le_of_ble_eq_true rfl) rfl ?_
    refine zw_aload_n 1 f105_0 rfl rfl ?_
    refine zw_iload_n 2 f105_1 rfl rfl ?_
    refine zw_putfield 5 f105_2 rfl g105_70_11 rfl rfl (Nat.le_of_ble_eq_true rfl) (by decide +kernel) ?_
    refine zw_iconst (-1) 6 f105_5 rfl (by decide +kernel) ?_
    refine zw_ireturn f105_6 r105 u105 ⟨_, rfl, ?_⟩
    refine zw_ireturn f79_16 r79 u79 ?_
    exact ⟨rfl, by repeat (first | exact zMF_0 | refine zMF_set (by decide) ?_)⟩
set_option maxRecDepth 100000 in
set_option maxHeartbeats 0 in
theorem x_own_r (ro : UInt32 → Nat × (Nat → Int32)) (a b : Int32) : zWp ro 80 0 [(0, .ref 0), (1, .int a), (2, .int b)] [] hF 0 0 (fun r h1 => r = some (.int (-1)) ∧ zMF h1) := by
  refine zw_aload_n 1 f80_0 rfl rfl ?_
  refine zw_getfield 4 f80_1 rfl g80_10_11 rfl rfl ?_
  refine zw_iload_n 5 f80_4 rfl rfl ?_
  refine zw_virtual_i 8 0 0 [.ref 1, .int a] [(0, .ref 1), (1, .int a)] f80_5 rfl n80_89 k80_89_4 rfl rfl (by decide +kernel) (Nat.le_of_ble_eq_true rfl) rfl rfl (by decide +kernel) (by decide +kernel) rfl (Nat.le_of_ble_eq_true rfl) rfl ?_
  refine zw_iload_n 1 f13_0 rfl rfl ?_
  refine zw_if_lt 4 22 f13_1 (by decide +kernel) rfl (fun hc1 => ?_) (fun hc1 => ?_)
  · refine zw_iconst 0 23 f13_22 rfl (by decide +kernel) ?_
    refine zw_zreturn f13_23 r13 u13 (by decide +kernel) ⟨_, rfl, ?_⟩
    refine zw_if_eq_t 22 f80_8 (by decide +kernel) (by decide +kernel) ?_
    refine zw_aload_n 23 f80_22 rfl rfl ?_
    refine zw_iconst 1 24 f80_23 rfl (by decide +kernel) ?_
    refine zw_virtual_i 27 0 0 [.ref 0, .int 1] [(0, .ref 0), (1, .int 1)] f80_24 rfl n80_78 k80_78_11 rfl rfl (by decide +kernel) (Nat.le_of_ble_eq_true rfl) rfl rfl (by decide +kernel) (by decide +kernel) rfl (Nat.le_of_ble_eq_true rfl) rfl ?_
    refine zw_aload_n 1 f105_0 rfl rfl ?_
    refine zw_iload_n 2 f105_1 rfl rfl ?_
    refine zw_putfield 5 f105_2 rfl g105_70_11 rfl rfl (Nat.le_of_ble_eq_true rfl) (by decide +kernel) ?_
    refine zw_iconst (-1) 6 f105_5 rfl (by decide +kernel) ?_
    refine zw_ireturn f105_6 r105 u105 ⟨_, rfl, ?_⟩
    refine zw_ireturn f80_27 r80 u80 ?_
    exact ⟨rfl, by repeat (first | exact zMF_0 | refine zMF_set (by decide) ?_)⟩
  · refine zw_iload_n 5 f13_4 rfl rfl ?_
    refine zw_aload_n 6 f13_5 rfl rfl ?_
    refine zw_getfield 9 f13_6 rfl g13_39_4 rfl rfl ?_
    refine zw_ic_ge_t 22 f13_9 (by decide +kernel) (Int32.not_lt.mp hc1) ?_
    refine zw_iconst 0 23 f13_22 rfl (by decide +kernel) ?_
    refine zw_zreturn f13_23 r13 u13 (by decide +kernel) ⟨_, rfl, ?_⟩
    refine zw_if_eq_t 22 f80_8 (by decide +kernel) (by decide +kernel) ?_
    refine zw_aload_n 23 f80_22 rfl rfl ?_
    refine zw_iconst 1 24 f80_23 rfl (by decide +kernel) ?_
    refine zw_virtual_i 27 0 0 [.ref 0, .int 1] [(0, .ref 0), (1, .int 1)] f80_24 rfl n80_78 k80_78_11 rfl rfl (by decide +kernel) (Nat.le_of_ble_eq_true rfl) rfl rfl (by decide +kernel) (by decide +kernel) rfl (Nat.le_of_ble_eq_true rfl) rfl ?_
    refine zw_aload_n 1 f105_0 rfl rfl ?_
    refine zw_iload_n 2 f105_1 rfl rfl ?_
    refine zw_putfield 5 f105_2 rfl g105_70_11 rfl rfl (Nat.le_of_ble_eq_true rfl) (by decide +kernel) ?_
    refine zw_iconst (-1) 6 f105_5 rfl (by decide +kernel) ?_
    refine zw_ireturn f105_6 r105 u105 ⟨_, rfl, ?_⟩
    refine zw_ireturn f80_27 r80 u80 ?_
    exact ⟨rfl, by repeat (first | exact zMF_0 | refine zMF_set (by decide) ?_)⟩
set_option maxRecDepth 100000 in
set_option maxHeartbeats 0 in
theorem x_tips_r (ro : UInt32 → Nat × (Nat → Int32)) (a b : Int32) : zWp ro 81 0 [(0, .ref 0), (1, .int a), (2, .int b)] [] hF 0 0 (fun r h1 => r = some (.int (-1)) ∧ zMF h1) := by
  refine zw_aload_n 1 f81_0 rfl rfl ?_
  refine zw_getfield 4 f81_1 rfl g81_10_11 rfl rfl ?_
  refine zw_iload_n 5 f81_4 rfl rfl ?_
  refine zw_virtual_i 8 0 0 [.ref 1, .int a] [(0, .ref 1), (1, .int a)] f81_5 rfl n81_89 k81_89_4 rfl rfl (by decide +kernel) (Nat.le_of_ble_eq_true rfl) rfl rfl (by decide +kernel) (by decide +kernel) rfl (Nat.le_of_ble_eq_true rfl) rfl ?_
  refine zw_iload_n 1 f13_0 rfl rfl ?_
  refine zw_if_lt 4 22 f13_1 (by decide +kernel) rfl (fun hc1 => ?_) (fun hc1 => ?_)
  · refine zw_iconst 0 23 f13_22 rfl (by decide +kernel) ?_
    refine zw_zreturn f13_23 r13 u13 (by decide +kernel) ⟨_, rfl, ?_⟩
    refine zw_if_eq_t 23 f81_8 (by decide +kernel) (by decide +kernel) ?_
    refine zw_aload_n 24 f81_23 rfl rfl ?_
    refine zw_iconst 1 25 f81_24 rfl (by decide +kernel) ?_
    refine zw_virtual_i 28 0 0 [.ref 0, .int 1] [(0, .ref 0), (1, .int 1)] f81_25 rfl n81_78 k81_78_11 rfl rfl (by decide +kernel) (Nat.le_of_ble_eq_true rfl) rfl rfl (by decide +kernel) (by decide +kernel) rfl (Nat.le_of_ble_eq_true rfl) rfl ?_
    refine zw_aload_n 1 f105_0 rfl rfl ?_
    refine zw_iload_n 2 f105_1 rfl rfl ?_
    refine zw_putfield 5 f105_2 rfl g105_70_11 rfl rfl (Nat.le_of_ble_eq_true rfl) (by decide +kernel) ?_
    refine zw_iconst (-1) 6 f105_5 rfl (by decide +kernel) ?_
    refine zw_ireturn f105_6 r105 u105 ⟨_, rfl, ?_⟩
    refine zw_ireturn f81_28 r81 u81 ?_
    exact ⟨rfl, by repeat (first | exact zMF_0 | refine zMF_set (by decide) ?_)⟩
  · refine zw_iload_n 5 f13_4 rfl rfl ?_
    refine zw_aload_n 6 f13_5 rfl rfl ?_
    refine zw_getfield 9 f13_6 rfl g13_39_4 rfl rfl ?_
    refine zw_ic_ge_t 22 f13_9 (by decide +kernel) (Int32.not_lt.mp hc1) ?_
    refine zw_iconst 0 23 f13_22 rfl (by decide +kernel) ?_
    refine zw_zreturn f13_23 r13 u13 (by decide +kernel) ⟨_, rfl, ?_⟩
    refine zw_if_eq_t 23 f81_8 (by decide +kernel) (by decide +kernel) ?_
    refine zw_aload_n 24 f81_23 rfl rfl ?_
    refine zw_iconst 1 25 f81_24 rfl (by decide +kernel) ?_
    refine zw_virtual_i 28 0 0 [.ref 0, .int 1] [(0, .ref 0), (1, .int 1)] f81_25 rfl n81_78 k81_78_11 rfl rfl (by decide +kernel) (Nat.le_of_ble_eq_true rfl) rfl rfl (by decide +kernel) (by decide +kernel) rfl (Nat.le_of_ble_eq_true rfl) rfl ?_
    refine zw_aload_n 1 f105_0 rfl rfl ?_
    refine zw_iload_n 2 f105_1 rfl rfl ?_
    refine zw_putfield 5 f105_2 rfl g105_70_11 rfl rfl (Nat.le_of_ble_eq_true rfl) (by decide +kernel) ?_
    refine zw_iconst (-1) 6 f105_5 rfl (by decide +kernel) ?_
    refine zw_ireturn f105_6 r105 u105 ⟨_, rfl, ?_⟩
    refine zw_ireturn f81_28 r81 u81 ?_
    exact ⟨rfl, by repeat (first | exact zMF_0 | refine zMF_set (by decide) ?_)⟩
set_option maxRecDepth 100000 in
set_option maxHeartbeats 0 in
theorem x_over_r (ro : UInt32 → Nat × (Nat → Int32)) (a b : Int32) : zWp ro 82 0 [(0, .ref 0), (1, .int a), (2, .int b)] [] hF 0 0 (fun r h1 => r = some (.int (-1)) ∧ zMF h1) := by
  refine zw_aload_n 1 f82_0 rfl rfl ?_
  refine zw_getfield 4 f82_1 rfl g82_10_11 rfl rfl ?_
  refine zw_iload_n 5 f82_4 rfl rfl ?_
  refine zw_virtual_i 8 0 0 [.ref 1, .int a] [(0, .ref 1), (1, .int a)] f82_5 rfl n82_89 k82_89_4 rfl rfl (by decide +kernel) (Nat.le_of_ble_eq_true rfl) rfl rfl (by decide +kernel) (by decide +kernel) rfl (Nat.le_of_ble_eq_true rfl) rfl ?_
  refine zw_iload_n 1 f13_0 rfl rfl ?_
  refine zw_if_lt 4 22 f13_1 (by decide +kernel) rfl (fun hc1 => ?_) (fun hc1 => ?_)
  · refine zw_iconst 0 23 f13_22 rfl (by decide +kernel) ?_
    refine zw_zreturn f13_23 r13 u13 (by decide +kernel) ⟨_, rfl, ?_⟩
    refine zw_if_eq_t 23 f82_8 (by decide +kernel) (by decide +kernel) ?_
    refine zw_aload_n 24 f82_23 rfl rfl ?_
    refine zw_iconst 1 25 f82_24 rfl (by decide +kernel) ?_
    refine zw_virtual_i 28 0 0 [.ref 0, .int 1] [(0, .ref 0), (1, .int 1)] f82_25 rfl n82_78 k82_78_11 rfl rfl (by decide +kernel) (Nat.le_of_ble_eq_true rfl) rfl rfl (by decide +kernel) (by decide +kernel) rfl (Nat.le_of_ble_eq_true rfl) rfl ?_
    refine zw_aload_n 1 f105_0 rfl rfl ?_
    refine zw_iload_n 2 f105_1 rfl rfl ?_
    refine zw_putfield 5 f105_2 rfl g105_70_11 rfl rfl (Nat.le_of_ble_eq_true rfl) (by decide +kernel) ?_
    refine zw_iconst (-1) 6 f105_5 rfl (by decide +kernel) ?_
    refine zw_ireturn f105_6 r105 u105 ⟨_, rfl, ?_⟩
    refine zw_ireturn f82_28 r82 u82 ?_
    exact ⟨rfl, by repeat (first | exact zMF_0 | refine zMF_set (by decide) ?_)⟩
  · refine zw_iload_n 5 f13_4 rfl rfl ?_
    refine zw_aload_n 6 f13_5 rfl rfl ?_
    refine zw_getfield 9 f13_6 rfl g13_39_4 rfl rfl ?_
    refine zw_ic_ge_t 22 f13_9 (by decide +kernel) (Int32.not_lt.mp hc1) ?_
    refine zw_iconst 0 23 f13_22 rfl (by decide +kernel) ?_
    refine zw_zreturn f13_23 r13 u13 (by decide +kernel) ⟨_, rfl, ?_⟩
    refine zw_if_eq_t 23 f82_8 (by decide +kernel) (by decide +kernel) ?_
    refine zw_aload_n 24 f82_23 rfl rfl ?_
    refine zw_iconst 1 25 f82_24 rfl (by decide +kernel) ?_
    refine zw_virtual_i 28 0 0 [.ref 0, .int 1] [(0, .ref 0), (1, .int 1)] f82_25 rfl n82_78 k82_78_11 rfl rfl (by decide +kernel) (Nat.le_of_ble_eq_true rfl) rfl rfl (by decide +kernel) (by decide +kernel) rfl (Nat.le_of_ble_eq_true rfl) rfl ?_
    refine zw_aload_n 1 f105_0 rfl rfl ?_
    refine zw_iload_n 2 f105_1 rfl rfl ?_
    refine zw_putfield 5 f105_2 rfl g105_70_11 rfl rfl (Nat.le_of_ble_eq_true rfl) (by decide +kernel) ?_
    refine zw_iconst (-1) 6 f105_5 rfl (by decide +kernel) ?_
    refine zw_ireturn f105_6 r105 u105 ⟨_, rfl, ?_⟩
    refine zw_ireturn f82_28 r82 u82 ?_
    exact ⟨rfl, by repeat (first | exact zMF_0 | refine zMF_set (by decide) ?_)⟩
set_option maxRecDepth 100000 in
set_option maxHeartbeats 0 in
theorem x_pipe_r (ro : UInt32 → Nat × (Nat → Int32)) (a b c : Int32) : zWp ro 83 0 [(0, .ref 0), (1, .int a), (2, .int b), (3, .int c)] [] hF 0 0 (fun r h1 => r = some (.int (-1)) ∧ zMF h1) := by
  refine zw_iload_n 1 f83_0 rfl rfl ?_
  refine zw_iconst (-1) 2 f83_1 rfl (by decide +kernel) ?_
  refine zw_ic_eq 5 16 f83_2 (by decide +kernel) rfl (fun hc1 => ?_) (fun hc1 => ?_)
  · refine zw_iconst 1 17 f83_16 rfl (by decide +kernel) ?_
    refine zw_goto 21 f83_17 (by decide +kernel) ?_
    refine zw_istore [(4, .int 1), (0, .ref 0), (1, .int a), (2, .int b), (3, .int c)] 23 f83_21 rfl (by decide +kernel) rfl ?_
    refine zw_iload_n 24 f83_23 rfl rfl ?_
    refine zw_iconst (-1) 25 f83_24 rfl (by decide +kernel) ?_
    refine zw_ic_ne_f 28 37 f83_25 (by decide +kernel) rfl (fun q => q hc1) ?_
    refine zw_iload_n 29 f83_28 rfl rfl ?_
    refine zw_iconst (-1) 30 f83_29 rfl (by decide +kernel) ?_
    refine zw_ic_ne 33 37 f83_30 (by decide +kernel) rfl (fun hc2 => ?_) (fun hc2 => ?_)
    · refine zw_iconst 0 38 f83_37 rfl (by decide +kernel) ?_
      refine zw_istore [(5, .int 0), (4, .int 1), (0, .ref 0), (1, .int a), (2, .int b), (3, .int c)] 40 f83_38 rfl (by decide +kernel) rfl ?_
      refine zw_iload 42 f83_40 rfl rfl ?_
      refine zw_if_eq_f 45 72 f83_42 (by decide +kernel) rfl (by decide +kernel) ?_
      refine zw_iload 47 f83_45 rfl rfl ?_
      refine zw_if_ne_f 50 72 f83_47 (by decide +kernel) rfl (by decide +kernel) ?_
      refine zw_aload_n 51 f83_50 rfl rfl ?_
      refine zw_getfield 54 f83_51 rfl g83_10_11 rfl rfl ?_
      refine zw_iload_n 55 f83_54 rfl rfl ?_
      refine zw_iload_n 56 f83_55 rfl rfl ?_
      refine zw_virtual_i 59 0 0 [.ref 1, .int b, .int a] [(0, .ref 1), (1, .int b), (2, .int a)] f83_56 rfl n83_121 k83_121_4 rfl rfl (by decide +kernel) (Nat.le_of_ble_eq_true rfl) rfl rfl (by decide +kernel) (by decide +kernel) rfl (Nat.le_of_ble_eq_true rfl) rfl ?_
      refine zw_iload_n 1 f19_0 rfl rfl ?_
      refine zw_iconst (-1) 2 f19_1 rfl (by decide +kernel) ?_
      refine zw_ic_eq_f 5 18 f19_2 (by decide +kernel) rfl hc2 ?_
      refine zw_aload_n 6 f19_5 rfl rfl ?_
      refine zw_iload_n 7 f19_6 rfl rfl ?_
      refine zw_virtual_i 10 0 0 [.ref 1, .int b] [(0, .ref 1), (1, .int b)] f19_7 rfl n19_46 k19_46_4 rfl rfl (by decide +kernel) (Nat.le_of_ble_eq_true rfl) rfl rfl (by decide +kernel) (by decide +kernel) rfl (Nat.le_of_ble_eq_true rfl) rfl ?_
      refine zw_iload_n 1 f13_0 rfl rfl ?_
      refine zw_if_lt 4 22 f13_1 (by decide +kernel) rfl (fun hc3 => ?_) (fun hc3 => ?_)
      · refine zw_iconst 0 23 f13_22 rfl (by decide +kernel) ?_
        refine zw_zreturn f13_23 r13 u13 (by decide +kernel) ⟨_, rfl, ?_⟩
        refine zw_if_eq_t 22 f19_10 (by decide +kernel) (by decide +kernel) ?_
        refine zw_iconst 0 23 f19_22 rfl (by decide +kernel) ?_
        refine zw_zreturn f19_23 r19 u19 (by decide +kernel) ⟨_, rfl, ?_⟩
        refine zw_if_eq_t 72 f83_59 (by decide +kernel) (by decide +kernel) ?_
        refine zw_aload_n 73 f83_72 rfl rfl ?_
        refine zw_iconst 1 74 f83_73 rfl (by decide +kernel) ?_
        refine zw_virtual_i 77 0 0 [.ref 0, .int 1] [(0, .ref 0), (1, .int 1)] f83_74 rfl n83_78 k83_78_11 rfl rfl (by decide +kernel) (Nat.le_of_ble_eq_true rfl) rfl rfl (by decide +kernel) (by decide +kernel) rfl (Nat.le_of_ble_eq_true rfl) rfl ?_
        refine zw_aload_n 1 f105_0 rfl rfl ?_
        refine zw_iload_n 2 f105_1 rfl rfl ?_
        refine zw_putfield 5 f105_2 rfl g105_70_11 rfl rfl (Nat.le_of_ble_eq_true rfl) (by decide +kernel) ?_
        refine zw_iconst (-1) 6 f105_5 rfl (by decide +kernel) ?_
        refine zw_ireturn f105_6 r105 u105 ⟨_, rfl, ?_⟩
        refine zw_ireturn f83_77 r83 u83 ?_
        exact ⟨rfl, by repeat (first | exact zMF_0 | refine zMF_set (by decide) ?_)⟩
      · refine zw_iload_n 5 f13_4 rfl rfl ?_
        refine zw_aload_n 6 f13_5 rfl rfl ?_
        refine zw_getfield 9 f13_6 rfl g13_39_4 rfl rfl ?_
        refine zw_ic_ge_t 22 f13_9 (by decide +kernel) (Int32.not_lt.mp hc3) ?_
        refine zw_iconst 0 23 f13_22 rfl (by decide +kernel) ?_
        refine zw_zreturn f13_23 r13 u13 (by decide +kernel) ⟨_, rfl, ?_⟩
        refine zw_if_eq_t 22 f19_10 (by decide +kernel) (by decide +kernel) ?_
        refine zw_iconst 0 23 f19_22 rfl (by decide +kernel) ?_
        refine zw_zreturn f19_23 r19 u19 (by decide +kernel) ⟨_, rfl, ?_⟩
        refine zw_if_eq_t 72 f83_59 (by decide +kernel) (by decide +kernel) ?_
        refine zw_aload_n 73 f83_72 rfl rfl ?_
        refine zw_iconst 1 74 f83_73 rfl (by decide +kernel) ?_
        refine zw_virtual_i 77 0 0 [.ref 0, .int 1] [(0, .ref 0), (1, .int 1)] f83_74 rfl n83_78 k83_78_11 rfl rfl (by decide +kernel) (Nat.le_of_ble_eq_true rfl) rfl rfl (by decide +kernel) (by decide +kernel) rfl (Nat.le_of_ble_eq_true rfl) rfl ?_
        refine zw_aload_n 1 f105_0 rfl rfl ?_
        refine zw_iload_n 2 f105_1 rfl rfl ?_
        refine zw_putfield 5 f105_2 rfl g105_70_11 rfl rfl (Nat.le_of_ble_eq_true rfl) (by decide +kernel) ?_
        refine zw_iconst (-1) 6 f105_5 rfl (by decide +kernel) ?_
        refine zw_ireturn f105_6 r105 u105 ⟨_, rfl, ?_⟩
        refine zw_ireturn f83_77 r83 u83 ?_
        exact ⟨rfl, by repeat (first | exact zMF_0 | refine zMF_set (by decide) ?_)⟩
    · refine zw_iconst 1 34 f83_33 rfl (by decide +kernel) ?_
      refine zw_goto 38 f83_34 (by decide +kernel) ?_
      refine zw_istore [(5, .int 1), (4, .int 1), (0, .ref 0), (1, .int a), (2, .int b), (3, .int c)] 40 f83_38 rfl (by decide +kernel) rfl ?_
      refine zw_iload 42 f83_40 rfl rfl ?_
      refine zw_if_eq_f 45 72 f83_42 (by decide +kernel) rfl (by decide +kernel) ?_
      refine zw_iload 47 f83_45 rfl rfl ?_
      refine zw_if_ne_t 72 f83_47 (by decide +kernel) (by decide +kernel) ?_
      refine zw_aload_n 73 f83_72 rfl rfl ?_
      refine zw_iconst 1 74 f83_73 rfl (by decide +kernel) ?_
      refine zw_virtual_i 77 0 0 [.ref 0, .int 1] [(0, .ref 0), (1, .int 1)] f83_74 rfl n83_78 k83_78_11 rfl rfl (by decide +kernel) (Nat.le_of_ble_eq_true rfl) rfl rfl (by decide +kernel) (by decide +kernel) rfl (Nat.le_of_ble_eq_true rfl) rfl ?_
      refine zw_aload_n 1 f105_0 rfl rfl ?_
      refine zw_iload_n 2 f105_1 rfl rfl ?_
      refine zw_putfield 5 f105_2 rfl g105_70_11 rfl rfl (Nat.le_of_ble_eq_true rfl) (by decide +kernel) ?_
      refine zw_iconst (-1) 6 f105_5 rfl (by decide +kernel) ?_
      refine zw_ireturn f105_6 r105 u105 ⟨_, rfl, ?_⟩
      refine zw_ireturn f83_77 r83 u83 ?_
      exact ⟨rfl, by repeat (first | exact zMF_0 | refine zMF_set (by decide) ?_)⟩
  · refine zw_aload_n 6 f83_5 rfl rfl ?_
    refine zw_getfield 9 f83_6 rfl g83_10_11 rfl rfl ?_
    refine zw_iload_n 10 f83_9 rfl rfl ?_
    refine zw_virtual_i 13 0 0 [.ref 1, .int a] [(0, .ref 1), (1, .int a)] f83_10 rfl n83_89 k83_89_4 rfl rfl (by decide +kernel) (Nat.le_of_ble_eq_true rfl) rfl rfl (by decide +kernel) (by decide +kernel) rfl (Nat.le_of_ble_eq_true rfl) rfl ?_
    refine zw_iload_n 1 f13_0 rfl rfl ?_
    refine zw_if_lt 4 22 f13_1 (by decide +kernel) rfl (fun hc4 => ?_) (fun hc4 => ?_)
    · refine zw_iconst 0 23 f13_22 rfl (by decide +kernel) ?_
      refine zw_zreturn f13_23 r13 u13 (by decide +kernel) ⟨_, rfl, ?_⟩
      refine zw_if_eq_t 20 f83_13 (by decide +kernel) (by decide +kernel) ?_
      refine zw_iconst 0 21 f83_20 rfl (by decide +kernel) ?_
      refine zw_istore [(4, .int 0), (0, .ref 0), (1, .int a), (2, .int b), (3, .int c)] 23 f83_21 rfl (by decide +kernel) rfl ?_
      refine zw_iload_n 24 f83_23 rfl rfl ?_
      refine zw_iconst (-1) 25 f83_24 rfl (by decide +kernel) ?_
      refine zw_ic_ne_t 37 f83_25 (by decide +kernel) hc1 ?_
      refine zw_iconst 0 38 f83_37 rfl (by decide +kernel) ?_
      refine zw_istore [(5, .int 0), (4, .int 0), (0, .ref 0), (1, .int a), (2, .int b), (3, .int c)] 40 f83_38 rfl (by decide +kernel) rfl ?_
      refine zw_iload 42 f83_40 rfl rfl ?_
      refine zw_if_eq_t 72 f83_42 (by decide +kernel) (by decide +kernel) ?_
      refine zw_aload_n 73 f83_72 rfl rfl ?_
      refine zw_iconst 1 74 f83_73 rfl (by decide +kernel) ?_
      refine zw_virtual_i 77 0 0 [.ref 0, .int 1] [(0, .ref 0), (1, .int 1)] f83_74 rfl n83_78 k83_78_11 rfl rfl (by decide +kernel) (Nat.le_of_ble_eq_true rfl) rfl rfl (by decide +kernel) (by decide +kernel) rfl (Nat.le_of_ble_eq_true rfl) rfl ?_
      refine zw_aload_n 1 f105_0 rfl rfl ?_
      refine zw_iload_n 2 f105_1 rfl rfl ?_
      refine zw_putfield 5 f105_2 rfl g105_70_11 rfl rfl (Nat.le_of_ble_eq_true rfl) (by decide +kernel) ?_
      refine zw_iconst (-1) 6 f105_5 rfl (by decide +kernel) ?_
      refine zw_ireturn f105_6 r105 u105 ⟨_, rfl, ?_⟩
      refine zw_ireturn f83_77 r83 u83 ?_
      exact ⟨rfl, by repeat (first | exact zMF_0 | refine zMF_set (by decide) ?_)⟩
    · refine zw_iload_n 5 f13_4 rfl rfl ?_
      refine zw_aload_n 6 f13_5 rfl rfl ?_
      refine zw_getfield 9 f13_6 rfl g13_39_4 rfl rfl ?_
      refine zw_ic_ge_t 22 f13_9 (by decide +kernel) (Int32.not_lt.mp hc4) ?_
      refine zw_iconst 0 23 f13_22 rfl (by decide +kernel) ?_
      refine zw_zreturn f13_23 r13 u13 (by decide +kernel) ⟨_, rfl, ?_⟩
      refine zw_if_eq_t 20 f83_13 (by decide +kernel) (by decide +kernel) ?_
      refine zw_iconst 0 21 f83_20 rfl (by decide +kernel) ?_
      refine zw_istore [(4, .int 0), (0, .ref 0), (1, .int a), (2, .int b), (3, .int c)] 23 f83_21 rfl (by decide +kernel) rfl ?_
      refine zw_iload_n 24 f83_23 rfl rfl ?_
      refine zw_iconst (-1) 25 f83_24 rfl (by decide +kernel) ?_
      refine zw_ic_ne_t 37 f83_25 (by decide +kernel) hc1 ?_
      refine zw_iconst 0 38 f83_37 rfl (by decide +kernel) ?_
      refine zw_istore [(5, .int 0), (4, .int 0), (0, .ref 0), (1, .int a), (2, .int b), (3, .int c)] 40 f83_38 rfl (by decide +kernel) rfl ?_
      refine zw_iload 42 f83_40 rfl rfl ?_
      refine zw_if_eq_t 72 f83_42 (by decide +kernel) (by decide +kernel) ?_
      refine zw_aload_n 73 f83_72 rfl rfl ?_
      refine zw_iconst 1 74 f83_73 rfl (by decide +kernel) ?_
      refine zw_virtual_i 77 0 0 [.ref 0, .int 1] [(0, .ref 0), (1, .int 1)] f83_74 rfl n83_78 k83_78_11 rfl rfl (by decide +kernel) (Nat.le_of_ble_eq_true rfl) rfl rfl (by decide +kernel) (by decide +kernel) rfl (Nat.le_of_ble_eq_true rfl) rfl ?_
      refine zw_aload_n 1 f105_0 rfl rfl ?_
      refine zw_iload_n 2 f105_1 rfl rfl ?_
      refine zw_putfield 5 f105_2 rfl g105_70_11 rfl rfl (Nat.le_of_ble_eq_true rfl) (by decide +kernel) ?_
      refine zw_iconst (-1) 6 f105_5 rfl (by decide +kernel) ?_
      refine zw_ireturn f105_6 r105 u105 ⟨_, rfl, ?_⟩
      refine zw_ireturn f83_77 r83 u83 ?_
      exact ⟨rfl, by repeat (first | exact zMF_0 | refine zMF_set (by decide) ?_)⟩
set_option maxRecDepth 100000 in
set_option maxHeartbeats 0 in
theorem x_fill_r (ro : UInt32 → Nat × (Nat → Int32)) (a b : Int32) : zWp ro 84 0 [(0, .ref 0), (1, .int a), (2, .int b)] [] hF 0 0 (fun r h1 => r = some (.int (-1)) ∧ zMF h1) := by
  refine zw_aload_n 1 f84_0 rfl rfl ?_
  refine zw_getfield 4 f84_1 rfl g84_10_11 rfl rfl ?_
  refine zw_iload_n 5 f84_4 rfl rfl ?_
  refine zw_virtual_i 8 0 0 [.ref 1, .int a] [(0, .ref 1), (1, .int a)] f84_5 rfl n84_89 k84_89_4 rfl rfl (by decide +kernel) (Nat.le_of_ble_eq_true rfl) rfl rfl (by decide +kernel) (by decide +kernel) rfl (Nat.le_of_ble_eq_true rfl) rfl ?_
  refine zw_iload_n 1 f13_0 rfl rfl ?_
  refine zw_if_lt 4 22 f13_1 (by decide +kernel) rfl (fun hc1 => ?_) (fun hc1 => ?_)
  · refine zw_iconst 0 23 f13_22 rfl (by decide +kernel) ?_
    refine zw_zreturn f13_23 r13 u13 (by decide +kernel) ⟨_, rfl, ?_⟩
    refine zw_if_eq_t 22 f84_8 (by decide +kernel) (by decide +kernel) ?_
    refine zw_aload_n 23 f84_22 rfl rfl ?_
    refine zw_iconst 1 24 f84_23 rfl (by decide +kernel) ?_
    refine zw_virtual_i 27 0 0 [.ref 0, .int 1] [(0, .ref 0), (1, .int 1)] f84_24 rfl n84_78 k84_78_11 rfl rfl (by decide +kernel) (Nat.le_of_ble_eq_true rfl) rfl rfl (by decide +kernel) (by decide +kernel) rfl (Nat.le_of_ble_eq_true rfl) rfl ?_
    refine zw_aload_n 1 f105_0 rfl rfl ?_
    refine zw_iload_n 2 f105_1 rfl rfl ?_
    refine zw_putfield 5 f105_2 rfl g105_70_11 rfl rfl (Nat.le_of_ble_eq_true rfl) (by decide +kernel) ?_
    refine zw_iconst (-1) 6 f105_5 rfl (by decide +kernel) ?_
    refine zw_ireturn f105_6 r105 u105 ⟨_, rfl, ?_⟩
    refine zw_ireturn f84_27 r84 u84 ?_
    exact ⟨rfl, by repeat (first | exact zMF_0 | refine zMF_set (by decide) ?_)⟩
  · refine zw_iload_n 5 f13_4 rfl rfl ?_
    refine zw_aload_n 6 f13_5 rfl rfl ?_
    refine zw_getfield 9 f13_6 rfl g13_39_4 rfl rfl ?_
    refine zw_ic_ge_t 22 f13_9 (by decide +kernel) (Int32.not_lt.mp hc1) ?_
    refine zw_iconst 0 23 f13_22 rfl (by decide +kernel) ?_
    refine zw_zreturn f13_23 r13 u13 (by decide +kernel) ⟨_, rfl, ?_⟩
    refine zw_if_eq_t 22 f84_8 (by decide +kernel) (by decide +kernel) ?_
    refine zw_aload_n 23 f84_22 rfl rfl ?_
    refine zw_iconst 1 24 f84_23 rfl (by decide +kernel) ?_
    refine zw_virtual_i 27 0 0 [.ref 0, .int 1] [(0, .ref 0), (1, .int 1)] f84_24 rfl n84_78 k84_78_11 rfl rfl (by decide +kernel) (Nat.le_of_ble_eq_true rfl) rfl rfl (by decide +kernel) (by decide +kernel) rfl (Nat.le_of_ble_eq_true rfl) rfl ?_
    refine zw_aload_n 1 f105_0 rfl rfl ?_
    refine zw_iload_n 2 f105_1 rfl rfl ?_
    refine zw_putfield 5 f105_2 rfl g105_70_11 rfl rfl (Nat.le_of_ble_eq_true rfl) (by decide +kernel) ?_
    refine zw_iconst (-1) 6 f105_5 rfl (by decide +kernel) ?_
    refine zw_ireturn f105_6 r105 u105 ⟨_, rfl, ?_⟩
    refine zw_ireturn f84_27 r84 u84 ?_
    exact ⟨rfl, by repeat (first | exact zMF_0 | refine zMF_set (by decide) ?_)⟩
set_option maxRecDepth 100000 in
set_option maxHeartbeats 0 in
theorem x_shut_r0 (ro : UInt32 → Nat × (Nat → Int32)) (a : Int32) : zWp ro 85 0 [(0, .ref 0), (1, .int a), (2, .int 0)] [] hF 0 0 (fun r h1 => r = some (.int (-1)) ∧ zMF h1) := by
  refine zw_aload_n 1 f85_0 rfl rfl ?_
  refine zw_getfield 4 f85_1 rfl g85_10_11 rfl rfl ?_
  refine zw_iload_n 5 f85_4 rfl rfl ?_
  refine zw_virtual_i 8 0 0 [.ref 1, .int a] [(0, .ref 1), (1, .int a)] f85_5 rfl n85_109 k85_109_4 rfl rfl (by decide +kernel) (Nat.le_of_ble_eq_true rfl) rfl rfl (by decide +kernel) (by decide +kernel) rfl (Nat.le_of_ble_eq_true rfl) rfl ?_
  refine zw_iload_n 1 f14_0 rfl rfl ?_
  refine zw_if_lt 4 22 f14_1 (by decide +kernel) rfl (fun hc1 => ?_) (fun hc1 => ?_)
  · refine zw_iconst 0 23 f14_22 rfl (by decide +kernel) ?_
    refine zw_zreturn f14_23 r14 u14 (by decide +kernel) ⟨_, rfl, ?_⟩
    refine zw_if_ne_f 11 17 f85_8 (by decide +kernel) rfl (by decide +kernel) ?_
    refine zw_aload_n 12 f85_11 rfl rfl ?_
    refine zw_iconst 1 13 f85_12 rfl (by decide +kernel) ?_
    refine zw_virtual_i 16 0 0 [.ref 0, .int 1] [(0, .ref 0), (1, .int 1)] f85_13 rfl n85_78 k85_78_11 rfl rfl (by decide +kernel) (Nat.le_of_ble_eq_true rfl) rfl rfl (by decide +kernel) (by decide +kernel) rfl (Nat.le_of_ble_eq_true rfl) rfl ?_
    refine zw_aload_n 1 f105_0 rfl rfl ?_
    refine zw_iload_n 2 f105_1 rfl rfl ?_
    refine zw_putfield 5 f105_2 rfl g105_70_11 rfl rfl (Nat.le_of_ble_eq_true rfl) (by decide +kernel) ?_
    refine zw_iconst (-1) 6 f105_5 rfl (by decide +kernel) ?_
    refine zw_ireturn f105_6 r105 u105 ⟨_, rfl, ?_⟩
    refine zw_ireturn f85_16 r85 u85 ?_
    exact ⟨rfl, by repeat (first | exact zMF_0 | refine zMF_set (by decide) ?_)⟩
  · refine zw_iload_n 5 f14_4 rfl rfl ?_
    refine zw_aload_n 6 f14_5 rfl rfl ?_
    refine zw_getfield 9 f14_6 rfl g14_43_4 rfl rfl ?_
    refine zw_ic_ge_t 22 f14_9 (by decide +kernel) (Int32.not_lt.mp hc1) ?_
    refine zw_iconst 0 23 f14_22 rfl (by decide +kernel) ?_
    refine zw_zreturn f14_23 r14 u14 (by decide +kernel) ⟨_, rfl, ?_⟩
    refine zw_if_ne_f 11 17 f85_8 (by decide +kernel) rfl (by decide +kernel) ?_
    refine zw_aload_n 12 f85_11 rfl rfl ?_
    refine zw_iconst 1 13 f85_12 rfl (by decide +kernel) ?_
    refine zw_virtual_i 16 0 0 [.ref 0, .int 1] [(0, .ref 0), (1, .int 1)] f85_13 rfl n85_78 k85_78_11 rfl rfl (by decide +kernel) (Nat.le_of_ble_eq_true rfl) rfl rfl (by decide +kernel) (by decide +kernel) rfl (Nat.le_of_ble_eq_true rfl) rfl ?_
    refine zw_aload_n 1 f105_0 rfl rfl ?_
    refine zw_iload_n 2 f105_1 rfl rfl ?_
    refine zw_putfield 5 f105_2 rfl g105_70_11 rfl rfl (Nat.le_of_ble_eq_true rfl) (by decide +kernel) ?_
    refine zw_iconst (-1) 6 f105_5 rfl (by decide +kernel) ?_
    refine zw_ireturn f105_6 r105 u105 ⟨_, rfl, ?_⟩
    refine zw_ireturn f85_16 r85 u85 ?_
    exact ⟨rfl, by repeat (first | exact zMF_0 | refine zMF_set (by decide) ?_)⟩
set_option maxRecDepth 100000 in
set_option maxHeartbeats 0 in
theorem x_shut_r1 (ro : UInt32 → Nat × (Nat → Int32)) (a : Int32) : zWp ro 85 0 [(0, .ref 0), (1, .int a), (2, .int 1)] [] hF 0 0 (fun r h1 => r = some (.int (-1)) ∧ zMF h1) := by
  refine zw_aload_n 1 f85_0 rfl rfl ?_
  refine zw_getfield 4 f85_1 rfl g85_10_11 rfl rfl ?_
  refine zw_iload_n 5 f85_4 rfl rfl ?_
  refine zw_virtual_i 8 0 0 [.ref 1, .int a] [(0, .ref 1), (1, .int a)] f85_5 rfl n85_109 k85_109_4 rfl rfl (by decide +kernel) (Nat.le_of_ble_eq_true rfl) rfl rfl (by decide +kernel) (by decide +kernel) rfl (Nat.le_of_ble_eq_true rfl) rfl ?_
  refine zw_iload_n 1 f14_0 rfl rfl ?_
  refine zw_if_lt 4 22 f14_1 (by decide +kernel) rfl (fun hc1 => ?_) (fun hc1 => ?_)
  · refine zw_iconst 0 23 f14_22 rfl (by decide +kernel) ?_
    refine zw_zreturn f14_23 r14 u14 (by decide +kernel) ⟨_, rfl, ?_⟩
    refine zw_if_ne_f 11 17 f85_8 (by decide +kernel) rfl (by decide +kernel) ?_
    refine zw_aload_n 12 f85_11 rfl rfl ?_
    refine zw_iconst 1 13 f85_12 rfl (by decide +kernel) ?_
    refine zw_virtual_i 16 0 0 [.ref 0, .int 1] [(0, .ref 0), (1, .int 1)] f85_13 rfl n85_78 k85_78_11 rfl rfl (by decide +kernel) (Nat.le_of_ble_eq_true rfl) rfl rfl (by decide +kernel) (by decide +kernel) rfl (Nat.le_of_ble_eq_true rfl) rfl ?_
    refine zw_aload_n 1 f105_0 rfl rfl ?_
    refine zw_iload_n 2 f105_1 rfl rfl ?_
    refine zw_putfield 5 f105_2 rfl g105_70_11 rfl rfl (Nat.le_of_ble_eq_true rfl) (by decide +kernel) ?_
    refine zw_iconst (-1) 6 f105_5 rfl (by decide +kernel) ?_
    refine zw_ireturn f105_6 r105 u105 ⟨_, rfl, ?_⟩
    refine zw_ireturn f85_16 r85 u85 ?_
    exact ⟨rfl, by repeat (first | exact zMF_0 | refine zMF_set (by decide) ?_)⟩
  · refine zw_iload_n 5 f14_4 rfl rfl ?_
    refine zw_aload_n 6 f14_5 rfl rfl ?_
    refine zw_getfield 9 f14_6 rfl g14_43_4 rfl rfl ?_
    refine zw_ic_ge_t 22 f14_9 (by decide +kernel) (Int32.not_lt.mp hc1) ?_
    refine zw_iconst 0 23 f14_22 rfl (by decide +kernel) ?_
    refine zw_zreturn f14_23 r14 u14 (by decide +kernel) ⟨_, rfl, ?_⟩
    refine zw_if_ne_f 11 17 f85_8 (by decide +kernel) rfl (by decide +kernel) ?_
    refine zw_aload_n 12 f85_11 rfl rfl ?_
    refine zw_iconst 1 13 f85_12 rfl (by decide +kernel) ?_
    refine zw_virtual_i 16 0 0 [.ref 0, .int 1] [(0, .ref 0), (1, .int 1)] f85_13 rfl n85_78 k85_78_11 rfl rfl (by decide +kernel) (Nat.le_of_ble_eq_true rfl) rfl rfl (by decide +kernel) (by decide +kernel) rfl (Nat.le_of_ble_eq_true rfl) rfl ?_
    refine zw_aload_n 1 f105_0 rfl rfl ?_
    refine zw_iload_n 2 f105_1 rfl rfl ?_
    refine zw_putfield 5 f105_2 rfl g105_70_11 rfl rfl (Nat.le_of_ble_eq_true rfl) (by decide +kernel) ?_
    refine zw_iconst (-1) 6 f105_5 rfl (by decide +kernel) ?_
    refine zw_ireturn f105_6 r105 u105 ⟨_, rfl, ?_⟩
    refine zw_ireturn f85_16 r85 u85 ?_
    exact ⟨rfl, by repeat (first | exact zMF_0 | refine zMF_set (by decide) ?_)⟩
set_option maxRecDepth 100000 in
set_option maxHeartbeats 0 in
theorem x_amount_r (ro : UInt32 → Nat × (Nat → Int32)) (a b : Int32) : zWp ro 86 0 [(0, .ref 0), (1, .int a), (2, .int b)] [] hF 0 0 (fun r h1 => r = some (.int (-1)) ∧ zMF h1) := by
  refine zw_aload_n 1 f86_0 rfl rfl ?_
  refine zw_getfield 4 f86_1 rfl g86_10_11 rfl rfl ?_
  refine zw_iload_n 5 f86_4 rfl rfl ?_
  refine zw_virtual_i 8 0 0 [.ref 1, .int a] [(0, .ref 1), (1, .int a)] f86_5 rfl n86_109 k86_109_4 rfl rfl (by decide +kernel) (Nat.le_of_ble_eq_true rfl) rfl rfl (by decide +kernel) (by decide +kernel) rfl (Nat.le_of_ble_eq_true rfl) rfl ?_
  refine zw_iload_n 1 f14_0 rfl rfl ?_
  refine zw_if_lt 4 22 f14_1 (by decide +kernel) rfl (fun hc1 => ?_) (fun hc1 => ?_)
  · refine zw_iconst 0 23 f14_22 rfl (by decide +kernel) ?_
    refine zw_zreturn f14_23 r14 u14 (by decide +kernel) ⟨_, rfl, ?_⟩
    refine zw_if_eq_t 21 f86_8 (by decide +kernel) (by decide +kernel) ?_
    refine zw_aload_n 22 f86_21 rfl rfl ?_
    refine zw_iconst 1 23 f86_22 rfl (by decide +kernel) ?_
    refine zw_virtual_i 26 0 0 [.ref 0, .int 1] [(0, .ref 0), (1, .int 1)] f86_23 rfl n86_78 k86_78_11 rfl rfl (by decide +kernel) (Nat.le_of_ble_eq_true rfl) rfl rfl (by decide +kernel) (by decide +kernel) rfl (Nat.le_of_ble_eq_true rfl) rfl ?_
    refine zw_aload_n 1 f105_0 rfl rfl ?_
    refine zw_iload_n 2 f105_1 rfl rfl ?_
    refine zw_putfield 5 f105_2 rfl g105_70_11 rfl rfl (Nat.le_of_ble_eq_true rfl) (by decide +kernel) ?_
    refine zw_iconst (-1) 6 f105_5 rfl (by decide +kernel) ?_
    refine zw_ireturn f105_6 r105 u105 ⟨_, rfl, ?_⟩
    refine zw_ireturn f86_26 r86 u86 ?_
    exact ⟨rfl, by repeat (first | exact zMF_0 | refine zMF_set (by decide) ?_)⟩
  · refine zw_iload_n 5 f14_4 rfl rfl ?_
    refine zw_aload_n 6 f14_5 rfl rfl ?_
    refine zw_getfield 9 f14_6 rfl g14_43_4 rfl rfl ?_
    refine zw_ic_ge_t 22 f14_9 (by decide +kernel) (Int32.not_lt.mp hc1) ?_
    refine zw_iconst 0 23 f14_22 rfl (by decide +kernel) ?_
    refine zw_zreturn f14_23 r14 u14 (by decide +kernel) ⟨_, rfl, ?_⟩
    refine zw_if_eq_t 21 f86_8 (by decide +kernel) (by decide +kernel) ?_
    refine zw_aload_n 22 f86_21 rfl rfl ?_
    refine zw_iconst 1 23 f86_22 rfl (by decide +kernel) ?_
    refine zw_virtual_i 26 0 0 [.ref 0, .int 1] [(0, .ref 0), (1, .int 1)] f86_23 rfl n86_78 k86_78_11 rfl rfl (by decide +kernel) (Nat.le_of_ble_eq_true rfl) rfl rfl (by decide +kernel) (by decide +kernel) rfl (Nat.le_of_ble_eq_true rfl) rfl ?_
    refine zw_aload_n 1 f105_0 rfl rfl ?_
    refine zw_iload_n 2 f105_1 rfl rfl ?_
    refine zw_putfield 5 f105_2 rfl g105_70_11 rfl rfl (Nat.le_of_ble_eq_true rfl) (by decide +kernel) ?_
    refine zw_iconst (-1) 6 f105_5 rfl (by decide +kernel) ?_
    refine zw_ireturn f105_6 r105 u105 ⟨_, rfl, ?_⟩
    refine zw_ireturn f86_26 r86 u86 ?_
    exact ⟨rfl, by repeat (first | exact zMF_0 | refine zMF_set (by decide) ?_)⟩
set_option maxRecDepth 100000 in
set_option maxHeartbeats 0 in
theorem x_go_r1 (ro : UInt32 → Nat × (Nat → Int32)) (a : Int32) (h1 : 10000 < a) : zWp ro 87 0 [(0, .ref 0), (1, .int a)] [] hF 0 0 (fun r h1 => r = some (.int (-1)) ∧ zMF h1) := by
  refine zw_iload_n 1 f87_0 rfl rfl ?_
  refine zw_sipush 10000 4 f87_1 rfl (by decide +kernel) ?_
  refine zw_ic_gt_t 18 f87_4 (by decide +kernel) h1 ?_
  refine zw_aload_n 19 f87_18 rfl rfl ?_
  refine zw_iconst 1 20 f87_19 rfl (by decide +kernel) ?_
  refine zw_virtual_i 23 0 0 [.ref 0, .int 1] [(0, .ref 0), (1, .int 1)] f87_20 rfl n87_78 k87_78_11 rfl rfl (by decide +kernel) (Nat.le_of_ble_eq_true rfl) rfl rfl (by decide +kernel) (by decide +kernel) rfl (Nat.le_of_ble_eq_true rfl) rfl ?_
  refine zw_aload_n 1 f105_0 rfl rfl ?_
  refine zw_iload_n 2 f105_1 rfl rfl ?_
  refine zw_putfield 5 f105_2 rfl g105_70_11 rfl rfl (Nat.le_of_ble_eq_true rfl) (by decide +kernel) ?_
  refine zw_iconst (-1) 6 f105_5 rfl (by decide +kernel) ?_
  refine zw_ireturn f105_6 r105 u105 ⟨_, rfl, ?_⟩
  refine zw_ireturn f87_23 r87 u87 ?_
  exact ⟨rfl, by repeat (first | exact zMF_0 | refine zMF_set (by decide) ?_)⟩
set_option maxRecDepth 100000 in
set_option maxHeartbeats 0 in
theorem x_go_r2 (ro : UInt32 → Nat × (Nat → Int32)) (a : Int32) (h1 : ¬ 10000 < a) (h2 : a < 0) : zWp ro 87 0 [(0, .ref 0), (1, .int a)] [] hF 0 0 (fun r h1 => r = some (.int (-1)) ∧ zMF h1) := by
  refine zw_iload_n 1 f87_0 rfl rfl ?_
  refine zw_sipush 10000 4 f87_1 rfl (by decide +kernel) ?_
  refine zw_ic_gt_f 7 18 f87_4 (by decide +kernel) rfl h1 ?_
  refine zw_aload_n 8 f87_7 rfl rfl ?_
  refine zw_getfield 11 f87_8 rfl g87_21_11 rfl rfl ?_
  refine zw_iload_n 12 f87_11 rfl rfl ?_
  refine zw_virtual_i 15 0 0 [.ref 11, .int a] [(0, .ref 11), (1, .int a)] f87_12 rfl n87_161 k87_161_10 rfl rfl (by decide +kernel) (Nat.le_of_ble_eq_true rfl) rfl rfl (by decide +kernel) (by decide +kernel) rfl (Nat.le_of_ble_eq_true rfl) rfl ?_
  refine zw_aload_n 1 f62_0 rfl rfl ?_
  refine zw_getfield 4 f62_1 rfl g62_12_10 rfl rfl ?_
  refine zw_getfield 7 f62_4 rfl g62_151_9 rfl rfl ?_
  refine zw_iload_n 8 f62_7 rfl rfl ?_
  refine zw_i2l a.toInt64 9 f62_8 rfl rfl ?_
  refine zw_aload_n 10 f62_9 rfl rfl ?_
  refine zw_getfield 13 f62_10 rfl g62_12_10 rfl rfl ?_
  refine zw_getfield 16 f62_13 rfl g62_109_9 rfl rfl ?_
  refine zw_lmul a.toInt64 17 f62_16 rfl (Int64.mul_one _) ?_
  refine zw_lcmp 1 18 f62_17 rfl (zl_neg h2).1 ?_
  refine zw_if_le_f 21 25 f62_18 (by decide +kernel) rfl (by decide +kernel) ?_
  refine zw_iconst 1 22 f62_21 rfl (by decide +kernel) ?_
  refine zw_goto 26 f62_22 (by decide +kernel) ?_
  refine zw_zreturn f62_26 r62 u62 (by decide +kernel) ⟨_, rfl, ?_⟩
  refine zw_if_eq_f 18 24 f87_15 (by decide +kernel) rfl (by decide +kernel) ?_
  refine zw_aload_n 19 f87_18 rfl rfl ?_
  refine zw_iconst 1 20 f87_19 rfl (by decide +kernel) ?_
  refine zw_virtual_i 23 0 0 [.ref 0, .int 1] [(0, .ref 0), (1, .int 1)] f87_20 rfl n87_78 k87_78_11 rfl rfl (by decide +kernel) (Nat.le_of_ble_eq_true rfl) rfl rfl (by decide +kernel) (by decide +kernel) rfl (Nat.le_of_ble_eq_true rfl) rfl ?_
  refine zw_aload_n 1 f105_0 rfl rfl ?_
  refine zw_iload_n 2 f105_1 rfl rfl ?_
  refine zw_putfield 5 f105_2 rfl g105_70_11 rfl rfl (Nat.le_of_ble_eq_true rfl) (by decide +kernel) ?_
  refine zw_iconst (-1) 6 f105_5 rfl (by decide +kernel) ?_
  refine zw_ireturn f105_6 r105 u105 ⟨_, rfl, ?_⟩
  refine zw_ireturn f87_23 r87 u87 ?_
  exact ⟨rfl, by repeat (first | exact zMF_0 | refine zMF_set (by decide) ?_)⟩
set_option maxRecDepth 100000 in
set_option maxHeartbeats 0 in
theorem x_go_r3 (ro : UInt32 → Nat × (Nat → Int32)) : zWp ro 87 0 [(0, .ref 0), (1, .int 0)] [] hF 0 0 (fun r h1 => r = some (.int 0) ∧ zMF h1) := by
  refine zw_iload_n 1 f87_0 rfl rfl ?_
  refine zw_sipush 10000 4 f87_1 rfl (by decide +kernel) ?_
  refine zw_ic_gt_f 7 18 f87_4 (by decide +kernel) rfl (by decide +kernel) ?_
  refine zw_aload_n 8 f87_7 rfl rfl ?_
  refine zw_getfield 11 f87_8 rfl g87_21_11 rfl rfl ?_
  refine zw_iload_n 12 f87_11 rfl rfl ?_
  refine zw_virtual_i 15 0 0 [.ref 11, .int 0] [(0, .ref 11), (1, .int 0)] f87_12 rfl n87_161 k87_161_10 rfl rfl (by decide +kernel) (Nat.le_of_ble_eq_true rfl) rfl rfl (by decide +kernel) (by decide +kernel) rfl (Nat.le_of_ble_eq_true rfl) rfl ?_
  refine zw_aload_n 1 f62_0 rfl rfl ?_
  refine zw_getfield 4 f62_1 rfl g62_12_10 rfl rfl ?_
  refine zw_getfield 7 f62_4 rfl g62_151_9 rfl rfl ?_
  refine zw_iload_n 8 f62_7 rfl rfl ?_
  refine zw_i2l 0 9 f62_8 rfl (by decide +kernel) ?_
  refine zw_aload_n 10 f62_9 rfl rfl ?_
  refine zw_getfield 13 f62_10 rfl g62_12_10 rfl rfl ?_
  refine zw_getfield 16 f62_13 rfl g62_109_9 rfl rfl ?_
  refine zw_lmul 0 17 f62_16 rfl (by decide +kernel) ?_
  refine zw_lcmp 0 18 f62_17 rfl (by decide +kernel) ?_
  refine zw_if_le_t 25 f62_18 (by decide +kernel) (by decide +kernel) ?_
  refine zw_iconst 0 26 f62_25 rfl (by decide +kernel) ?_
  refine zw_zreturn f62_26 r62 u62 (by decide +kernel) ⟨_, rfl, ?_⟩
  refine zw_if_eq_t 24 f87_15 (by decide +kernel) (by decide +kernel) ?_
  refine zw_aload_n 25 f87_24 rfl rfl ?_
  refine zw_getfield 28 f87_25 rfl g87_31_11 rfl rfl ?_
  refine zw_getfield 31 f87_28 rfl g87_164_3 rfl rfl ?_
  refine zw_istore_n [(2, .int 0), (0, .ref 0), (1, .int 0)] 32 f87_31 rfl (by decide +kernel) rfl ?_
  refine zw_iconst 0 33 f87_32 rfl (by decide +kernel) ?_
  refine zw_istore_n [(3, .int 0), (2, .int 0), (0, .ref 0), (1, .int 0)] 34 f87_33 rfl (by decide +kernel) rfl ?_
  refine zw_iload_n 35 f87_34 rfl rfl ?_
  refine zw_sipush 150 38 f87_35 rfl (by decide +kernel) ?_
  refine zw_ic_gt_f 41 131 f87_38 (by decide +kernel) rfl (by decide +kernel) ?_
  refine zw_aload_n 42 f87_41 rfl rfl ?_
  refine zw_getfield 45 f87_42 rfl g87_21_11 rfl rfl ?_
  refine zw_virtual_v 48 0 0 [.ref 11] [(0, .ref 11)] f87_45 rfl n87_167 k87_167_10 rfl rfl (by decide +kernel) (Nat.le_of_ble_eq_true rfl) rfl rfl (by decide +kernel) (by decide +kernel) rfl (Nat.le_of_ble_eq_true rfl) rfl ?_
  refine zw_aload_n 1 f53_0 rfl rfl ?_
  refine zw_virtual_v 4 0 0 [.ref 11] [(0, .ref 11)] f53_1 rfl n53_113 k53_113_10 rfl rfl (by decide +kernel) (Nat.le_of_ble_eq_true rfl) rfl rfl (by decide +kernel) (by decide +kernel) rfl (Nat.le_of_ble_eq_true rfl) rfl ?_
  refine zw_aload_n 1 f49_0 rfl rfl ?_
  refine zw_iconst 0 2 f49_1 rfl (by decide +kernel) ?_
  refine zw_putfieldS 5 f49_2 rfl g49_54_10 rfl rfl rfl (by decide +kernel) ?_
  refine zw_aload_n 6 f49_5 rfl rfl ?_
  refine zw_iconst 0 7 f49_6 rfl (by decide +kernel) ?_
  refine zw_putfieldS 10 f49_7 rfl g49_58_10 rfl rfl rfl (by decide +kernel) ?_
  refine zw_iconst 0 11 f49_10 rfl (by decide +kernel) ?_
  refine zw_istore_n [(1, .int 0), (0, .ref 11)] 12 f49_11 rfl (by decide +kernel) rfl ?_
  refine zw_iload_n 13 f49_12 rfl rfl ?_
  refine zw_bipush 8 15 f49_13 rfl (by decide +kernel) ?_
  refine zw_ic_ge_f 18 31 f49_15 (by decide +kernel) rfl (by decide +kernel) ?_
  refine zw_aload_n 19 f49_18 rfl rfl ?_
  refine zw_getfield 22 f49_19 rfl g49_18_10 rfl rfl ?_
  refine zw_iload_n 23 f49_22 rfl rfl ?_
  refine zw_iconst 0 24 f49_23 rfl (by decide +kernel) ?_
  refine zw_iastoreS 0 25 f49_24 rfl rfl (by decide +kernel) (by decide +kernel) (by decide +kernel) rfl ?_
  refine zw_iinc 1 [(1, .int 1), (0, .ref 11)] 28 f49_25 rfl rfl (by decide +kernel) (by decide +kernel) rfl ?_
  refine zw_goto 12 f49_28 (by decide +kernel) ?_
  refine zw_iload_n 13 f49_12 rfl rfl ?_
  refine zw_bipush 8 15 f49_13 rfl (by decide +kernel) ?_
  refine zw_ic_ge_f 18 31 f49_15 (by decide +kernel) rfl (by decide +kernel) ?_
  refine zw_aload_n 19 f49_18 rfl rfl ?_
  refine zw_getfield 22 f49_19 rfl g49_18_10 rfl rfl ?_
  refine zw_iload_n 23 f49_22 rfl rfl ?_
  refine zw_iconst 0 24 f49_23 rfl (by decide +kernel) ?_
  refine zw_iastoreS 1 25 f49_24 rfl rfl (by decide +kernel) (by decide +kernel) (by decide +kernel) rfl ?_
  refine zw_iinc 2 [(1, .int 2), (0, .ref 11)] 28 f49_25 rfl rfl (by decide +kernel) (by decide +kernel) rfl ?_
  refine zw_goto 12 f49_28 (by decide +kernel) ?_
  refine zw_iload_n 13 f49_12 rfl rfl ?_
  refine zw_bipush 8 15 f49_13 rfl (by decide +kernel) ?_
  refine zw_ic_ge_f 18 31 f49_15 (by decide +kernel) rfl (by decide +kernel) ?_
  refine zw_aload_n 19 f49_18 rfl rfl ?_
  refine zw_getfield 22 f49_19 rfl g49_18_10 rfl rfl ?_
  refine zw_iload_n 23 f49_22 rfl rfl ?_
  refine zw_iconst 0 24 f49_23 rfl (by decide +kernel) ?_
  refine zw_iastoreS 2 25 f49_24 rfl rfl (by decide +kernel) (by decide +kernel) (by decide +kernel) rfl ?_
  refine zw_iinc 3 [(1, .int 3), (0, .ref 11)] 28 f49_25 rfl rfl (by decide +kernel) (by decide +kernel) rfl ?_
  refine zw_goto 12 f49_28 (by decide +kernel) ?_
  refine zw_iload_n 13 f49_12 rfl rfl ?_
  refine zw_bipush 8 15 f49_13 rfl (by decide +kernel) ?_
  refine zw_ic_ge_f 18 31 f49_15 (by decide +kernel) rfl (by decide +kernel) ?_
  refine zw_aload_n 19 f49_18 rfl rfl ?_
  refine zw_getfield 22 f49_19 rfl g49_18_10 rfl rfl ?_
  refine zw_iload_n 23 f49_22 rfl rfl ?_
  refine zw_iconst 0 24 f49_23 rfl (by decide +kernel) ?_
  refine zw_iastoreS 3 25 f49_24 rfl rfl (by decide +kernel) (by decide +kernel) (by decide +kernel) rfl ?_
  refine zw_iinc 4 [(1, .int 4), (0, .ref 11)] 28 f49_25 rfl rfl (by decide +kernel) (by decide +kernel) rfl ?_
  refine zw_goto 12 f49_28 (by decide +kernel) ?_
  refine zw_iload_n 13 f49_12 rfl rfl ?_
  refine zw_bipush 8 15 f49_13 rfl (by decide +kernel) ?_
  refine zw_ic_ge_f 18 31 f49_15 (by decide +kernel) rfl (by decide +kernel) ?_
  refine zw_aload_n 19 f49_18 rfl rfl ?_
  refine zw_getfield 22 f49_19 rfl g49_18_10 rfl rfl ?_
  refine zw_iload_n 23 f49_22 rfl rfl ?_
  refine zw_iconst 0 24 f49_23 rfl (by decide +kernel) ?_
  refine zw_iastoreS 4 25 f49_24 rfl rfl (by decide +kernel) (by decide +kernel) (by decide +kernel) rfl ?_
  refine zw_iinc 5 [(1, .int 5), (0, .ref 11)] 28 f49_25 rfl rfl (by decide +kernel) (by decide +kernel) rfl ?_
  refine zw_goto 12 f49_28 (by decide +kernel) ?_
  refine zw_iload_n 13 f49_12 rfl rfl ?_
  refine zw_bipush 8 15 f49_13 rfl (by decide +kernel) ?_
  refine zw_ic_ge_f 18 31 f49_15 (by decide +kernel) rfl (by decide +kernel) ?_
  refine zw_aload_n 19 f49_18 rfl rfl ?_
  refine zw_getfield 22 f49_19 rfl g49_18_10 rfl rfl ?_
  refine zw_iload_n 23 f49_22 rfl rfl ?_
  refine zw_iconst 0 24 f49_23 rfl (by decide +kernel) ?_
  refine zw_iastoreS 5 25 f49_24 rfl rfl (by decide +kernel) (by decide +kernel) (by decide +kernel) rfl ?_
  refine zw_iinc 6 [(1, .int 6), (0, .ref 11)] 28 f49_25 rfl rfl (by decide +kernel) (by decide +kernel) rfl ?_
  refine zw_goto 12 f49_28 (by decide +kernel) ?_
  refine zw_iload_n 13 f49_12 rfl rfl ?_
  refine zw_bipush 8 15 f49_13 rfl (by decide +kernel) ?_
  refine zw_ic_ge_f 18 31 f49_15 (by decide +kernel) rfl (by decide +kernel) ?_
  refine zw_aload_n 19 f49_18 rfl rfl ?_
  refine zw_getfield 22 f49_19 rfl g49_18_10 rfl rfl ?_
  refine zw_iload_n 23 f49_22 rfl rfl ?_
  refine zw_iconst 0 24 f49_23 rfl (by decide +kernel) ?_
  refine zw_iastoreS 6 25 f49_24 rfl rfl (by decide +kernel) (by decide +kernel) (by decide +kernel) rfl ?_
  refine zw_iinc 7 [(1, .int 7), (0, .ref 11)] 28 f49_25 rfl rfl (by decide +kernel) (by decide +kernel) rfl ?_
  refine zw_goto 12 f49_28 (by decide +kernel) ?_
  refine zw_iload_n 13 f49_12 rfl rfl ?_
  refine zw_bipush 8 15 f49_13 rfl (by decide +kernel) ?_
  refine zw_ic_ge_f 18 31 f49_15 (by decide +kernel) rfl (by decide +kernel) ?_
  refine zw_aload_n 19 f49_18 rfl rfl ?_
  refine zw_getfield 22 f49_19 rfl g49_18_10 rfl rfl ?_
  refine zw_iload_n 23 f49_22 rfl rfl ?_
  refine zw_iconst 0 24 f49_23 rfl (by decide +kernel) ?_
  refine zw_iastoreS 7 25 f49_24 rfl rfl (by decide +kernel) (by decide +kernel) (by decide +kernel) rfl ?_
  refine zw_iinc 8 [(1, .int 8), (0, .ref 11)] 28 f49_25 rfl rfl (by decide +kernel) (by decide +kernel) rfl ?_
  refine zw_goto 12 f49_28 (by decide +kernel) ?_
  refine zw_iload_n 13 f49_12 rfl rfl ?_
  refine zw_bipush 8 15 f49_13 rfl (by decide +kernel) ?_
  refine zw_ic_ge_t 31 f49_15 (by decide +kernel) (by decide +kernel) ?_
  refine zw_iconst 0 32 f49_31 rfl (by decide +kernel) ?_
  refine zw_istore_n [(1, .int 0), (0, .ref 11)] 33 f49_32 rfl (by decide +kernel) rfl ?_
  refine zw_iload_n 34 f49_33 rfl rfl ?_
  refine zw_aload_n 35 f49_34 rfl rfl ?_
  refine zw_getfield 38 f49_35 rfl g49_37_10 rfl rfl ?_
  refine zw_getfield 41 f49_38 rfl g49_61_4 rfl rfl ?_
  refine zw_ic_ge_t 124 f49_41 (by decide +kernel) (by decide +kernel) ?_
  refine zw_iconst 0 125 f49_124 rfl (by decide +kernel) ?_
  refine zw_istore_n [(1, .int 0), (0, .ref 11)] 126 f49_125 rfl (by decide +kernel) rfl ?_
  refine zw_iload_n 127 f49_126 rfl rfl ?_
  refine zw_aload_n 128 f49_127 rfl rfl ?_
  refine zw_getfield 131 f49_128 rfl g49_37_10 rfl rfl ?_
  refine zw_getfield 134 f49_131 rfl g49_80_4 rfl rfl ?_
  refine zw_ic_ge_t 148 f49_134 (by decide +kernel) (by decide +kernel) ?_
  refine zw_vreturn f49_148 r49 u49 ⟨rfl, ?_⟩
  refine zw_aload_n 5 f53_4 rfl rfl ?_
  refine zw_lconst 0 6 f53_5 rfl (by decide +kernel) ?_
  refine zw_putfieldS 9 f53_6 rfl g53_116_10 rfl rfl rfl (by decide +kernel) ?_
  refine zw_aload_n 10 f53_9 rfl rfl ?_
  refine zw_lconst 0 11 f53_10 rfl (by decide +kernel) ?_
  refine zw_putfieldS 14 f53_11 rfl g53_119_10 rfl rfl rfl (by decide +kernel) ?_
  refine zw_iconst 0 15 f53_14 rfl (by decide +kernel) ?_
  refine zw_istore_n [(1, .int 0), (0, .ref 11)] 16 f53_15 rfl (by decide +kernel) rfl ?_
  refine zw_iload_n 17 f53_16 rfl rfl ?_
  refine zw_aload_n 18 f53_17 rfl rfl ?_
  refine zw_getfield 21 f53_18 rfl g53_37_10 rfl rfl ?_
  refine zw_getfield 24 f53_21 rfl g53_80_4 rfl rfl ?_
  refine zw_ic_ge_t 64 f53_24 (by decide +kernel) (by decide +kernel) ?_
  refine zw_vreturn f53_64 r53 u53 ⟨rfl, ?_⟩
  refine zw_aload_n 49 f87_48 rfl rfl ?_
  refine zw_getfield 52 f87_49 rfl g87_21_11 rfl rfl ?_
  refine zw_virtual_i 55 0 0 [.ref 11] [(0, .ref 11)] f87_52 rfl n87_170 k87_170_10 rfl rfl (by decide +kernel) (Nat.le_of_ble_eq_true rfl) rfl rfl (by decide +kernel) (by decide +kernel) rfl (Nat.le_of_ble_eq_true rfl) rfl ?_
  refine zw_aload_n 1 f58_0 rfl rfl ?_
  refine zw_getfield 4 f58_1 rfl g58_119_10 rfl rfl ?_
  refine zw_lconst 0 5 f58_4 rfl (by decide +kernel) ?_
  refine zw_lcmp 0 6 f58_5 rfl (by decide +kernel) ?_
  refine zw_if_ne_f 9 13 f58_6 (by decide +kernel) rfl (by decide +kernel) ?_
  refine zw_iconst 1 10 f58_9 rfl (by decide +kernel) ?_
  refine zw_goto 14 f58_10 (by decide +kernel) ?_
  refine zw_zreturn f58_14 r58 u58 (by decide +kernel) ⟨_, rfl, ?_⟩
  refine zw_if_ne_t 69 f87_55 (by decide +kernel) (by decide +kernel) ?_
  refine zw_aload_n 70 f87_69 rfl rfl ?_
  refine zw_getfield 73 f87_70 rfl g87_21_11 rfl rfl ?_
  refine zw_iload_n 74 f87_73 rfl rfl ?_
  refine zw_virtual_v 77 0 0 [.ref 11, .int 0] [(0, .ref 11), (1, .int 0)] f87_74 rfl n87_177 k87_177_10 rfl rfl (by decide +kernel) (Nat.le_of_ble_eq_true rfl) rfl rfl (by decide +kernel) (by decide +kernel) rfl (Nat.le_of_ble_eq_true rfl) rfl ?_
  refine zw_aload_n 1 f67_0 rfl rfl ?_
  refine zw_lconst 1 2 f67_1 rfl (by decide +kernel) ?_
  refine zw_iload_n 3 f67_2 rfl rfl ?_
  refine zw_i2l 0 4 f67_3 rfl (by decide +kernel) ?_
  refine zw_aload_n 5 f67_4 rfl rfl ?_
  refine zw_getfield 8 f67_5 rfl g67_12_10 rfl rfl ?_
  refine zw_getfield 11 f67_8 rfl g67_109_9 rfl rfl ?_
  refine zw_lmul 0 12 f67_11 rfl (by decide +kernel) ?_
  refine zw_aload_n 13 f67_12 rfl rfl ?_
  refine zw_getfield 16 f67_13 rfl g67_12_10 rfl rfl ?_
  refine zw_getfield 19 f67_16 rfl g67_151_9 rfl rfl ?_
  refine zw_lsub 0 20 f67_19 rfl (by decide +kernel) ?_
  refine zw_virtual_i 23 0 0 [.ref 11, .long 1, .long 0] [(0, .ref 11), (1, .long 1), (3, .long 0)] f67_20 rfl n67_164 k67_164_10 rfl rfl (by decide +kernel) (Nat.le_of_ble_eq_true rfl) rfl rfl (by decide +kernel) (by decide +kernel) rfl (Nat.le_of_ble_eq_true rfl) rfl ?_
  refine zw_aload_n 1 f68_0 rfl rfl ?_
  refine zw_getfield 4 f68_1 rfl g68_12_10 rfl rfl ?_
  refine zw_getfield 7 f68_4 rfl g68_109_9 rfl rfl ?_
  refine zw_lload_n 8 f68_7 rfl rfl ?_
  refine zw_lmul 1 9 f68_8 rfl (by decide +kernel) ?_
  refine zw_lstore [(5, .long 1), (0, .ref 11), (1, .long 1), (3, .long 0)] 11 f68_9 rfl (by decide +kernel) rfl ?_
  refine zw_aload_n 12 f68_11 rfl rfl ?_
  refine zw_lload_n 13 f68_12 rfl rfl ?_
  refine zw_lload_n 14 f68_13 rfl rfl ?_
  refine zw_lload 16 f68_14 rfl rfl ?_
  refine zw_virtual_l 19 0 0 [.ref 11, .long 1, .long 0, .long 1] [(0, .ref 11), (1, .long 1), (3, .long 0), (5, .long 1)] f68_16 rfl n68_171 k68_171_10 rfl rfl (by decide +kernel) (Nat.le_of_ble_eq_true rfl) rfl rfl (by decide +kernel) (by decide +kernel) rfl (Nat.le_of_ble_eq_true rfl) rfl ?_
  refine zw_aload_n 1 f69_0 rfl rfl ?_
  refine zw_getfield 4 f69_1 rfl g69_12_10 rfl rfl ?_
  refine zw_getfield 7 f69_4 rfl g69_151_9 rfl rfl ?_
  refine zw_lload_n 8 f69_7 rfl rfl ?_
  refine zw_lmul 0 9 f69_8 rfl (by decide +kernel) ?_
  refine zw_lload_n 10 f69_9 rfl rfl ?_
  refine zw_ladd 0 11 f69_10 rfl (by decide +kernel) ?_
  refine zw_lload 13 f69_11 rfl rfl ?_
  refine zw_static_l 16 0 0 [.long 0, .long 1] [] [(0, .long 0), (2, .long 1)] f69_13 rfl k69_183_99 rfl (by decide +kernel) (Nat.le_of_ble_eq_true rfl) (Nat.le_of_ble_eq_true rfl) rfl rfl (by decide +kernel) (by decide +kernel) rfl (Nat.le_of_ble_eq_true rfl) rfl ?_
  refine zw_lload_n 1 f115_0 rfl rfl ?_
  refine zw_lstore [(4, .long 0), (0, .long 0), (2, .long 1)] 3 f115_1 rfl (by decide +kernel) rfl ?_
  refine zw_lload_n 4 f115_3 rfl rfl ?_
  refine zw_lstore [(6, .long 1), (4, .long 0), (0, .long 0), (2, .long 1)] 6 f115_4 rfl (by decide +kernel) rfl ?_
  refine zw_iconst 0 7 f115_6 rfl (by decide +kernel) ?_
  refine zw_istore [(8, .int 0), (6, .long 1), (4, .long 0), (0, .long 0), (2, .long 1)] 9 f115_7 rfl (by decide +kernel) rfl ?_
  refine zw_iload 11 f115_9 rfl rfl ?_
  refine zw_sipush 200 14 f115_11 rfl (by decide +kernel) ?_
  refine zw_ic_ge_f 17 45 f115_14 (by decide +kernel) rfl (by decide +kernel) ?_
  refine zw_lload 19 f115_17 rfl rfl ?_
  refine zw_lconst 0 20 f115_19 rfl (by decide +kernel) ?_
  refine zw_lcmp 1 21 f115_20 rfl (by decide +kernel) ?_
  refine zw_if_eq_f 24 45 f115_21 (by decide +kernel) rfl (by decide +kernel) ?_
  refine zw_lload 26 f115_24 rfl rfl ?_
  refine zw_lload 28 f115_26 rfl rfl ?_
  refine zw_lrem 0 29 f115_28 rfl (by decide +kernel) (by decide +kernel) ?_
  refine zw_lstore [(9, .long 0), (8, .int 0), (6, .long 1), (4, .long 0), (0, .long 0), (2, .long 1)] 31 f115_29 rfl (by decide +kernel) rfl ?_
  refine zw_lload 33 f115_31 rfl rfl ?_
  refine zw_lstore [(4, .long 1), (9, .long 0), (8, .int 0), (6, .long 1), (0, .long 0), (2, .long 1)] 35 f115_33 rfl (by decide +kernel) rfl ?_
  refine zw_lload 37 f115_35 rfl rfl ?_
  refine zw_lstore [(6, .long 0), (4, .long 1), (9, .long 0), (8, .int 0), (0, .long 0), (2, .long 1)] 39 f115_37 rfl (by decide +kernel) rfl ?_
  refine zw_iinc 1 [(8, .int 1), (6, .long 0), (4, .long 1), (9, .long 0), (0, .long 0), (2, .long 1)] 42 f115_39 rfl rfl (by decide +kernel) (by decide +kernel) rfl ?_
  refine zw_goto 9 f115_42 (by decide +kernel) ?_
  refine zw_iload 11 f115_9 rfl rfl ?_
  refine zw_sipush 200 14 f115_11 rfl (by decide +kernel) ?_
  refine zw_ic_ge_f 17 45 f115_14 (by decide +kernel) rfl (by decide +kernel) ?_
  refine zw_lload 19 f115_17 rfl rfl ?_
  refine zw_lconst 0 20 f115_19 rfl (by decide +kernel) ?_
  refine zw_lcmp 0 21 f115_20 rfl (by decide +kernel) ?_
  refine zw_if_eq_t 45 f115_21 (by decide +kernel) (by decide +kernel) ?_
  refine zw_lload 47 f115_45 rfl rfl ?_
  refine zw_lconst 0 48 f115_47 rfl (by decide +kernel) ?_
  refine zw_lcmp 1 49 f115_48 rfl (by decide +kernel) ?_
  refine zw_if_ne_t 56 f115_49 (by decide +kernel) (by decide +kernel) ?_
  refine zw_lload 58 f115_56 rfl rfl ?_
  refine zw_lreturn f115_58 r115 u115 ⟨_, rfl, ?_⟩
  refine zw_lstore [(7, .long 1), (0, .ref 11), (1, .long 1), (3, .long 0), (5, .long 1)] 18 f69_16 rfl (by decide +kernel) rfl ?_
  refine zw_aload_n 19 f69_18 rfl rfl ?_
  refine zw_getfield 22 f69_19 rfl g69_12_10 rfl rfl ?_
  refine zw_getfield 25 f69_22 rfl g69_177_9 rfl rfl ?_
  refine zw_lload_n 26 f69_25 rfl rfl ?_
  refine zw_lmul 0 27 f69_26 rfl (by decide +kernel) ?_
  refine zw_aload_n 28 f69_27 rfl rfl ?_
  refine zw_getfield 31 f69_28 rfl g69_54_10 rfl rfl ?_
  refine zw_i2l 0 32 f69_31 rfl (by decide +kernel) ?_
  refine zw_lload_n 33 f69_32 rfl rfl ?_
  refine zw_lmul 0 34 f69_33 rfl (by decide +kernel) ?_
  refine zw_ladd 0 35 f69_34 rfl (by decide +kernel) ?_
  refine zw_lload 37 f69_35 rfl rfl ?_
  refine zw_static_l 40 0 0 [.long 0, .long 1] [] [(0, .long 0), (2, .long 1)] f69_37 rfl k69_183_99 rfl (by decide +kernel) (Nat.le_of_ble_eq_true rfl) (Nat.le_of_ble_eq_true rfl) rfl rfl (by decide +kernel) (by decide +kernel) rfl (Nat.le_of_ble_eq_true rfl) rfl ?_
  refine zw_lload_n 1 f115_0 rfl rfl ?_
  refine zw_lstore [(4, .long 0), (0, .long 0), (2, .long 1)] 3 f115_1 rfl (by decide +kernel) rfl ?_
  refine zw_lload_n 4 f115_3 rfl rfl ?_
  refine zw_lstore [(6, .long 1), (4, .long 0), (0, .long 0), (2, .long 1)] 6 f115_4 rfl (by decide +kernel) rfl ?_
  refine zw_iconst 0 7 f115_6 rfl (by decide +kernel) ?_
  refine zw_istore [(8, .int 0), (6, .long 1), (4, .long 0), (0, .long 0), (2, .long 1)] 9 f115_7 rfl (by decide +kernel) rfl ?_
  refine zw_iload 11 f115_9 rfl rfl ?_
  refine zw_sipush 200 14 f115_11 rfl (by decide +kernel) ?_
  refine zw_ic_ge_f 17 45 f115_14 (by decide +kernel) rfl (by decide +kernel) ?_
  refine zw_lload 19 f115_17 rfl rfl ?_
  refine zw_lconst 0 20 f115_19 rfl (by decide +kernel) ?_
  refine zw_lcmp 1 21 f115_20 rfl (by decide +kernel) ?_
  refine zw_if_eq_f 24 45 f115_21 (by decide +kernel) rfl (by decide +kernel) ?_
  refine zw_lload 26 f115_24 rfl rfl ?_
  refine zw_lload 28 f115_26 rfl rfl ?_
  refine zw_lrem 0 29 f115_28 rfl (by decide +kernel) (by decide +kernel) ?_
  refine zw_lstore [(9, .long 0), (8, .int 0), (6, .long 1), (4, .long 0), (0, .long 0), (2, .long 1)] 31 f115_29 rfl (by decide +kernel) rfl ?_
  refine zw_lload 33 f115_31 rfl rfl ?_
  refine zw_lstore [(4, .long 1), (9, .long 0), (8, .int 0), (6, .long 1), (0, .long 0), (2, .long 1)] 35 f115_33 rfl (by decide +kernel) rfl ?_
  refine zw_lload 37 f115_35 rfl rfl ?_
  refine zw_lstore [(6, .long 0), (4, .long 1), (9, .long 0), (8, .int 0), (0, .long 0), (2, .long 1)] 39 f115_37 rfl (by decide +kernel) rfl ?_
  refine zw_iinc 1 [(8, .int 1), (6, .long 0), (4, .long 1), (9, .long 0), (0, .long 0), (2, .long 1)] 42 f115_39 rfl rfl (by decide +kernel) (by decide +kernel) rfl ?_
  refine zw_goto 9 f115_42 (by decide +kernel) ?_
  refine zw_iload 11 f115_9 rfl rfl ?_
  refine zw_sipush 200 14 f115_11 rfl (by decide +kernel) ?_
  refine zw_ic_ge_f 17 45 f115_14 (by decide +kernel) rfl (by decide +kernel) ?_
  refine zw_lload 19 f115_17 rfl rfl ?_
  refine zw_lconst 0 20 f115_19 rfl (by decide +kernel) ?_
  refine zw_lcmp 0 21 f115_20 rfl (by decide +kernel) ?_
  refine zw_if_eq_t 45 f115_21 (by decide +kernel) (by decide +kernel) ?_
  refine zw_lload 47 f115_45 rfl rfl ?_
  refine zw_lconst 0 48 f115_47 rfl (by decide +kernel) ?_
  refine zw_lcmp 1 49 f115_48 rfl (by decide +kernel) ?_
  refine zw_if_ne_t 56 f115_49 (by decide +kernel) (by decide +kernel) ?_
  refine zw_lload 58 f115_56 rfl rfl ?_
  refine zw_lreturn f115_58 r115 u115 ⟨_, rfl, ?_⟩
  refine zw_lstore [(7, .long 1), (0, .ref 11), (1, .long 1), (3, .long 0), (5, .long 1)] 42 f69_40 rfl (by decide +kernel) rfl ?_
  refine zw_aload_n 43 f69_42 rfl rfl ?_
  refine zw_getfield 46 f69_43 rfl g69_12_10 rfl rfl ?_
  refine zw_getfield 49 f69_46 rfl g69_180_9 rfl rfl ?_
  refine zw_lload_n 50 f69_49 rfl rfl ?_
  refine zw_lmul 0 51 f69_50 rfl (by decide +kernel) ?_
  refine zw_aload_n 52 f69_51 rfl rfl ?_
  refine zw_getfield 55 f69_52 rfl g69_58_10 rfl rfl ?_
  refine zw_i2l 0 56 f69_55 rfl (by decide +kernel) ?_
  refine zw_lload_n 57 f69_56 rfl rfl ?_
  refine zw_lmul 0 58 f69_57 rfl (by decide +kernel) ?_
  refine zw_ladd 0 59 f69_58 rfl (by decide +kernel) ?_
  refine zw_lload 61 f69_59 rfl rfl ?_
  refine zw_static_l 64 0 0 [.long 0, .long 1] [] [(0, .long 0), (2, .long 1)] f69_61 rfl k69_183_99 rfl (by decide +kernel) (Nat.le_of_ble_eq_true rfl) (Nat.le_of_ble_eq_true rfl) rfl rfl (by decide +kernel) (by decide +kernel) rfl (Nat.le_of_ble_eq_true rfl) rfl ?_
  refine zw_lload_n 1 f115_0 rfl rfl ?_
  refine zw_lstore [(4, .long 0), (0, .long 0), (2, .long 1)] 3 f115_1 rfl (by decide +kernel) rfl ?_
  refine zw_lload_n 4 f115_3 rfl rfl ?_
  refine zw_lstore [(6, .long 1), (4, .long 0), (0, .long 0), (2, .long 1)] 6 f115_4 rfl (by decide +kernel) rfl ?_
  refine zw_iconst 0 7 f115_6 rfl (by decide +kernel) ?_
  refine zw_istore [(8, .int 0), (6, .long 1), (4, .long 0), (0, .long 0), (2, .long 1)] 9 f115_7 rfl (by decide +kernel) rfl ?_
  refine zw_iload 11 f115_9 rfl rfl ?_
  refine zw_sipush 200 14 f115_11 rfl (by decide +kernel) ?_
  refine zw_ic_ge_f 17 45 f115_14 (by decide +kernel) rfl (by decide +kernel) ?_
  refine zw_lload 19 f115_17 rfl rfl ?_
  refine zw_lconst 0 20 f115_19 rfl (by decide +kernel) ?_
  refine zw_lcmp 1 21 f115_20 rfl (by decide +kernel) ?_
  refine zw_if_eq_f 24 45 f115_21 (by decide +kernel) rfl (by decide +kernel) ?_
  refine zw_lload 26 f115_24 rfl rfl ?_
  refine zw_lload 28 f115_26 rfl rfl ?_
  refine zw_lrem 0 29 f115_28 rfl (by decide +kernel) (by decide +kernel) ?_
  refine zw_lstore [(9, .long 0), (8, .int 0), (6, .long 1), (4, .long 0), (0, .long 0), (2, .long 1)] 31 f115_29 rfl (by decide +kernel) rfl ?_
  refine zw_lload 33 f115_31 rfl rfl ?_
  refine zw_lstore [(4, .long 1), (9, .long 0), (8, .int 0), (6, .long 1), (0, .long 0), (2, .long 1)] 35 f115_33 rfl (by decide +kernel) rfl ?_
  refine zw_lload 37 f115_35 rfl rfl ?_
  refine zw_lstore [(6, .long 0), (4, .long 1), (9, .long 0), (8, .int 0), (0, .long 0), (2, .long 1)] 39 f115_37 rfl (by decide +kernel) rfl ?_
  refine zw_iinc 1 [(8, .int 1), (6, .long 0), (4, .long 1), (9, .long 0), (0, .long 0), (2, .long 1)] 42 f115_39 rfl rfl (by decide +kernel) (by decide +kernel) rfl ?_
  refine zw_goto 9 f115_42 (by decide +kernel) ?_
  refine zw_iload 11 f115_9 rfl rfl ?_
  refine zw_sipush 200 14 f115_11 rfl (by decide +kernel) ?_
  refine zw_ic_ge_f 17 45 f115_14 (by decide +kernel) rfl (by decide +kernel) ?_
  refine zw_lload 19 f115_17 rfl rfl ?_
  refine zw_lconst 0 20 f115_19 rfl (by decide +kernel) ?_
  refine zw_lcmp 0 21 f115_20 rfl (by decide +kernel) ?_
  refine zw_if_eq_t 45 f115_21 (by decide +kernel) (by decide +kernel) ?_
  refine zw_lload 47 f115_45 rfl rfl ?_
  refine zw_lconst 0 48 f115_47 rfl (by decide +kernel) ?_
  refine zw_lcmp 1 49 f115_48 rfl (by decide +kernel) ?_
  refine zw_if_ne_t 56 f115_49 (by decide +kernel) (by decide +kernel) ?_
  refine zw_lload 58 f115_56 rfl rfl ?_
  refine zw_lreturn f115_58 r115 u115 ⟨_, rfl, ?_⟩
  refine zw_lstore [(7, .long 1), (0, .ref 11), (1, .long 1), (3, .long 0), (5, .long 1)] 66 f69_64 rfl (by decide +kernel) rfl ?_
  refine zw_iconst 0 67 f69_66 rfl (by decide +kernel) ?_
  refine zw_istore [(9, .int 0), (7, .long 1), (0, .ref 11), (1, .long 1), (3, .long 0), (5, .long 1)] 69 f69_67 rfl (by decide +kernel) rfl ?_
  refine zw_iload 71 f69_69 rfl rfl ?_
  refine zw_aload_n 72 f69_71 rfl rfl ?_
  refine zw_getfield 75 f69_72 rfl g69_37_10 rfl rfl ?_
  refine zw_getfield 78 f69_75 rfl g69_80_4 rfl rfl ?_
  refine zw_ic_ge_t 124 f69_78 (by decide +kernel) (by decide +kernel) ?_
  refine zw_lload 126 f69_124 rfl rfl ?_
  refine zw_lreturn f69_126 r69 u69 ⟨_, rfl, ?_⟩
  refine zw_lstore [(7, .long 1), (5, .long 1), (0, .ref 11), (1, .long 1), (3, .long 0)] 21 f68_19 rfl (by decide +kernel) rfl ?_
  refine zw_lload 23 f68_21 rfl rfl ?_
  refine zw_lconst 0 24 f68_23 rfl (by decide +kernel) ?_
  refine zw_lcmp 1 25 f68_24 rfl (by decide +kernel) ?_
  refine zw_if_eq_f 28 40 f68_25 (by decide +kernel) rfl (by decide +kernel) ?_
  refine zw_lload 30 f68_28 rfl rfl ?_
  refine zw_lload 32 f68_30 rfl rfl ?_
  refine zw_ldiv 1 33 f68_32 rfl (by decide +kernel) (by decide +kernel) ?_
  refine zw_ldc2_w 10000 36 f68_33 rfl (by decide +kernel) ?_
  refine zw_lcmp (-1) 37 f68_36 rfl (by decide +kernel) ?_
  refine zw_if_le_t 42 f68_37 (by decide +kernel) (by decide +kernel) ?_
  refine zw_aload_n 43 f68_42 rfl rfl ?_
  refine zw_getfield 46 f68_43 rfl g68_12_10 rfl rfl ?_
  refine zw_lload 48 f68_46 rfl rfl ?_
  refine zw_lload 50 f68_48 rfl rfl ?_
  refine zw_ldiv 1 51 f68_50 rfl (by decide +kernel) (by decide +kernel) ?_
  refine zw_putfieldS 54 f68_51 rfl g68_109_9 rfl rfl rfl (by decide +kernel) ?_
  refine zw_aload_n 55 f68_54 rfl rfl ?_
  refine zw_getfield 58 f68_55 rfl g68_12_10 rfl rfl ?_
  refine zw_aload_n 59 f68_58 rfl rfl ?_
  refine zw_getfield 62 f68_59 rfl g68_12_10 rfl rfl ?_
  refine zw_getfield 65 f68_62 rfl g68_151_9 rfl rfl ?_
  refine zw_lload_n 66 f68_65 rfl rfl ?_
  refine zw_lmul 0 67 f68_66 rfl (by decide +kernel) ?_
  refine zw_lload_n 68 f68_67 rfl rfl ?_
  refine zw_ladd 0 69 f68_68 rfl (by decide +kernel) ?_
  refine zw_lload 71 f68_69 rfl rfl ?_
  refine zw_ldiv 0 72 f68_71 rfl (by decide +kernel) (by decide +kernel) ?_
  refine zw_putfieldS 75 f68_72 rfl g68_151_9 rfl rfl rfl (by decide +kernel) ?_
  refine zw_aload_n 76 f68_75 rfl rfl ?_
  refine zw_getfield 79 f68_76 rfl g68_12_10 rfl rfl ?_
  refine zw_aload_n 80 f68_79 rfl rfl ?_
  refine zw_getfield 83 f68_80 rfl g68_12_10 rfl rfl ?_
  refine zw_getfield 86 f68_83 rfl g68_177_9 rfl rfl ?_
  refine zw_lload_n 87 f68_86 rfl rfl ?_
  refine zw_lmul 0 88 f68_87 rfl (by decide +kernel) ?_
  refine zw_aload_n 89 f68_88 rfl rfl ?_
  refine zw_getfield 92 f68_89 rfl g68_54_10 rfl rfl ?_
  refine zw_i2l 0 93 f68_92 rfl (by decide +kernel) ?_
  refine zw_lload_n 94 f68_93 rfl rfl ?_
  refine zw_lmul 0 95 f68_94 rfl (by decide +kernel) ?_
  refine zw_ladd 0 96 f68_95 rfl (by decide +kernel) ?_
  refine zw_lload 98 f68_96 rfl rfl ?_
  refine zw_ldiv 0 99 f68_98 rfl (by decide +kernel) (by decide +kernel) ?_
  refine zw_putfieldS 102 f68_99 rfl g68_177_9 rfl rfl rfl (by decide +kernel) ?_
  refine zw_aload_n 103 f68_102 rfl rfl ?_
  refine zw_getfield 106 f68_103 rfl g68_12_10 rfl rfl ?_
  refine zw_aload_n 107 f68_106 rfl rfl ?_
  refine zw_getfield 110 f68_107 rfl g68_12_10 rfl rfl ?_
  refine zw_getfield 113 f68_110 rfl g68_180_9 rfl rfl ?_
  refine zw_lload_n 114 f68_113 rfl rfl ?_
  refine zw_lmul 0 115 f68_114 rfl (by decide +kernel) ?_
  refine zw_aload_n 116 f68_115 rfl rfl ?_
  refine zw_getfield 119 f68_116 rfl g68_58_10 rfl rfl ?_
  refine zw_i2l 0 120 f68_119 rfl (by decide +kernel) ?_
  refine zw_lload_n 121 f68_120 rfl rfl ?_
  refine zw_lmul 0 122 f68_121 rfl (by decide +kernel) ?_
  refine zw_ladd 0 123 f68_122 rfl (by decide +kernel) ?_
  refine zw_lload 125 f68_123 rfl rfl ?_
  refine zw_ldiv 0 126 f68_125 rfl (by decide +kernel) (by decide +kernel) ?_
  refine zw_putfieldS 129 f68_126 rfl g68_180_9 rfl rfl rfl (by decide +kernel) ?_
  refine zw_iconst 0 130 f68_129 rfl (by decide +kernel) ?_
  refine zw_istore [(9, .int 0), (7, .long 1), (5, .long 1), (0, .ref 11), (1, .long 1), (3, .long 0)] 132 f68_130 rfl (by decide +kernel) rfl ?_
  refine zw_iload 134 f68_132 rfl rfl ?_
  refine zw_aload_n 135 f68_134 rfl rfl ?_
  refine zw_getfield 138 f68_135 rfl g68_37_10 rfl rfl ?_
  refine zw_getfield 141 f68_138 rfl g68_80_4 rfl rfl ?_
  refine zw_ic_ge_t 186 f68_141 (by decide +kernel) (by decide +kernel) ?_
  refine zw_iconst 1 187 f68_186 rfl (by decide +kernel) ?_
  refine zw_zreturn f68_187 r68 u68 (by decide +kernel) ⟨_, rfl, ?_⟩
  refine zw_pop 24 f67_23 rfl rfl ?_
  refine zw_vreturn f67_24 r67 u67 ⟨rfl, ?_⟩
  refine zw_aload_n 78 f87_77 rfl rfl ?_
  refine zw_aload_n 79 f87_78 rfl rfl ?_
  refine zw_getfield 82 f87_79 rfl g87_31_11 rfl rfl ?_
  refine zw_getfield 85 f87_82 rfl g87_164_3 rfl rfl ?_
  refine zw_iload_n 86 f87_85 rfl rfl ?_
  refine zw_isub 0 87 f87_86 rfl (by decide +kernel) ?_
  refine zw_virtual_i 90 0 0 [.ref 0, .int 0] [(0, .ref 0), (1, .int 0)] f87_87 rfl n87_181 k87_181_11 rfl rfl (by decide +kernel) (Nat.le_of_ble_eq_true rfl) rfl rfl (by decide +kernel) (by decide +kernel) rfl (Nat.le_of_ble_eq_true rfl) rfl ?_
  refine zw_aload_n 1 f106_0 rfl rfl ?_
  refine zw_iconst 0 2 f106_1 rfl (by decide +kernel) ?_
  refine zw_putfieldS 5 f106_2 rfl g106_70_11 rfl rfl rfl (by decide +kernel) ?_
  refine zw_iload_n 6 f106_5 rfl rfl ?_
  refine zw_ireturn f106_6 r106 u106 ⟨_, rfl, ?_⟩
  refine zw_ireturn f87_90 r87 u87 ?_
  exact ⟨rfl, by repeat (first | exact zMF_0 | refine zMF_set (by decide) ?_)⟩
set_option maxRecDepth 100000 in
set_option maxHeartbeats 0 in
theorem x_go_r4 (ro : UInt32 → Nat × (Nat → Int32)) (a : Int32) (h1 : ¬ 10000 < a) (h2 : 0 < a) : zWp ro 87 0 [(0, .ref 0), (1, .int a)] [] hF 0 0 (fun r h1 => r = some (.int 0) ∧ zMF h1) := by
  refine zw_iload_n 1 f87_0 rfl rfl ?_
  refine zw_sipush 10000 4 f87_1 rfl (by decide +kernel) ?_
  refine zw_ic_gt_f 7 18 f87_4 (by decide +kernel) rfl h1 ?_
  refine zw_aload_n 8 f87_7 rfl rfl ?_
  refine zw_getfield 11 f87_8 rfl g87_21_11 rfl rfl ?_
  refine zw_iload_n 12 f87_11 rfl rfl ?_
  refine zw_virtual_i 15 0 0 [.ref 11, .int a] [(0, .ref 11), (1, .int a)] f87_12 rfl n87_161 k87_161_10 rfl rfl (by decide +kernel) (Nat.le_of_ble_eq_true rfl) rfl rfl (by decide +kernel) (by decide +kernel) rfl (Nat.le_of_ble_eq_true rfl) rfl ?_
  refine zw_aload_n 1 f62_0 rfl rfl ?_
  refine zw_getfield 4 f62_1 rfl g62_12_10 rfl rfl ?_
  refine zw_getfield 7 f62_4 rfl g62_151_9 rfl rfl ?_
  refine zw_iload_n 8 f62_7 rfl rfl ?_
  refine zw_i2l a.toInt64 9 f62_8 rfl rfl ?_
  refine zw_aload_n 10 f62_9 rfl rfl ?_
  refine zw_getfield 13 f62_10 rfl g62_12_10 rfl rfl ?_
  refine zw_getfield 16 f62_13 rfl g62_109_9 rfl rfl ?_
  refine zw_lmul a.toInt64 17 f62_16 rfl (Int64.mul_one _) ?_
  refine zw_lcmp (-1) 18 f62_17 rfl (zl_pos h2).1 ?_
  refine zw_if_le_t 25 f62_18 (by decide +kernel) (by decide +kernel) ?_
  refine zw_iconst 0 26 f62_25 rfl (by decide +kernel) ?_
  refine zw_zreturn f62_26 r62 u62 (by decide +kernel) ⟨_, rfl, ?_⟩
  refine zw_if_eq_t 24 f87_15 (by decide +kernel) (by decide +kernel) ?_
  refine zw_aload_n 25 f87_24 rfl rfl ?_
  refine zw_getfield 28 f87_25 rfl g87_31_11 rfl rfl ?_
  refine zw_getfield 31 f87_28 rfl g87_164_3 rfl rfl ?_
  refine zw_istore_n [(2, .int 0), (0, .ref 0), (1, .int a)] 32 f87_31 rfl (by decide +kernel) rfl ?_
  refine zw_iconst 0 33 f87_32 rfl (by decide +kernel) ?_
  refine zw_istore_n [(3, .int 0), (2, .int 0), (0, .ref 0), (1, .int a)] 34 f87_33 rfl (by decide +kernel) rfl ?_
  refine zw_iload_n 35 f87_34 rfl rfl ?_
  refine zw_sipush 150 38 f87_35 rfl (by decide +kernel) ?_
  refine zw_ic_gt_f 41 131 f87_38 (by decide +kernel) rfl (by decide +kernel) ?_
  refine zw_aload_n 42 f87_41 rfl rfl ?_
  refine zw_getfield 45 f87_42 rfl g87_21_11 rfl rfl ?_
  refine zw_virtual_v 48 0 0 [.ref 11] [(0, .ref 11)] f87_45 rfl n87_167 k87_167_10 rfl rfl (by decide +kernel) (Nat.le_of_ble_eq_true rfl) rfl rfl (by decide +kernel) (by decide +kernel) rfl (Nat.le_of_ble_eq_true rfl) rfl ?_
  refine zw_aload_n 1 f53_0 rfl rfl ?_
  refine zw_virtual_v 4 0 0 [.ref 11] [(0, .ref 11)] f53_1 rfl n53_113 k53_113_10 rfl rfl (by decide +kernel) (Nat.le_of_ble_eq_true rfl) rfl rfl (by decide +kernel) (by decide +kernel) rfl (Nat.le_of_ble_eq_true rfl) rfl ?_
  refine zw_aload_n 1 f49_0 rfl rfl ?_
  refine zw_iconst 0 2 f49_1 rfl (by decide +kernel) ?_
  refine zw_putfieldS 5 f49_2 rfl g49_54_10 rfl rfl rfl (by decide +kernel) ?_
  refine zw_aload_n 6 f49_5 rfl rfl ?_
  refine zw_iconst 0 7 f49_6 rfl (by decide +kernel) ?_
  refine zw_putfieldS 10 f49_7 rfl g49_58_10 rfl rfl rfl (by decide +kernel) ?_
  refine zw_iconst 0 11 f49_10 rfl (by decide +kernel) ?_
  refine zw_istore_n [(1, .int 0), (0, .ref 11)] 12 f49_11 rfl (by decide +kernel) rfl ?_
  refine zw_iload_n 13 f49_12 rfl rfl ?_
  refine zw_bipush 8 15 f49_13 rfl (by decide +kernel) ?_
  refine zw_ic_ge_f 18 31 f49_15 (by decide +kernel) rfl (by decide +kernel) ?_
  refine zw_aload_n 19 f49_18 rfl rfl ?_
  refine zw_getfield 22 f49_19 rfl g49_18_10 rfl rfl ?_
  refine zw_iload_n 23 f49_22 rfl rfl ?_
  refine zw_iconst 0 24 f49_23 rfl (by decide +kernel) ?_
  refine zw_iastoreS 0 25 f49_24 rfl rfl (by decide +kernel) (by decide +kernel) (by decide +kernel) rfl ?_
  refine zw_iinc 1 [(1, .int 1), (0, .ref 11)] 28 f49_25 rfl rfl (by decide +kernel) (by decide +kernel) rfl ?_
  refine zw_goto 12 f49_28 (by decide +kernel) ?_
  refine zw_iload_n 13 f49_12 rfl rfl ?_
  refine zw_bipush 8 15 f49_13 rfl (by decide +kernel) ?_
  refine zw_ic_ge_f 18 31 f49_15 (by decide +kernel) rfl (by decide +kernel) ?_
  refine zw_aload_n 19 f49_18 rfl rfl ?_
  refine zw_getfield 22 f49_19 rfl g49_18_10 rfl rfl ?_
  refine zw_iload_n 23 f49_22 rfl rfl ?_
  refine zw_iconst 0 24 f49_23 rfl (by decide +kernel) ?_
  refine zw_iastoreS 1 25 f49_24 rfl rfl (by decide +kernel) (by decide +kernel) (by decide +kernel) rfl ?_
  refine zw_iinc 2 [(1, .int 2), (0, .ref 11)] 28 f49_25 rfl rfl (by decide +kernel) (by decide +kernel) rfl ?_
  refine zw_goto 12 f49_28 (by decide +kernel) ?_
  refine zw_iload_n 13 f49_12 rfl rfl ?_
  refine zw_bipush 8 15 f49_13 rfl (by decide +kernel) ?_
  refine zw_ic_ge_f 18 31 f49_15 (by decide +kernel) rfl (by decide +kernel) ?_
  refine zw_aload_n 19 f49_18 rfl rfl ?_
  refine zw_getfield 22 f49_19 rfl g49_18_10 rfl rfl ?_
  refine zw_iload_n 23 f49_22 rfl rfl ?_
  refine zw_iconst 0 24 f49_23 rfl (by decide +kernel) ?_
  refine zw_iastoreS 2 25 f49_24 rfl rfl (by decide +kernel) (by decide +kernel) (by decide +kernel) rfl ?_
  refine zw_iinc 3 [(1, .int 3), (0, .ref 11)] 28 f49_25 rfl rfl (by decide +kernel) (by decide +kernel) rfl ?_
  refine zw_goto 12 f49_28 (by decide +kernel) ?_
  refine zw_iload_n 13 f49_12 rfl rfl ?_
  refine zw_bipush 8 15 f49_13 rfl (by decide +kernel) ?_
  refine zw_ic_ge_f 18 31 f49_15 (by decide +kernel) rfl (by decide +kernel) ?_
  refine zw_aload_n 19 f49_18 rfl rfl ?_
  refine zw_getfield 22 f49_19 rfl g49_18_10 rfl rfl ?_
  refine zw_iload_n 23 f49_22 rfl rfl ?_
  refine zw_iconst 0 24 f49_23 rfl (by decide +kernel) ?_
  refine zw_iastoreS 3 25 f49_24 rfl rfl (by decide +kernel) (by decide +kernel) (by decide +kernel) rfl ?_
  refine zw_iinc 4 [(1, .int 4), (0, .ref 11)] 28 f49_25 rfl rfl (by decide +kernel) (by decide +kernel) rfl ?_
  refine zw_goto 12 f49_28 (by decide +kernel) ?_
  refine zw_iload_n 13 f49_12 rfl rfl ?_
  refine zw_bipush 8 15 f49_13 rfl (by decide +kernel) ?_
  refine zw_ic_ge_f 18 31 f49_15 (by decide +kernel) rfl (by decide +kernel) ?_
  refine zw_aload_n 19 f49_18 rfl rfl ?_
  refine zw_getfield 22 f49_19 rfl g49_18_10 rfl rfl ?_
  refine zw_iload_n 23 f49_22 rfl rfl ?_
  refine zw_iconst 0 24 f49_23 rfl (by decide +kernel) ?_
  refine zw_iastoreS 4 25 f49_24 rfl rfl (by decide +kernel) (by decide +kernel) (by decide +kernel) rfl ?_
  refine zw_iinc 5 [(1, .int 5), (0, .ref 11)] 28 f49_25 rfl rfl (by decide +kernel) (by decide +kernel) rfl ?_
  refine zw_goto 12 f49_28 (by decide +kernel) ?_
  refine zw_iload_n 13 f49_12 rfl rfl ?_
  refine zw_bipush 8 15 f49_13 rfl (by decide +kernel) ?_
  refine zw_ic_ge_f 18 31 f49_15 (by decide +kernel) rfl (by decide +kernel) ?_
  refine zw_aload_n 19 f49_18 rfl rfl ?_
  refine zw_getfield 22 f49_19 rfl g49_18_10 rfl rfl ?_
  refine zw_iload_n 23 f49_22 rfl rfl ?_
  refine zw_iconst 0 24 f49_23 rfl (by decide +kernel) ?_
  refine zw_iastoreS 5 25 f49_24 rfl rfl (by decide +kernel) (by decide +kernel) (by decide +kernel) rfl ?_
  refine zw_iinc 6 [(1, .int 6), (0, .ref 11)] 28 f49_25 rfl rfl (by decide +kernel) (by decide +kernel) rfl ?_
  refine zw_goto 12 f49_28 (by decide +kernel) ?_
  refine zw_iload_n 13 f49_12 rfl rfl ?_
  refine zw_bipush 8 15 f49_13 rfl (by decide +kernel) ?_
  refine zw_ic_ge_f 18 31 f49_15 (by decide +kernel) rfl (by decide +kernel) ?_
  refine zw_aload_n 19 f49_18 rfl rfl ?_
  refine zw_getfield 22 f49_19 rfl g49_18_10 rfl rfl ?_
  refine zw_iload_n 23 f49_22 rfl rfl ?_
  refine zw_iconst 0 24 f49_23 rfl (by decide +kernel) ?_
  refine zw_iastoreS 6 25 f49_24 rfl rfl (by decide +kernel) (by decide +kernel) (by decide +kernel) rfl ?_
  refine zw_iinc 7 [(1, .int 7), (0, .ref 11)] 28 f49_25 rfl rfl (by decide +kernel) (by decide +kernel) rfl ?_
  refine zw_goto 12 f49_28 (by decide +kernel) ?_
  refine zw_iload_n 13 f49_12 rfl rfl ?_
  refine zw_bipush 8 15 f49_13 rfl (by decide +kernel) ?_
  refine zw_ic_ge_f 18 31 f49_15 (by decide +kernel) rfl (by decide +kernel) ?_
  refine zw_aload_n 19 f49_18 rfl rfl ?_
  refine zw_getfield 22 f49_19 rfl g49_18_10 rfl rfl ?_
  refine zw_iload_n 23 f49_22 rfl rfl ?_
  refine zw_iconst 0 24 f49_23 rfl (by decide +kernel) ?_
  refine zw_iastoreS 7 25 f49_24 rfl rfl (by decide +kernel) (by decide +kernel) (by decide +kernel) rfl ?_
  refine zw_iinc 8 [(1, .int 8), (0, .ref 11)] 28 f49_25 rfl rfl (by decide +kernel) (by decide +kernel) rfl ?_
  refine zw_goto 12 f49_28 (by decide +kernel) ?_
  refine zw_iload_n 13 f49_12 rfl rfl ?_
  refine zw_bipush 8 15 f49_13 rfl (by decide +kernel) ?_
  refine zw_ic_ge_t 31 f49_15 (by decide +kernel) (by decide +kernel) ?_
  refine zw_iconst 0 32 f49_31 rfl (by decide +kernel) ?_
  refine zw_istore_n [(1, .int 0), (0, .ref 11)] 33 f49_32 rfl (by decide +kernel) rfl ?_
  refine zw_iload_n 34 f49_33 rfl rfl ?_
  refine zw_aload_n 35 f49_34 rfl rfl ?_
  refine zw_getfield 38 f49_35 rfl g49_37_10 rfl rfl ?_
  refine zw_getfield 41 f49_38 rfl g49_61_4 rfl rfl ?_
  refine zw_ic_ge_t 124 f49_41 (by decide +kernel) (by decide +kernel) ?_
  refine zw_iconst 0 125 f49_124 rfl (by decide +kernel) ?_
  refine zw_istore_n [(1, .int 0), (0, .ref 11)] 126 f49_125 rfl (by decide +kernel) rfl ?_
  refine zw_iload_n 127 f49_126 rfl rfl ?_
  refine zw_aload_n 128 f49_127 rfl rfl ?_
  refine zw_getfield 131 f49_128 rfl g49_37_10 rfl rfl ?_
  refine zw_getfield 134 f49_131 rfl g49_80_4 rfl rfl ?_
  refine zw_ic_ge_t 148 f49_134 (by decide +kernel) (by decide +kernel) ?_
  refine zw_vreturn f49_148 r49 u49 ⟨rfl, ?_⟩
  refine zw_aload_n 5 f53_4 rfl rfl ?_
  refine zw_lconst 0 6 f53_5 rfl (by decide +kernel) ?_
  refine zw_putfieldS 9 f53_6 rfl g53_116_10 rfl rfl rfl (by decide +kernel) ?_
  refine zw_aload_n 10 f53_9 rfl rfl ?_
  refine zw_lconst 0 11 f53_10 rfl (by decide +kernel) ?_
  refine zw_putfieldS 14 f53_11 rfl g53_119_10 rfl rfl rfl (by decide +kernel) ?_
  refine zw_iconst 0 15 f53_14 rfl (by decide +kernel) ?_
  refine zw_istore_n [(1, .int 0), (0, .ref 11)] 16 f53_15 rfl (by decide +kernel) rfl ?_
  refine zw_iload_n 17 f53_16 rfl rfl ?_
  refine zw_aload_n 18 f53_17 rfl rfl ?_
  refine zw_getfield 21 f53_18 rfl g53_37_10 rfl rfl ?_
  refine zw_getfield 24 f53_21 rfl g53_80_4 rfl rfl ?_
  refine zw_ic_ge_t 64 f53_24 (by decide +kernel) (by decide +kernel) ?_
  refine zw_vreturn f53_64 r53 u53 ⟨rfl, ?_⟩
  refine zw_aload_n 49 f87_48 rfl rfl ?_
  refine zw_getfield 52 f87_49 rfl g87_21_11 rfl rfl ?_
  refine zw_virtual_i 55 0 0 [.ref 11] [(0, .ref 11)] f87_52 rfl n87_170 k87_170_10 rfl rfl (by decide +kernel) (Nat.le_of_ble_eq_true rfl) rfl rfl (by decide +kernel) (by decide +kernel) rfl (Nat.le_of_ble_eq_true rfl) rfl ?_
  refine zw_aload_n 1 f58_0 rfl rfl ?_
  refine zw_getfield 4 f58_1 rfl g58_119_10 rfl rfl ?_
  refine zw_lconst 0 5 f58_4 rfl (by decide +kernel) ?_
  refine zw_lcmp 0 6 f58_5 rfl (by decide +kernel) ?_
  refine zw_if_ne_f 9 13 f58_6 (by decide +kernel) rfl (by decide +kernel) ?_
  refine zw_iconst 1 10 f58_9 rfl (by decide +kernel) ?_
  refine zw_goto 14 f58_10 (by decide +kernel) ?_
  refine zw_zreturn f58_14 r58 u58 (by decide +kernel) ⟨_, rfl, ?_⟩
  refine zw_if_ne_t 69 f87_55 (by decide +kernel) (by decide +kernel) ?_
  refine zw_aload_n 70 f87_69 rfl rfl ?_
  refine zw_getfield 73 f87_70 rfl g87_21_11 rfl rfl ?_
  refine zw_iload_n 74 f87_73 rfl rfl ?_
  refine zw_virtual_v 77 0 0 [.ref 11, .int a] [(0, .ref 11), (1, .int a)] f87_74 rfl n87_177 k87_177_10 rfl rfl (by decide +kernel) (Nat.le_of_ble_eq_true rfl) rfl rfl (by decide +kernel) (by decide +kernel) rfl (Nat.le_of_ble_eq_true rfl) rfl ?_
  refine zw_aload_n 1 f67_0 rfl rfl ?_
  refine zw_lconst 1 2 f67_1 rfl (by decide +kernel) ?_
  refine zw_iload_n 3 f67_2 rfl rfl ?_
  refine zw_i2l a.toInt64 4 f67_3 rfl rfl ?_
  refine zw_aload_n 5 f67_4 rfl rfl ?_
  refine zw_getfield 8 f67_5 rfl g67_12_10 rfl rfl ?_
  refine zw_getfield 11 f67_8 rfl g67_109_9 rfl rfl ?_
  refine zw_lmul a.toInt64 12 f67_11 rfl (Int64.mul_one _) ?_
  refine zw_aload_n 13 f67_12 rfl rfl ?_
  refine zw_getfield 16 f67_13 rfl g67_12_10 rfl rfl ?_
  refine zw_getfield 19 f67_16 rfl g67_151_9 rfl rfl ?_
  refine zw_lsub a.toInt64 20 f67_19 rfl (Int64.sub_zero _) ?_
  refine zw_virtual_i 23 0 0 [.ref 11, .long 1, .long a.toInt64] [(0, .ref 11), (1, .long 1), (3, .long a.toInt64)] f67_20 rfl n67_164 k67_164_10 rfl rfl (by decide +kernel) (Nat.le_of_ble_eq_true rfl) rfl rfl (by decide +kernel) (by decide +kernel) rfl (Nat.le_of_ble_eq_true rfl) rfl ?_
  refine zw_aload_n 1 f68_0 rfl rfl ?_
  refine zw_getfield 4 f68_1 rfl g68_12_10 rfl rfl ?_
  refine zw_getfield 7 f68_4 rfl g68_109_9 rfl rfl ?_
  refine zw_lload_n 8 f68_7 rfl rfl ?_
  refine zw_lmul 1 9 f68_8 rfl (by decide +kernel) ?_
  refine zw_lstore [(5, .long 1), (0, .ref 11), (1, .long 1), (3, .long a.toInt64)] 11 f68_9 rfl (by decide +kernel) rfl ?_
  refine zw_aload_n 12 f68_11 rfl rfl ?_
  refine zw_lload_n 13 f68_12 rfl rfl ?_
  refine zw_lload_n 14 f68_13 rfl rfl ?_
  refine zw_lload 16 f68_14 rfl rfl ?_
  refine zw_virtual_l 19 0 0 [.ref 11, .long 1, .long a.toInt64, .long 1] [(0, .ref 11), (1, .long 1), (3, .long a.toInt64), (5, .long 1)] f68_16 rfl n68_171 k68_171_10 rfl rfl (by decide +kernel) (Nat.le_of_ble_eq_true rfl) rfl rfl (by decide +kernel) (by decide +kernel) rfl (Nat.le_of_ble_eq_true rfl) rfl ?_
  refine zw_aload_n 1 f69_0 rfl rfl ?_
  refine zw_getfield 4 f69_1 rfl g69_12_10 rfl rfl ?_
  refine zw_getfield 7 f69_4 rfl g69_151_9 rfl rfl ?_
  refine zw_lload_n 8 f69_7 rfl rfl ?_
  refine zw_lmul 0 9 f69_8 rfl (by decide +kernel) ?_
  refine zw_lload_n 10 f69_9 rfl rfl ?_
  refine zw_ladd a.toInt64 11 f69_10 rfl (Int64.zero_add _) ?_
  refine zw_lload 13 f69_11 rfl rfl ?_
  refine zw_static_l 16 0 0 [.long a.toInt64, .long 1] [] [(0, .long a.toInt64), (2, .long 1)] f69_13 rfl k69_183_99 rfl (by decide +kernel) (Nat.le_of_ble_eq_true rfl) (Nat.le_of_ble_eq_true rfl) rfl rfl (by decide +kernel) (by decide +kernel) rfl (Nat.le_of_ble_eq_true rfl) rfl ?_
  refine zw_lload_n 1 f115_0 rfl rfl ?_
  refine zw_lstore [(4, .long a.toInt64), (0, .long a.toInt64), (2, .long 1)] 3 f115_1 rfl (by decide +kernel) rfl ?_
  refine zw_lload_n 4 f115_3 rfl rfl ?_
  refine zw_lstore [(6, .long 1), (4, .long a.toInt64), (0, .long a.toInt64), (2, .long 1)] 6 f115_4 rfl (by decide +kernel) rfl ?_
  refine zw_iconst 0 7 f115_6 rfl (by decide +kernel) ?_
  refine zw_istore [(8, .int 0), (6, .long 1), (4, .long a.toInt64), (0, .long a.toInt64), (2, .long 1)] 9 f115_7 rfl (by decide +kernel) rfl ?_
  refine zw_iload 11 f115_9 rfl rfl ?_
  refine zw_sipush 200 14 f115_11 rfl (by decide +kernel) ?_
  refine zw_ic_ge_f 17 45 f115_14 (by decide +kernel) rfl (by decide +kernel) ?_
  refine zw_lload 19 f115_17 rfl rfl ?_
  refine zw_lconst 0 20 f115_19 rfl (by decide +kernel) ?_
  refine zw_lcmp 1 21 f115_20 rfl (by decide +kernel) ?_
  refine zw_if_eq_f 24 45 f115_21 (by decide +kernel) rfl (by decide +kernel) ?_
  refine zw_lload 26 f115_24 rfl rfl ?_
  refine zw_lload 28 f115_26 rfl rfl ?_
  refine zw_lrem 0 29 f115_28 rfl (by decide +kernel) (zl_rem1 _) ?_
  refine zw_lstore [(9, .long 0), (8, .int 0), (6, .long 1), (4, .long a.toInt64), (0, .long a.toInt64), (2, .long 1)] 31 f115_29 rfl (by decide +kernel) rfl ?_
  refine zw_lload 33 f115_31 rfl rfl ?_
  refine zw_lstore [(4, .long 1), (9, .long 0), (8, .int 0), (6, .long 1), (0, .long a.toInt64), (2, .long 1)] 35 f115_33 rfl (by decide +kernel) rfl ?_
  refine zw_lload 37 f115_35 rfl rfl ?_
  refine zw_lstore [(6, .long 0), (4, .long 1), (9, .long 0), (8, .int 0), (0, .long a.toInt64), (2, .long 1)] 39 f115_37 rfl (by decide +kernel) rfl ?_
  refine zw_iinc 1 [(8, .int 1), (6, .long 0), (4, .long 1), (9, .long 0), (0, .long a.toInt64), (2, .long 1)] 42 f115_39 rfl rfl (by decide +kernel) (by decide +kernel) rfl ?_
  refine zw_goto 9 f115_42 (by decide +kernel) ?_
  refine zw_iload 11 f115_9 rfl rfl ?_
  refine zw_sipush 200 14 f115_11 rfl (by decide +kernel) ?_
  refine zw_ic_ge_f 17 45 f115_14 (by decide +kernel) rfl (by decide +kernel) ?_
  refine zw_lload 19 f115_17 rfl rfl ?_
  refine zw_lconst 0 20 f115_19 rfl (by decide +kernel) ?_
  refine zw_lcmp 0 21 f115_20 rfl (by decide +kernel) ?_
  refine zw_if_eq_t 45 f115_21 (by decide +kernel) (by decide +kernel) ?_
  refine zw_lload 47 f115_45 rfl rfl ?_
  refine zw_lconst 0 48 f115_47 rfl (by decide +kernel) ?_
  refine zw_lcmp 1 49 f115_48 rfl (by decide +kernel) ?_
  refine zw_if_ne_t 56 f115_49 (by decide +kernel) (by decide +kernel) ?_
  refine zw_lload 58 f115_56 rfl rfl ?_
  refine zw_lreturn f115_58 r115 u115 ⟨_, rfl, ?_⟩
  refine zw_lstore [(7, .long 1), (0, .ref 11), (1, .long 1), (3, .long a.toInt64), (5, .long 1)] 18 f69_16 rfl (by decide +kernel) rfl ?_
  refine zw_aload_n 19 f69_18 rfl rfl ?_
  refine zw_getfield 22 f69_19 rfl g69_12_10 rfl rfl ?_
  refine zw_getfield 25 f69_22 rfl g69_177_9 rfl rfl ?_
  refine zw_lload_n 26 f69_25 rfl rfl ?_
  refine zw_lmul 0 27 f69_26 rfl (by decide +kernel) ?_
  refine zw_aload_n 28 f69_27 rfl rfl ?_
  refine zw_getfield 31 f69_28 rfl g69_54_10 rfl rfl ?_
  refine zw_i2l 0 32 f69_31 rfl (by decide +kernel) ?_
  refine zw_lload_n 33 f69_32 rfl rfl ?_
  refine zw_lmul 0 34 f69_33 rfl (Int64.zero_mul) ?_
  refine zw_ladd 0 35 f69_34 rfl (by decide +kernel) ?_
  refine zw_lload 37 f69_35 rfl rfl ?_
  refine zw_static_l 40 0 0 [.long 0, .long 1] [] [(0, .long 0), (2, .long 1)] f69_37 rfl k69_183_99 rfl (by decide +kernel) (Nat.le_of_ble_eq_true rfl) (Nat.le_of_ble_eq_true rfl) rfl rfl (by decide +kernel) (by decide +kernel) rfl (Nat.le_of_ble_eq_true rfl) rfl ?_
  refine zw_lload_n 1 f115_0 rfl rfl ?_
  refine zw_lstore [(4, .long 0), (0, .long 0), (2, .long 1)] 3 f115_1 rfl (by decide +kernel) rfl ?_
  refine zw_lload_n 4 f115_3 rfl rfl ?_
  refine zw_lstore [(6, .long 1), (4, .long 0), (0, .long 0), (2, .long 1)] 6 f115_4 rfl (by decide +kernel) rfl ?_
  refine zw_iconst 0 7 f115_6 rfl (by decide +kernel) ?_
  refine zw_istore [(8, .int 0), (6, .long 1), (4, .long 0), (0, .long 0), (2, .long 1)] 9 f115_7 rfl (by decide +kernel) rfl ?_
  refine zw_iload 11 f115_9 rfl rfl ?_
  refine zw_sipush 200 14 f115_11 rfl (by decide +kernel) ?_
  refine zw_ic_ge_f 17 45 f115_14 (by decide +kernel) rfl (by decide +kernel) ?_
  refine zw_lload 19 f115_17 rfl rfl ?_
  refine zw_lconst 0 20 f115_19 rfl (by decide +kernel) ?_
  refine zw_lcmp 1 21 f115_20 rfl (by decide +kernel) ?_
  refine zw_if_eq_f 24 45 f115_21 (by decide +kernel) rfl (by decide +kernel) ?_
  refine zw_lload 26 f115_24 rfl rfl ?_
  refine zw_lload 28 f115_26 rfl rfl ?_
  refine zw_lrem 0 29 f115_28 rfl (by decide +kernel) (by decide +kernel) ?_
  refine zw_lstore [(9, .long 0), (8, .int 0), (6, .long 1), (4, .long 0), (0, .long 0), (2, .long 1)] 31 f115_29 rfl (by decide +kernel) rfl ?_
  refine zw_lload 33 f115_31 rfl rfl ?_
  refine zw_lstore [(4, .long 1), (9, .long 0), (8, .int 0), (6, .long 1), (0, .long 0), (2, .long 1)] 35 f115_33 rfl (by decide +kernel) rfl ?_
  refine zw_lload 37 f115_35 rfl rfl ?_
  refine zw_lstore [(6, .long 0), (4, .long 1), (9, .long 0), (8, .int 0), (0, .long 0), (2, .long 1)] 39 f115_37 rfl (by decide +kernel) rfl ?_
  refine zw_iinc 1 [(8, .int 1), (6, .long 0), (4, .long 1), (9, .long 0), (0, .long 0), (2, .long 1)] 42 f115_39 rfl rfl (by decide +kernel) (by decide +kernel) rfl ?_
  refine zw_goto 9 f115_42 (by decide +kernel) ?_
  refine zw_iload 11 f115_9 rfl rfl ?_
  refine zw_sipush 200 14 f115_11 rfl (by decide +kernel) ?_
  refine zw_ic_ge_f 17 45 f115_14 (by decide +kernel) rfl (by decide +kernel) ?_
  refine zw_lload 19 f115_17 rfl rfl ?_
  refine zw_lconst 0 20 f115_19 rfl (by decide +kernel) ?_
  refine zw_lcmp 0 21 f115_20 rfl (by decide +kernel) ?_
  refine zw_if_eq_t 45 f115_21 (by decide +kernel) (by decide +kernel) ?_
  refine zw_lload 47 f115_45 rfl rfl ?_
  refine zw_lconst 0 48 f115_47 rfl (by decide +kernel) ?_
  refine zw_lcmp 1 49 f115_48 rfl (by decide +kernel) ?_
  refine zw_if_ne_t 56 f115_49 (by decide +kernel) (by decide +kernel) ?_
  refine zw_lload 58 f115_56 rfl rfl ?_
  refine zw_lreturn f115_58 r115 u115 ⟨_, rfl, ?_⟩
  refine zw_lstore [(7, .long 1), (0, .ref 11), (1, .long 1), (3, .long a.toInt64), (5, .long 1)] 42 f69_40 rfl (by decide +kernel) rfl ?_
  refine zw_aload_n 43 f69_42 rfl rfl ?_
  refine zw_getfield 46 f69_43 rfl g69_12_10 rfl rfl ?_
  refine zw_getfield 49 f69_46 rfl g69_180_9 rfl rfl ?_
  refine zw_lload_n 50 f69_49 rfl rfl ?_
  refine zw_lmul 0 51 f69_50 rfl (by decide +kernel) ?_
  refine zw_aload_n 52 f69_51 rfl rfl ?_
  refine zw_getfield 55 f69_52 rfl g69_58_10 rfl rfl ?_
  refine zw_i2l 0 56 f69_55 rfl (by decide +kernel) ?_
  refine zw_lload_n 57 f69_56 rfl rfl ?_
  refine zw_lmul 0 58 f69_57 rfl (Int64.zero_mul) ?_
  refine zw_ladd 0 59 f69_58 rfl (by decide +kernel) ?_
  refine zw_lload 61 f69_59 rfl rfl ?_
  refine zw_static_l 64 0 0 [.long 0, .long 1] [] [(0, .long 0), (2, .long 1)] f69_61 rfl k69_183_99 rfl (by decide +kernel) (Nat.le_of_ble_eq_true rfl) (Nat.le_of_ble_eq_true rfl) rfl rfl (by decide +kernel) (by decide +kernel) rfl (Nat.le_of_ble_eq_true rfl) rfl ?_
  refine zw_lload_n 1 f115_0 rfl rfl ?_
  refine zw_lstore [(4, .long 0), (0, .long 0), (2, .long 1)] 3 f115_1 rfl (by decide +kernel) rfl ?_
  refine zw_lload_n 4 f115_3 rfl rfl ?_
  refine zw_lstore [(6, .long 1), (4, .long 0), (0, .long 0), (2, .long 1)] 6 f115_4 rfl (by decide +kernel) rfl ?_
  refine zw_iconst 0 7 f115_6 rfl (by decide +kernel) ?_
  refine zw_istore [(8, .int 0), (6, .long 1), (4, .long 0), (0, .long 0), (2, .long 1)] 9 f115_7 rfl (by decide +kernel) rfl ?_
  refine zw_iload 11 f115_9 rfl rfl ?_
  refine zw_sipush 200 14 f115_11 rfl (by decide +kernel) ?_
  refine zw_ic_ge_f 17 45 f115_14 (by decide +kernel) rfl (by decide +kernel) ?_
  refine zw_lload 19 f115_17 rfl rfl ?_
  refine zw_lconst 0 20 f115_19 rfl (by decide +kernel) ?_
  refine zw_lcmp 1 21 f115_20 rfl (by decide +kernel) ?_
  refine zw_if_eq_f 24 45 f115_21 (by decide +kernel) rfl (by decide +kernel) ?_
  refine zw_lload 26 f115_24 rfl rfl ?_
  refine zw_lload 28 f115_26 rfl rfl ?_
  refine zw_lrem 0 29 f115_28 rfl (by decide +kernel) (by decide +kernel) ?_
  refine zw_lstore [(9, .long 0), (8, .int 0), (6, .long 1), (4, .long 0), (0, .long 0), (2, .long 1)] 31 f115_29 rfl (by decide +kernel) rfl ?_
  refine zw_lload 33 f115_31 rfl rfl ?_
  refine zw_lstore [(4, .long 1), (9, .long 0), (8, .int 0), (6, .long 1), (0, .long 0), (2, .long 1)] 35 f115_33 rfl (by decide +kernel) rfl ?_
  refine zw_lload 37 f115_35 rfl rfl ?_
  refine zw_lstore [(6, .long 0), (4, .long 1), (9, .long 0), (8, .int 0), (0, .long 0), (2, .long 1)] 39 f115_37 rfl (by decide +kernel) rfl ?_
  refine zw_iinc 1 [(8, .int 1), (6, .long 0), (4, .long 1), (9, .long 0), (0, .long 0), (2, .long 1)] 42 f115_39 rfl rfl (by decide +kernel) (by decide +kernel) rfl ?_
  refine zw_goto 9 f115_42 (by decide +kernel) ?_
  refine zw_iload 11 f115_9 rfl rfl ?_
  refine zw_sipush 200 14 f115_11 rfl (by decide +kernel) ?_
  refine zw_ic_ge_f 17 45 f115_14 (by decide +kernel) rfl (by decide +kernel) ?_
  refine zw_lload 19 f115_17 rfl rfl ?_
  refine zw_lconst 0 20 f115_19 rfl (by decide +kernel) ?_
  refine zw_lcmp 0 21 f115_20 rfl (by decide +kernel) ?_
  refine zw_if_eq_t 45 f115_21 (by decide +kernel) (by decide +kernel) ?_
  refine zw_lload 47 f115_45 rfl rfl ?_
  refine zw_lconst 0 48 f115_47 rfl (by decide +kernel) ?_
  refine zw_lcmp 1 49 f115_48 rfl (by decide +kernel) ?_
  refine zw_if_ne_t 56 f115_49 (by decide +kernel) (by decide +kernel) ?_
  refine zw_lload 58 f115_56 rfl rfl ?_
  refine zw_lreturn f115_58 r115 u115 ⟨_, rfl, ?_⟩
  refine zw_lstore [(7, .long 1), (0, .ref 11), (1, .long 1), (3, .long a.toInt64), (5, .long 1)] 66 f69_64 rfl (by decide +kernel) rfl ?_
  refine zw_iconst 0 67 f69_66 rfl (by decide +kernel) ?_
  refine zw_istore [(9, .int 0), (7, .long 1), (0, .ref 11), (1, .long 1), (3, .long a.toInt64), (5, .long 1)] 69 f69_67 rfl (by decide +kernel) rfl ?_
  refine zw_iload 71 f69_69 rfl rfl ?_
  refine zw_aload_n 72 f69_71 rfl rfl ?_
  refine zw_getfield 75 f69_72 rfl g69_37_10 rfl rfl ?_
  refine zw_getfield 78 f69_75 rfl g69_80_4 rfl rfl ?_
  refine zw_ic_ge_t 124 f69_78 (by decide +kernel) (by decide +kernel) ?_
  refine zw_lload 126 f69_124 rfl rfl ?_
  refine zw_lreturn f69_126 r69 u69 ⟨_, rfl, ?_⟩
  refine zw_lstore [(7, .long 1), (5, .long 1), (0, .ref 11), (1, .long 1), (3, .long a.toInt64)] 21 f68_19 rfl (by decide +kernel) rfl ?_
  refine zw_lload 23 f68_21 rfl rfl ?_
  refine zw_lconst 0 24 f68_23 rfl (by decide +kernel) ?_
  refine zw_lcmp 1 25 f68_24 rfl (by decide +kernel) ?_
  refine zw_if_eq_f 28 40 f68_25 (by decide +kernel) rfl (by decide +kernel) ?_
  refine zw_lload 30 f68_28 rfl rfl ?_
  refine zw_lload 32 f68_30 rfl rfl ?_
  refine zw_ldiv 1 33 f68_32 rfl (by decide +kernel) (by decide +kernel) ?_
  refine zw_ldc2_w 10000 36 f68_33 rfl (by decide +kernel) ?_
  refine zw_lcmp (-1) 37 f68_36 rfl (by decide +kernel) ?_
  refine zw_if_le_t 42 f68_37 (by decide +kernel) (by decide +kernel) ?_
  refine zw_aload_n 43 f68_42 rfl rfl ?_
  refine zw_getfield 46 f68_43 rfl g68_12_10 rfl rfl ?_
  refine zw_lload 48 f68_46 rfl rfl ?_
  refine zw_lload 50 f68_48 rfl rfl ?_
  refine zw_ldiv 1 51 f68_50 rfl (by decide +kernel) (by decide +kernel) ?_
  refine zw_putfieldS 54 f68_51 rfl g68_109_9 rfl rfl rfl (by decide +kernel) ?_
  refine zw_aload_n 55 f68_54 rfl rfl ?_
  refine zw_getfield 58 f68_55 rfl g68_12_10 rfl rfl ?_
  refine zw_aload_n 59 f68_58 rfl rfl ?_
  refine zw_getfield 62 f68_59 rfl g68_12_10 rfl rfl ?_
  refine zw_getfield 65 f68_62 rfl g68_151_9 rfl rfl ?_
  refine zw_lload_n 66 f68_65 rfl rfl ?_
  refine zw_lmul 0 67 f68_66 rfl (by decide +kernel) ?_
  refine zw_lload_n 68 f68_67 rfl rfl ?_
  refine zw_ladd a.toInt64 69 f68_68 rfl (Int64.zero_add _) ?_
  refine zw_lload 71 f68_69 rfl rfl ?_
  refine zw_ldiv a.toInt64 72 f68_71 rfl (by decide +kernel) (zl_div1 _) ?_
  refine zw_putfield 75 f68_72 rfl g68_151_9 rfl rfl (Nat.le_of_ble_eq_true rfl) (by decide +kernel) ?_
  refine zw_aload_n 76 f68_75 rfl rfl ?_
  refine zw_getfield 79 f68_76 rfl g68_12_10 rfl rfl ?_
  refine zw_aload_n 80 f68_79 rfl rfl ?_
  refine zw_getfield 83 f68_80 rfl g68_12_10 rfl rfl ?_
  refine zw_getfield 86 f68_83 rfl g68_177_9 rfl rfl ?_
  refine zw_lload_n 87 f68_86 rfl rfl ?_
  refine zw_lmul 0 88 f68_87 rfl (by decide +kernel) ?_
  refine zw_aload_n 89 f68_88 rfl rfl ?_
  refine zw_getfield 92 f68_89 rfl g68_54_10 rfl rfl ?_
  refine zw_i2l 0 93 f68_92 rfl (by decide +kernel) ?_
  refine zw_lload_n 94 f68_93 rfl rfl ?_
  refine zw_lmul 0 95 f68_94 rfl (Int64.zero_mul) ?_
  refine zw_ladd 0 96 f68_95 rfl (by decide +kernel) ?_
  refine zw_lload 98 f68_96 rfl rfl ?_
  refine zw_ldiv 0 99 f68_98 rfl (by decide +kernel) (by decide +kernel) ?_
  refine zw_putfieldS 102 f68_99 rfl g68_177_9 rfl rfl rfl (by decide +kernel) ?_
  refine zw_aload_n 103 f68_102 rfl rfl ?_
  refine zw_getfield 106 f68_103 rfl g68_12_10 rfl rfl ?_
  refine zw_aload_n 107 f68_106 rfl rfl ?_
  refine zw_getfield 110 f68_107 rfl g68_12_10 rfl rfl ?_
  refine zw_getfield 113 f68_110 rfl g68_180_9 rfl rfl ?_
  refine zw_lload_n 114 f68_113 rfl rfl ?_
  refine zw_lmul 0 115 f68_114 rfl (by decide +kernel) ?_
  refine zw_aload_n 116 f68_115 rfl rfl ?_
  refine zw_getfield 119 f68_116 rfl g68_58_10 rfl rfl ?_
  refine zw_i2l 0 120 f68_119 rfl (by decide +kernel) ?_
  refine zw_lload_n 121 f68_120 rfl rfl ?_
  refine zw_lmul 0 122 f68_121 rfl (Int64.zero_mul) ?_
  refine zw_ladd 0 123 f68_122 rfl (by decide +kernel) ?_
  refine zw_lload 125 f68_123 rfl rfl ?_
  refine zw_ldiv 0 126 f68_125 rfl (by decide +kernel) (by decide +kernel) ?_
  refine zw_putfieldS 129 f68_126 rfl g68_180_9 rfl rfl rfl (by decide +kernel) ?_
  refine zw_iconst 0 130 f68_129 rfl (by decide +kernel) ?_
  refine zw_istore [(9, .int 0), (7, .long 1), (5, .long 1), (0, .ref 11), (1, .long 1), (3, .long a.toInt64)] 132 f68_130 rfl (by decide +kernel) rfl ?_
  refine zw_iload 134 f68_132 rfl rfl ?_
  refine zw_aload_n 135 f68_134 rfl rfl ?_
  refine zw_getfield 138 f68_135 rfl g68_37_10 rfl rfl ?_
  refine zw_getfield 141 f68_138 rfl g68_80_4 rfl rfl ?_
  refine zw_ic_ge_t 186 f68_141 (by decide +kernel) (by decide +kernel) ?_
  refine zw_iconst 1 187 f68_186 rfl (by decide +kernel) ?_
  refine zw_zreturn f68_187 r68 u68 (by decide +kernel) ⟨_, rfl, ?_⟩
  refine zw_pop 24 f67_23 rfl rfl ?_
  refine zw_vreturn f67_24 r67 u67 ⟨rfl, ?_⟩
  refine zw_aload_n 78 f87_77 rfl rfl ?_
  refine zw_aload_n 79 f87_78 rfl rfl ?_
  refine zw_getfield 82 f87_79 rfl g87_31_11 rfl rfl ?_
  refine zw_getfield 85 f87_82 rfl g87_164_3 rfl rfl ?_
  refine zw_iload_n 86 f87_85 rfl rfl ?_
  refine zw_isub 0 87 f87_86 rfl (by decide +kernel) ?_
  refine zw_virtual_i 90 0 0 [.ref 0, .int 0] [(0, .ref 0), (1, .int 0)] f87_87 rfl n87_181 k87_181_11 rfl rfl (by decide +kernel) (Nat.le_of_ble_eq_true rfl) rfl rfl (by decide +kernel) (by decide +kernel) rfl (Nat.le_of_ble_eq_true rfl) rfl ?_
  refine zw_aload_n 1 f106_0 rfl rfl ?_
  refine zw_iconst 0 2 f106_1 rfl (by decide +kernel) ?_
  refine zw_putfieldS 5 f106_2 rfl g106_70_11 rfl rfl rfl (by decide +kernel) ?_
  refine zw_iload_n 6 f106_5 rfl rfl ?_
  refine zw_ireturn f106_6 r106 u106 ⟨_, rfl, ?_⟩
  refine zw_ireturn f87_90 r87 u87 ?_
  exact ⟨rfl, by repeat (first | exact zMF_0 | refine zMF_set (by decide) ?_)⟩
set_option maxRecDepth 100000 in
set_option maxHeartbeats 0 in
theorem x_now_k0 (ro : UInt32 → Nat × (Nat → Int32)) : zWp ro 88 0 [(0, .ref 0), (1, .int 0)] [] hF 0 0 (fun r h1 => r = some (.int 0) ∧ zMF h1) := by
  refine zw_iload_n 1 f88_0 rfl rfl ?_
  refine zw_table_i (off := 27) 28 f88_1 (by decide +kernel) (by decide +kernel) (by decide +kernel) ?_
  refine zw_aload_n 29 f88_28 rfl rfl ?_
  refine zw_getfield 32 f88_29 rfl g88_21_11 rfl rfl ?_
  refine zw_getfield 35 f88_32 rfl g88_134_10 rfl rfl ?_
  refine zw_getfield 38 f88_35 rfl g88_191_9 rfl rfl ?_
  refine zw_aload_n 39 f88_38 rfl rfl ?_
  refine zw_getfield 42 f88_39 rfl g88_21_11 rfl rfl ?_
  refine zw_getfield 45 f88_42 rfl g88_134_10 rfl rfl ?_
  refine zw_getfield 48 f88_45 rfl g88_151_9 rfl rfl ?_
  refine zw_static_l 51 0 0 [.long 0, .long 1] [] [(0, .long 0), (2, .long 1)] f88_48 rfl k88_194_99 rfl (by decide +kernel) (Nat.le_of_ble_eq_true rfl) (Nat.le_of_ble_eq_true rfl) rfl rfl (by decide +kernel) (by decide +kernel) rfl (Nat.le_of_ble_eq_true rfl) rfl ?_
  refine zw_lload_n 1 f116_0 rfl rfl ?_
  refine zw_lload_n 2 f116_1 rfl rfl ?_
  refine zw_static_l 5 0 0 [.long 0, .long 1] [] [(0, .long 0), (2, .long 1)] f116_2 rfl k116_336_99 rfl (by decide +kernel) (Nat.le_of_ble_eq_true rfl) (Nat.le_of_ble_eq_true rfl) rfl rfl (by decide +kernel) (by decide +kernel) rfl (Nat.le_of_ble_eq_true rfl) rfl ?_
  refine zw_lload_n 1 f115_0 rfl rfl ?_
  refine zw_lstore [(4, .long 0), (0, .long 0), (2, .long 1)] 3 f115_1 rfl (by decide +kernel) rfl ?_
  refine zw_lload_n 4 f115_3 rfl rfl ?_
  refine zw_lstore [(6, .long 1), (4, .long 0), (0, .long 0), (2, .long 1)] 6 f115_4 rfl (by decide +kernel) rfl ?_
  refine zw_iconst 0 7 f115_6 rfl (by decide +kernel) ?_
  refine zw_istore [(8, .int 0), (6, .long 1), (4, .long 0), (0, .long 0), (2, .long 1)] 9 f115_7 rfl (by decide +kernel) rfl ?_
  refine zw_iload 11 f115_9 rfl rfl ?_
  refine zw_sipush 200 14 f115_11 rfl (by decide +kernel) ?_
  refine zw_ic_ge_f 17 45 f115_14 (by decide +kernel) rfl (by decide +kernel) ?_
  refine zw_lload 19 f115_17 rfl rfl ?_
  refine zw_lconst 0 20 f115_19 rfl (by decide +kernel) ?_
  refine zw_lcmp 1 21 f115_20 rfl (by decide +kernel) ?_
  refine zw_if_eq_f 24 45 f115_21 (by decide +kernel) rfl (by decide +kernel) ?_
  refine zw_lload 26 f115_24 rfl rfl ?_
  refine zw_lload 28 f115_26 rfl rfl ?_
  refine zw_lrem 0 29 f115_28 rfl (by decide +kernel) (by decide +kernel) ?_
  refine zw_lstore [(9, .long 0), (8, .int 0), (6, .long 1), (4, .long 0), (0, .long 0), (2, .long 1)] 31 f115_29 rfl (by decide +kernel) rfl ?_
  refine zw_lload 33 f115_31 rfl rfl ?_
  refine zw_lstore [(4, .long 1), (9, .long 0), (8, .int 0), (6, .long 1), (0, .long 0), (2, .long 1)] 35 f115_33 rfl (by decide +kernel) rfl ?_
  refine zw_lload 37 f115_35 rfl rfl ?_
  refine zw_lstore [(6, .long 0), (4, .long 1), (9, .long 0), (8, .int 0), (0, .long 0), (2, .long 1)] 39 f115_37 rfl (by decide +kernel) rfl ?_
  refine zw_iinc 1 [(8, .int 1), (6, .long 0), (4, .long 1), (9, .long 0), (0, .long 0), (2, .long 1)] 42 f115_39 rfl rfl (by decide +kernel) (by decide +kernel) rfl ?_
  refine zw_goto 9 f115_42 (by decide +kernel) ?_
  refine zw_iload 11 f115_9 rfl rfl ?_
  refine zw_sipush 200 14 f115_11 rfl (by decide +kernel) ?_
  refine zw_ic_ge_f 17 45 f115_14 (by decide +kernel) rfl (by decide +kernel) ?_
  refine zw_lload 19 f115_17 rfl rfl ?_
  refine zw_lconst 0 20 f115_19 rfl (by decide +kernel) ?_
  refine zw_lcmp 0 21 f115_20 rfl (by decide +kernel) ?_
  refine zw_if_eq_t 45 f115_21 (by decide +kernel) (by decide +kernel) ?_
  refine zw_lload 47 f115_45 rfl rfl ?_
  refine zw_lconst 0 48 f115_47 rfl (by decide +kernel) ?_
  refine zw_lcmp 1 49 f115_48 rfl (by decide +kernel) ?_
  refine zw_if_ne_t 56 f115_49 (by decide +kernel) (by decide +kernel) ?_
  refine zw_lload 58 f115_56 rfl rfl ?_
  refine zw_lreturn f115_58 r115 u115 ⟨_, rfl, ?_⟩
  refine zw_lstore [(4, .long 1), (0, .long 0), (2, .long 1)] 7 f116_5 rfl (by decide +kernel) rfl ?_
  refine zw_lload 9 f116_7 rfl rfl ?_
  refine zw_lconst 0 10 f116_9 rfl (by decide +kernel) ?_
  refine zw_lcmp 1 11 f116_10 rfl (by decide +kernel) ?_
  refine zw_if_ne_t 18 f116_11 (by decide +kernel) (by decide +kernel) ?_
  refine zw_lload_n 19 f116_18 rfl rfl ?_
  refine zw_lload 21 f116_19 rfl rfl ?_
  refine zw_ldiv 0 22 f116_21 rfl (by decide +kernel) (by decide +kernel) ?_
  refine zw_lreturn f116_22 r116 u116 ⟨_, rfl, ?_⟩
  refine zw_l2i 0 52 f88_51 rfl (by decide +kernel) ?_
  refine zw_ireturn f88_52 r88 u88 ?_
  exact ⟨rfl, by repeat (first | exact zMF_0 | refine zMF_set (by decide) ?_)⟩
