def hX : List va_E := [.inr (11, [.ref 1, .ref 11, .ref 22, .ref 33, .ref 38, .ref 44, .ref 46, .int 0]), .inr (4, [.int 0, .int 0, .ref 2, .ref 3, .ref 4, .ref 5, .ref 6, .ref 7, .ref 8, .ref 9, .ref 10]), .inl (0, 8, .inl (fun _ => 0)), .inl (0, 8, .inl (fun _ => 0)), .inl (0, 8, .inl (fun _ => 0)), .inl (0, 8, .inl (fun _ => 0)), .inl (0, 8, .inl (fun _ => 0)), .inl (0, 8, .inl (fun _ => 0)), .inl (0, 8, .inl (fun _ => 0)), .inl (0, 14, .inl (fun _ => 0)), .inl (0, 14, .inl (fun _ => 0)), .inr (10, [.ref 1, .ref 12, .ref 16, .ref 17, .ref 18, .ref 19, .int 0, .int 0, .long 0, .long 0, .ref 20, .ref 21, .int 0]), .inr (9, [.long 1, .long 0, .long 0, .long 0, .long 0, .int 0, .int 0, .ref 13, .ref 14, .ref 15]), .inl (1, 8, .inr (.inl (fun _ => 0))), .inl (0, 8, .inl (fun _ => 0)), .inl (0, 14, .inl (fun _ => 0)), .inl (0, 8, .inl (fun _ => 0)), .inl (0, 8, .inl (fun _ => 0)), .inl (0, 8, .inl (fun _ => 0)), .inl (0, 14, .inl (fun _ => 0)), .inl (0, 8, .inl (fun _ => 0)), .inl (0, 8, .inl (fun _ => 0)), .inr (10, [.ref 1, .ref 23, .ref 27, .ref 28, .ref 29, .ref 30, .int 0, .int 0, .long 0, .long 0, .ref 31, .ref 32, .int 0]), .inr (9, [.long 1, .long 0, .long 0, .long 0, .long 0, .int 0, .int 0, .ref 24, .ref 25, .ref 26]), .inl (1, 8, .inr (.inl (fun _ => 0))), .inl (0, 8, .inl (fun _ => 0)), .inl (0, 14, .inl (fun _ => 0)), .inl (0, 8, .inl (fun _ => 0)), .inl (0, 8, .inl (fun _ => 0)), .inl (0, 8, .inl (fun _ => 0)), .inl (0, 14, .inl (fun _ => 0)), .inl (0, 8, .inl (fun _ => 0)), .inl (0, 8, .inl (fun _ => 0)), .inr (3, [.int 0, .ref 34, .ref 35, .ref 36, .ref 37]), .inl (0, 400, .inl (fun _ => 0)), .inl (0, 400, .inl (fun _ => 0)), .inl (0, 400, .inl (fun _ => 0)), .inl (0, 400, .inl (fun _ => 0)), .inr (5, [.ref 39, .ref 40, .ref 41, .ref 42, .ref 43, .long 0, .long 0, .long 0, .long 0]), .inl (1, 151, .inr (.inl (fun _ => 0))), .inl (1, 151, .inr (.inl (fun _ => 0))), .inl (0, 151, .inl (fun _ => 0)), .inl (0, 151, .inl (fun _ => 0)), .inl (1, 1208, .inr (.inl (fun _ => 0))), .inr (0, [.int 0, .int 0, .int 0, .int 0, .int 0, .ref 45]), .inl (0, 50, .inl (fun _ => 0)), .inl (3, 5, .inr (.inr (.inr (.inr (va_up (va_up (va_up (va_up (va_up (fun _ => none) 0 (some 47)) 1 (some 48)) 2 (some 49)) 3 (some 50)) 4 (some 51)))))), .inr (8, [.ref 44]), .inr (6, [.ref 44]), .inr (7, [.ref 44]), .inr (2, [.ref 44]), .inr (1, [.ref 44])]
set_option maxRecDepth 100000 in
set_option maxHeartbeats 0 in
theorem cX_init (ro : UInt32 → Nat × (Nat → Int32)) : zWp ro 77 0 [(0, .ref 0)] [] [.inr (11, [.null, .null, .null, .null, .null, .null, .null, .int 0])] 0 0 (fun r h1 => r = none ∧ h1 = hX) := by
  refine zw_aload_n 1 f77_0 rfl rfl ?_
  refine zw_obj 4 f77_1 rfl k77_1_99 (Nat.le_of_ble_eq_true rfl) ?_
  refine zw_aload_n 5 f77_4 rfl rfl ?_
  refine zw_new (ci := 4) 1 1 11 8 f77_5 rfl (by decide +kernel) rfl rfl (by decide +kernel) (by decide +kernel) (by decide +kernel) ?_
  refine zw_dup 9 f77_8 rfl rfl ?_
  refine zw_init_v 12 10 95 [.ref 1] [(0, .ref 1)] f77_9 rfl k77_9_99 rfl (by decide +kernel) (Nat.le_of_ble_eq_true rfl) rfl rfl (by decide +kernel) (by decide +kernel) rfl (Nat.le_of_ble_eq_true rfl) rfl ?_
  refine zw_aload_n 1 f12_0 rfl rfl ?_
  refine zw_obj 4 f12_1 rfl k12_3_99 (Nat.le_of_ble_eq_true rfl) ?_
  refine zw_aload_n 5 f12_4 rfl rfl ?_
  refine zw_bipush 8 7 f12_5 rfl (by decide +kernel) ?_
  refine zw_newarray 2 8 1 8 9 f12_7 rfl rfl rfl (by decide +kernel) (by decide +kernel) (by decide +kernel) rfl rfl (by decide +kernel) (by decide +kernel) ?_
  refine zw_putfield 12 f12_9 rfl g12_9_4 rfl rfl (Nat.le_of_ble_eq_true rfl) (by decide +kernel) ?_
  refine zw_aload_n 13 f12_12 rfl rfl ?_
  refine zw_bipush 8 15 f12_13 rfl (by decide +kernel) ?_
  refine zw_newarray 3 8 2 16 17 f12_15 rfl rfl rfl (by decide +kernel) (by decide +kernel) (by decide +kernel) rfl rfl (by decide +kernel) (by decide +kernel) ?_
  refine zw_putfield 20 f12_17 rfl g12_15_4 rfl rfl (Nat.le_of_ble_eq_true rfl) (by decide +kernel) ?_
  refine zw_aload_n 21 f12_20 rfl rfl ?_
  refine zw_bipush 8 23 f12_21 rfl (by decide +kernel) ?_
  refine zw_newarray 4 8 3 24 25 f12_23 rfl rfl rfl (by decide +kernel) (by decide +kernel) (by decide +kernel) rfl rfl (by decide +kernel) (by decide +kernel) ?_
  refine zw_putfield 28 f12_25 rfl g12_18_4 rfl rfl (Nat.le_of_ble_eq_true rfl) (by decide +kernel) ?_
  refine zw_aload_n 29 f12_28 rfl rfl ?_
  refine zw_bipush 8 31 f12_29 rfl (by decide +kernel) ?_
  refine zw_newarray 5 8 4 32 33 f12_31 rfl rfl rfl (by decide +kernel) (by decide +kernel) (by decide +kernel) rfl rfl (by decide +kernel) (by decide +kernel) ?_
  refine zw_putfield 36 f12_33 rfl g12_21_4 rfl rfl (Nat.le_of_ble_eq_true rfl) (by decide +kernel) ?_
  refine zw_aload_n 37 f12_36 rfl rfl ?_
  refine zw_bipush 8 39 f12_37 rfl (by decide +kernel) ?_
  refine zw_newarray 6 8 5 40 41 f12_39 rfl rfl rfl (by decide +kernel) (by decide +kernel) (by decide +kernel) rfl rfl (by decide +kernel) (by decide +kernel) ?_
  refine zw_putfield 44 f12_41 rfl g12_24_4 rfl rfl (Nat.le_of_ble_eq_true rfl) (by decide +kernel) ?_
  refine zw_aload_n 45 f12_44 rfl rfl ?_
  refine zw_bipush 8 47 f12_45 rfl (by decide +kernel) ?_
  refine zw_newarray 7 8 6 48 49 f12_47 rfl rfl rfl (by decide +kernel) (by decide +kernel) (by decide +kernel) rfl rfl (by decide +kernel) (by decide +kernel) ?_
  refine zw_putfield 52 f12_49 rfl g12_27_4 rfl rfl (Nat.le_of_ble_eq_true rfl) (by decide +kernel) ?_
  refine zw_aload_n 53 f12_52 rfl rfl ?_
  refine zw_bipush 8 55 f12_53 rfl (by decide +kernel) ?_
  refine zw_newarray 8 8 7 56 57 f12_55 rfl rfl rfl (by decide +kernel) (by decide +kernel) (by decide +kernel) rfl rfl (by decide +kernel) (by decide +kernel) ?_
  refine zw_putfield 60 f12_57 rfl g12_30_4 rfl rfl (Nat.le_of_ble_eq_true rfl) (by decide +kernel) ?_
  refine zw_aload_n 61 f12_60 rfl rfl ?_
  refine zw_bipush 14 63 f12_61 rfl (by decide +kernel) ?_
  refine zw_newarray 9 14 8 70 65 f12_63 rfl rfl rfl (by decide +kernel) (by decide +kernel) (by decide +kernel) rfl rfl (by decide +kernel) (by decide +kernel) ?_
  refine zw_putfield 68 f12_65 rfl g12_33_4 rfl rfl (Nat.le_of_ble_eq_true rfl) (by decide +kernel) ?_
  refine zw_aload_n 69 f12_68 rfl rfl ?_
  refine zw_bipush 14 71 f12_69 rfl (by decide +kernel) ?_
  refine zw_newarray 10 14 9 84 73 f12_71 rfl rfl rfl (by decide +kernel) (by decide +kernel) (by decide +kernel) rfl rfl (by decide +kernel) (by decide +kernel) ?_
  refine zw_putfield 76 f12_73 rfl g12_36_4 rfl rfl (Nat.le_of_ble_eq_true rfl) (by decide +kernel) ?_
  refine zw_vreturn f12_76 r12 u12 ⟨rfl, ?_⟩
  refine zw_heap [.inr (11, [.null, .null, .null, .null, .null, .null, .null, .int 0]), .inr (4, [.int 0, .int 0, .ref 2, .ref 3, .ref 4, .ref 5, .ref 6, .ref 7, .ref 8, .ref 9, .ref 10]), .inl (0, 8, .inl (fun _ => 0)), .inl (0, 8, .inl (fun _ => 0)), .inl (0, 8, .inl (fun _ => 0)), .inl (0, 8, .inl (fun _ => 0)), .inl (0, 8, .inl (fun _ => 0)), .inl (0, 8, .inl (fun _ => 0)), .inl (0, 8, .inl (fun _ => 0)), .inl (0, 14, .inl (fun _ => 0)), .inl (0, 14, .inl (fun _ => 0))] rfl ?_
  refine zw_putfield 15 f77_12 rfl g77_10_11 rfl rfl (Nat.le_of_ble_eq_true rfl) (by decide +kernel) ?_
  refine zw_aload_n 16 f77_15 rfl rfl ?_
  refine zw_new (ci := 10) 11 11 108 19 f77_16 rfl (by decide +kernel) rfl rfl (by decide +kernel) (by decide +kernel) (by decide +kernel) ?_
  refine zw_dup 20 f77_19 rfl rfl ?_
  refine zw_aload_n 21 f77_20 rfl rfl ?_
  refine zw_getfield 24 f77_21 rfl g77_10_11 rfl rfl ?_
  refine zw_init_v 27 21 202 [.ref 11, .ref 1] [(0, .ref 11), (1, .ref 1)] f77_24 rfl k77_18_99 rfl (by decide +kernel) (Nat.le_of_ble_eq_true rfl) rfl rfl (by decide +kernel) (by decide +kernel) rfl (Nat.le_of_ble_eq_true rfl) rfl ?_
  refine zw_aload_n 1 f47_0 rfl rfl ?_
  refine zw_obj 4 f47_1 rfl k47_3_99 (Nat.le_of_ble_eq_true rfl) ?_
  refine zw_aload_n 5 f47_4 rfl rfl ?_
  refine zw_new (ci := 9) 12 1 10 8 f47_5 rfl (by decide +kernel) rfl rfl (by decide +kernel) (by decide +kernel) (by decide +kernel) ?_
  refine zw_dup 9 f47_8 rfl rfl ?_
  refine zw_init_v 12 4 40 [.ref 12] [(0, .ref 12)] f47_9 rfl k47_11_99 rfl (by decide +kernel) (Nat.le_of_ble_eq_true rfl) rfl rfl (by decide +kernel) (by decide +kernel) rfl (Nat.le_of_ble_eq_true rfl) rfl ?_
  refine zw_aload_n 1 f41_0 rfl rfl ?_
  refine zw_obj 4 f41_1 rfl k41_3_99 (Nat.le_of_ble_eq_true rfl) ?_
  refine zw_aload_n 5 f41_4 rfl rfl ?_
  refine zw_lconst 1 6 f41_5 rfl (by decide +kernel) ?_
  refine zw_putfield 9 f41_6 rfl g41_9_9 rfl rfl (Nat.le_of_ble_eq_true rfl) (by decide +kernel) ?_
  refine zw_aload_n 10 f41_9 rfl rfl ?_
  refine zw_bipush 8 12 f41_10 rfl (by decide +kernel) ?_
  refine zw_newarray 13 8 1 8 14 f41_12 rfl rfl rfl (by decide +kernel) (by decide +kernel) (by decide +kernel) rfl rfl (by decide +kernel) (by decide +kernel) ?_
  refine zw_putfield 17 f41_14 rfl g41_15_9 rfl rfl (Nat.le_of_ble_eq_true rfl) (by decide +kernel) ?_
  refine zw_aload_n 18 f41_17 rfl rfl ?_
  refine zw_bipush 8 20 f41_18 rfl (by decide +kernel) ?_
  refine zw_newarray 14 8 2 16 22 f41_20 rfl rfl rfl (by decide +kernel) (by decide +kernel) (by decide +kernel) rfl rfl (by decide +kernel) (by decide +kernel) ?_
  refine zw_putfield 25 f41_22 rfl g41_19_9 rfl rfl (Nat.le_of_ble_eq_true rfl) (by decide +kernel) ?_
  refine zw_aload_n 26 f41_25 rfl rfl ?_
  refine zw_bipush 14 28 f41_26 rfl (by decide +kernel) ?_
  refine zw_newarray 15 14 3 30 30 f41_28 rfl rfl rfl (by decide +kernel) (by decide +kernel) (by decide +kernel) rfl rfl (by decide +kernel) (by decide +kernel) ?_
  refine zw_putfield 33 f41_30 rfl g41_23_9 rfl rfl (Nat.le_of_ble_eq_true rfl) (by decide +kernel) ?_
  refine zw_vreturn f41_33 r41 u41 ⟨rfl, ?_⟩
  refine zw_heap [.inr (11, [.ref 1, .null, .null, .null, .null, .null, .null, .int 0]), .inr (4, [.int 0, .int 0, .ref 2, .ref 3, .ref 4, .ref 5, .ref 6, .ref 7, .ref 8, .ref 9, .ref 10]), .inl (0, 8, .inl (fun _ => 0)), .inl (0, 8, .inl (fun _ => 0)), .inl (0, 8, .inl (fun _ => 0)), .inl (0, 8, .inl (fun _ => 0)), .inl (0, 8, .inl (fun _ => 0)), .inl (0, 8, .inl (fun _ => 0)), .inl (0, 8, .inl (fun _ => 0)), .inl (0, 14, .inl (fun _ => 0)), .inl (0, 14, .inl (fun _ => 0)), .inr (10, [.null, .null, .null, .null, .null, .null, .int 0, .int 0, .long 0, .long 0, .null, .null, .int 0]), .inr (9, [.long 1, .long 0, .long 0, .long 0, .long 0, .int 0, .int 0, .ref 13, .ref 14, .ref 15]), .inl (1, 8, .inr (.inl (fun _ => 0))), .inl (0, 8, .inl (fun _ => 0)), .inl (0, 14, .inl (fun _ => 0))] rfl ?_
  refine zw_putfield 15 f47_12 rfl g47_12_10 rfl rfl (Nat.le_of_ble_eq_true rfl) (by decide +kernel) ?_
  refine zw_aload_n 16 f47_15 rfl rfl ?_
  refine zw_bipush 8 18 f47_16 rfl (by decide +kernel) ?_
  refine zw_newarray 16 8 5 48 20 f47_18 rfl rfl rfl (by decide +kernel) (by decide +kernel) (by decide +kernel) rfl rfl (by decide +kernel) (by decide +kernel) ?_
  refine zw_putfield 23 f47_20 rfl g47_18_10 rfl rfl (Nat.le_of_ble_eq_true rfl) (by decide +kernel) ?_
  refine zw_aload_n 24 f47_23 rfl rfl ?_
  refine zw_bipush 8 26 f47_24 rfl (by decide +kernel) ?_
  refine zw_newarray 17 8 6 56 28 f47_26 rfl rfl rfl (by decide +kernel) (by decide +kernel) (by decide +kernel) rfl rfl (by decide +kernel) (by decide +kernel) ?_
  refine zw_putfield 31 f47_28 rfl g47_22_10 rfl rfl (Nat.le_of_ble_eq_true rfl) (by decide +kernel) ?_
  refine zw_aload_n 32 f47_31 rfl rfl ?_
  refine zw_bipush 8 34 f47_32 rfl (by decide +kernel) ?_
  refine zw_newarray 18 8 7 64 36 f47_34 rfl rfl rfl (by decide +kernel) (by decide +kernel) (by decide +kernel) rfl rfl (by decide +kernel) (by decide +kernel) ?_
  refine zw_putfield 39 f47_36 rfl g47_25_10 rfl rfl (Nat.le_of_ble_eq_true rfl) (by decide +kernel) ?_
  refine zw_aload_n 40 f47_39 rfl rfl ?_
  refine zw_bipush 14 42 f47_40 rfl (by decide +kernel) ?_
  refine zw_newarray 19 14 8 78 44 f47_42 rfl rfl rfl (by decide +kernel) (by decide +kernel) (by decide +kernel) rfl rfl (by decide +kernel) (by decide +kernel) ?_
  refine zw_putfield 47 f47_44 rfl g47_28_10 rfl rfl (Nat.le_of_ble_eq_true rfl) (by decide +kernel) ?_
  refine zw_aload_n 48 f47_47 rfl rfl ?_
  refine zw_bipush 8 50 f47_48 rfl (by decide +kernel) ?_
  refine zw_newarray 20 8 9 86 52 f47_50 rfl rfl rfl (by decide +kernel) (by decide +kernel) (by decide +kernel) rfl rfl (by decide +kernel) (by decide +kernel) ?_
  refine zw_putfield 55 f47_52 rfl g47_31_10 rfl rfl (Nat.le_of_ble_eq_true rfl) (by decide +kernel) ?_
  refine zw_aload_n 56 f47_55 rfl rfl ?_
  refine zw_bipush 8 58 f47_56 rfl (by decide +kernel) ?_
  refine zw_newarray 21 8 10 94 60 f47_58 rfl rfl rfl (by decide +kernel) (by decide +kernel) (by decide +kernel) rfl rfl (by decide +kernel) (by decide +kernel) ?_
  refine zw_putfield 63 f47_60 rfl g47_34_10 rfl rfl (Nat.le_of_ble_eq_true rfl) (by decide +kernel) ?_
  refine zw_aload_n 64 f47_63 rfl rfl ?_
  refine zw_aload_n 65 f47_64 rfl rfl ?_
  refine zw_putfield 68 f47_65 rfl g47_37_10 rfl rfl (Nat.le_of_ble_eq_true rfl) (by decide +kernel) ?_
  refine zw_vreturn f47_68 r47 u47 ⟨rfl, ?_⟩
  refine zw_heap [.inr (11, [.ref 1, .null, .null, .null, .null, .null, .null, .int 0]), .inr (4, [.int 0, .int 0, .ref 2, .ref 3, .ref 4, .ref 5, .ref 6, .ref 7, .ref 8, .ref 9, .ref 10]), .inl (0, 8, .inl (fun _ => 0)), .inl (0, 8, .inl (fun _ => 0)), .inl (0, 8, .inl (fun _ => 0)), .inl (0, 8, .inl (fun _ => 0)), .inl (0, 8, .inl (fun _ => 0)), .inl (0, 8, .inl (fun _ => 0)), .inl (0, 8, .inl (fun _ => 0)), .inl (0, 14, .inl (fun _ => 0)), .inl (0, 14, .inl (fun _ => 0)), .inr (10, [.ref 1, .ref 12, .ref 16, .ref 17, .ref 18, .ref 19, .int 0, .int 0, .long 0, .long 0, .ref 20, .ref 21, .int 0]), .inr (9, [.long 1, .long 0, .long 0, .long 0, .long 0, .int 0, .int 0, .ref 13, .ref 14, .ref 15]), .inl (1, 8, .inr (.inl (fun _ => 0))), .inl (0, 8, .inl (fun _ => 0)), .inl (0, 14, .inl (fun _ => 0)), .inl (0, 8, .inl (fun _ => 0)), .inl (0, 8, .inl (fun _ => 0)), .inl (0, 8, .inl (fun _ => 0)), .inl (0, 14, .inl (fun _ => 0)), .inl (0, 8, .inl (fun _ => 0)), .inl (0, 8, .inl (fun _ => 0))] rfl ?_
  refine zw_putfield 30 f77_27 rfl g77_21_11 rfl rfl (Nat.le_of_ble_eq_true rfl) (by decide +kernel) ?_
  refine zw_aload_n 31 f77_30 rfl rfl ?_
  refine zw_new (ci := 10) 22 22 215 34 f77_31 rfl (by decide +kernel) rfl rfl (by decide +kernel) (by decide +kernel) (by decide +kernel) ?_
  refine zw_dup 35 f77_34 rfl rfl ?_
  refine zw_aload_n 36 f77_35 rfl rfl ?_
  refine zw_getfield 39 f77_36 rfl g77_10_11 rfl rfl ?_
  refine zw_init_v 42 32 309 [.ref 22, .ref 1] [(0, .ref 22), (1, .ref 1)] f77_39 rfl k77_18_99 rfl (by decide +kernel) (Nat.le_of_ble_eq_true rfl) rfl rfl (by decide +kernel) (by decide +kernel) rfl (Nat.le_of_ble_eq_true rfl) rfl ?_
  refine zw_aload_n 1 f47_0 rfl rfl ?_
  refine zw_obj 4 f47_1 rfl k47_3_99 (Nat.le_of_ble_eq_true rfl) ?_
  refine zw_aload_n 5 f47_4 rfl rfl ?_
  refine zw_new (ci := 9) 23 1 10 8 f47_5 rfl (by decide +kernel) rfl rfl (by decide +kernel) (by decide +kernel) (by decide +kernel) ?_
  refine zw_dup 9 f47_8 rfl rfl ?_
  refine zw_init_v 12 4 40 [.ref 23] [(0, .ref 23)] f47_9 rfl k47_11_99 rfl (by decide +kernel) (Nat.le_of_ble_eq_true rfl) rfl rfl (by decide +kernel) (by decide +kernel) rfl (Nat.le_of_ble_eq_true rfl) rfl ?_
  refine zw_aload_n 1 f41_0 rfl rfl ?_
  refine zw_obj 4 f41_1 rfl k41_3_99 (Nat.le_of_ble_eq_true rfl) ?_
  refine zw_aload_n 5 f41_4 rfl rfl ?_
  refine zw_lconst 1 6 f41_5 rfl (by decide +kernel) ?_
  refine zw_putfield 9 f41_6 rfl g41_9_9 rfl rfl (Nat.le_of_ble_eq_true rfl) (by decide +kernel) ?_
  refine zw_aload_n 10 f41_9 rfl rfl ?_
  refine zw_bipush 8 12 f41_10 rfl (by decide +kernel) ?_
  refine zw_newarray 24 8 1 8 14 f41_12 rfl rfl rfl (by decide +kernel) (by decide +kernel) (by decide +kernel) rfl rfl (by decide +kernel) (by decide +kernel) ?_
  refine zw_putfield 17 f41_14 rfl g41_15_9 rfl rfl (Nat.le_of_ble_eq_true rfl) (by decide +kernel) ?_
  refine zw_aload_n 18 f41_17 rfl rfl ?_
  refine zw_bipush 8 20 f41_18 rfl (by decide +kernel) ?_
  refine zw_newarray 25 8 2 16 22 f41_20 rfl rfl rfl (by decide +kernel) (by decide +kernel) (by decide +kernel) rfl rfl (by decide +kernel) (by decide +kernel) ?_
  refine zw_putfield 25 f41_22 rfl g41_19_9 rfl rfl (Nat.le_of_ble_eq_true rfl) (by decide +kernel) ?_
  refine zw_aload_n 26 f41_25 rfl rfl ?_
  refine zw_bipush 14 28 f41_26 rfl (by decide +kernel) ?_
  refine zw_newarray 26 14 3 30 30 f41_28 rfl rfl rfl (by decide +kernel) (by decide +kernel) (by decide +kernel) rfl rfl (by decide +kernel) (by decide +kernel) ?_
  refine zw_putfield 33 f41_30 rfl g41_23_9 rfl rfl (Nat.le_of_ble_eq_true rfl) (by decide +kernel) ?_
  refine zw_vreturn f41_33 r41 u41 ⟨rfl, ?_⟩
  refine zw_heap [.inr (11, [.ref 1, .ref 11, .null, .null, .null, .null, .null, .int 0]), .inr (4, [.int 0, .int 0, .ref 2, .ref 3, .ref 4, .ref 5, .ref 6, .ref 7, .ref 8, .ref 9, .ref 10]), .inl (0, 8, .inl (fun _ => 0)), .inl (0, 8, .inl (fun _ => 0)), .inl (0, 8, .inl (fun _ => 0)), .inl (0, 8, .inl (fun _ => 0)), .inl (0, 8, .inl (fun _ => 0)), .inl (0, 8, .inl (fun _ => 0)), .inl (0, 8, .inl (fun _ => 0)), .inl (0, 14, .inl (fun _ => 0)), .inl (0, 14, .inl (fun _ => 0)), .inr (10, [.ref 1, .ref 12, .ref 16, .ref 17, .ref 18, .ref 19, .int 0, .int 0, .long 0, .long 0, .ref 20, .ref 21, .int 0]), .inr (9, [.long 1, .long 0, .long 0, .long 0, .long 0, .int 0, .int 0, .ref 13, .ref 14, .ref 15]), .inl (1, 8, .inr (.inl (fun _ => 0))), .inl (0, 8, .inl (fun _ => 0)), .inl (0, 14, .inl (fun _ => 0)), .inl (0, 8, .inl (fun _ => 0)), .inl (0, 8, .inl (fun _ => 0)), .inl (0, 8, .inl (fun _ => 0)), .inl (0, 14, .inl (fun _ => 0)), .inl (0, 8, .inl (fun _ => 0)), .inl (0, 8, .inl (fun _ => 0)), .inr (10, [.null, .null, .null, .null, .null, .null, .int 0, .int 0, .long 0, .long 0, .null, .null, .int 0]), .inr (9, [.long 1, .long 0, .long 0, .long 0, .long 0, .int 0, .int 0, .ref 24, .ref 25, .ref 26]), .inl (1, 8, .inr (.inl (fun _ => 0))), .inl (0, 8, .inl (fun _ => 0)), .inl (0, 14, .inl (fun _ => 0))] rfl ?_
  refine zw_putfield 15 f47_12 rfl g47_12_10 rfl rfl (Nat.le_of_ble_eq_true rfl) (by decide +kernel) ?_
  refine zw_aload_n 16 f47_15 rfl rfl ?_
  refine zw_bipush 8 18 f47_16 rfl (by decide +kernel) ?_
  refine zw_newarray 27 8 5 48 20 f47_18 rfl rfl rfl (by decide +kernel) (by decide +kernel) (by decide +kernel) rfl rfl (by decide +kernel) (by decide +kernel) ?_
  refine zw_putfield 23 f47_20 rfl g47_18_10 rfl rfl (Nat.le_of_ble_eq_true rfl) (by decide +kernel) ?_
  refine zw_aload_n 24 f47_23 rfl rfl ?_
  refine zw_bipush 8 26 f47_24 rfl (by decide +kernel) ?_
  refine zw_newarray 28 8 6 56 28 f47_26 rfl rfl rfl (by decide +kernel) (by decide +kernel) (by decide +kernel) rfl rfl (by decide +kernel) (by decide +kernel) ?_
  refine zw_putfield 31 f47_28 rfl g47_22_10 rfl rfl (Nat.le_of_ble_eq_true rfl) (by decide +kernel) ?_
  refine zw_aload_n 32 f47_31 rfl rfl ?_
  refine zw_bipush 8 34 f47_32 rfl (by decide +kernel) ?_
  refine zw_newarray 29 8 7 64 36 f47_34 rfl rfl rfl (by decide +kernel) (by decide +kernel) (by decide +kernel) rfl rfl (by decide +kernel) (by decide +kernel) ?_
  refine zw_putfield 39 f47_36 rfl g47_25_10 rfl rfl (Nat.le_of_ble_eq_true rfl) (by decide +kernel) ?_
  refine zw_aload_n 40 f47_39 rfl rfl ?_
  refine zw_bipush 14 42 f47_40 rfl (by decide +kernel) ?_
  refine zw_newarray 30 14 8 78 44 f47_42 rfl rfl rfl (by decide +kernel) (by decide +kernel) (by decide +kernel) rfl rfl (by decide +kernel) (by decide +kernel) ?_
  refine zw_putfield 47 f47_44 rfl g47_28_10 rfl rfl (Nat.le_of_ble_eq_true rfl) (by decide +kernel) ?_
  refine zw_aload_n 48 f47_47 rfl rfl ?_
  refine zw_bipush 8 50 f47_48 rfl (by decide +kernel) ?_
  refine zw_newarray 31 8 9 86 52 f47_50 rfl rfl rfl (by decide +kernel) (by decide +kernel) (by decide +kernel) rfl rfl (by decide +kernel) (by decide +kernel) ?_
  refine zw_putfield 55 f47_52 rfl g47_31_10 rfl rfl (Nat.le_of_ble_eq_true rfl) (by decide +kernel) ?_
  refine zw_aload_n 56 f47_55 rfl rfl ?_
  refine zw_bipush 8 58 f47_56 rfl (by decide +kernel) ?_
  refine zw_newarray 32 8 10 94 60 f47_58 rfl rfl rfl (by decide +kernel) (by decide +kernel) (by decide +kernel) rfl rfl (by decide +kernel) (by decide +kernel) ?_
  refine zw_putfield 63 f47_60 rfl g47_34_10 rfl rfl (Nat.le_of_ble_eq_true rfl) (by decide +kernel) ?_
  refine zw_aload_n 64 f47_63 rfl rfl ?_
  refine zw_aload_n 65 f47_64 rfl rfl ?_
  refine zw_putfield 68 f47_65 rfl g47_37_10 rfl rfl (Nat.le_of_ble_eq_true rfl) (by decide +kernel) ?_
  refine zw_vreturn f47_68 r47 u47 ⟨rfl, ?_⟩
  refine zw_heap [.inr (11, [.ref 1, .ref 11, .null, .null, .null, .null, .null, .int 0]), .inr (4, [.int 0, .int 0, .ref 2, .ref 3, .ref 4, .ref 5, .ref 6, .ref 7, .ref 8, .ref 9, .ref 10]), .inl (0, 8, .inl (fun _ => 0)), .inl (0, 8, .inl (fun _ => 0)), .inl (0, 8, .inl (fun _ => 0)), .inl (0, 8, .inl (fun _ => 0)), .inl (0, 8, .inl (fun _ => 0)), .inl (0, 8, .inl (fun _ => 0)), .inl (0, 8, .inl (fun _ => 0)), .inl (0, 14, .inl (fun _ => 0)), .inl (0, 14, .inl (fun _ => 0)), .inr (10, [.ref 1, .ref 12, .ref 16, .ref 17, .ref 18, .ref 19, .int 0, .int 0, .long 0, .long 0, .ref 20, .ref 21, .int 0]), .inr (9, [.long 1, .long 0, .long 0, .long 0, .long 0, .int 0, .int 0, .ref 13, .ref 14, .ref 15]), .inl (1, 8, .inr (.inl (fun _ => 0))), .inl (0, 8, .inl (fun _ => 0)), .inl (0, 14, .inl (fun _ => 0)), .inl (0, 8, .inl (fun _ => 0)), .inl (0, 8, .inl (fun _ => 0)), .inl (0, 8, .inl (fun _ => 0)), .inl (0, 14, .inl (fun _ => 0)), .inl (0, 8, .inl (fun _ => 0)), .inl (0, 8, .inl (fun _ => 0)), .inr (10, [.ref 1, .ref 23, .ref 27, .ref 28, .ref 29, .ref 30, .int 0, .int 0, .long 0, .long 0, .ref 31, .ref 32, .int 0]), .inr (9, [.long 1, .long 0, .long 0, .long 0, .long 0, .int 0, .int 0, .ref 24, .ref 25, .ref 26]), .inl (1, 8, .inr (.inl (fun _ => 0))), .inl (0, 8, .inl (fun _ => 0)), .inl (0, 14, .inl (fun _ => 0)), .inl (0, 8, .inl (fun _ => 0)), .inl (0, 8, .inl (fun _ => 0)), .inl (0, 8, .inl (fun _ => 0)), .inl (0, 14, .inl (fun _ => 0)), .inl (0, 8, .inl (fun _ => 0)), .inl (0, 8, .inl (fun _ => 0))] rfl ?_
  refine zw_putfield 45 f77_42 rfl g77_25_11 rfl rfl (Nat.le_of_ble_eq_true rfl) (by decide +kernel) ?_
  refine zw_aload_n 46 f77_45 rfl rfl ?_
  refine zw_new (ci := 3) 33 33 314 49 f77_46 rfl (by decide +kernel) rfl rfl (by decide +kernel) (by decide +kernel) (by decide +kernel) ?_
  refine zw_dup 50 f77_49 rfl rfl ?_
  refine zw_init_v 53 37 1914 [.ref 33] [(0, .ref 33)] f77_50 rfl k77_30_99 rfl (by decide +kernel) (Nat.le_of_ble_eq_true rfl) rfl rfl (by decide +kernel) (by decide +kernel) rfl (Nat.le_of_ble_eq_true rfl) rfl ?_
  refine zw_aload_n 1 f9_0 rfl rfl ?_
  refine zw_obj 4 f9_1 rfl k9_3_99 (Nat.le_of_ble_eq_true rfl) ?_
  refine zw_aload_n 5 f9_4 rfl rfl ?_
  refine zw_sipush 400 8 f9_5 rfl (by decide +kernel) ?_
  refine zw_newarray 34 400 1 400 10 f9_8 rfl rfl rfl (by decide +kernel) (by decide +kernel) (by decide +kernel) rfl rfl (by decide +kernel) (by decide +kernel) ?_
  refine zw_putfield 13 f9_10 rfl g9_9_3 rfl rfl (Nat.le_of_ble_eq_true rfl) (by decide +kernel) ?_
  refine zw_aload_n 14 f9_13 rfl rfl ?_
  refine zw_sipush 400 17 f9_14 rfl (by decide +kernel) ?_
  refine zw_newarray 35 400 2 800 19 f9_17 rfl rfl rfl (by decide +kernel) (by decide +kernel) (by decide +kernel) rfl rfl (by decide +kernel) (by decide +kernel) ?_
  refine zw_putfield 22 f9_19 rfl g9_15_3 rfl rfl (Nat.le_of_ble_eq_true rfl) (by decide +kernel) ?_
  refine zw_aload_n 23 f9_22 rfl rfl ?_
  refine zw_sipush 400 26 f9_23 rfl (by decide +kernel) ?_
  refine zw_newarray 36 400 3 1200 28 f9_26 rfl rfl rfl (by decide +kernel) (by decide +kernel) (by decide +kernel) rfl rfl (by decide +kernel) (by decide +kernel) ?_
  refine zw_putfield 31 f9_28 rfl g9_18_3 rfl rfl (Nat.le_of_ble_eq_true rfl) (by decide +kernel) ?_
  refine zw_aload_n 32 f9_31 rfl rfl ?_
  refine zw_sipush 400 35 f9_32 rfl (by decide +kernel) ?_
  refine zw_newarray 37 400 4 1600 37 f9_35 rfl rfl rfl (by decide +kernel) (by decide +kernel) (by decide +kernel) rfl rfl (by decide +kernel) (by decide +kernel) ?_
  refine zw_putfield 40 f9_37 rfl g9_21_3 rfl rfl (Nat.le_of_ble_eq_true rfl) (by decide +kernel) ?_
  refine zw_vreturn f9_40 r9 u9 ⟨rfl, ?_⟩
  refine zw_heap [.inr (11, [.ref 1, .ref 11, .ref 22, .null, .null, .null, .null, .int 0]), .inr (4, [.int 0, .int 0, .ref 2, .ref 3, .ref 4, .ref 5, .ref 6, .ref 7, .ref 8, .ref 9, .ref 10]), .inl (0, 8, .inl (fun _ => 0)), .inl (0, 8, .inl (fun _ => 0)), .inl (0, 8, .inl (fun _ => 0)), .inl (0, 8, .inl (fun _ => 0)), .inl (0, 8, .inl (fun _ => 0)), .inl (0, 8, .inl (fun _ => 0)), .inl (0, 8, .inl (fun _ => 0)), .inl (0, 14, .inl (fun _ => 0)), .inl (0, 14, .inl (fun _ => 0)), .inr (10, [.ref 1, .ref 12, .ref 16, .ref 17, .ref 18, .ref 19, .int 0, .int 0, .long 0, .long 0, .ref 20, .ref 21, .int 0]), .inr (9, [.long 1, .long 0, .long 0, .long 0, .long 0, .int 0, .int 0, .ref 13, .ref 14, .ref 15]), .inl (1, 8, .inr (.inl (fun _ => 0))), .inl (0, 8, .inl (fun _ => 0)), .inl (0, 14, .inl (fun _ => 0)), .inl (0, 8, .inl (fun _ => 0)), .inl (0, 8, .inl (fun _ => 0)), .inl (0, 8, .inl (fun _ => 0)), .inl (0, 14, .inl (fun _ => 0)), .inl (0, 8, .inl (fun _ => 0)), .inl (0, 8, .inl (fun _ => 0)), .inr (10, [.ref 1, .ref 23, .ref 27, .ref 28, .ref 29, .ref 30, .int 0, .int 0, .long 0, .long 0, .ref 31, .ref 32, .int 0]), .inr (9, [.long 1, .long 0, .long 0, .long 0, .long 0, .int 0, .int 0, .ref 24, .ref 25, .ref 26]), .inl (1, 8, .inr (.inl (fun _ => 0))), .inl (0, 8, .inl (fun _ => 0)), .inl (0, 14, .inl (fun _ => 0)), .inl (0, 8, .inl (fun _ => 0)), .inl (0, 8, .inl (fun _ => 0)), .inl (0, 8, .inl (fun _ => 0)), .inl (0, 14, .inl (fun _ => 0)), .inl (0, 8, .inl (fun _ => 0)), .inl (0, 8, .inl (fun _ => 0)), .inr (3, [.int 0, .ref 34, .ref 35, .ref 36, .ref 37]), .inl (0, 400, .inl (fun _ => 0)), .inl (0, 400, .inl (fun _ => 0)), .inl (0, 400, .inl (fun _ => 0)), .inl (0, 400, .inl (fun _ => 0))] rfl ?_
  refine zw_putfield 56 f77_53 rfl g77_31_11 rfl rfl (Nat.le_of_ble_eq_true rfl) (by decide +kernel) ?_
  refine zw_aload_n 57 f77_56 rfl rfl ?_
  refine zw_new (ci := 5) 38 38 1923 60 f77_57 rfl (by decide +kernel) rfl rfl (by decide +kernel) (by decide +kernel) (by decide +kernel) ?_
  refine zw_dup 61 f77_60 rfl rfl ?_
  refine zw_init_v 64 43 3735 [.ref 38] [(0, .ref 38)] f77_61 rfl k77_37_99 rfl (by decide +kernel) (Nat.le_of_ble_eq_true rfl) rfl rfl (by decide +kernel) (by decide +kernel) rfl (Nat.le_of_ble_eq_true rfl) rfl ?_
  refine zw_aload_n 1 f24_0 rfl rfl ?_
  refine zw_obj 4 f24_1 rfl k24_3_99 (Nat.le_of_ble_eq_true rfl) ?_
  refine zw_aload_n 5 f24_4 rfl rfl ?_
  refine zw_sipush 151 8 f24_5 rfl (by decide +kernel) ?_
  refine zw_newarray 39 151 1 151 10 f24_8 rfl rfl rfl (by decide +kernel) (by decide +kernel) (by decide +kernel) rfl rfl (by decide +kernel) (by decide +kernel) ?_
  refine zw_putfield 13 f24_10 rfl g24_11_5 rfl rfl (Nat.le_of_ble_eq_true rfl) (by decide +kernel) ?_
  refine zw_aload_n 14 f24_13 rfl rfl ?_
  refine zw_sipush 151 17 f24_14 rfl (by decide +kernel) ?_
  refine zw_newarray 40 151 2 302 19 f24_17 rfl rfl rfl (by decide +kernel) (by decide +kernel) (by decide +kernel) rfl rfl (by decide +kernel) (by decide +kernel) ?_
  refine zw_putfield 22 f24_19 rfl g24_15_5 rfl rfl (Nat.le_of_ble_eq_true rfl) (by decide +kernel) ?_
  refine zw_aload_n 23 f24_22 rfl rfl ?_
  refine zw_sipush 151 26 f24_23 rfl (by decide +kernel) ?_
  refine zw_newarray 41 151 3 453 28 f24_26 rfl rfl rfl (by decide +kernel) (by decide +kernel) (by decide +kernel) rfl rfl (by decide +kernel) (by decide +kernel) ?_
  refine zw_putfield 31 f24_28 rfl g24_18_5 rfl rfl (Nat.le_of_ble_eq_true rfl) (by decide +kernel) ?_
  refine zw_aload_n 32 f24_31 rfl rfl ?_
  refine zw_sipush 151 35 f24_32 rfl (by decide +kernel) ?_
  refine zw_newarray 42 151 4 604 37 f24_35 rfl rfl rfl (by decide +kernel) (by decide +kernel) (by decide +kernel) rfl rfl (by decide +kernel) (by decide +kernel) ?_
  refine zw_putfield 40 f24_37 rfl g24_22_5 rfl rfl (Nat.le_of_ble_eq_true rfl) (by decide +kernel) ?_
  refine zw_aload_n 41 f24_40 rfl rfl ?_
  refine zw_sipush 1208 44 f24_41 rfl (by decide +kernel) ?_
  refine zw_newarray 43 1208 5 1812 46 f24_44 rfl rfl rfl (by decide +kernel) (by decide +kernel) (by decide +kernel) rfl rfl (by decide +kernel) (by decide +kernel) ?_
  refine zw_putfield 49 f24_46 rfl g24_25_5 rfl rfl (Nat.le_of_ble_eq_true rfl) (by decide +kernel) ?_
  refine zw_vreturn f24_49 r24 u24 ⟨rfl, ?_⟩
  refine zw_heap [.inr (11, [.ref 1, .ref 11, .ref 22, .ref 33, .null, .null, .null, .int 0]), .inr (4, [.int 0, .int 0, .ref 2, .ref 3, .ref 4, .ref 5, .ref 6, .ref 7, .ref 8, .ref 9, .ref 10]), .inl (0, 8, .inl (fun _ => 0)), .inl (0, 8, .inl (fun _ => 0)), .inl (0, 8, .inl (fun _ => 0)), .inl (0, 8, .inl (fun _ => 0)), .inl (0, 8, .inl (fun _ => 0)), .inl (0, 8, .inl (fun _ => 0)), .inl (0, 8, .inl (fun _ => 0)), .inl (0, 14, .inl (fun _ => 0)), .inl (0, 14, .inl (fun _ => 0)), .inr (10, [.ref 1, .ref 12, .ref 16, .ref 17, .ref 18, .ref 19, .int 0, .int 0, .long 0, .long 0, .ref 20, .ref 21, .int 0]), .inr (9, [.long 1, .long 0, .long 0, .long 0, .long 0, .int 0, .int 0, .ref 13, .ref 14, .ref 15]), .inl (1, 8, .inr (.inl (fun _ => 0))), .inl (0, 8, .inl (fun _ => 0)), .inl (0, 14, .inl (fun _ => 0)), .inl (0, 8, .inl (fun _ => 0)), .inl (0, 8, .inl (fun _ => 0)), .inl (0, 8, .inl (fun _ => 0)), .inl (0, 14, .inl (fun _ => 0)), .inl (0, 8, .inl (fun _ => 0)), .inl (0, 8, .inl (fun _ => 0)), .inr (10, [.ref 1, .ref 23, .ref 27, .ref 28, .ref 29, .ref 30, .int 0, .int 0, .long 0, .long 0, .ref 31, .ref 32, .int 0]), .inr (9, [.long 1, .long 0, .long 0, .long 0, .long 0, .int 0, .int 0, .ref 24, .ref 25, .ref 26]), .inl (1, 8, .inr (.inl (fun _ => 0))), .inl (0, 8, .inl (fun _ => 0)), .inl (0, 14, .inl (fun _ => 0)), .inl (0, 8, .inl (fun _ => 0)), .inl (0, 8, .inl (fun _ => 0)), .inl (0, 8, .inl (fun _ => 0)), .inl (0, 14, .inl (fun _ => 0)), .inl (0, 8, .inl (fun _ => 0)), .inl (0, 8, .inl (fun _ => 0)), .inr (3, [.int 0, .ref 34, .ref 35, .ref 36, .ref 37]), .inl (0, 400, .inl (fun _ => 0)), .inl (0, 400, .inl (fun _ => 0)), .inl (0, 400, .inl (fun _ => 0)), .inl (0, 400, .inl (fun _ => 0)), .inr (5, [.ref 39, .ref 40, .ref 41, .ref 42, .ref 43, .long 0, .long 0, .long 0, .long 0]), .inl (1, 151, .inr (.inl (fun _ => 0))), .inl (1, 151, .inr (.inl (fun _ => 0))), .inl (0, 151, .inl (fun _ => 0)), .inl (0, 151, .inl (fun _ => 0)), .inl (1, 1208, .inr (.inl (fun _ => 0)))] rfl ?_
  refine zw_putfield 67 f77_64 rfl g77_38_11 rfl rfl (Nat.le_of_ble_eq_true rfl) (by decide +kernel) ?_
  refine zw_aload_n 68 f77_67 rfl rfl ?_
  refine zw_new (ci := 0) 44 44 3741 71 f77_68 rfl (by decide +kernel) rfl rfl (by decide +kernel) (by decide +kernel) (by decide +kernel) ?_
  refine zw_dup 72 f77_71 rfl rfl ?_
  refine zw_init_v 75 45 3791 [.ref 44] [(0, .ref 44)] f77_72 rfl k77_44_99 rfl (by decide +kernel) (Nat.le_of_ble_eq_true rfl) rfl rfl (by decide +kernel) (by decide +kernel) rfl (Nat.le_of_ble_eq_true rfl) rfl ?_
  refine zw_aload_n 1 f0_0 rfl rfl ?_
  refine zw_obj 4 f0_1 rfl k0_3_99 (Nat.le_of_ble_eq_true rfl) ?_
  refine zw_aload_n 5 f0_4 rfl rfl ?_
  refine zw_bipush 50 7 f0_5 rfl (by decide +kernel) ?_
  refine zw_newarray 45 50 1 50 9 f0_7 rfl rfl rfl (by decide +kernel) (by decide +kernel) (by decide +kernel) rfl rfl (by decide +kernel) (by decide +kernel) ?_
  refine zw_putfield 12 f0_9 rfl g0_9_0 rfl rfl (Nat.le_of_ble_eq_true rfl) (by decide +kernel) ?_
  refine zw_vreturn f0_12 r0 u0 ⟨rfl, ?_⟩
  refine zw_putfield 78 f77_75 rfl g77_45_11 rfl rfl (Nat.le_of_ble_eq_true rfl) (by decide +kernel) ?_
  refine zw_aload_n 79 f77_78 rfl rfl ?_
  refine zw_iconst 5 80 f77_79 rfl (by decide +kernel) ?_
  refine zw_anewarray 46 5 46 3796 83 f77_80 rfl (by decide +kernel) rfl (by decide +kernel) (by decide +kernel) (by decide +kernel) rfl rfl (by decide +kernel) (by decide +kernel) ?_
  refine zw_putfield 86 f77_83 rfl g77_51_11 rfl rfl (Nat.le_of_ble_eq_true rfl) (by decide +kernel) ?_
  refine zw_aload_n 87 f77_86 rfl rfl ?_
  refine zw_getfield 90 f77_87 rfl g77_51_11 rfl rfl ?_
  refine zw_iconst 0 91 f77_90 rfl (by decide +kernel) ?_
  refine zw_new (ci := 8) 47 47 3797 94 f77_91 rfl (by decide +kernel) rfl rfl (by decide +kernel) (by decide +kernel) (by decide +kernel) ?_
  refine zw_dup 95 f77_94 rfl rfl ?_
  refine zw_aload_n 96 f77_95 rfl rfl ?_
  refine zw_getfield 99 f77_96 rfl g77_45_11 rfl rfl ?_
  refine zw_init_v 102 47 3797 [.ref 47, .ref 44] [(0, .ref 47), (1, .ref 44)] f77_99 rfl k77_55_99 rfl (by decide +kernel) (Nat.le_of_ble_eq_true rfl) rfl rfl (by decide +kernel) (by decide +kernel) rfl (Nat.le_of_ble_eq_true rfl) rfl ?_
  refine zw_aload_n 1 f36_0 rfl rfl ?_
  refine zw_obj 4 f36_1 rfl k36_1_99 (Nat.le_of_ble_eq_true rfl) ?_
  refine zw_aload_n 5 f36_4 rfl rfl ?_
  refine zw_aload_n 6 f36_5 rfl rfl ?_
  refine zw_putfield 9 f36_6 rfl g36_7_8 rfl rfl (Nat.le_of_ble_eq_true rfl) (by decide +kernel) ?_
  refine zw_vreturn f36_9 r36 u36 ⟨rfl, ?_⟩
  refine zw_heap [.inr (11, [.ref 1, .ref 11, .ref 22, .ref 33, .ref 38, .ref 44, .ref 46, .int 0]), .inr (4, [.int 0, .int 0, .ref 2, .ref 3, .ref 4, .ref 5, .ref 6, .ref 7, .ref 8, .ref 9, .ref 10]), .inl (0, 8, .inl (fun _ => 0)), .inl (0, 8, .inl (fun _ => 0)), .inl (0, 8, .inl (fun _ => 0)), .inl (0, 8, .inl (fun _ => 0)), .inl (0, 8, .inl (fun _ => 0)), .inl (0, 8, .inl (fun _ => 0)), .inl (0, 8, .inl (fun _ => 0)), .inl (0, 14, .inl (fun _ => 0)), .inl (0, 14, .inl (fun _ => 0)), .inr (10, [.ref 1, .ref 12, .ref 16, .ref 17, .ref 18, .ref 19, .int 0, .int 0, .long 0, .long 0, .ref 20, .ref 21, .int 0]), .inr (9, [.long 1, .long 0, .long 0, .long 0, .long 0, .int 0, .int 0, .ref 13, .ref 14, .ref 15]), .inl (1, 8, .inr (.inl (fun _ => 0))), .inl (0, 8, .inl (fun _ => 0)), .inl (0, 14, .inl (fun _ => 0)), .inl (0, 8, .inl (fun _ => 0)), .inl (0, 8, .inl (fun _ => 0)), .inl (0, 8, .inl (fun _ => 0)), .inl (0, 14, .inl (fun _ => 0)), .inl (0, 8, .inl (fun _ => 0)), .inl (0, 8, .inl (fun _ => 0)), .inr (10, [.ref 1, .ref 23, .ref 27, .ref 28, .ref 29, .ref 30, .int 0, .int 0, .long 0, .long 0, .ref 31, .ref 32, .int 0]), .inr (9, [.long 1, .long 0, .long 0, .long 0, .long 0, .int 0, .int 0, .ref 24, .ref 25, .ref 26]), .inl (1, 8, .inr (.inl (fun _ => 0))), .inl (0, 8, .inl (fun _ => 0)), .inl (0, 14, .inl (fun _ => 0)), .inl (0, 8, .inl (fun _ => 0)), .inl (0, 8, .inl (fun _ => 0)), .inl (0, 8, .inl (fun _ => 0)), .inl (0, 14, .inl (fun _ => 0)), .inl (0, 8, .inl (fun _ => 0)), .inl (0, 8, .inl (fun _ => 0)), .inr (3, [.int 0, .ref 34, .ref 35, .ref 36, .ref 37]), .inl (0, 400, .inl (fun _ => 0)), .inl (0, 400, .inl (fun _ => 0)), .inl (0, 400, .inl (fun _ => 0)), .inl (0, 400, .inl (fun _ => 0)), .inr (5, [.ref 39, .ref 40, .ref 41, .ref 42, .ref 43, .long 0, .long 0, .long 0, .long 0]), .inl (1, 151, .inr (.inl (fun _ => 0))), .inl (1, 151, .inr (.inl (fun _ => 0))), .inl (0, 151, .inl (fun _ => 0)), .inl (0, 151, .inl (fun _ => 0)), .inl (1, 1208, .inr (.inl (fun _ => 0))), .inr (0, [.int 0, .int 0, .int 0, .int 0, .int 0, .ref 45]), .inl (0, 50, .inl (fun _ => 0)), .inl (3, 5, .inr (.inr (.inr (.inr (fun _ => none))))), .inr (8, [.ref 44])] rfl ?_
  refine zw_aastore 0 103 f77_102 rfl rfl rfl (by decide +kernel) (by decide +kernel) (by decide +kernel) (by decide +kernel) ?_
  refine zw_aload_n 104 f77_103 rfl rfl ?_
  refine zw_getfield 107 f77_104 rfl g77_51_11 rfl rfl ?_
  refine zw_iconst 1 108 f77_107 rfl (by decide +kernel) ?_
  refine zw_new (ci := 6) 48 48 3798 111 f77_108 rfl (by decide +kernel) rfl rfl (by decide +kernel) (by decide +kernel) (by decide +kernel) ?_
  refine zw_dup 112 f77_111 rfl rfl ?_
  refine zw_aload_n 113 f77_112 rfl rfl ?_
  refine zw_getfield 116 f77_113 rfl g77_45_11 rfl rfl ?_
  refine zw_init_v 119 48 3798 [.ref 48, .ref 44] [(0, .ref 48), (1, .ref 44)] f77_116 rfl k77_60_99 rfl (by decide +kernel) (Nat.le_of_ble_eq_true rfl) rfl rfl (by decide +kernel) (by decide +kernel) rfl (Nat.le_of_ble_eq_true rfl) rfl ?_
  refine zw_aload_n 1 f31_0 rfl rfl ?_
  refine zw_aload_n 2 f31_1 rfl rfl ?_
  refine zw_init_v 5 0 0 [.ref 48, .ref 44] [(0, .ref 48), (1, .ref 44)] f31_2 rfl k31_1_99 rfl (by decide +kernel) (Nat.le_of_ble_eq_true rfl) rfl rfl (by decide +kernel) (by decide +kernel) rfl (Nat.le_of_ble_eq_true rfl) rfl ?_
  refine zw_aload_n 1 f36_0 rfl rfl ?_
  refine zw_obj 4 f36_1 rfl k36_1_99 (Nat.le_of_ble_eq_true rfl) ?_
  refine zw_aload_n 5 f36_4 rfl rfl ?_
  refine zw_aload_n 6 f36_5 rfl rfl ?_
  refine zw_putfield 9 f36_6 rfl g36_7_6 rfl rfl (Nat.le_of_ble_eq_true rfl) (by decide +kernel) ?_
  refine zw_vreturn f36_9 r36 u36 ⟨rfl, ?_⟩
  refine zw_vreturn f31_5 r31 u31 ⟨rfl, ?_⟩
  refine zw_aastore 1 120 f77_119 rfl rfl rfl (by decide +kernel) (by decide +kernel) (by decide +kernel) (by decide +kernel) ?_
  refine zw_aload_n 121 f77_120 rfl rfl ?_
  refine zw_getfield 124 f77_121 rfl g77_51_11 rfl rfl ?_
  refine zw_iconst 2 125 f77_124 rfl (by decide +kernel) ?_
  refine zw_new (ci := 7) 49 49 3799 128 f77_125 rfl (by decide +kernel) rfl rfl (by decide +kernel) (by decide +kernel) (by decide +kernel) ?_
  refine zw_dup 129 f77_128 rfl rfl ?_
  refine zw_aload_n 130 f77_129 rfl rfl ?_
  refine zw_getfield 133 f77_130 rfl g77_45_11 rfl rfl ?_
  refine zw_init_v 136 49 3799 [.ref 49, .ref 44] [(0, .ref 49), (1, .ref 44)] f77_133 rfl k77_63_99 rfl (by decide +kernel) (Nat.le_of_ble_eq_true rfl) rfl rfl (by decide +kernel) (by decide +kernel) rfl (Nat.le_of_ble_eq_true rfl) rfl ?_
  refine zw_aload_n 1 f34_0 rfl rfl ?_
  refine zw_aload_n 2 f34_1 rfl rfl ?_
  refine zw_init_v 5 0 0 [.ref 49, .ref 44] [(0, .ref 49), (1, .ref 44)] f34_2 rfl k34_1_99 rfl (by decide +kernel) (Nat.le_of_ble_eq_true rfl) rfl rfl (by decide +kernel) (by decide +kernel) rfl (Nat.le_of_ble_eq_true rfl) rfl ?_
  refine zw_aload_n 1 f36_0 rfl rfl ?_
  refine zw_obj 4 f36_1 rfl k36_1_99 (Nat.le_of_ble_eq_true rfl) ?_
  refine zw_aload_n 5 f36_4 rfl rfl ?_
  refine zw_aload_n 6 f36_5 rfl rfl ?_
  refine zw_putfield 9 f36_6 rfl g36_7_7 rfl rfl (Nat.le_of_ble_eq_true rfl) (by decide +kernel) ?_
  refine zw_vreturn f36_9 r36 u36 ⟨rfl, ?_⟩
  refine zw_heap [.inr (11, [.ref 1, .ref 11, .ref 22, .ref 33, .ref 38, .ref 44, .ref 46, .int 0]), .inr (4, [.int 0, .int 0, .ref 2, .ref 3, .ref 4, .ref 5, .ref 6, .ref 7, .ref 8, .ref 9, .ref 10]), .inl (0, 8, .inl (fun _ => 0)), .inl (0, 8, .inl (fun _ => 0)), .inl (0, 8, .inl (fun _ => 0)), .inl (0, 8, .inl (fun _ => 0)), .inl (0, 8, .inl (fun _ => 0)), .inl (0, 8, .inl (fun _ => 0)), .inl (0, 8, .inl (fun _ => 0)), .inl (0, 14, .inl (fun _ => 0)), .inl (0, 14, .inl (fun _ => 0)), .inr (10, [.ref 1, .ref 12, .ref 16, .ref 17, .ref 18, .ref 19, .int 0, .int 0, .long 0, .long 0, .ref 20, .ref 21, .int 0]), .inr (9, [.long 1, .long 0, .long 0, .long 0, .long 0, .int 0, .int 0, .ref 13, .ref 14, .ref 15]), .inl (1, 8, .inr (.inl (fun _ => 0))), .inl (0, 8, .inl (fun _ => 0)), .inl (0, 14, .inl (fun _ => 0)), .inl (0, 8, .inl (fun _ => 0)), .inl (0, 8, .inl (fun _ => 0)), .inl (0, 8, .inl (fun _ => 0)), .inl (0, 14, .inl (fun _ => 0)), .inl (0, 8, .inl (fun _ => 0)), .inl (0, 8, .inl (fun _ => 0)), .inr (10, [.ref 1, .ref 23, .ref 27, .ref 28, .ref 29, .ref 30, .int 0, .int 0, .long 0, .long 0, .ref 31, .ref 32, .int 0]), .inr (9, [.long 1, .long 0, .long 0, .long 0, .long 0, .int 0, .int 0, .ref 24, .ref 25, .ref 26]), .inl (1, 8, .inr (.inl (fun _ => 0))), .inl (0, 8, .inl (fun _ => 0)), .inl (0, 14, .inl (fun _ => 0)), .inl (0, 8, .inl (fun _ => 0)), .inl (0, 8, .inl (fun _ => 0)), .inl (0, 8, .inl (fun _ => 0)), .inl (0, 14, .inl (fun _ => 0)), .inl (0, 8, .inl (fun _ => 0)), .inl (0, 8, .inl (fun _ => 0)), .inr (3, [.int 0, .ref 34, .ref 35, .ref 36, .ref 37]), .inl (0, 400, .inl (fun _ => 0)), .inl (0, 400, .inl (fun _ => 0)), .inl (0, 400, .inl (fun _ => 0)), .inl (0, 400, .inl (fun _ => 0)), .inr (5, [.ref 39, .ref 40, .ref 41, .ref 42, .ref 43, .long 0, .long 0, .long 0, .long 0]), .inl (1, 151, .inr (.inl (fun _ => 0))), .inl (1, 151, .inr (.inl (fun _ => 0))), .inl (0, 151, .inl (fun _ => 0)), .inl (0, 151, .inl (fun _ => 0)), .inl (1, 1208, .inr (.inl (fun _ => 0))), .inr (0, [.int 0, .int 0, .int 0, .int 0, .int 0, .ref 45]), .inl (0, 50, .inl (fun _ => 0)), .inl (3, 5, .inr (.inr (.inr (.inr (va_up (va_up (fun _ => none) 0 (some 47)) 1 (some 48)))))), .inr (8, [.ref 44]), .inr (6, [.ref 44]), .inr (7, [.ref 44])] rfl ?_
  refine zw_vreturn f34_5 r34 u34 ⟨rfl, ?_⟩
  refine zw_aastore 2 137 f77_136 rfl rfl rfl (by decide +kernel) (by decide +kernel) (by decide +kernel) (by decide +kernel) ?_
  refine zw_aload_n 138 f77_137 rfl rfl ?_
  refine zw_getfield 141 f77_138 rfl g77_51_11 rfl rfl ?_
  refine zw_iconst 3 142 f77_141 rfl (by decide +kernel) ?_
  refine zw_new (ci := 2) 50 50 3800 145 f77_142 rfl (by decide +kernel) rfl rfl (by decide +kernel) (by decide +kernel) (by decide +kernel) ?_
  refine zw_dup 146 f77_145 rfl rfl ?_
  refine zw_aload_n 147 f77_146 rfl rfl ?_
  refine zw_getfield 150 f77_147 rfl g77_45_11 rfl rfl ?_
  refine zw_init_v 153 50 3800 [.ref 50, .ref 44] [(0, .ref 50), (1, .ref 44)] f77_150 rfl k77_66_99 rfl (by decide +kernel) (Nat.le_of_ble_eq_true rfl) rfl rfl (by decide +kernel) (by decide +kernel) rfl (Nat.le_of_ble_eq_true rfl) rfl ?_
  refine zw_aload_n 1 f6_0 rfl rfl ?_
  refine zw_aload_n 2 f6_1 rfl rfl ?_
  refine zw_init_v 5 0 0 [.ref 50, .ref 44] [(0, .ref 50), (1, .ref 44)] f6_2 rfl k6_1_99 rfl (by decide +kernel) (Nat.le_of_ble_eq_true rfl) rfl rfl (by decide +kernel) (by decide +kernel) rfl (Nat.le_of_ble_eq_true rfl) rfl ?_
  refine zw_aload_n 1 f36_0 rfl rfl ?_
  refine zw_obj 4 f36_1 rfl k36_1_99 (Nat.le_of_ble_eq_true rfl) ?_
  refine zw_aload_n 5 f36_4 rfl rfl ?_
  refine zw_aload_n 6 f36_5 rfl rfl ?_
  refine zw_putfield 9 f36_6 rfl g36_7_2 rfl rfl (Nat.le_of_ble_eq_true rfl) (by decide +kernel) ?_
  refine zw_vreturn f36_9 r36 u36 ⟨rfl, ?_⟩
  refine zw_vreturn f6_5 r6 u6 ⟨rfl, ?_⟩
  refine zw_aastore 3 154 f77_153 rfl rfl rfl (by decide +kernel) (by decide +kernel) (by decide +kernel) (by decide +kernel) ?_
  refine zw_aload_n 155 f77_154 rfl rfl ?_
  refine zw_getfield 158 f77_155 rfl g77_51_11 rfl rfl ?_
  refine zw_iconst 4 159 f77_158 rfl (by decide +kernel) ?_
  refine zw_new (ci := 1) 51 51 3801 162 f77_159 rfl (by decide +kernel) rfl rfl (by decide +kernel) (by decide +kernel) (by decide +kernel) ?_
  refine zw_dup 163 f77_162 rfl rfl ?_
  refine zw_aload_n 164 f77_163 rfl rfl ?_
  refine zw_getfield 167 f77_164 rfl g77_45_11 rfl rfl ?_
  refine zw_init_v 170 51 3801 [.ref 51, .ref 44] [(0, .ref 51), (1, .ref 44)] f77_167 rfl k77_69_99 rfl (by decide +kernel) (Nat.le_of_ble_eq_true rfl) rfl rfl (by decide +kernel) (by decide +kernel) rfl (Nat.le_of_ble_eq_true rfl) rfl ?_
  refine zw_aload_n 1 f3_0 rfl rfl ?_
  refine zw_aload_n 2 f3_1 rfl rfl ?_
  refine zw_init_v 5 0 0 [.ref 51, .ref 44] [(0, .ref 51), (1, .ref 44)] f3_2 rfl k3_1_99 rfl (by decide +kernel) (Nat.le_of_ble_eq_true rfl) rfl rfl (by decide +kernel) (by decide +kernel) rfl (Nat.le_of_ble_eq_true rfl) rfl ?_
  refine zw_aload_n 1 f6_0 rfl rfl ?_
  refine zw_aload_n 2 f6_1 rfl rfl ?_
  refine zw_init_v 5 0 0 [.ref 51, .ref 44] [(0, .ref 51), (1, .ref 44)] f6_2 rfl k6_1_99 rfl (by decide +kernel) (Nat.le_of_ble_eq_true rfl) rfl rfl (by decide +kernel) (by decide +kernel) rfl (Nat.le_of_ble_eq_true rfl) rfl ?_
  refine zw_aload_n 1 f36_0 rfl rfl ?_
  refine zw_obj 4 f36_1 rfl k36_1_99 (Nat.le_of_ble_eq_true rfl) ?_
  refine zw_aload_n 5 f36_4 rfl rfl ?_
  refine zw_aload_n 6 f36_5 rfl rfl ?_
  refine zw_putfield 9 f36_6 rfl g36_7_1 rfl rfl (Nat.le_of_ble_eq_true rfl) (by decide +kernel) ?_
  refine zw_vreturn f36_9 r36 u36 ⟨rfl, ?_⟩
  refine zw_heap [.inr (11, [.ref 1, .ref 11, .ref 22, .ref 33, .ref 38, .ref 44, .ref 46, .int 0]), .inr (4, [.int 0, .int 0, .ref 2, .ref 3, .ref 4, .ref 5, .ref 6, .ref 7, .ref 8, .ref 9, .ref 10]), .inl (0, 8, .inl (fun _ => 0)), .inl (0, 8, .inl (fun _ => 0)), .inl (0, 8, .inl (fun _ => 0)), .inl (0, 8, .inl (fun _ => 0)), .inl (0, 8, .inl (fun _ => 0)), .inl (0, 8, .inl (fun _ => 0)), .inl (0, 8, .inl (fun _ => 0)), .inl (0, 14, .inl (fun _ => 0)), .inl (0, 14, .inl (fun _ => 0)), .inr (10, [.ref 1, .ref 12, .ref 16, .ref 17, .ref 18, .ref 19, .int 0, .int 0, .long 0, .long 0, .ref 20, .ref 21, .int 0]), .inr (9, [.long 1, .long 0, .long 0, .long 0, .long 0, .int 0, .int 0, .ref 13, .ref 14, .ref 15]), .inl (1, 8, .inr (.inl (fun _ => 0))), .inl (0, 8, .inl (fun _ => 0)), .inl (0, 14, .inl (fun _ => 0)), .inl (0, 8, .inl (fun _ => 0)), .inl (0, 8, .inl (fun _ => 0)), .inl (0, 8, .inl (fun _ => 0)), .inl (0, 14, .inl (fun _ => 0)), .inl (0, 8, .inl (fun _ => 0)), .inl (0, 8, .inl (fun _ => 0)), .inr (10, [.ref 1, .ref 23, .ref 27, .ref 28, .ref 29, .ref 30, .int 0, .int 0, .long 0, .long 0, .ref 31, .ref 32, .int 0]), .inr (9, [.long 1, .long 0, .long 0, .long 0, .long 0, .int 0, .int 0, .ref 24, .ref 25, .ref 26]), .inl (1, 8, .inr (.inl (fun _ => 0))), .inl (0, 8, .inl (fun _ => 0)), .inl (0, 14, .inl (fun _ => 0)), .inl (0, 8, .inl (fun _ => 0)), .inl (0, 8, .inl (fun _ => 0)), .inl (0, 8, .inl (fun _ => 0)), .inl (0, 14, .inl (fun _ => 0)), .inl (0, 8, .inl (fun _ => 0)), .inl (0, 8, .inl (fun _ => 0)), .inr (3, [.int 0, .ref 34, .ref 35, .ref 36, .ref 37]), .inl (0, 400, .inl (fun _ => 0)), .inl (0, 400, .inl (fun _ => 0)), .inl (0, 400, .inl (fun _ => 0)), .inl (0, 400, .inl (fun _ => 0)), .inr (5, [.ref 39, .ref 40, .ref 41, .ref 42, .ref 43, .long 0, .long 0, .long 0, .long 0]), .inl (1, 151, .inr (.inl (fun _ => 0))), .inl (1, 151, .inr (.inl (fun _ => 0))), .inl (0, 151, .inl (fun _ => 0)), .inl (0, 151, .inl (fun _ => 0)), .inl (1, 1208, .inr (.inl (fun _ => 0))), .inr (0, [.int 0, .int 0, .int 0, .int 0, .int 0, .ref 45]), .inl (0, 50, .inl (fun _ => 0)), .inl (3, 5, .inr (.inr (.inr (.inr (va_up (va_up (va_up (va_up (fun _ => none) 0 (some 47)) 1 (some 48)) 2 (some 49)) 3 (some 50)))))), .inr (8, [.ref 44]), .inr (6, [.ref 44]), .inr (7, [.ref 44]), .inr (2, [.ref 44]), .inr (1, [.ref 44])] rfl ?_
  refine zw_vreturn f6_5 r6 u6 ⟨rfl, ?_⟩
  refine zw_vreturn f3_5 r3 u3 ⟨rfl, ?_⟩
  refine zw_aastore 4 171 f77_170 rfl rfl rfl (by decide +kernel) (by decide +kernel) (by decide +kernel) (by decide +kernel) ?_
  refine zw_aload_n 172 f77_171 rfl rfl ?_
  refine zw_iconst 0 173 f77_172 rfl (by decide +kernel) ?_
  refine zw_putfieldS 176 f77_173 rfl g77_70_11 rfl rfl rfl (by decide +kernel) ?_
  refine zw_vreturn f77_176 r77 u77 ?_
  exact ⟨rfl, rfl⟩
def hF : List va_E := [.inr (11, [.ref 1, .ref 11, .ref 22, .ref 33, .ref 38, .ref 44, .ref 46, .int 0]), .inr (4, [.int 0, .int 0, .ref 2, .ref 3, .ref 4, .ref 5, .ref 6, .ref 7, .ref 8, .ref 9, .ref 10]), .inl (0, 8, .inl (fun _ => 0)), .inl (0, 8, .inl (fun _ => 0)), .inl (0, 8, .inl (fun _ => 0)), .inl (0, 8, .inl (fun _ => 0)), .inl (0, 8, .inl (fun _ => 0)), .inl (0, 8, .inl (fun _ => 0)), .inl (0, 8, .inl (fun _ => 0)), .inl (0, 14, .inl (fun _ => 0)), .inl (0, 14, .inl (fun _ => 0)), .inr (10, [.ref 1, .ref 12, .ref 16, .ref 17, .ref 18, .ref 19, .int 0, .int 0, .long 0, .long 0, .ref 20, .ref 21, .int 0]), .inr (9, [.long 1, .long 0, .long 0, .long 0, .long 0, .int 0, .int 0, .ref 13, .ref 14, .ref 15]), .inl (1, 8, .inr (.inl (fun _ => 0))), .inl (0, 8, .inl (fun _ => 0)), .inl (0, 14, .inl (fun _ => 0)), .inl (0, 8, .inl (fun _ => 0)), .inl (0, 8, .inl (fun _ => 0)), .inl (0, 8, .inl (fun _ => 0)), .inl (0, 14, .inl (fun _ => 0)), .inl (0, 8, .inl (fun _ => 0)), .inl (0, 8, .inl (fun _ => 0)), .inr (10, [.ref 1, .ref 23, .ref 27, .ref 28, .ref 29, .ref 30, .int 0, .int 0, .long 0, .long 0, .ref 31, .ref 32, .int 0]), .inr (9, [.long 1, .long 0, .long 0, .long 0, .long 0, .int 0, .int 0, .ref 24, .ref 25, .ref 26]), .inl (1, 8, .inr (.inl (fun _ => 0))), .inl (0, 8, .inl (fun _ => 0)), .inl (0, 14, .inl (fun _ => 0)), .inl (0, 8, .inl (fun _ => 0)), .inl (0, 8, .inl (fun _ => 0)), .inl (0, 8, .inl (fun _ => 0)), .inl (0, 14, .inl (fun _ => 0)), .inl (0, 8, .inl (fun _ => 0)), .inl (0, 8, .inl (fun _ => 0)), .inr (3, [.int 0, .ref 34, .ref 35, .ref 36, .ref 37]), .inl (0, 400, .inl (fun _ => 0)), .inl (0, 400, .inl (fun _ => 0)), .inl (0, 400, .inl (fun _ => 0)), .inl (0, 400, .inl (fun _ => 0)), .inr (5, [.ref 39, .ref 40, .ref 41, .ref 42, .ref 43, .long 0, .long 0, .long 0, .long 0]), .inl (1, 151, .inr (.inl (fun _ => 0))), .inl (1, 151, .inr (.inl (fun _ => 0))), .inl (0, 151, .inl (fun _ => 0)), .inl (0, 151, .inl (fun _ => 0)), .inl (1, 1208, .inr (.inl (fun _ => 0))), .inr (0, [.int 0, .int 0, .int 0, .int 0, .int 0, .ref 45]), .inl (0, 50, .inl (fun _ => 0)), .inl (3, 5, .inr (.inr (.inr (.inr (va_up (va_up (va_up (va_up (va_up (fun _ => none) 0 (some 47)) 1 (some 48)) 2 (some 49)) 3 (some 50)) 4 (some 51)))))), .inr (8, [.ref 44]), .inr (6, [.ref 44]), .inr (7, [.ref 44]), .inr (2, [.ref 44]), .inr (1, [.ref 44]), .inr (12, [.int 0, .ref 53, .ref 54, .ref 55, .ref 56, .ref 57, .ref 58, .ref 59, .int 0, .ref 60, .ref 61, .ref 62, .long 1, .long 0, .long 0, .long 0, .ref 63, .ref 64, .ref 65, .ref 66, .int 0, .long 0, .int 1, .ref 67, .ref 68, .ref 69, .ref 70, .int 0, .ref 71, .int 0, .ref 72, .ref 73, .ref 74, .ref 75, .int 0, .int 0, .long 0, .long 0, .int 0, .long 0, .ref 76, .int (-1), .int 0, .long 0, .long 0, .long 0, .long 0, .int 0, .ref 77, .ref 78, .ref 79, .ref 80, .ref 81, .int 0, .int 0]), .inl (0, 8, .inl (fun _ => 0)), .inl (0, 8, .inl (fun _ => 0)), .inl (0, 8, .inl (fun _ => 0)), .inl (0, 8, .inl (fun _ => 0)), .inl (0, 8, .inl (fun _ => 0)), .inl (0, 8, .inl (fun _ => 0)), .inl (0, 8, .inl (fun _ => 0)), .inl (0, 14, .inl (fun _ => 0)), .inl (0, 14, .inl (fun _ => 0)), .inl (0, 14, .inl (fun _ => 0)), .inl (1, 8, .inr (.inl (fun _ => 0))), .inl (2, 14, .inl (fun _ => 0)), .inl (2, 8, .inl (fun _ => 0)), .inl (0, 8, .inl (fun _ => 0)), .inl (0, 400, .inl (fun _ => 0)), .inl (0, 400, .inl (fun _ => 0)), .inl (1, 400, .inr (.inl (fun _ => 0))), .inl (1, 400, .inr (.inl (fun _ => 0))), .inl (0, 50, .inl (fun _ => 0)), .inl (0, 8, .inl (fun _ => 0)), .inl (0, 8, .inl (fun _ => 0)), .inl (0, 8, .inl (fun _ => 0)), .inl (0, 14, .inl (fun _ => 0)), .inl (1, 11, .inr (.inl (fun _ => 0))), .inl (1, 8, .inr (.inl (fun _ => 0))), .inl (2, 14, .inl (fun _ => 0)), .inl (2, 8, .inl (fun _ => 0)), .inl (0, 8, .inl (fun _ => 0)), .inl (1, 1661, .inr (.inl (fun _ => 0)))]
set_option maxRecDepth 100000 in
set_option maxHeartbeats 0 in
theorem cM_init (ro : UInt32 → Nat × (Nat → Int32)) : zWp ro 119 0 [(0, .ref 52)] [] (hX ++ [.inr (12, [.int 0, .null, .null, .null, .null, .null, .null, .null, .int 0, .null, .null, .null, .long 0, .long 0, .long 0, .long 0, .null, .null, .null, .null, .int 0, .long 0, .int 0, .null, .null, .null, .null, .int 0, .null, .int 0, .null, .null, .null, .null, .int 0, .int 0, .long 0, .long 0, .int 0, .long 0, .null, .int 0, .int 0, .long 0, .long 0, .long 0, .long 0, .int 0, .null, .null, .null, .null, .null, .int 0, .int 0])]) 0 0 (fun r h1 => r = none ∧ h1 = hF) := by
  refine zw_heap [.inr (11, [.ref 1, .ref 11, .ref 22, .ref 33, .ref 38, .ref 44, .ref 46, .int 0]), .inr (4, [.int 0, .int 0, .ref 2, .ref 3, .ref 4, .ref 5, .ref 6, .ref 7, .ref 8, .ref 9, .ref 10]), .inl (0, 8, .inl (fun _ => 0)), .inl (0, 8, .inl (fun _ => 0)), .inl (0, 8, .inl (fun _ => 0)), .inl (0, 8, .inl (fun _ => 0)), .inl (0, 8, .inl (fun _ => 0)), .inl (0, 8, .inl (fun _ => 0)), .inl (0, 8, .inl (fun _ => 0)), .inl (0, 14, .inl (fun _ => 0)), .inl (0, 14, .inl (fun _ => 0)), .inr (10, [.ref 1, .ref 12, .ref 16, .ref 17, .ref 18, .ref 19, .int 0, .int 0, .long 0, .long 0, .ref 20, .ref 21, .int 0]), .inr (9, [.long 1, .long 0, .long 0, .long 0, .long 0, .int 0, .int 0, .ref 13, .ref 14, .ref 15]), .inl (1, 8, .inr (.inl (fun _ => 0))), .inl (0, 8, .inl (fun _ => 0)), .inl (0, 14, .inl (fun _ => 0)), .inl (0, 8, .inl (fun _ => 0)), .inl (0, 8, .inl (fun _ => 0)), .inl (0, 8, .inl (fun _ => 0)), .inl (0, 14, .inl (fun _ => 0)), .inl (0, 8, .inl (fun _ => 0)), .inl (0, 8, .inl (fun _ => 0)), .inr (10, [.ref 1, .ref 23, .ref 27, .ref 28, .ref 29, .ref 30, .int 0, .int 0, .long 0, .long 0, .ref 31, .ref 32, .int 0]), .inr (9, [.long 1, .long 0, .long 0, .long 0, .long 0, .int 0, .int 0, .ref 24, .ref 25, .ref 26]), .inl (1, 8, .inr (.inl (fun _ => 0))), .inl (0, 8, .inl (fun _ => 0)), .inl (0, 14, .inl (fun _ => 0)), .inl (0, 8, .inl (fun _ => 0)), .inl (0, 8, .inl (fun _ => 0)), .inl (0, 8, .inl (fun _ => 0)), .inl (0, 14, .inl (fun _ => 0)), .inl (0, 8, .inl (fun _ => 0)), .inl (0, 8, .inl (fun _ => 0)), .inr (3, [.int 0, .ref 34, .ref 35, .ref 36, .ref 37]), .inl (0, 400, .inl (fun _ => 0)), .inl (0, 400, .inl (fun _ => 0)), .inl (0, 400, .inl (fun _ => 0)), .inl (0, 400, .inl (fun _ => 0)), .inr (5, [.ref 39, .ref 40, .ref 41, .ref 42, .ref 43, .long 0, .long 0, .long 0, .long 0]), .inl (1, 151, .inr (.inl (fun _ => 0))), .inl (1, 151, .inr (.inl (fun _ => 0))), .inl (0, 151, .inl (fun _ => 0)), .inl (0, 151, .inl (fun _ => 0)), .inl (1, 1208, .inr (.inl (fun _ => 0))), .inr (0, [.int 0, .int 0, .int 0, .int 0, .int 0, .ref 45]), .inl (0, 50, .inl (fun _ => 0)), .inl (3, 5, .inr (.inr (.inr (.inr (va_up (va_up (va_up (va_up (va_up (fun _ => none) 0 (some 47)) 1 (some 48)) 2 (some 49)) 3 (some 50)) 4 (some 51)))))), .inr (8, [.ref 44]), .inr (6, [.ref 44]), .inr (7, [.ref 44]), .inr (2, [.ref 44]), .inr (1, [.ref 44]), .inr (12, [.int 0, .null, .null, .null, .null, .null, .null, .null, .int 0, .null, .null, .null, .long 0, .long 0, .long 0, .long 0, .null, .null, .null, .null, .int 0, .long 0, .int 0, .null, .null, .null, .null, .int 0, .null, .int 0, .null, .null, .null, .null, .int 0, .int 0, .long 0, .long 0, .int 0, .long 0, .null, .int 0, .int 0, .long 0, .long 0, .long 0, .long 0, .int 0, .null, .null, .null, .null, .null, .int 0, .int 0])] rfl ?_
  refine zw_aload_n 1 f119_0 rfl rfl ?_
  refine zw_obj 4 f119_1 rfl k119_1_99 (Nat.le_of_ble_eq_true rfl) ?_
  refine zw_aload_n 5 f119_4 rfl rfl ?_
  refine zw_bipush 8 7 f119_5 rfl (by decide +kernel) ?_
  refine zw_newarray 53 8 1 8 9 f119_7 rfl rfl rfl (by decide +kernel) (by decide +kernel) (by decide +kernel) rfl rfl (by decide +kernel) (by decide +kernel) ?_
  refine zw_putfield 12 f119_9 rfl g119_7_12 rfl rfl (Nat.le_of_ble_eq_true rfl) (by decide +kernel) ?_
  refine zw_aload_n 13 f119_12 rfl rfl ?_
  refine zw_bipush 8 15 f119_13 rfl (by decide +kernel) ?_
  refine zw_newarray 54 8 2 16 17 f119_15 rfl rfl rfl (by decide +kernel) (by decide +kernel) (by decide +kernel) rfl rfl (by decide +kernel) (by decide +kernel) ?_
  refine zw_putfield 20 f119_17 rfl g119_13_12 rfl rfl (Nat.le_of_ble_eq_true rfl) (by decide +kernel) ?_
  refine zw_aload_n 21 f119_20 rfl rfl ?_
  refine zw_bipush 8 23 f119_21 rfl (by decide +kernel) ?_
  refine zw_newarray 55 8 3 24 25 f119_23 rfl rfl rfl (by decide +kernel) (by decide +kernel) (by decide +kernel) rfl rfl (by decide +kernel) (by decide +kernel) ?_
  refine zw_putfield 28 f119_25 rfl g119_16_12 rfl rfl (Nat.le_of_ble_eq_true rfl) (by decide +kernel) ?_
  refine zw_aload_n 29 f119_28 rfl rfl ?_
  refine zw_bipush 8 31 f119_29 rfl (by decide +kernel) ?_
  refine zw_newarray 56 8 4 32 33 f119_31 rfl rfl rfl (by decide +kernel) (by decide +kernel) (by decide +kernel) rfl rfl (by decide +kernel) (by decide +kernel) ?_
  refine zw_putfield 36 f119_33 rfl g119_19_12 rfl rfl (Nat.le_of_ble_eq_true rfl) (by decide +kernel) ?_
  refine zw_aload_n 37 f119_36 rfl rfl ?_
  refine zw_bipush 8 39 f119_37 rfl (by decide +kernel) ?_
  refine zw_newarray 57 8 5 40 41 f119_39 rfl rfl rfl (by decide +kernel) (by decide +kernel) (by decide +kernel) rfl rfl (by decide +kernel) (by decide +kernel) ?_
  refine zw_putfield 44 f119_41 rfl g119_22_12 rfl rfl (Nat.le_of_ble_eq_true rfl) (by decide +kernel) ?_
  refine zw_aload_n 45 f119_44 rfl rfl ?_
  refine zw_bipush 8 47 f119_45 rfl (by decide +kernel) ?_
  refine zw_newarray 58 8 6 48 49 f119_47 rfl rfl rfl (by decide +kernel) (by decide +kernel) (by decide +kernel) rfl rfl (by decide +kernel) (by decide +kernel) ?_
  refine zw_putfield 52 f119_49 rfl g119_25_12 rfl rfl (Nat.le_of_ble_eq_true rfl) (by decide +kernel) ?_
  refine zw_aload_n 53 f119_52 rfl rfl ?_
  refine zw_bipush 8 55 f119_53 rfl (by decide +kernel) ?_
  refine zw_newarray 59 8 7 56 57 f119_55 rfl rfl rfl (by decide +kernel) (by decide +kernel) (by decide +kernel) rfl rfl (by decide +kernel) (by decide +kernel) ?_
  refine zw_putfield 60 f119_57 rfl g119_28_12 rfl rfl (Nat.le_of_ble_eq_true rfl) (by decide +kernel) ?_
  refine zw_aload_n 61 f119_60 rfl rfl ?_
  refine zw_bipush 14 63 f119_61 rfl (by decide +kernel) ?_
  refine zw_newarray 60 14 8 70 65 f119_63 rfl rfl rfl (by decide +kernel) (by decide +kernel) (by decide +kernel) rfl rfl (by decide +kernel) (by decide +kernel) ?_
  refine zw_putfield 68 f119_65 rfl g119_31_12 rfl rfl (Nat.le_of_ble_eq_true rfl) (by decide +kernel) ?_
  refine zw_aload_n 69 f119_68 rfl rfl ?_
  refine zw_bipush 14 71 f119_69 rfl (by decide +kernel) ?_
  refine zw_newarray 61 14 9 84 73 f119_71 rfl rfl rfl (by decide +kernel) (by decide +kernel) (by decide +kernel) rfl rfl (by decide +kernel) (by decide +kernel) ?_
  refine zw_putfield 76 f119_73 rfl g119_34_12 rfl rfl (Nat.le_of_ble_eq_true rfl) (by decide +kernel) ?_
  refine zw_aload_n 77 f119_76 rfl rfl ?_
  refine zw_bipush 14 79 f119_77 rfl (by decide +kernel) ?_
  refine zw_newarray 62 14 10 98 81 f119_79 rfl rfl rfl (by decide +kernel) (by decide +kernel) (by decide +kernel) rfl rfl (by decide +kernel) (by decide +kernel) ?_
  refine zw_putfield 84 f119_81 rfl g119_37_12 rfl rfl (Nat.le_of_ble_eq_true rfl) (by decide +kernel) ?_
  refine zw_aload_n 85 f119_84 rfl rfl ?_
  refine zw_lconst 1 86 f119_85 rfl (by decide +kernel) ?_
  refine zw_putfield 89 f119_86 rfl g119_40_12 rfl rfl (Nat.le_of_ble_eq_true rfl) (by decide +kernel) ?_
  refine zw_aload_n 90 f119_89 rfl rfl ?_
  refine zw_bipush 8 92 f119_90 rfl (by decide +kernel) ?_
  refine zw_newarray 63 8 11 106 94 f119_92 rfl rfl rfl (by decide +kernel) (by decide +kernel) (by decide +kernel) rfl rfl (by decide +kernel) (by decide +kernel) ?_
  refine zw_putfield 97 f119_94 rfl g119_44_12 rfl rfl (Nat.le_of_ble_eq_true rfl) (by decide +kernel) ?_
  refine zw_aload_n 98 f119_97 rfl rfl ?_
  refine zw_bipush 14 100 f119_98 rfl (by decide +kernel) ?_
  refine zw_newarray 64 14 12 120 102 f119_100 rfl rfl rfl (by decide +kernel) (by decide +kernel) (by decide +kernel) rfl rfl (by decide +kernel) (by decide +kernel) ?_
  refine zw_putfield 105 f119_102 rfl g119_48_12 rfl rfl (Nat.le_of_ble_eq_true rfl) (by decide +kernel) ?_
  refine zw_aload_n 106 f119_105 rfl rfl ?_
  refine zw_bipush 8 108 f119_106 rfl (by decide +kernel) ?_
  refine zw_newarray 65 8 13 128 110 f119_108 rfl rfl rfl (by decide +kernel) (by decide +kernel) (by decide +kernel) rfl rfl (by decide +kernel) (by decide +kernel) ?_
  refine zw_putfield 113 f119_110 rfl g119_52_12 rfl rfl (Nat.le_of_ble_eq_true rfl) (by decide +kernel) ?_
  refine zw_aload_n 114 f119_113 rfl rfl ?_
  refine zw_bipush 8 116 f119_114 rfl (by decide +kernel) ?_
  refine zw_newarray 66 8 14 136 118 f119_116 rfl rfl rfl (by decide +kernel) (by decide +kernel) (by decide +kernel) rfl rfl (by decide +kernel) (by decide +kernel) ?_
  refine zw_putfield 121 f119_118 rfl g119_55_12 rfl rfl (Nat.le_of_ble_eq_true rfl) (by decide +kernel) ?_
  refine zw_aload_n 122 f119_121 rfl rfl ?_
  refine zw_iconst 1 123 f119_122 rfl (by decide +kernel) ?_
  refine zw_putfield 126 f119_123 rfl g119_58_12 rfl rfl (Nat.le_of_ble_eq_true rfl) (by decide +kernel) ?_
  refine zw_aload_n 127 f119_126 rfl rfl ?_
  refine zw_sipush 400 130 f119_127 rfl (by decide +kernel) ?_
  refine zw_newarray 67 400 15 536 132 f119_130 rfl rfl rfl (by decide +kernel) (by decide +kernel) (by decide +kernel) rfl rfl (by decide +kernel) (by decide +kernel) ?_
  refine zw_putfield 135 f119_132 rfl g119_62_12 rfl rfl (Nat.le_of_ble_eq_true rfl) (by decide +kernel) ?_
  refine zw_aload_n 136 f119_135 rfl rfl ?_
  refine zw_sipush 400 139 f119_136 rfl (by decide +kernel) ?_
  refine zw_newarray 68 400 16 936 141 f119_139 rfl rfl rfl (by decide +kernel) (by decide +kernel) (by decide +kernel) rfl rfl (by decide +kernel) (by decide +kernel) ?_
  refine zw_putfield 144 f119_141 rfl g119_65_12 rfl rfl (Nat.le_of_ble_eq_true rfl) (by decide +kernel) ?_
  refine zw_aload_n 145 f119_144 rfl rfl ?_
  refine zw_sipush 400 148 f119_145 rfl (by decide +kernel) ?_
  refine zw_newarray 69 400 17 1336 150 f119_148 rfl rfl rfl (by decide +kernel) (by decide +kernel) (by decide +kernel) rfl rfl (by decide +kernel) (by decide +kernel) ?_
  refine zw_putfield 153 f119_150 rfl g119_68_12 rfl rfl (Nat.le_of_ble_eq_true rfl) (by decide +kernel) ?_
  refine zw_aload_n 154 f119_153 rfl rfl ?_
  refine zw_sipush 400 157 f119_154 rfl (by decide +kernel) ?_
  refine zw_newarray 70 400 18 1736 159 f119_157 rfl rfl rfl (by decide +kernel) (by decide +kernel) (by decide +kernel) rfl rfl (by decide +kernel) (by decide +kernel) ?_
  refine zw_putfield 162 f119_159 rfl g119_71_12 rfl rfl (Nat.le_of_ble_eq_true rfl) (by decide +kernel) ?_
  refine zw_aload_n 163 f119_162 rfl rfl ?_
  refine zw_bipush 50 165 f119_163 rfl (by decide +kernel) ?_
  refine zw_newarray 71 50 19 1786 167 f119_165 rfl rfl rfl (by decide +kernel) (by decide +kernel) (by decide +kernel) rfl rfl (by decide +kernel) (by decide +kernel) ?_
  refine zw_putfield 170 f119_167 rfl g119_74_12 rfl rfl (Nat.le_of_ble_eq_true rfl) (by decide +kernel) ?_
  refine zw_aload_n 171 f119_170 rfl rfl ?_
  refine zw_bipush 8 173 f119_171 rfl (by decide +kernel) ?_
  refine zw_newarray 72 8 20 1794 175 f119_173 rfl rfl rfl (by decide +kernel) (by decide +kernel) (by decide +kernel) rfl rfl (by decide +kernel) (by decide +kernel) ?_
  refine zw_putfield 178 f119_175 rfl g119_77_12 rfl rfl (Nat.le_of_ble_eq_true rfl) (by decide +kernel) ?_
  refine zw_aload_n 179 f119_178 rfl rfl ?_
  refine zw_bipush 8 181 f119_179 rfl (by decide +kernel) ?_
  refine zw_newarray 73 8 21 1802 183 f119_181 rfl rfl rfl (by decide +kernel) (by decide +kernel) (by decide +kernel) rfl rfl (by decide +kernel) (by decide +kernel) ?_
  refine zw_putfield 186 f119_183 rfl g119_80_12 rfl rfl (Nat.le_of_ble_eq_true rfl) (by decide +kernel) ?_
  refine zw_aload_n 187 f119_186 rfl rfl ?_
  refine zw_bipush 8 189 f119_187 rfl (by decide +kernel) ?_
  refine zw_newarray 74 8 22 1810 191 f119_189 rfl rfl rfl (by decide +kernel) (by decide +kernel) (by decide +kernel) rfl rfl (by decide +kernel) (by decide +kernel) ?_
  refine zw_putfield 194 f119_191 rfl g119_83_12 rfl rfl (Nat.le_of_ble_eq_true rfl) (by decide +kernel) ?_
  refine zw_aload_n 195 f119_194 rfl rfl ?_
  refine zw_bipush 14 197 f119_195 rfl (by decide +kernel) ?_
  refine zw_newarray 75 14 23 1824 199 f119_197 rfl rfl rfl (by decide +kernel) (by decide +kernel) (by decide +kernel) rfl rfl (by decide +kernel) (by decide +kernel) ?_
  refine zw_putfield 202 f119_199 rfl g119_86_12 rfl rfl (Nat.le_of_ble_eq_true rfl) (by decide +kernel) ?_
  refine zw_aload_n 203 f119_202 rfl rfl ?_
  refine zw_bipush 11 205 f119_203 rfl (by decide +kernel) ?_
  refine zw_newarray 76 11 24 1835 207 f119_205 rfl rfl rfl (by decide +kernel) (by decide +kernel) (by decide +kernel) rfl rfl (by decide +kernel) (by decide +kernel) ?_
  refine zw_putfield 210 f119_207 rfl g119_89_12 rfl rfl (Nat.le_of_ble_eq_true rfl) (by decide +kernel) ?_
  refine zw_aload_n 211 f119_210 rfl rfl ?_
  refine zw_iconst (-1) 212 f119_211 rfl (by decide +kernel) ?_
  refine zw_putfield 215 f119_212 rfl g119_92_12 rfl rfl (Nat.le_of_ble_eq_true rfl) (by decide +kernel) ?_
  refine zw_aload_n 216 f119_215 rfl rfl ?_
  refine zw_bipush 8 218 f119_216 rfl (by decide +kernel) ?_
  refine zw_newarray 77 8 25 1843 220 f119_218 rfl rfl rfl (by decide +kernel) (by decide +kernel) (by decide +kernel) rfl rfl (by decide +kernel) (by decide +kernel) ?_
  refine zw_putfield 223 f119_220 rfl g119_96_12 rfl rfl (Nat.le_of_ble_eq_true rfl) (by decide +kernel) ?_
  refine zw_aload_n 224 f119_223 rfl rfl ?_
  refine zw_bipush 14 226 f119_224 rfl (by decide +kernel) ?_
  refine zw_newarray 78 14 26 1857 228 f119_226 rfl rfl rfl (by decide +kernel) (by decide +kernel) (by decide +kernel) rfl rfl (by decide +kernel) (by decide +kernel) ?_
  refine zw_putfield 231 f119_228 rfl g119_99_12 rfl rfl (Nat.le_of_ble_eq_true rfl) (by decide +kernel) ?_
  refine zw_aload_n 232 f119_231 rfl rfl ?_
  refine zw_bipush 8 234 f119_232 rfl (by decide +kernel) ?_
  refine zw_newarray 79 8 27 1865 236 f119_234 rfl rfl rfl (by decide +kernel) (by decide +kernel) (by decide +kernel) rfl rfl (by decide +kernel) (by decide +kernel) ?_
  refine zw_putfield 239 f119_236 rfl g119_102_12 rfl rfl (Nat.le_of_ble_eq_true rfl) (by decide +kernel) ?_
  refine zw_aload_n 240 f119_239 rfl rfl ?_
  refine zw_bipush 8 242 f119_240 rfl (by decide +kernel) ?_
  refine zw_newarray 80 8 28 1873 244 f119_242 rfl rfl rfl (by decide +kernel) (by decide +kernel) (by decide +kernel) rfl rfl (by decide +kernel) (by decide +kernel) ?_
  refine zw_putfield 247 f119_244 rfl g119_105_12 rfl rfl (Nat.le_of_ble_eq_true rfl) (by decide +kernel) ?_
  refine zw_aload_n 248 f119_247 rfl rfl ?_
  refine zw_sipush 1661 251 f119_248 rfl (by decide +kernel) ?_
  refine zw_newarray 81 1661 29 3534 253 f119_251 rfl rfl rfl (by decide +kernel) (by decide +kernel) (by decide +kernel) rfl rfl (by decide +kernel) (by decide +kernel) ?_
  refine zw_putfield 256 f119_253 rfl g119_108_12 rfl rfl (Nat.le_of_ble_eq_true rfl) (by decide +kernel) ?_
  refine zw_vreturn f119_256 r119 u119 ?_
  exact ⟨rfl, rfl⟩
