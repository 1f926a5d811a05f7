set_option maxRecDepth 100000 in
set_option maxHeartbeats 0 in
theorem l_start (L : Nat) (xs : Nat → Int32) (k : zWp (zro L xs) 189 18 [(3, .int 0), (2, .ref 52), (1, .ref 0), (0, .float 0)] [] hF 82 7398 (fun r _ => r = some (.int 1))) : zWp (zro L xs) 189 0 [(0, .float 0)] [] [] 0 0 (fun r _ => r = some (.int 1)) := by
  refine zw_new (ci := 11) 0 1 8 3 f189_0 rfl (by decide +kernel) rfl rfl (by decide +kernel) (by decide +kernel) (by decide +kernel) ?_
  refine zw_dup 4 f189_3 rfl rfl ?_
  refine zw_init_v 7 52 3809 [.ref 0] [(0, .ref 0)] f189_4 rfl k189_9_99 rfl (by decide +kernel) (Nat.le_of_ble_eq_true rfl) rfl rfl (by decide +kernel) (by decide +kernel) rfl (Nat.le_of_ble_eq_true rfl) rfl ?_
  refine zw_heap [.inr (11, [.null, .null, .null, .null, .null, .null, .null, .int 0])] rfl ?_
  refine zWp.mono (cX_init (zro L xs)) ?_
  rintro r h1 ⟨rfl, rfl⟩
  refine ⟨rfl, ?_⟩
  refine zw_astore_n [(1, .ref 0), (0, .float 0)] 8 f189_7 rfl (by decide +kernel) rfl ?_
  refine zw_new (ci := 12) 52 53 3864 11 f189_8 rfl (by decide +kernel) rfl rfl (by decide +kernel) (by decide +kernel) (by decide +kernel) ?_
  refine zw_dup 12 f189_11 rfl rfl ?_
  refine zw_init_v 15 82 7398 [.ref 52] [(0, .ref 52)] f189_12 rfl k189_12_99 rfl (by decide +kernel) (Nat.le_of_ble_eq_true rfl) rfl rfl (by decide +kernel) (by decide +kernel) rfl (Nat.le_of_ble_eq_true rfl) rfl ?_
  refine zWp.mono (cM_init (zro L xs)) ?_
  rintro r h1 ⟨rfl, rfl⟩
  refine ⟨rfl, ?_⟩
  refine zw_astore_n [(2, .ref 52), (1, .ref 0), (0, .float 0)] 16 f189_15 rfl (by decide +kernel) rfl ?_
  refine zw_iconst 0 17 f189_16 rfl (by decide +kernel) ?_
  refine zw_istore_n [(3, .int 0), (2, .ref 52), (1, .ref 0), (0, .float 0)] 18 f189_17 rfl (by decide +kernel) rfl ?_
  exact k
set_option maxRecDepth 100000 in
theorem l_short0 (xs : Nat → Int32) : zWp (zro 0 xs) 189 18 [(3, .int 0), (2, .ref 52), (1, .ref 0), (0, .float 0)] [] hF 82 7398 (fun r _ => r = some (.int 1)) := by
  refine zw_iload_n 19 f189_18 rfl rfl ?_
  refine zw_aload_f 20 f189_19 rfl rfl ?_
  refine zw_arraylength 0 21 f189_20 rfl rfl ?_
  refine zw_bipush 6 23 f189_21 rfl (by decide +kernel) ?_
  refine zw_isub (-6) 24 f189_23 rfl (by decide +kernel) ?_
  refine zw_ic_gt_t 1021 f189_24 (by decide +kernel) (by decide +kernel) ?_
  refine zw_iconst 1 1022 f189_1021 rfl (by decide +kernel) ?_
  refine zw_zreturn f189_1022 r189 u189 (by decide +kernel) ?_
  exact rfl
set_option maxRecDepth 100000 in
theorem l_short1 (xs : Nat → Int32) : zWp (zro 1 xs) 189 18 [(3, .int 0), (2, .ref 52), (1, .ref 0), (0, .float 0)] [] hF 82 7398 (fun r _ => r = some (.int 1)) := by
  refine zw_iload_n 19 f189_18 rfl rfl ?_
  refine zw_aload_f 20 f189_19 rfl rfl ?_
  refine zw_arraylength 1 21 f189_20 rfl rfl ?_
  refine zw_bipush 6 23 f189_21 rfl (by decide +kernel) ?_
  refine zw_isub (-5) 24 f189_23 rfl (by decide +kernel) ?_
  refine zw_ic_gt_t 1021 f189_24 (by decide +kernel) (by decide +kernel) ?_
  refine zw_iconst 1 1022 f189_1021 rfl (by decide +kernel) ?_
  refine zw_zreturn f189_1022 r189 u189 (by decide +kernel) ?_
  exact rfl
set_option maxRecDepth 100000 in
theorem l_short2 (xs : Nat → Int32) : zWp (zro 2 xs) 189 18 [(3, .int 0), (2, .ref 52), (1, .ref 0), (0, .float 0)] [] hF 82 7398 (fun r _ => r = some (.int 1)) := by
  refine zw_iload_n 19 f189_18 rfl rfl ?_
  refine zw_aload_f 20 f189_19 rfl rfl ?_
  refine zw_arraylength 2 21 f189_20 rfl rfl ?_
  refine zw_bipush 6 23 f189_21 rfl (by decide +kernel) ?_
  refine zw_isub (-4) 24 f189_23 rfl (by decide +kernel) ?_
  refine zw_ic_gt_t 1021 f189_24 (by decide +kernel) (by decide +kernel) ?_
  refine zw_iconst 1 1022 f189_1021 rfl (by decide +kernel) ?_
  refine zw_zreturn f189_1022 r189 u189 (by decide +kernel) ?_
  exact rfl
set_option maxRecDepth 100000 in
theorem l_short3 (xs : Nat → Int32) : zWp (zro 3 xs) 189 18 [(3, .int 0), (2, .ref 52), (1, .ref 0), (0, .float 0)] [] hF 82 7398 (fun r _ => r = some (.int 1)) := by
  refine zw_iload_n 19 f189_18 rfl rfl ?_
  refine zw_aload_f 20 f189_19 rfl rfl ?_
  refine zw_arraylength 3 21 f189_20 rfl rfl ?_
  refine zw_bipush 6 23 f189_21 rfl (by decide +kernel) ?_
  refine zw_isub (-3) 24 f189_23 rfl (by decide +kernel) ?_
  refine zw_ic_gt_t 1021 f189_24 (by decide +kernel) (by decide +kernel) ?_
  refine zw_iconst 1 1022 f189_1021 rfl (by decide +kernel) ?_
  refine zw_zreturn f189_1022 r189 u189 (by decide +kernel) ?_
  exact rfl
set_option maxRecDepth 100000 in
theorem l_short4 (xs : Nat → Int32) : zWp (zro 4 xs) 189 18 [(3, .int 0), (2, .ref 52), (1, .ref 0), (0, .float 0)] [] hF 82 7398 (fun r _ => r = some (.int 1)) := by
  refine zw_iload_n 19 f189_18 rfl rfl ?_
  refine zw_aload_f 20 f189_19 rfl rfl ?_
  refine zw_arraylength 4 21 f189_20 rfl rfl ?_
  refine zw_bipush 6 23 f189_21 rfl (by decide +kernel) ?_
  refine zw_isub (-2) 24 f189_23 rfl (by decide +kernel) ?_
  refine zw_ic_gt_t 1021 f189_24 (by decide +kernel) (by decide +kernel) ?_
  refine zw_iconst 1 1022 f189_1021 rfl (by decide +kernel) ?_
  refine zw_zreturn f189_1022 r189 u189 (by decide +kernel) ?_
  exact rfl
set_option maxRecDepth 100000 in
theorem l_short5 (xs : Nat → Int32) : zWp (zro 5 xs) 189 18 [(3, .int 0), (2, .ref 52), (1, .ref 0), (0, .float 0)] [] hF 82 7398 (fun r _ => r = some (.int 1)) := by
  refine zw_iload_n 19 f189_18 rfl rfl ?_
  refine zw_aload_f 20 f189_19 rfl rfl ?_
  refine zw_arraylength 5 21 f189_20 rfl rfl ?_
  refine zw_bipush 6 23 f189_21 rfl (by decide +kernel) ?_
  refine zw_isub (-1) 24 f189_23 rfl (by decide +kernel) ?_
  refine zw_ic_gt_t 1021 f189_24 (by decide +kernel) (by decide +kernel) ?_
  refine zw_iconst 1 1022 f189_1021 rfl (by decide +kernel) ?_
  refine zw_zreturn f189_1022 r189 u189 (by decide +kernel) ?_
  exact rfl
