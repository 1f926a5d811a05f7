set_option maxRecDepth 100000 in
set_option maxHeartbeats 0 in
theorem l_vessel_r1 (xs : Nat → Int32) (e0 : xs 0 &&& 31 = 0)  (h1 : (xs 1) < 0) : zWp (zro 6 xs) 189 18 [(3, .int 0), (2, .ref 52), (1, .ref 0), (0, .float 0)] [] hF 82 7398 (fun r _ => r = some (.int 1)) := by
  refine zw_iload_n 19 f189_18 rfl rfl ?_
  refine zw_aload_f 20 f189_19 rfl rfl ?_
  refine zw_arraylength 6 21 f189_20 rfl rfl ?_
  refine zw_bipush 6 23 f189_21 rfl (by decide +kernel) ?_
  refine zw_isub 0 24 f189_23 rfl (by decide +kernel) ?_
  refine zw_ic_gt_f 27 1021 f189_24 (by decide +kernel) rfl (by decide +kernel) ?_
  refine zw_aload_f 28 f189_27 rfl rfl ?_
  refine zw_iload_n 29 f189_28 rfl rfl ?_
  refine zw_iaload_f 0 6 (xs 0) 30 f189_29 rfl rfl (by decide +kernel) (by decide +kernel) (by decide +kernel) rfl ?_
  refine zw_bipush 31 32 f189_30 rfl (by decide +kernel) ?_
  refine zw_iand 0 33 f189_32 rfl e0 ?_
  refine zw_table_i (off := 123) 156 f189_33 (by decide +kernel) (by decide +kernel) (by decide +kernel) ?_
  refine zw_aload_n 157 f189_156 rfl rfl ?_
  refine zw_aload_f 158 f189_157 rfl rfl ?_
  refine zw_iload_n 159 f189_158 rfl rfl ?_
  refine zw_iconst 1 160 f189_159 rfl (by decide +kernel) ?_
  refine zw_iadd 1 161 f189_160 rfl (by decide +kernel) ?_
  refine zw_iaload_f 1 6 (xs 1) 162 f189_161 rfl rfl (by decide +kernel) (by decide +kernel) (by decide +kernel) rfl ?_
  refine zw_aload_f 163 f189_162 rfl rfl ?_
  refine zw_iload_n 164 f189_163 rfl rfl ?_
  refine zw_iconst 2 165 f189_164 rfl (by decide +kernel) ?_
  refine zw_iadd 2 166 f189_165 rfl (by decide +kernel) ?_
  refine zw_iaload_f 2 6 (xs 2) 167 f189_166 rfl rfl (by decide +kernel) (by decide +kernel) (by decide +kernel) rfl ?_
  refine zw_virtual_i 170 82 7398 [.ref 0, .int (xs 1), .int (xs 2)] [(0, .ref 0), (1, .int (xs 1)), (2, .int (xs 2))] f189_167 rfl n189_13 k189_13_11 rfl rfl (by decide +kernel) (Nat.le_of_ble_eq_true rfl) rfl rfl (by decide +kernel) (by decide +kernel) rfl (Nat.le_of_ble_eq_true rfl) rfl ?_
  refine zWp.mono (x_vessel_r1 (zro 6 xs) (xs 1) (xs 2) h1) ?_
  rintro r h1 ⟨rfl, hm⟩
  refine ⟨_, rfl, ?_⟩
  obtain ⟨x, rfl⟩ := zMF_ex hm
  refine zw_aload_n 171 f189_170 rfl rfl ?_
  refine zw_aload_f 172 f189_171 rfl rfl ?_
  refine zw_iload_n 173 f189_172 rfl rfl ?_
  refine zw_iconst 1 174 f189_173 rfl (by decide +kernel) ?_
  refine zw_iadd 1 175 f189_174 rfl (by decide +kernel) ?_
  refine zw_iaload_f 1 6 (xs 1) 176 f189_175 rfl rfl (by decide +kernel) (by decide +kernel) (by decide +kernel) rfl ?_
  refine zw_aload_f 177 f189_176 rfl rfl ?_
  refine zw_iload_n 178 f189_177 rfl rfl ?_
  refine zw_iconst 2 179 f189_178 rfl (by decide +kernel) ?_
  refine zw_iadd 2 180 f189_179 rfl (by decide +kernel) ?_
  refine zw_iaload_f 2 6 (xs 2) 181 f189_180 rfl rfl (by decide +kernel) (by decide +kernel) (by decide +kernel) rfl ?_
  refine zw_virtual_i 184 82 7398 [.ref 52, .int (xs 1), .int (xs 2)] [(0, .ref 52), (1, .int (xs 1)), (2, .int (xs 2))] f189_181 rfl n189_17 k189_17_12 rfl rfl (by decide +kernel) (Nat.le_of_ble_eq_true rfl) rfl rfl (by decide +kernel) (by decide +kernel) rfl (Nat.le_of_ble_eq_true rfl) rfl ?_
  refine zWp.mono (m_vessel_r1 (zro 6 xs) x (xs 1) (xs 2) h1) ?_
  rintro r h2 rfl
  refine ⟨_, rfl, ?_⟩
  refine zw_ic_eq_t 1015 f189_184 (by decide +kernel) (by decide +kernel) ?_
  refine zw_iinc 6 [(3, .int 6), (2, .ref 52), (1, .ref 0), (0, .float 0)] 1018 f189_1015 rfl rfl (by decide +kernel) (by decide +kernel) rfl ?_
  refine zw_goto 18 f189_1018 (by decide +kernel) ?_
  refine zw_iload_n 19 f189_18 rfl rfl ?_
  refine zw_aload_f 20 f189_19 rfl rfl ?_
  refine zw_arraylength 6 21 f189_20 rfl rfl ?_
  refine zw_bipush 6 23 f189_21 rfl (by decide +kernel) ?_
  refine zw_isub 0 24 f189_23 rfl (by decide +kernel) ?_
  refine zw_ic_gt_t 1021 f189_24 (by decide +kernel) (by decide +kernel) ?_
  refine zw_iconst 1 1022 f189_1021 rfl (by decide +kernel) ?_
  refine zw_zreturn f189_1022 r189 u189 (by decide +kernel) ?_
  exact rfl
set_option maxRecDepth 100000 in
set_option maxHeartbeats 0 in
theorem l_vessel_r2 (xs : Nat → Int32) (e0 : xs 0 &&& 31 = 0)  (h1 : ¬ (xs 1) < 0) (h2 : 4 < (xs 1)) : zWp (zro 6 xs) 189 18 [(3, .int 0), (2, .ref 52), (1, .ref 0), (0, .float 0)] [] hF 82 7398 (fun r _ => r = some (.int 1)) := by
  refine zw_iload_n 19 f189_18 rfl rfl ?_
  refine zw_aload_f 20 f189_19 rfl rfl ?_
  refine zw_arraylength 6 21 f189_20 rfl rfl ?_
  refine zw_bipush 6 23 f189_21 rfl (by decide +kernel) ?_
  refine zw_isub 0 24 f189_23 rfl (by decide +kernel) ?_
  refine zw_ic_gt_f 27 1021 f189_24 (by decide +kernel) rfl (by decide +kernel) ?_
  refine zw_aload_f 28 f189_27 rfl rfl ?_
  refine zw_iload_n 29 f189_28 rfl rfl ?_
  refine zw_iaload_f 0 6 (xs 0) 30 f189_29 rfl rfl (by decide +kernel) (by decide +kernel) (by decide +kernel) rfl ?_
  refine zw_bipush 31 32 f189_30 rfl (by decide +kernel) ?_
  refine zw_iand 0 33 f189_32 rfl e0 ?_
  refine zw_table_i (off := 123) 156 f189_33 (by decide +kernel) (by decide +kernel) (by decide +kernel) ?_
  refine zw_aload_n 157 f189_156 rfl rfl ?_
  refine zw_aload_f 158 f189_157 rfl rfl ?_
  refine zw_iload_n 159 f189_158 rfl rfl ?_
  refine zw_iconst 1 160 f189_159 rfl (by decide +kernel) ?_
  refine zw_iadd 1 161 f189_160 rfl (by decide +kernel) ?_
  refine zw_iaload_f 1 6 (xs 1) 162 f189_161 rfl rfl (by decide +kernel) (by decide +kernel) (by decide +kernel) rfl ?_
  refine zw_aload_f 163 f189_162 rfl rfl ?_
  refine zw_iload_n 164 f189_163 rfl rfl ?_
  refine zw_iconst 2 165 f189_164 rfl (by decide +kernel) ?_
  refine zw_iadd 2 166 f189_165 rfl (by decide +kernel) ?_
  refine zw_iaload_f 2 6 (xs 2) 167 f189_166 rfl rfl (by decide +kernel) (by decide +kernel) (by decide +kernel) rfl ?_
  refine zw_virtual_i 170 82 7398 [.ref 0, .int (xs 1), .int (xs 2)] [(0, .ref 0), (1, .int (xs 1)), (2, .int (xs 2))] f189_167 rfl n189_13 k189_13_11 rfl rfl (by decide +kernel) (Nat.le_of_ble_eq_true rfl) rfl rfl (by decide +kernel) (by decide +kernel) rfl (Nat.le_of_ble_eq_true rfl) rfl ?_
  refine zWp.mono (x_vessel_r2 (zro 6 xs) (xs 1) (xs 2) h1 h2) ?_
  rintro r h1 ⟨rfl, hm⟩
  refine ⟨_, rfl, ?_⟩
  obtain ⟨x, rfl⟩ := zMF_ex hm
  refine zw_aload_n 171 f189_170 rfl rfl ?_
  refine zw_aload_f 172 f189_171 rfl rfl ?_
  refine zw_iload_n 173 f189_172 rfl rfl ?_
  refine zw_iconst 1 174 f189_173 rfl (by decide +kernel) ?_
  refine zw_iadd 1 175 f189_174 rfl (by decide +kernel) ?_
  refine zw_iaload_f 1 6 (xs 1) 176 f189_175 rfl rfl (by decide +kernel) (by decide +kernel) (by decide +kernel) rfl ?_
  refine zw_aload_f 177 f189_176 rfl rfl ?_
  refine zw_iload_n 178 f189_177 rfl rfl ?_
  refine zw_iconst 2 179 f189_178 rfl (by decide +kernel) ?_
  refine zw_iadd 2 180 f189_179 rfl (by decide +kernel) ?_
  refine zw_iaload_f 2 6 (xs 2) 181 f189_180 rfl rfl (by decide +kernel) (by decide +kernel) (by decide +kernel) rfl ?_
  refine zw_virtual_i 184 82 7398 [.ref 52, .int (xs 1), .int (xs 2)] [(0, .ref 52), (1, .int (xs 1)), (2, .int (xs 2))] f189_181 rfl n189_17 k189_17_12 rfl rfl (by decide +kernel) (Nat.le_of_ble_eq_true rfl) rfl rfl (by decide +kernel) (by decide +kernel) rfl (Nat.le_of_ble_eq_true rfl) rfl ?_
  refine zWp.mono (m_vessel_r2 (zro 6 xs) x (xs 1) (xs 2) h1 h2) ?_
  rintro r h2 rfl
  refine ⟨_, rfl, ?_⟩
  refine zw_ic_eq_t 1015 f189_184 (by decide +kernel) (by decide +kernel) ?_
  refine zw_iinc 6 [(3, .int 6), (2, .ref 52), (1, .ref 0), (0, .float 0)] 1018 f189_1015 rfl rfl (by decide +kernel) (by decide +kernel) rfl ?_
  refine zw_goto 18 f189_1018 (by decide +kernel) ?_
  refine zw_iload_n 19 f189_18 rfl rfl ?_
  refine zw_aload_f 20 f189_19 rfl rfl ?_
  refine zw_arraylength 6 21 f189_20 rfl rfl ?_
  refine zw_bipush 6 23 f189_21 rfl (by decide +kernel) ?_
  refine zw_isub 0 24 f189_23 rfl (by decide +kernel) ?_
  refine zw_ic_gt_t 1021 f189_24 (by decide +kernel) (by decide +kernel) ?_
  refine zw_iconst 1 1022 f189_1021 rfl (by decide +kernel) ?_
  refine zw_zreturn f189_1022 r189 u189 (by decide +kernel) ?_
  exact rfl
set_option maxRecDepth 100000 in
set_option maxHeartbeats 0 in
theorem l_vessel_r3 (xs : Nat → Int32) (e0 : xs 0 &&& 31 = 0)  (h1 : ¬ (xs 1) < 0) (h2 : ¬ 4 < (xs 1)) (h3 : (xs 2) < 1) : zWp (zro 6 xs) 189 18 [(3, .int 0), (2, .ref 52), (1, .ref 0), (0, .float 0)] [] hF 82 7398 (fun r _ => r = some (.int 1)) := by
  refine zw_iload_n 19 f189_18 rfl rfl ?_
  refine zw_aload_f 20 f189_19 rfl rfl ?_
  refine zw_arraylength 6 21 f189_20 rfl rfl ?_
  refine zw_bipush 6 23 f189_21 rfl (by decide +kernel) ?_
  refine zw_isub 0 24 f189_23 rfl (by decide +kernel) ?_
  refine zw_ic_gt_f 27 1021 f189_24 (by decide +kernel) rfl (by decide +kernel) ?_
  refine zw_aload_f 28 f189_27 rfl rfl ?_
  refine zw_iload_n 29 f189_28 rfl rfl ?_
  refine zw_iaload_f 0 6 (xs 0) 30 f189_29 rfl rfl (by decide +kernel) (by decide +kernel) (by decide +kernel) rfl ?_
  refine zw_bipush 31 32 f189_30 rfl (by decide +kernel) ?_
  refine zw_iand 0 33 f189_32 rfl e0 ?_
  refine zw_table_i (off := 123) 156 f189_33 (by decide +kernel) (by decide +kernel) (by decide +kernel) ?_
  refine zw_aload_n 157 f189_156 rfl rfl ?_
  refine zw_aload_f 158 f189_157 rfl rfl ?_
  refine zw_iload_n 159 f189_158 rfl rfl ?_
  refine zw_iconst 1 160 f189_159 rfl (by decide +kernel) ?_
  refine zw_iadd 1 161 f189_160 rfl (by decide +kernel) ?_
  refine zw_iaload_f 1 6 (xs 1) 162 f189_161 rfl rfl (by decide +kernel) (by decide +kernel) (by decide +kernel) rfl ?_
  refine zw_aload_f 163 f189_162 rfl rfl ?_
  refine zw_iload_n 164 f189_163 rfl rfl ?_
  refine zw_iconst 2 165 f189_164 rfl (by decide +kernel) ?_
  refine zw_iadd 2 166 f189_165 rfl (by decide +kernel) ?_
  refine zw_iaload_f 2 6 (xs 2) 167 f189_166 rfl rfl (by decide +kernel) (by decide +kernel) (by decide +kernel) rfl ?_
  refine zw_virtual_i 170 82 7398 [.ref 0, .int (xs 1), .int (xs 2)] [(0, .ref 0), (1, .int (xs 1)), (2, .int (xs 2))] f189_167 rfl n189_13 k189_13_11 rfl rfl (by decide +kernel) (Nat.le_of_ble_eq_true rfl) rfl rfl (by decide +kernel) (by decide +kernel) rfl (Nat.le_of_ble_eq_true rfl) rfl ?_
  refine zWp.mono (x_vessel_r3 (zro 6 xs) (xs 1) (xs 2) h1 h2 h3) ?_
  rintro r h1 ⟨rfl, hm⟩
  refine ⟨_, rfl, ?_⟩
  obtain ⟨x, rfl⟩ := zMF_ex hm
  refine zw_aload_n 171 f189_170 rfl rfl ?_
  refine zw_aload_f 172 f189_171 rfl rfl ?_
  refine zw_iload_n 173 f189_172 rfl rfl ?_
  refine zw_iconst 1 174 f189_173 rfl (by decide +kernel) ?_
  refine zw_iadd 1 175 f189_174 rfl (by decide +kernel) ?_
  refine zw_iaload_f 1 6 (xs 1) 176 f189_175 rfl rfl (by decide +kernel) (by decide +kernel) (by decide +kernel) rfl ?_
  refine zw_aload_f 177 f189_176 rfl rfl ?_
  refine zw_iload_n 178 f189_177 rfl rfl ?_
  refine zw_iconst 2 179 f189_178 rfl (by decide +kernel) ?_
  refine zw_iadd 2 180 f189_179 rfl (by decide +kernel) ?_
  refine zw_iaload_f 2 6 (xs 2) 181 f189_180 rfl rfl (by decide +kernel) (by decide +kernel) (by decide +kernel) rfl ?_
  refine zw_virtual_i 184 82 7398 [.ref 52, .int (xs 1), .int (xs 2)] [(0, .ref 52), (1, .int (xs 1)), (2, .int (xs 2))] f189_181 rfl n189_17 k189_17_12 rfl rfl (by decide +kernel) (Nat.le_of_ble_eq_true rfl) rfl rfl (by decide +kernel) (by decide +kernel) rfl (Nat.le_of_ble_eq_true rfl) rfl ?_
  refine zWp.mono (m_vessel_r3 (zro 6 xs) x (xs 1) (xs 2) h1 h2 h3) ?_
  rintro r h2 rfl
  refine ⟨_, rfl, ?_⟩
  refine zw_ic_eq_t 1015 f189_184 (by decide +kernel) (by decide +kernel) ?_
  refine zw_iinc 6 [(3, .int 6), (2, .ref 52), (1, .ref 0), (0, .float 0)] 1018 f189_1015 rfl rfl (by decide +kernel) (by decide +kernel) rfl ?_
  refine zw_goto 18 f189_1018 (by decide +kernel) ?_
  refine zw_iload_n 19 f189_18 rfl rfl ?_
  refine zw_aload_f 20 f189_19 rfl rfl ?_
  refine zw_arraylength 6 21 f189_20 rfl rfl ?_
  refine zw_bipush 6 23 f189_21 rfl (by decide +kernel) ?_
  refine zw_isub 0 24 f189_23 rfl (by decide +kernel) ?_
  refine zw_ic_gt_t 1021 f189_24 (by decide +kernel) (by decide +kernel) ?_
  refine zw_iconst 1 1022 f189_1021 rfl (by decide +kernel) ?_
  refine zw_zreturn f189_1022 r189 u189 (by decide +kernel) ?_
  exact rfl
set_option maxRecDepth 100000 in
set_option maxHeartbeats 0 in
theorem l_vessel_r4 (xs : Nat → Int32) (e0 : xs 0 &&& 31 = 0)  (h1 : ¬ (xs 1) < 0) (h2 : ¬ 4 < (xs 1)) (h3 : ¬ (xs 2) < 1) (h4 : 200 < (xs 2)) : zWp (zro 6 xs) 189 18 [(3, .int 0), (2, .ref 52), (1, .ref 0), (0, .float 0)] [] hF 82 7398 (fun r _ => r = some (.int 1)) := by
  refine zw_iload_n 19 f189_18 rfl rfl ?_
  refine zw_aload_f 20 f189_19 rfl rfl ?_
  refine zw_arraylength 6 21 f189_20 rfl rfl ?_
  refine zw_bipush 6 23 f189_21 rfl (by decide +kernel) ?_
  refine zw_isub 0 24 f189_23 rfl (by decide +kernel) ?_
  refine zw_ic_gt_f 27 1021 f189_24 (by decide +kernel) rfl (by decide +kernel) ?_
  refine zw_aload_f 28 f189_27 rfl rfl ?_
  refine zw_iload_n 29 f189_28 rfl rfl ?_
  refine zw_iaload_f 0 6 (xs 0) 30 f189_29 rfl rfl (by decide +kernel) (by decide +kernel) (by decide +kernel) rfl ?_
  refine zw_bipush 31 32 f189_30 rfl (by decide +kernel) ?_
  refine zw_iand 0 33 f189_32 rfl e0 ?_
  refine zw_table_i (off := 123) 156 f189_33 (by decide +kernel) (by decide +kernel) (by decide +kernel) ?_
  refine zw_aload_n 157 f189_156 rfl rfl ?_
  refine zw_aload_f 158 f189_157 rfl rfl ?_
  refine zw_iload_n 159 f189_158 rfl rfl ?_
  refine zw_iconst 1 160 f189_159 rfl (by decide +kernel) ?_
  refine zw_iadd 1 161 f189_160 rfl (by decide +kernel) ?_
  refine zw_iaload_f 1 6 (xs 1) 162 f189_161 rfl rfl (by decide +kernel) (by decide +kernel) (by decide +kernel) rfl ?_
  refine zw_aload_f 163 f189_162 rfl rfl ?_
  refine zw_iload_n 164 f189_163 rfl rfl ?_
  refine zw_iconst 2 165 f189_164 rfl (by decide +kernel) ?_
  refine zw_iadd 2 166 f189_165 rfl (by decide +kernel) ?_
  refine zw_iaload_f 2 6 (xs 2) 167 f189_166 rfl rfl (by decide +kernel) (by decide +kernel) (by decide +kernel) rfl ?_
  refine zw_virtual_i 170 82 7398 [.ref 0, .int (xs 1), .int (xs 2)] [(0, .ref 0), (1, .int (xs 1)), (2, .int (xs 2))] f189_167 rfl n189_13 k189_13_11 rfl rfl (by decide +kernel) (Nat.le_of_ble_eq_true rfl) rfl rfl (by decide +kernel) (by decide +kernel) rfl (Nat.le_of_ble_eq_true rfl) rfl ?_
  refine zWp.mono (x_vessel_r4 (zro 6 xs) (xs 1) (xs 2) h1 h2 h3 h4) ?_
  rintro r h1 ⟨rfl, hm⟩
  refine ⟨_, rfl, ?_⟩
  obtain ⟨x, rfl⟩ := zMF_ex hm
  refine zw_aload_n 171 f189_170 rfl rfl ?_
  refine zw_aload_f 172 f189_171 rfl rfl ?_
  refine zw_iload_n 173 f189_172 rfl rfl ?_
  refine zw_iconst 1 174 f189_173 rfl (by decide +kernel) ?_
  refine zw_iadd 1 175 f189_174 rfl (by decide +kernel) ?_
  refine zw_iaload_f 1 6 (xs 1) 176 f189_175 rfl rfl (by decide +kernel) (by decide +kernel) (by decide +kernel) rfl ?_
  refine zw_aload_f 177 f189_176 rfl rfl ?_
  refine zw_iload_n 178 f189_177 rfl rfl ?_
  refine zw_iconst 2 179 f189_178 rfl (by decide +kernel) ?_
  refine zw_iadd 2 180 f189_179 rfl (by decide +kernel) ?_
  refine zw_iaload_f 2 6 (xs 2) 181 f189_180 rfl rfl (by decide +kernel) (by decide +kernel) (by decide +kernel) rfl ?_
  refine zw_virtual_i 184 82 7398 [.ref 52, .int (xs 1), .int (xs 2)] [(0, .ref 52), (1, .int (xs 1)), (2, .int (xs 2))] f189_181 rfl n189_17 k189_17_12 rfl rfl (by decide +kernel) (Nat.le_of_ble_eq_true rfl) rfl rfl (by decide +kernel) (by decide +kernel) rfl (Nat.le_of_ble_eq_true rfl) rfl ?_
  refine zWp.mono (m_vessel_r4 (zro 6 xs) x (xs 1) (xs 2) h1 h2 h3 h4) ?_
  rintro r h2 rfl
  refine ⟨_, rfl, ?_⟩
  refine zw_ic_eq_t 1015 f189_184 (by decide +kernel) (by decide +kernel) ?_
  refine zw_iinc 6 [(3, .int 6), (2, .ref 52), (1, .ref 0), (0, .float 0)] 1018 f189_1015 rfl rfl (by decide +kernel) (by decide +kernel) rfl ?_
  refine zw_goto 18 f189_1018 (by decide +kernel) ?_
  refine zw_iload_n 19 f189_18 rfl rfl ?_
  refine zw_aload_f 20 f189_19 rfl rfl ?_
  refine zw_arraylength 6 21 f189_20 rfl rfl ?_
  refine zw_bipush 6 23 f189_21 rfl (by decide +kernel) ?_
  refine zw_isub 0 24 f189_23 rfl (by decide +kernel) ?_
  refine zw_ic_gt_t 1021 f189_24 (by decide +kernel) (by decide +kernel) ?_
  refine zw_iconst 1 1022 f189_1021 rfl (by decide +kernel) ?_
  refine zw_zreturn f189_1022 r189 u189 (by decide +kernel) ?_
  exact rfl
set_option maxRecDepth 100000 in
set_option maxHeartbeats 0 in
theorem l_vessel_k0 (xs : Nat → Int32) (e0 : xs 0 &&& 31 = 0) (q1 : xs 1 = 0) (h3 : ¬ (xs 2) < 1) (h4 : ¬ 200 < (xs 2)) : zWp (zro 6 xs) 189 18 [(3, .int 0), (2, .ref 52), (1, .ref 0), (0, .float 0)] [] hF 82 7398 (fun r _ => r = some (.int 1)) := by
  refine zw_iload_n 19 f189_18 rfl rfl ?_
  refine zw_aload_f 20 f189_19 rfl rfl ?_
  refine zw_arraylength 6 21 f189_20 rfl rfl ?_
  refine zw_bipush 6 23 f189_21 rfl (by decide +kernel) ?_
  refine zw_isub 0 24 f189_23 rfl (by decide +kernel) ?_
  refine zw_ic_gt_f 27 1021 f189_24 (by decide +kernel) rfl (by decide +kernel) ?_
  refine zw_aload_f 28 f189_27 rfl rfl ?_
  refine zw_iload_n 29 f189_28 rfl rfl ?_
  refine zw_iaload_f 0 6 (xs 0) 30 f189_29 rfl rfl (by decide +kernel) (by decide +kernel) (by decide +kernel) rfl ?_
  refine zw_bipush 31 32 f189_30 rfl (by decide +kernel) ?_
  refine zw_iand 0 33 f189_32 rfl e0 ?_
  refine zw_table_i (off := 123) 156 f189_33 (by decide +kernel) (by decide +kernel) (by decide +kernel) ?_
  refine zw_aload_n 157 f189_156 rfl rfl ?_
  refine zw_aload_f 158 f189_157 rfl rfl ?_
  refine zw_iload_n 159 f189_158 rfl rfl ?_
  refine zw_iconst 1 160 f189_159 rfl (by decide +kernel) ?_
  refine zw_iadd 1 161 f189_160 rfl (by decide +kernel) ?_
  refine zw_iaload_f 1 6 0 162 f189_161 rfl rfl (by decide +kernel) (by decide +kernel) (by decide +kernel) q1 ?_
  refine zw_aload_f 163 f189_162 rfl rfl ?_
  refine zw_iload_n 164 f189_163 rfl rfl ?_
  refine zw_iconst 2 165 f189_164 rfl (by decide +kernel) ?_
  refine zw_iadd 2 166 f189_165 rfl (by decide +kernel) ?_
  refine zw_iaload_f 2 6 (xs 2) 167 f189_166 rfl rfl (by decide +kernel) (by decide +kernel) (by decide +kernel) rfl ?_
  refine zw_virtual_i 170 82 7398 [.ref 0, .int 0, .int (xs 2)] [(0, .ref 0), (1, .int 0), (2, .int (xs 2))] f189_167 rfl n189_13 k189_13_11 rfl rfl (by decide +kernel) (Nat.le_of_ble_eq_true rfl) rfl rfl (by decide +kernel) (by decide +kernel) rfl (Nat.le_of_ble_eq_true rfl) rfl ?_
  refine zWp.mono (x_vessel_k0 (zro 6 xs) (xs 2) h3 h4) ?_
  rintro r h1 ⟨rfl, hm⟩
  refine ⟨_, rfl, ?_⟩
  obtain ⟨x, rfl⟩ := zMF_ex hm
  refine zw_aload_n 171 f189_170 rfl rfl ?_
  refine zw_aload_f 172 f189_171 rfl rfl ?_
  refine zw_iload_n 173 f189_172 rfl rfl ?_
  refine zw_iconst 1 174 f189_173 rfl (by decide +kernel) ?_
  refine zw_iadd 1 175 f189_174 rfl (by decide +kernel) ?_
  refine zw_iaload_f 1 6 0 176 f189_175 rfl rfl (by decide +kernel) (by decide +kernel) (by decide +kernel) q1 ?_
  refine zw_aload_f 177 f189_176 rfl rfl ?_
  refine zw_iload_n 178 f189_177 rfl rfl ?_
  refine zw_iconst 2 179 f189_178 rfl (by decide +kernel) ?_
  refine zw_iadd 2 180 f189_179 rfl (by decide +kernel) ?_
  refine zw_iaload_f 2 6 (xs 2) 181 f189_180 rfl rfl (by decide +kernel) (by decide +kernel) (by decide +kernel) rfl ?_
  refine zw_virtual_i 184 82 7398 [.ref 52, .int 0, .int (xs 2)] [(0, .ref 52), (1, .int 0), (2, .int (xs 2))] f189_181 rfl n189_17 k189_17_12 rfl rfl (by decide +kernel) (Nat.le_of_ble_eq_true rfl) rfl rfl (by decide +kernel) (by decide +kernel) rfl (Nat.le_of_ble_eq_true rfl) rfl ?_
  refine zWp.mono (m_vessel_k0 (zro 6 xs) x (xs 2) h3 h4) ?_
  rintro r h2 rfl
  refine ⟨_, rfl, ?_⟩
  refine zw_ic_eq_t 1015 f189_184 (by decide +kernel) (by decide +kernel) ?_
  refine zw_iinc 6 [(3, .int 6), (2, .ref 52), (1, .ref 0), (0, .float 0)] 1018 f189_1015 rfl rfl (by decide +kernel) (by decide +kernel) rfl ?_
  refine zw_goto 18 f189_1018 (by decide +kernel) ?_
  refine zw_iload_n 19 f189_18 rfl rfl ?_
  refine zw_aload_f 20 f189_19 rfl rfl ?_
  refine zw_arraylength 6 21 f189_20 rfl rfl ?_
  refine zw_bipush 6 23 f189_21 rfl (by decide +kernel) ?_
  refine zw_isub 0 24 f189_23 rfl (by decide +kernel) ?_
  refine zw_ic_gt_t 1021 f189_24 (by decide +kernel) (by decide +kernel) ?_
  refine zw_iconst 1 1022 f189_1021 rfl (by decide +kernel) ?_
  refine zw_zreturn f189_1022 r189 u189 (by decide +kernel) ?_
  exact rfl
set_option maxRecDepth 100000 in
set_option maxHeartbeats 0 in
theorem l_vessel_k1 (xs : Nat → Int32) (e0 : xs 0 &&& 31 = 0) (q1 : xs 1 = 1) (h3 : ¬ (xs 2) < 1) (h4 : ¬ 200 < (xs 2)) : zWp (zro 6 xs) 189 18 [(3, .int 0), (2, .ref 52), (1, .ref 0), (0, .float 0)] [] hF 82 7398 (fun r _ => r = some (.int 1)) := by
  refine zw_iload_n 19 f189_18 rfl rfl ?_
  refine zw_aload_f 20 f189_19 rfl rfl ?_
  refine zw_arraylength 6 21 f189_20 rfl rfl ?_
  refine zw_bipush 6 23 f189_21 rfl (by decide +kernel) ?_
  refine zw_isub 0 24 f189_23 rfl (by decide +kernel) ?_
  refine zw_ic_gt_f 27 1021 f189_24 (by decide +kernel) rfl (by decide +kernel) ?_
  refine zw_aload_f 28 f189_27 rfl rfl ?_
  refine zw_iload_n 29 f189_28 rfl rfl ?_
  refine zw_iaload_f 0 6 (xs 0) 30 f189_29 rfl rfl (by decide +kernel) (by decide +kernel) (by decide +kernel) rfl ?_
  refine zw_bipush 31 32 f189_30 rfl (by decide +kernel) ?_
  refine zw_iand 0 33 f189_32 rfl e0 ?_
  refine zw_table_i (off := 123) 156 f189_33 (by decide +kernel) (by decide +kernel) (by decide +kernel) ?_
  refine zw_aload_n 157 f189_156 rfl rfl ?_
  refine zw_aload_f 158 f189_157 rfl rfl ?_
  refine zw_iload_n 159 f189_158 rfl rfl ?_
  refine zw_iconst 1 160 f189_159 rfl (by decide +kernel) ?_
  refine zw_iadd 1 161 f189_160 rfl (by decide +kernel) ?_
  refine zw_iaload_f 1 6 1 162 f189_161 rfl rfl (by decide +kernel) (by decide +kernel) (by decide +kernel) q1 ?_
  refine zw_aload_f 163 f189_162 rfl rfl ?_
  refine zw_iload_n 164 f189_163 rfl rfl ?_
  refine zw_iconst 2 165 f189_164 rfl (by decide +kernel) ?_
  refine zw_iadd 2 166 f189_165 rfl (by decide +kernel) ?_
  refine zw_iaload_f 2 6 (xs 2) 167 f189_166 rfl rfl (by decide +kernel) (by decide +kernel) (by decide +kernel) rfl ?_
  refine zw_virtual_i 170 82 7398 [.ref 0, .int 1, .int (xs 2)] [(0, .ref 0), (1, .int 1), (2, .int (xs 2))] f189_167 rfl n189_13 k189_13_11 rfl rfl (by decide +kernel) (Nat.le_of_ble_eq_true rfl) rfl rfl (by decide +kernel) (by decide +kernel) rfl (Nat.le_of_ble_eq_true rfl) rfl ?_
  refine zWp.mono (x_vessel_k1 (zro 6 xs) (xs 2) h3 h4) ?_
  rintro r h1 ⟨rfl, hm⟩
  refine ⟨_, rfl, ?_⟩
  obtain ⟨x, rfl⟩ := zMF_ex hm
  refine zw_aload_n 171 f189_170 rfl rfl ?_
  refine zw_aload_f 172 f189_171 rfl rfl ?_
  refine zw_iload_n 173 f189_172 rfl rfl ?_
  refine zw_iconst 1 174 f189_173 rfl (by decide +kernel) ?_
  refine zw_iadd 1 175 f189_174 rfl (by decide +kernel) ?_
  refine zw_iaload_f 1 6 1 176 f189_175 rfl rfl (by decide +kernel) (by decide +kernel) (by decide +kernel) q1 ?_
  refine zw_aload_f 177 f189_176 rfl rfl ?_
  refine zw_iload_n 178 f189_177 rfl rfl ?_
  refine zw_iconst 2 179 f189_178 rfl (by decide +kernel) ?_
  refine zw_iadd 2 180 f189_179 rfl (by decide +kernel) ?_
  refine zw_iaload_f 2 6 (xs 2) 181 f189_180 rfl rfl (by decide +kernel) (by decide +kernel) (by decide +kernel) rfl ?_
  refine zw_virtual_i 184 82 7398 [.ref 52, .int 1, .int (xs 2)] [(0, .ref 52), (1, .int 1), (2, .int (xs 2))] f189_181 rfl n189_17 k189_17_12 rfl rfl (by decide +kernel) (Nat.le_of_ble_eq_true rfl) rfl rfl (by decide +kernel) (by decide +kernel) rfl (Nat.le_of_ble_eq_true rfl) rfl ?_
  refine zWp.mono (m_vessel_k1 (zro 6 xs) x (xs 2) h3 h4) ?_
  rintro r h2 rfl
  refine ⟨_, rfl, ?_⟩
  refine zw_ic_eq_t 1015 f189_184 (by decide +kernel) (by decide +kernel) ?_
  refine zw_iinc 6 [(3, .int 6), (2, .ref 52), (1, .ref 0), (0, .float 0)] 1018 f189_1015 rfl rfl (by decide +kernel) (by decide +kernel) rfl ?_
  refine zw_goto 18 f189_1018 (by decide +kernel) ?_
  refine zw_iload_n 19 f189_18 rfl rfl ?_
  refine zw_aload_f 20 f189_19 rfl rfl ?_
  refine zw_arraylength 6 21 f189_20 rfl rfl ?_
  refine zw_bipush 6 23 f189_21 rfl (by decide +kernel) ?_
  refine zw_isub 0 24 f189_23 rfl (by decide +kernel) ?_
  refine zw_ic_gt_t 1021 f189_24 (by decide +kernel) (by decide +kernel) ?_
  refine zw_iconst 1 1022 f189_1021 rfl (by decide +kernel) ?_
  refine zw_zreturn f189_1022 r189 u189 (by decide +kernel) ?_
  exact rfl
set_option maxRecDepth 100000 in
set_option maxHeartbeats 0 in
theorem l_vessel_k2 (xs : Nat → Int32) (e0 : xs 0 &&& 31 = 0) (q1 : xs 1 = 2) (h3 : ¬ (xs 2) < 1) (h4 : ¬ 200 < (xs 2)) : zWp (zro 6 xs) 189 18 [(3, .int 0), (2, .ref 52), (1, .ref 0), (0, .float 0)] [] hF 82 7398 (fun r _ => r = some (.int 1)) := by
  refine zw_iload_n 19 f189_18 rfl rfl ?_
  refine zw_aload_f 20 f189_19 rfl rfl ?_
  refine zw_arraylength 6 21 f189_20 rfl rfl ?_
  refine zw_bipush 6 23 f189_21 rfl (by decide +kernel) ?_
  refine zw_isub 0 24 f189_23 rfl (by decide +kernel) ?_
  refine zw_ic_gt_f 27 1021 f189_24 (by decide +kernel) rfl (by decide +kernel) ?_
  refine zw_aload_f 28 f189_27 rfl rfl ?_
  refine zw_iload_n 29 f189_28 rfl rfl ?_
  refine zw_iaload_f 0 6 (xs 0) 30 f189_29 rfl rfl (by decide +kernel) (by decide +kernel) (by decide +kernel) rfl ?_
  refine zw_bipush 31 32 f189_30 rfl (by decide +kernel) ?_
  refine zw_iand 0 33 f189_32 rfl e0 ?_
  refine zw_table_i (off := 123) 156 f189_33 (by decide +kernel) (by decide +kernel) (by decide +kernel) ?_
  refine zw_aload_n 157 f189_156 rfl rfl ?_
  refine zw_aload_f 158 f189_157 rfl rfl ?_
  refine zw_iload_n 159 f189_158 rfl rfl ?_
  refine zw_iconst 1 160 f189_159 rfl (by decide +kernel) ?_
  refine zw_iadd 1 161 f189_160 rfl (by decide +kernel) ?_
  refine zw_iaload_f 1 6 2 162 f189_161 rfl rfl (by decide +kernel) (by decide +kernel) (by decide +kernel) q1 ?_
  refine zw_aload_f 163 f189_162 rfl rfl ?_
  refine zw_iload_n 164 f189_163 rfl rfl ?_
  refine zw_iconst 2 165 f189_164 rfl (by decide +kernel) ?_
  refine zw_iadd 2 166 f189_165 rfl (by decide +kernel) ?_
  refine zw_iaload_f 2 6 (xs 2) 167 f189_166 rfl rfl (by decide +kernel) (by decide +kernel) (by decide +kernel) rfl ?_
  refine zw_virtual_i 170 82 7398 [.ref 0, .int 2, .int (xs 2)] [(0, .ref 0), (1, .int 2), (2, .int (xs 2))] f189_167 rfl n189_13 k189_13_11 rfl rfl (by decide +kernel) (Nat.le_of_ble_eq_true rfl) rfl rfl (by decide +kernel) (by decide +kernel) rfl (Nat.le_of_ble_eq_true rfl) rfl ?_
  refine zWp.mono (x_vessel_k2 (zro 6 xs) (xs 2) h3 h4) ?_
  rintro r h1 ⟨rfl, hm⟩
  refine ⟨_, rfl, ?_⟩
  obtain ⟨x, rfl⟩ := zMF_ex hm
  refine zw_aload_n 171 f189_170 rfl rfl ?_
  refine zw_aload_f 172 f189_171 rfl rfl ?_
  refine zw_iload_n 173 f189_172 rfl rfl ?_
  refine zw_iconst 1 174 f189_173 rfl (by decide +kernel) ?_
  refine zw_iadd 1 175 f189_174 rfl (by decide +kernel) ?_
  refine zw_iaload_f 1 6 2 176 f189_175 rfl rfl (by decide +kernel) (by decide +kernel) (by decide +kernel) q1 ?_
  refine zw_aload_f 177 f189_176 rfl rfl ?_
  refine zw_iload_n 178 f189_177 rfl rfl ?_
  refine zw_iconst 2 179 f189_178 rfl (by decide +kernel) ?_
  refine zw_iadd 2 180 f189_179 rfl (by decide +kernel) ?_
  refine zw_iaload_f 2 6 (xs 2) 181 f189_180 rfl rfl (by decide +kernel) (by decide +kernel) (by decide +kernel) rfl ?_
  refine zw_virtual_i 184 82 7398 [.ref 52, .int 2, .int (xs 2)] [(0, .ref 52), (1, .int 2), (2, .int (xs 2))] f189_181 rfl n189_17 k189_17_12 rfl rfl (by decide +kernel) (Nat.le_of_ble_eq_true rfl) rfl rfl (by decide +kernel) (by decide +kernel) rfl (Nat.le_of_ble_eq_true rfl) rfl ?_
  refine zWp.mono (m_vessel_k2 (zro 6 xs) x (xs 2) h3 h4) ?_
  rintro r h2 rfl
  refine ⟨_, rfl, ?_⟩
  refine zw_ic_eq_t 1015 f189_184 (by decide +kernel) (by decide +kernel) ?_
  refine zw_iinc 6 [(3, .int 6), (2, .ref 52), (1, .ref 0), (0, .float 0)] 1018 f189_1015 rfl rfl (by decide +kernel) (by decide +kernel) rfl ?_
  refine zw_goto 18 f189_1018 (by decide +kernel) ?_
  refine zw_iload_n 19 f189_18 rfl rfl ?_
  refine zw_aload_f 20 f189_19 rfl rfl ?_
  refine zw_arraylength 6 21 f189_20 rfl rfl ?_
  refine zw_bipush 6 23 f189_21 rfl (by decide +kernel) ?_
  refine zw_isub 0 24 f189_23 rfl (by decide +kernel) ?_
  refine zw_ic_gt_t 1021 f189_24 (by decide +kernel) (by decide +kernel) ?_
  refine zw_iconst 1 1022 f189_1021 rfl (by decide +kernel) ?_
  refine zw_zreturn f189_1022 r189 u189 (by decide +kernel) ?_
  exact rfl
set_option maxRecDepth 100000 in
set_option maxHeartbeats 0 in
theorem l_vessel_k3 (xs : Nat → Int32) (e0 : xs 0 &&& 31 = 0) (q1 : xs 1 = 3) (h3 : ¬ (xs 2) < 1) (h4 : ¬ 200 < (xs 2)) : zWp (zro 6 xs) 189 18 [(3, .int 0), (2, .ref 52), (1, .ref 0), (0, .float 0)] [] hF 82 7398 (fun r _ => r = some (.int 1)) := by
  refine zw_iload_n 19 f189_18 rfl rfl ?_
  refine zw_aload_f 20 f189_19 rfl rfl ?_
  refine zw_arraylength 6 21 f189_20 rfl rfl ?_
  refine zw_bipush 6 23 f189_21 rfl (by decide +kernel) ?_
  refine zw_isub 0 24 f189_23 rfl (by decide +kernel) ?_
  refine zw_ic_gt_f 27 1021 f189_24 (by decide +kernel) rfl (by decide +kernel) ?_
  refine zw_aload_f 28 f189_27 rfl rfl ?_
  refine zw_iload_n 29 f189_28 rfl rfl ?_
  refine zw_iaload_f 0 6 (xs 0) 30 f189_29 rfl rfl (by decide +kernel) (by decide +kernel) (by decide +kernel) rfl ?_
  refine zw_bipush 31 32 f189_30 rfl (by decide +kernel) ?_
  refine zw_iand 0 33 f189_32 rfl e0 ?_
  refine zw_table_i (off := 123) 156 f189_33 (by decide +kernel) (by decide +kernel) (by decide +kernel) ?_
  refine zw_aload_n 157 f189_156 rfl rfl ?_
  refine zw_aload_f 158 f189_157 rfl rfl ?_
  refine zw_iload_n 159 f189_158 rfl rfl ?_
  refine zw_iconst 1 160 f189_159 rfl (by decide +kernel) ?_
  refine zw_iadd 1 161 f189_160 rfl (by decide +kernel) ?_
  refine zw_iaload_f 1 6 3 162 f189_161 rfl rfl (by decide +kernel) (by decide +kernel) (by decide +kernel) q1 ?_
  refine zw_aload_f 163 f189_162 rfl rfl ?_
  refine zw_iload_n 164 f189_163 rfl rfl ?_
  refine zw_iconst 2 165 f189_164 rfl (by decide +kernel) ?_
  refine zw_iadd 2 166 f189_165 rfl (by decide +kernel) ?_
  refine zw_iaload_f 2 6 (xs 2) 167 f189_166 rfl rfl (by decide +kernel) (by decide +kernel) (by decide +kernel) rfl ?_
  refine zw_virtual_i 170 82 7398 [.ref 0, .int 3, .int (xs 2)] [(0, .ref 0), (1, .int 3), (2, .int (xs 2))] f189_167 rfl n189_13 k189_13_11 rfl rfl (by decide +kernel) (Nat.le_of_ble_eq_true rfl) rfl rfl (by decide +kernel) (by decide +kernel) rfl (Nat.le_of_ble_eq_true rfl) rfl ?_
  refine zWp.mono (x_vessel_k3 (zro 6 xs) (xs 2) h3 h4) ?_
  rintro r h1 ⟨rfl, hm⟩
  refine ⟨_, rfl, ?_⟩
  obtain ⟨x, rfl⟩ := zMF_ex hm
  refine zw_aload_n 171 f189_170 rfl rfl ?_
  refine zw_aload_f 172 f189_171 rfl rfl ?_
  refine zw_iload_n 173 f189_172 rfl rfl ?_
  refine zw_iconst 1 174 f189_173 rfl (by decide +kernel) ?_
  refine zw_iadd 1 175 f189_174 rfl (by decide +kernel) ?_
  refine zw_iaload_f 1 6 3 176 f189_175 rfl rfl (by decide +kernel) (by decide +kernel) (by decide +kernel) q1 ?_
  refine zw_aload_f 177 f189_176 rfl rfl ?_
  refine zw_iload_n 178 f189_177 rfl rfl ?_
  refine zw_iconst 2 179 f189_178 rfl (by decide +kernel) ?_
  refine zw_iadd 2 180 f189_179 rfl (by decide +kernel) ?_
  refine zw_iaload_f 2 6 (xs 2) 181 f189_180 rfl rfl (by decide +kernel) (by decide +kernel) (by decide +kernel) rfl ?_
  refine zw_virtual_i 184 82 7398 [.ref 52, .int 3, .int (xs 2)] [(0, .ref 52), (1, .int 3), (2, .int (xs 2))] f189_181 rfl n189_17 k189_17_12 rfl rfl (by decide +kernel) (Nat.le_of_ble_eq_true rfl) rfl rfl (by decide +kernel) (by decide +kernel) rfl (Nat.le_of_ble_eq_true rfl) rfl ?_
  refine zWp.mono (m_vessel_k3 (zro 6 xs) x (xs 2) h3 h4) ?_
  rintro r h2 rfl
  refine ⟨_, rfl, ?_⟩
  refine zw_ic_eq_t 1015 f189_184 (by decide +kernel) (by decide +kernel) ?_
  refine zw_iinc 6 [(3, .int 6), (2, .ref 52), (1, .ref 0), (0, .float 0)] 1018 f189_1015 rfl rfl (by decide +kernel) (by decide +kernel) rfl ?_
  refine zw_goto 18 f189_1018 (by decide +kernel) ?_
  refine zw_iload_n 19 f189_18 rfl rfl ?_
  refine zw_aload_f 20 f189_19 rfl rfl ?_
  refine zw_arraylength 6 21 f189_20 rfl rfl ?_
  refine zw_bipush 6 23 f189_21 rfl (by decide +kernel) ?_
  refine zw_isub 0 24 f189_23 rfl (by decide +kernel) ?_
  refine zw_ic_gt_t 1021 f189_24 (by decide +kernel) (by decide +kernel) ?_
  refine zw_iconst 1 1022 f189_1021 rfl (by decide +kernel) ?_
  refine zw_zreturn f189_1022 r189 u189 (by decide +kernel) ?_
  exact rfl
set_option maxRecDepth 100000 in
set_option maxHeartbeats 0 in
theorem l_vessel_k4 (xs : Nat → Int32) (e0 : xs 0 &&& 31 = 0) (q1 : xs 1 = 4) (h3 : ¬ (xs 2) < 1) (h4 : ¬ 200 < (xs 2)) : zWp (zro 6 xs) 189 18 [(3, .int 0), (2, .ref 52), (1, .ref 0), (0, .float 0)] [] hF 82 7398 (fun r _ => r = some (.int 1)) := by
  refine zw_iload_n 19 f189_18 rfl rfl ?_
  refine zw_aload_f 20 f189_19 rfl rfl ?_
  refine zw_arraylength 6 21 f189_20 rfl rfl ?_
  refine zw_bipush 6 23 f189_21 rfl (by decide +kernel) ?_
  refine zw_isub 0 24 f189_23 rfl (by decide +kernel) ?_
  refine zw_ic_gt_f 27 1021 f189_24 (by decide +kernel) rfl (by decide +kernel) ?_
  refine zw_aload_f 28 f189_27 rfl rfl ?_
  refine zw_iload_n 29 f189_28 rfl rfl ?_
  refine zw_iaload_f 0 6 (xs 0) 30 f189_29 rfl rfl (by decide +kernel) (by decide +kernel) (by decide +kernel) rfl ?_
  refine zw_bipush 31 32 f189_30 rfl (by decide +kernel) ?_
  refine zw_iand 0 33 f189_32 rfl e0 ?_
  refine zw_table_i (off := 123) 156 f189_33 (by decide +kernel) (by decide +kernel) (by decide +kernel) ?_
  refine zw_aload_n 157 f189_156 rfl rfl ?_
  refine zw_aload_f 158 f189_157 rfl rfl ?_
  refine zw_iload_n 159 f189_158 rfl rfl ?_
  refine zw_iconst 1 160 f189_159 rfl (by decide +kernel) ?_
  refine zw_iadd 1 161 f189_160 rfl (by decide +kernel) ?_
  refine zw_iaload_f 1 6 4 162 f189_161 rfl rfl (by decide +kernel) (by decide +kernel) (by decide +kernel) q1 ?_
  refine zw_aload_f 163 f189_162 rfl rfl ?_
  refine zw_iload_n 164 f189_163 rfl rfl ?_
  refine zw_iconst 2 165 f189_164 rfl (by decide +kernel) ?_
  refine zw_iadd 2 166 f189_165 rfl (by decide +kernel) ?_
  refine zw_iaload_f 2 6 (xs 2) 167 f189_166 rfl rfl (by decide +kernel) (by decide +kernel) (by decide +kernel) rfl ?_
  refine zw_virtual_i 170 82 7398 [.ref 0, .int 4, .int (xs 2)] [(0, .ref 0), (1, .int 4), (2, .int (xs 2))] f189_167 rfl n189_13 k189_13_11 rfl rfl (by decide +kernel) (Nat.le_of_ble_eq_true rfl) rfl rfl (by decide +kernel) (by decide +kernel) rfl (Nat.le_of_ble_eq_true rfl) rfl ?_
  refine zWp.mono (x_vessel_k4 (zro 6 xs) (xs 2) h3 h4) ?_
  rintro r h1 ⟨rfl, hm⟩
  refine ⟨_, rfl, ?_⟩
  obtain ⟨x, rfl⟩ := zMF_ex hm
  refine zw_aload_n 171 f189_170 rfl rfl ?_
  refine zw_aload_f 172 f189_171 rfl rfl ?_
  refine zw_iload_n 173 f189_172 rfl rfl ?_
  refine zw_iconst 1 174 f189_173 rfl (by decide +kernel) ?_
  refine zw_iadd 1 175 f189_174 rfl (by decide +kernel) ?_
  refine zw_iaload_f 1 6 4 176 f189_175 rfl rfl (by decide +kernel) (by decide +kernel) (by decide +kernel) q1 ?_
  refine zw_aload_f 177 f189_176 rfl rfl ?_
  refine zw_iload_n 178 f189_177 rfl rfl ?_
  refine zw_iconst 2 179 f189_178 rfl (by decide +kernel) ?_
  refine zw_iadd 2 180 f189_179 rfl (by decide +kernel) ?_
  refine zw_iaload_f 2 6 (xs 2) 181 f189_180 rfl rfl (by decide +kernel) (by decide +kernel) (by decide +kernel) rfl ?_
  refine zw_virtual_i 184 82 7398 [.ref 52, .int 4, .int (xs 2)] [(0, .ref 52), (1, .int 4), (2, .int (xs 2))] f189_181 rfl n189_17 k189_17_12 rfl rfl (by decide +kernel) (Nat.le_of_ble_eq_true rfl) rfl rfl (by decide +kernel) (by decide +kernel) rfl (Nat.le_of_ble_eq_true rfl) rfl ?_
  refine zWp.mono (m_vessel_k4 (zro 6 xs) x (xs 2) h3 h4) ?_
  rintro r h2 rfl
  refine ⟨_, rfl, ?_⟩
  refine zw_ic_eq_t 1015 f189_184 (by decide +kernel) (by decide +kernel) ?_
  refine zw_iinc 6 [(3, .int 6), (2, .ref 52), (1, .ref 0), (0, .float 0)] 1018 f189_1015 rfl rfl (by decide +kernel) (by decide +kernel) rfl ?_
  refine zw_goto 18 f189_1018 (by decide +kernel) ?_
  refine zw_iload_n 19 f189_18 rfl rfl ?_
  refine zw_aload_f 20 f189_19 rfl rfl ?_
  refine zw_arraylength 6 21 f189_20 rfl rfl ?_
  refine zw_bipush 6 23 f189_21 rfl (by decide +kernel) ?_
  refine zw_isub 0 24 f189_23 rfl (by decide +kernel) ?_
  refine zw_ic_gt_t 1021 f189_24 (by decide +kernel) (by decide +kernel) ?_
  refine zw_iconst 1 1022 f189_1021 rfl (by decide +kernel) ?_
  refine zw_zreturn f189_1022 r189 u189 (by decide +kernel) ?_
  exact rfl
set_option maxRecDepth 100000 in
set_option maxHeartbeats 0 in
theorem l_marks_r (xs : Nat → Int32) (e0 : xs 0 &&& 31 = 1)   : zWp (zro 6 xs) 189 18 [(3, .int 0), (2, .ref 52), (1, .ref 0), (0, .float 0)] [] hF 82 7398 (fun r _ => r = some (.int 1)) := by
  refine zw_iload_n 19 f189_18 rfl rfl ?_
  refine zw_aload_f 20 f189_19 rfl rfl ?_
  refine zw_arraylength 6 21 f189_20 rfl rfl ?_
  refine zw_bipush 6 23 f189_21 rfl (by decide +kernel) ?_
  refine zw_isub 0 24 f189_23 rfl (by decide +kernel) ?_
  refine zw_ic_gt_f 27 1021 f189_24 (by decide +kernel) rfl (by decide +kernel) ?_
  refine zw_aload_f 28 f189_27 rfl rfl ?_
  refine zw_iload_n 29 f189_28 rfl rfl ?_
  refine zw_iaload_f 0 6 (xs 0) 30 f189_29 rfl rfl (by decide +kernel) (by decide +kernel) (by decide +kernel) rfl ?_
  refine zw_bipush 31 32 f189_30 rfl (by decide +kernel) ?_
  refine zw_iand 1 33 f189_32 rfl e0 ?_
  refine zw_table_i (off := 156) 189 f189_33 (by decide +kernel) (by decide +kernel) (by decide +kernel) ?_
  refine zw_aload_n 190 f189_189 rfl rfl ?_
  refine zw_aload_f 191 f189_190 rfl rfl ?_
  refine zw_iload_n 192 f189_191 rfl rfl ?_
  refine zw_iconst 1 193 f189_192 rfl (by decide +kernel) ?_
  refine zw_iadd 1 194 f189_193 rfl (by decide +kernel) ?_
  refine zw_iaload_f 1 6 (xs 1) 195 f189_194 rfl rfl (by decide +kernel) (by decide +kernel) (by decide +kernel) rfl ?_
  refine zw_aload_f 196 f189_195 rfl rfl ?_
  refine zw_iload_n 197 f189_196 rfl rfl ?_
  refine zw_iconst 2 198 f189_197 rfl (by decide +kernel) ?_
  refine zw_iadd 2 199 f189_198 rfl (by decide +kernel) ?_
  refine zw_iaload_f 2 6 (xs 2) 200 f189_199 rfl rfl (by decide +kernel) (by decide +kernel) (by decide +kernel) rfl ?_
  refine zw_aload_f 201 f189_200 rfl rfl ?_
  refine zw_iload_n 202 f189_201 rfl rfl ?_
  refine zw_iconst 3 203 f189_202 rfl (by decide +kernel) ?_
  refine zw_iadd 3 204 f189_203 rfl (by decide +kernel) ?_
  refine zw_iaload_f 3 6 (xs 3) 205 f189_204 rfl rfl (by decide +kernel) (by decide +kernel) (by decide +kernel) rfl ?_
  refine zw_virtual_i 208 82 7398 [.ref 0, .int (xs 1), .int (xs 2), .int (xs 3)] [(0, .ref 0), (1, .int (xs 1)), (2, .int (xs 2)), (3, .int (xs 3))] f189_205 rfl n189_18 k189_18_11 rfl rfl (by decide +kernel) (Nat.le_of_ble_eq_true rfl) rfl rfl (by decide +kernel) (by decide +kernel) rfl (Nat.le_of_ble_eq_true rfl) rfl ?_
  refine zWp.mono (x_marks_r (zro 6 xs) (xs 1) (xs 2) (xs 3)) ?_
  rintro r h1 ⟨rfl, hm⟩
  refine ⟨_, rfl, ?_⟩
  obtain ⟨x, rfl⟩ := zMF_ex hm
  refine zw_aload_n 209 f189_208 rfl rfl ?_
  refine zw_aload_f 210 f189_209 rfl rfl ?_
  refine zw_iload_n 211 f189_210 rfl rfl ?_
  refine zw_iconst 1 212 f189_211 rfl (by decide +kernel) ?_
  refine zw_iadd 1 213 f189_212 rfl (by decide +kernel) ?_
  refine zw_iaload_f 1 6 (xs 1) 214 f189_213 rfl rfl (by decide +kernel) (by decide +kernel) (by decide +kernel) rfl ?_
  refine zw_aload_f 215 f189_214 rfl rfl ?_
  refine zw_iload_n 216 f189_215 rfl rfl ?_
  refine zw_iconst 2 217 f189_216 rfl (by decide +kernel) ?_
  refine zw_iadd 2 218 f189_217 rfl (by decide +kernel) ?_
  refine zw_iaload_f 2 6 (xs 2) 219 f189_218 rfl rfl (by decide +kernel) (by decide +kernel) (by decide +kernel) rfl ?_
  refine zw_aload_f 220 f189_219 rfl rfl ?_
  refine zw_iload_n 221 f189_220 rfl rfl ?_
  refine zw_iconst 3 222 f189_221 rfl (by decide +kernel) ?_
  refine zw_iadd 3 223 f189_222 rfl (by decide +kernel) ?_
  refine zw_iaload_f 3 6 (xs 3) 224 f189_223 rfl rfl (by decide +kernel) (by decide +kernel) (by decide +kernel) rfl ?_
  refine zw_virtual_i 227 82 7398 [.ref 52, .int (xs 1), .int (xs 2), .int (xs 3)] [(0, .ref 52), (1, .int (xs 1)), (2, .int (xs 2)), (3, .int (xs 3))] f189_224 rfl n189_22 k189_22_12 rfl rfl (by decide +kernel) (Nat.le_of_ble_eq_true rfl) rfl rfl (by decide +kernel) (by decide +kernel) rfl (Nat.le_of_ble_eq_true rfl) rfl ?_
  refine zWp.mono (m_marks_r (zro 6 xs) x (xs 1) (xs 2) (xs 3)) ?_
  rintro r h2 rfl
  refine ⟨_, rfl, ?_⟩
  refine zw_ic_eq_t 1015 f189_227 (by decide +kernel) (by decide +kernel) ?_
  refine zw_iinc 6 [(3, .int 6), (2, .ref 52), (1, .ref 0), (0, .float 0)] 1018 f189_1015 rfl rfl (by decide +kernel) (by decide +kernel) rfl ?_
  refine zw_goto 18 f189_1018 (by decide +kernel) ?_
  refine zw_iload_n 19 f189_18 rfl rfl ?_
  refine zw_aload_f 20 f189_19 rfl rfl ?_
  refine zw_arraylength 6 21 f189_20 rfl rfl ?_
  refine zw_bipush 6 23 f189_21 rfl (by decide +kernel) ?_
  refine zw_isub 0 24 f189_23 rfl (by decide +kernel) ?_
  refine zw_ic_gt_t 1021 f189_24 (by decide +kernel) (by decide +kernel) ?_
  refine zw_iconst 1 1022 f189_1021 rfl (by decide +kernel) ?_
  refine zw_zreturn f189_1022 r189 u189 (by decide +kernel) ?_
  exact rfl
set_option maxRecDepth 100000 in
set_option maxHeartbeats 0 in
theorem l_own_r (xs : Nat → Int32) (e0 : xs 0 &&& 31 = 2)   : zWp (zro 6 xs) 189 18 [(3, .int 0), (2, .ref 52), (1, .ref 0), (0, .float 0)] [] hF 82 7398 (fun r _ => r = some (.int 1)) := by
  refine zw_iload_n 19 f189_18 rfl rfl ?_
  refine zw_aload_f 20 f189_19 rfl rfl ?_
  refine zw_arraylength 6 21 f189_20 rfl rfl ?_
  refine zw_bipush 6 23 f189_21 rfl (by decide +kernel) ?_
  refine zw_isub 0 24 f189_23 rfl (by decide +kernel) ?_
  refine zw_ic_gt_f 27 1021 f189_24 (by decide +kernel) rfl (by decide +kernel) ?_
  refine zw_aload_f 28 f189_27 rfl rfl ?_
  refine zw_iload_n 29 f189_28 rfl rfl ?_
  refine zw_iaload_f 0 6 (xs 0) 30 f189_29 rfl rfl (by decide +kernel) (by decide +kernel) (by decide +kernel) rfl ?_
  refine zw_bipush 31 32 f189_30 rfl (by decide +kernel) ?_
  refine zw_iand 2 33 f189_32 rfl e0 ?_
  refine zw_table_i (off := 199) 232 f189_33 (by decide +kernel) (by decide +kernel) (by decide +kernel) ?_
  refine zw_aload_n 233 f189_232 rfl rfl ?_
  refine zw_aload_f 234 f189_233 rfl rfl ?_
  refine zw_iload_n 235 f189_234 rfl rfl ?_
  refine zw_iconst 1 236 f189_235 rfl (by decide +kernel) ?_
  refine zw_iadd 1 237 f189_236 rfl (by decide +kernel) ?_
  refine zw_iaload_f 1 6 (xs 1) 238 f189_237 rfl rfl (by decide +kernel) (by decide +kernel) (by decide +kernel) rfl ?_
  refine zw_aload_f 239 f189_238 rfl rfl ?_
  refine zw_iload_n 240 f189_239 rfl rfl ?_
  refine zw_iconst 2 241 f189_240 rfl (by decide +kernel) ?_
  refine zw_iadd 2 242 f189_241 rfl (by decide +kernel) ?_
  refine zw_iaload_f 2 6 (xs 2) 243 f189_242 rfl rfl (by decide +kernel) (by decide +kernel) (by decide +kernel) rfl ?_
  refine zw_virtual_i 246 82 7398 [.ref 0, .int (xs 1), .int (xs 2)] [(0, .ref 0), (1, .int (xs 1)), (2, .int (xs 2))] f189_243 rfl n189_23 k189_23_11 rfl rfl (by decide +kernel) (Nat.le_of_ble_eq_true rfl) rfl rfl (by decide +kernel) (by decide +kernel) rfl (Nat.le_of_ble_eq_true rfl) rfl ?_
  refine zWp.mono (x_own_r (zro 6 xs) (xs 1) (xs 2)) ?_
  rintro r h1 ⟨rfl, hm⟩
  refine ⟨_, rfl, ?_⟩
  obtain ⟨x, rfl⟩ := zMF_ex hm
  refine zw_aload_n 247 f189_246 rfl rfl ?_
  refine zw_aload_f 248 f189_247 rfl rfl ?_
  refine zw_iload_n 249 f189_248 rfl rfl ?_
  refine zw_iconst 1 250 f189_249 rfl (by decide +kernel) ?_
  refine zw_iadd 1 251 f189_250 rfl (by decide +kernel) ?_
  refine zw_iaload_f 1 6 (xs 1) 252 f189_251 rfl rfl (by decide +kernel) (by decide +kernel) (by decide +kernel) rfl ?_
  refine zw_aload_f 253 f189_252 rfl rfl ?_
  refine zw_iload_n 254 f189_253 rfl rfl ?_
  refine zw_iconst 2 255 f189_254 rfl (by decide +kernel) ?_
  refine zw_iadd 2 256 f189_255 rfl (by decide +kernel) ?_
  refine zw_iaload_f 2 6 (xs 2) 257 f189_256 rfl rfl (by decide +kernel) (by decide +kernel) (by decide +kernel) rfl ?_
  refine zw_virtual_i 260 82 7398 [.ref 52, .int (xs 1), .int (xs 2)] [(0, .ref 52), (1, .int (xs 1)), (2, .int (xs 2))] f189_257 rfl n189_26 k189_26_12 rfl rfl (by decide +kernel) (Nat.le_of_ble_eq_true rfl) rfl rfl (by decide +kernel) (by decide +kernel) rfl (Nat.le_of_ble_eq_true rfl) rfl ?_
  refine zWp.mono (m_own_r (zro 6 xs) x (xs 1) (xs 2)) ?_
  rintro r h2 rfl
  refine ⟨_, rfl, ?_⟩
  refine zw_ic_eq_t 1015 f189_260 (by decide +kernel) (by decide +kernel) ?_
  refine zw_iinc 6 [(3, .int 6), (2, .ref 52), (1, .ref 0), (0, .float 0)] 1018 f189_1015 rfl rfl (by decide +kernel) (by decide +kernel) rfl ?_
  refine zw_goto 18 f189_1018 (by decide +kernel) ?_
  refine zw_iload_n 19 f189_18 rfl rfl ?_
  refine zw_aload_f 20 f189_19 rfl rfl ?_
  refine zw_arraylength 6 21 f189_20 rfl rfl ?_
  refine zw_bipush 6 23 f189_21 rfl (by decide +kernel) ?_
  refine zw_isub 0 24 f189_23 rfl (by decide +kernel) ?_
  refine zw_ic_gt_t 1021 f189_24 (by decide +kernel) (by decide +kernel) ?_
  refine zw_iconst 1 1022 f189_1021 rfl (by decide +kernel) ?_
  refine zw_zreturn f189_1022 r189 u189 (by decide +kernel) ?_
  exact rfl
set_option maxRecDepth 100000 in
set_option maxHeartbeats 0 in
theorem l_tips_r (xs : Nat → Int32) (e0 : xs 0 &&& 31 = 3)   : zWp (zro 6 xs) 189 18 [(3, .int 0), (2, .ref 52), (1, .ref 0), (0, .float 0)] [] hF 82 7398 (fun r _ => r = some (.int 1)) := by
  refine zw_iload_n 19 f189_18 rfl rfl ?_
  refine zw_aload_f 20 f189_19 rfl rfl ?_
  refine zw_arraylength 6 21 f189_20 rfl rfl ?_
  refine zw_bipush 6 23 f189_21 rfl (by decide +kernel) ?_
  refine zw_isub 0 24 f189_23 rfl (by decide +kernel) ?_
  refine zw_ic_gt_f 27 1021 f189_24 (by decide +kernel) rfl (by decide +kernel) ?_
  refine zw_aload_f 28 f189_27 rfl rfl ?_
  refine zw_iload_n 29 f189_28 rfl rfl ?_
  refine zw_iaload_f 0 6 (xs 0) 30 f189_29 rfl rfl (by decide +kernel) (by decide +kernel) (by decide +kernel) rfl ?_
  refine zw_bipush 31 32 f189_30 rfl (by decide +kernel) ?_
  refine zw_iand 3 33 f189_32 rfl e0 ?_
  refine zw_table_i (off := 232) 265 f189_33 (by decide +kernel) (by decide +kernel) (by decide +kernel) ?_
  refine zw_aload_n 266 f189_265 rfl rfl ?_
  refine zw_aload_f 267 f189_266 rfl rfl ?_
  refine zw_iload_n 268 f189_267 rfl rfl ?_
  refine zw_iconst 1 269 f189_268 rfl (by decide +kernel) ?_
  refine zw_iadd 1 270 f189_269 rfl (by decide +kernel) ?_
  refine zw_iaload_f 1 6 (xs 1) 271 f189_270 rfl rfl (by decide +kernel) (by decide +kernel) (by decide +kernel) rfl ?_
  refine zw_aload_f 272 f189_271 rfl rfl ?_
  refine zw_iload_n 273 f189_272 rfl rfl ?_
  refine zw_iconst 2 274 f189_273 rfl (by decide +kernel) ?_
  refine zw_iadd 2 275 f189_274 rfl (by decide +kernel) ?_
  refine zw_iaload_f 2 6 (xs 2) 276 f189_275 rfl rfl (by decide +kernel) (by decide +kernel) (by decide +kernel) rfl ?_
  refine zw_virtual_i 279 82 7398 [.ref 0, .int (xs 1), .int (xs 2)] [(0, .ref 0), (1, .int (xs 1)), (2, .int (xs 2))] f189_276 rfl n189_27 k189_27_11 rfl rfl (by decide +kernel) (Nat.le_of_ble_eq_true rfl) rfl rfl (by decide +kernel) (by decide +kernel) rfl (Nat.le_of_ble_eq_true rfl) rfl ?_
  refine zWp.mono (x_tips_r (zro 6 xs) (xs 1) (xs 2)) ?_
  rintro r h1 ⟨rfl, hm⟩
  refine ⟨_, rfl, ?_⟩
  obtain ⟨x, rfl⟩ := zMF_ex hm
  refine zw_aload_n 280 f189_279 rfl rfl ?_
  refine zw_aload_f 281 f189_280 rfl rfl ?_
  refine zw_iload_n 282 f189_281 rfl rfl ?_
  refine zw_iconst 1 283 f189_282 rfl (by decide +kernel) ?_
  refine zw_iadd 1 284 f189_283 rfl (by decide +kernel) ?_
  refine zw_iaload_f 1 6 (xs 1) 285 f189_284 rfl rfl (by decide +kernel) (by decide +kernel) (by decide +kernel) rfl ?_
  refine zw_aload_f 286 f189_285 rfl rfl ?_
  refine zw_iload_n 287 f189_286 rfl rfl ?_
  refine zw_iconst 2 288 f189_287 rfl (by decide +kernel) ?_
  refine zw_iadd 2 289 f189_288 rfl (by decide +kernel) ?_
  refine zw_iaload_f 2 6 (xs 2) 290 f189_289 rfl rfl (by decide +kernel) (by decide +kernel) (by decide +kernel) rfl ?_
  refine zw_virtual_i 293 82 7398 [.ref 52, .int (xs 1), .int (xs 2)] [(0, .ref 52), (1, .int (xs 1)), (2, .int (xs 2))] f189_290 rfl n189_30 k189_30_12 rfl rfl (by decide +kernel) (Nat.le_of_ble_eq_true rfl) rfl rfl (by decide +kernel) (by decide +kernel) rfl (Nat.le_of_ble_eq_true rfl) rfl ?_
  refine zWp.mono (m_tips_r (zro 6 xs) x (xs 1) (xs 2)) ?_
  rintro r h2 rfl
  refine ⟨_, rfl, ?_⟩
  refine zw_ic_eq_t 1015 f189_293 (by decide +kernel) (by decide +kernel) ?_
  refine zw_iinc 6 [(3, .int 6), (2, .ref 52), (1, .ref 0), (0, .float 0)] 1018 f189_1015 rfl rfl (by decide +kernel) (by decide +kernel) rfl ?_
  refine zw_goto 18 f189_1018 (by decide +kernel) ?_
  refine zw_iload_n 19 f189_18 rfl rfl ?_
  refine zw_aload_f 20 f189_19 rfl rfl ?_
  refine zw_arraylength 6 21 f189_20 rfl rfl ?_
  refine zw_bipush 6 23 f189_21 rfl (by decide +kernel) ?_
  refine zw_isub 0 24 f189_23 rfl (by decide +kernel) ?_
  refine zw_ic_gt_t 1021 f189_24 (by decide +kernel) (by decide +kernel) ?_
  refine zw_iconst 1 1022 f189_1021 rfl (by decide +kernel) ?_
  refine zw_zreturn f189_1022 r189 u189 (by decide +kernel) ?_
  exact rfl
set_option maxRecDepth 100000 in
set_option maxHeartbeats 0 in
theorem l_over_r (xs : Nat → Int32) (e0 : xs 0 &&& 31 = 4)   : zWp (zro 6 xs) 189 18 [(3, .int 0), (2, .ref 52), (1, .ref 0), (0, .float 0)] [] hF 82 7398 (fun r _ => r = some (.int 1)) := by
  refine zw_iload_n 19 f189_18 rfl rfl ?_
  refine zw_aload_f 20 f189_19 rfl rfl ?_
  refine zw_arraylength 6 21 f189_20 rfl rfl ?_
  refine zw_bipush 6 23 f189_21 rfl (by decide +kernel) ?_
  refine zw_isub 0 24 f189_23 rfl (by decide +kernel) ?_
  refine zw_ic_gt_f 27 1021 f189_24 (by decide +kernel) rfl (by decide +kernel) ?_
  refine zw_aload_f 28 f189_27 rfl rfl ?_
  refine zw_iload_n 29 f189_28 rfl rfl ?_
  refine zw_iaload_f 0 6 (xs 0) 30 f189_29 rfl rfl (by decide +kernel) (by decide +kernel) (by decide +kernel) rfl ?_
  refine zw_bipush 31 32 f189_30 rfl (by decide +kernel) ?_
  refine zw_iand 4 33 f189_32 rfl e0 ?_
  refine zw_table_i (off := 265) 298 f189_33 (by decide +kernel) (by decide +kernel) (by decide +kernel) ?_
  refine zw_aload_n 299 f189_298 rfl rfl ?_
  refine zw_aload_f 300 f189_299 rfl rfl ?_
  refine zw_iload_n 301 f189_300 rfl rfl ?_
  refine zw_iconst 1 302 f189_301 rfl (by decide +kernel) ?_
  refine zw_iadd 1 303 f189_302 rfl (by decide +kernel) ?_
  refine zw_iaload_f 1 6 (xs 1) 304 f189_303 rfl rfl (by decide +kernel) (by decide +kernel) (by decide +kernel) rfl ?_
  refine zw_aload_f 305 f189_304 rfl rfl ?_
  refine zw_iload_n 306 f189_305 rfl rfl ?_
  refine zw_iconst 2 307 f189_306 rfl (by decide +kernel) ?_
  refine zw_iadd 2 308 f189_307 rfl (by decide +kernel) ?_
  refine zw_iaload_f 2 6 (xs 2) 309 f189_308 rfl rfl (by decide +kernel) (by decide +kernel) (by decide +kernel) rfl ?_
  refine zw_virtual_i 312 82 7398 [.ref 0, .int (xs 1), .int (xs 2)] [(0, .ref 0), (1, .int (xs 1)), (2, .int (xs 2))] f189_309 rfl n189_31 k189_31_11 rfl rfl (by decide +kernel) (Nat.le_of_ble_eq_true rfl) rfl rfl (by decide +kernel) (by decide +kernel) rfl (Nat.le_of_ble_eq_true rfl) rfl ?_
  refine zWp.mono (x_over_r (zro 6 xs) (xs 1) (xs 2)) ?_
  rintro r h1 ⟨rfl, hm⟩
  refine ⟨_, rfl, ?_⟩
  obtain ⟨x, rfl⟩ := zMF_ex hm
  refine zw_aload_n 313 f189_312 rfl rfl ?_
  refine zw_aload_f 314 f189_313 rfl rfl ?_
  refine zw_iload_n 315 f189_314 rfl rfl ?_
  refine zw_iconst 1 316 f189_315 rfl (by decide +kernel) ?_
  refine zw_iadd 1 317 f189_316 rfl (by decide +kernel) ?_
  refine zw_iaload_f 1 6 (xs 1) 318 f189_317 rfl rfl (by decide +kernel) (by decide +kernel) (by decide +kernel) rfl ?_
  refine zw_aload_f 319 f189_318 rfl rfl ?_
  refine zw_iload_n 320 f189_319 rfl rfl ?_
  refine zw_iconst 2 321 f189_320 rfl (by decide +kernel) ?_
  refine zw_iadd 2 322 f189_321 rfl (by decide +kernel) ?_
  refine zw_iaload_f 2 6 (xs 2) 323 f189_322 rfl rfl (by decide +kernel) (by decide +kernel) (by decide +kernel) rfl ?_
  refine zw_virtual_i 326 82 7398 [.ref 52, .int (xs 1), .int (xs 2)] [(0, .ref 52), (1, .int (xs 1)), (2, .int (xs 2))] f189_323 rfl n189_34 k189_34_12 rfl rfl (by decide +kernel) (Nat.le_of_ble_eq_true rfl) rfl rfl (by decide +kernel) (by decide +kernel) rfl (Nat.le_of_ble_eq_true rfl) rfl ?_
  refine zWp.mono (m_over_r (zro 6 xs) x (xs 1) (xs 2)) ?_
  rintro r h2 rfl
  refine ⟨_, rfl, ?_⟩
  refine zw_ic_eq_t 1015 f189_326 (by decide +kernel) (by decide +kernel) ?_
  refine zw_iinc 6 [(3, .int 6), (2, .ref 52), (1, .ref 0), (0, .float 0)] 1018 f189_1015 rfl rfl (by decide +kernel) (by decide +kernel) rfl ?_
  refine zw_goto 18 f189_1018 (by decide +kernel) ?_
  refine zw_iload_n 19 f189_18 rfl rfl ?_
  refine zw_aload_f 20 f189_19 rfl rfl ?_
  refine zw_arraylength 6 21 f189_20 rfl rfl ?_
  refine zw_bipush 6 23 f189_21 rfl (by decide +kernel) ?_
  refine zw_isub 0 24 f189_23 rfl (by decide +kernel) ?_
  refine zw_ic_gt_t 1021 f189_24 (by decide +kernel) (by decide +kernel) ?_
  refine zw_iconst 1 1022 f189_1021 rfl (by decide +kernel) ?_
  refine zw_zreturn f189_1022 r189 u189 (by decide +kernel) ?_
  exact rfl
set_option maxRecDepth 100000 in
set_option maxHeartbeats 0 in
theorem l_pipe_r (xs : Nat → Int32) (e0 : xs 0 &&& 31 = 5)   : zWp (zro 6 xs) 189 18 [(3, .int 0), (2, .ref 52), (1, .ref 0), (0, .float 0)] [] hF 82 7398 (fun r _ => r = some (.int 1)) := by
  refine zw_iload_n 19 f189_18 rfl rfl ?_
  refine zw_aload_f 20 f189_19 rfl rfl ?_
  refine zw_arraylength 6 21 f189_20 rfl rfl ?_
  refine zw_bipush 6 23 f189_21 rfl (by decide +kernel) ?_
  refine zw_isub 0 24 f189_23 rfl (by decide +kernel) ?_
  refine zw_ic_gt_f 27 1021 f189_24 (by decide +kernel) rfl (by decide +kernel) ?_
  refine zw_aload_f 28 f189_27 rfl rfl ?_
  refine zw_iload_n 29 f189_28 rfl rfl ?_
  refine zw_iaload_f 0 6 (xs 0) 30 f189_29 rfl rfl (by decide +kernel) (by decide +kernel) (by decide +kernel) rfl ?_
  refine zw_bipush 31 32 f189_30 rfl (by decide +kernel) ?_
  refine zw_iand 5 33 f189_32 rfl e0 ?_
  refine zw_table_i (off := 298) 331 f189_33 (by decide +kernel) (by decide +kernel) (by decide +kernel) ?_
  refine zw_aload_n 332 f189_331 rfl rfl ?_
  refine zw_aload_f 333 f189_332 rfl rfl ?_
  refine zw_iload_n 334 f189_333 rfl rfl ?_
  refine zw_iconst 1 335 f189_334 rfl (by decide +kernel) ?_
  refine zw_iadd 1 336 f189_335 rfl (by decide +kernel) ?_
  refine zw_iaload_f 1 6 (xs 1) 337 f189_336 rfl rfl (by decide +kernel) (by decide +kernel) (by decide +kernel) rfl ?_
  refine zw_aload_f 338 f189_337 rfl rfl ?_
  refine zw_iload_n 339 f189_338 rfl rfl ?_
  refine zw_iconst 2 340 f189_339 rfl (by decide +kernel) ?_
  refine zw_iadd 2 341 f189_340 rfl (by decide +kernel) ?_
  refine zw_iaload_f 2 6 (xs 2) 342 f189_341 rfl rfl (by decide +kernel) (by decide +kernel) (by decide +kernel) rfl ?_
  refine zw_aload_f 343 f189_342 rfl rfl ?_
  refine zw_iload_n 344 f189_343 rfl rfl ?_
  refine zw_iconst 3 345 f189_344 rfl (by decide +kernel) ?_
  refine zw_iadd 3 346 f189_345 rfl (by decide +kernel) ?_
  refine zw_iaload_f 3 6 (xs 3) 347 f189_346 rfl rfl (by decide +kernel) (by decide +kernel) (by decide +kernel) rfl ?_
  refine zw_virtual_i 350 82 7398 [.ref 0, .int (xs 1), .int (xs 2), .int (xs 3)] [(0, .ref 0), (1, .int (xs 1)), (2, .int (xs 2)), (3, .int (xs 3))] f189_347 rfl n189_35 k189_35_11 rfl rfl (by decide +kernel) (Nat.le_of_ble_eq_true rfl) rfl rfl (by decide +kernel) (by decide +kernel) rfl (Nat.le_of_ble_eq_true rfl) rfl ?_
  refine zWp.mono (x_pipe_r (zro 6 xs) (xs 1) (xs 2) (xs 3)) ?_
  rintro r h1 ⟨rfl, hm⟩
  refine ⟨_, rfl, ?_⟩
  obtain ⟨x, rfl⟩ := zMF_ex hm
  refine zw_aload_n 351 f189_350 rfl rfl ?_
  refine zw_aload_f 352 f189_351 rfl rfl ?_
  refine zw_iload_n 353 f189_352 rfl rfl ?_
  refine zw_iconst 1 354 f189_353 rfl (by decide +kernel) ?_
  refine zw_iadd 1 355 f189_354 rfl (by decide +kernel) ?_
  refine zw_iaload_f 1 6 (xs 1) 356 f189_355 rfl rfl (by decide +kernel) (by decide +kernel) (by decide +kernel) rfl ?_
  refine zw_aload_f 357 f189_356 rfl rfl ?_
  refine zw_iload_n 358 f189_357 rfl rfl ?_
  refine zw_iconst 2 359 f189_358 rfl (by decide +kernel) ?_
  refine zw_iadd 2 360 f189_359 rfl (by decide +kernel) ?_
  refine zw_iaload_f 2 6 (xs 2) 361 f189_360 rfl rfl (by decide +kernel) (by decide +kernel) (by decide +kernel) rfl ?_
  refine zw_aload_f 362 f189_361 rfl rfl ?_
  refine zw_iload_n 363 f189_362 rfl rfl ?_
  refine zw_iconst 3 364 f189_363 rfl (by decide +kernel) ?_
  refine zw_iadd 3 365 f189_364 rfl (by decide +kernel) ?_
  refine zw_iaload_f 3 6 (xs 3) 366 f189_365 rfl rfl (by decide +kernel) (by decide +kernel) (by decide +kernel) rfl ?_
  refine zw_virtual_i 369 82 7398 [.ref 52, .int (xs 1), .int (xs 2), .int (xs 3)] [(0, .ref 52), (1, .int (xs 1)), (2, .int (xs 2)), (3, .int (xs 3))] f189_366 rfl n189_38 k189_38_12 rfl rfl (by decide +kernel) (Nat.le_of_ble_eq_true rfl) rfl rfl (by decide +kernel) (by decide +kernel) rfl (Nat.le_of_ble_eq_true rfl) rfl ?_
  refine zWp.mono (m_pipe_r (zro 6 xs) x (xs 1) (xs 2) (xs 3)) ?_
  rintro r h2 rfl
  refine ⟨_, rfl, ?_⟩
  refine zw_ic_eq_t 1015 f189_369 (by decide +kernel) (by decide +kernel) ?_
  refine zw_iinc 6 [(3, .int 6), (2, .ref 52), (1, .ref 0), (0, .float 0)] 1018 f189_1015 rfl rfl (by decide +kernel) (by decide +kernel) rfl ?_
  refine zw_goto 18 f189_1018 (by decide +kernel) ?_
  refine zw_iload_n 19 f189_18 rfl rfl ?_
  refine zw_aload_f 20 f189_19 rfl rfl ?_
  refine zw_arraylength 6 21 f189_20 rfl rfl ?_
  refine zw_bipush 6 23 f189_21 rfl (by decide +kernel) ?_
  refine zw_isub 0 24 f189_23 rfl (by decide +kernel) ?_
  refine zw_ic_gt_t 1021 f189_24 (by decide +kernel) (by decide +kernel) ?_
  refine zw_iconst 1 1022 f189_1021 rfl (by decide +kernel) ?_
  refine zw_zreturn f189_1022 r189 u189 (by decide +kernel) ?_
  exact rfl
set_option maxRecDepth 100000 in
set_option maxHeartbeats 0 in
theorem l_fill_r (xs : Nat → Int32) (e0 : xs 0 &&& 31 = 6)   : zWp (zro 6 xs) 189 18 [(3, .int 0), (2, .ref 52), (1, .ref 0), (0, .float 0)] [] hF 82 7398 (fun r _ => r = some (.int 1)) := by
  refine zw_iload_n 19 f189_18 rfl rfl ?_
  refine zw_aload_f 20 f189_19 rfl rfl ?_
  refine zw_arraylength 6 21 f189_20 rfl rfl ?_
  refine zw_bipush 6 23 f189_21 rfl (by decide +kernel) ?_
  refine zw_isub 0 24 f189_23 rfl (by decide +kernel) ?_
  refine zw_ic_gt_f 27 1021 f189_24 (by decide +kernel) rfl (by decide +kernel) ?_
  refine zw_aload_f 28 f189_27 rfl rfl ?_
  refine zw_iload_n 29 f189_28 rfl rfl ?_
  refine zw_iaload_f 0 6 (xs 0) 30 f189_29 rfl rfl (by decide +kernel) (by decide +kernel) (by decide +kernel) rfl ?_
  refine zw_bipush 31 32 f189_30 rfl (by decide +kernel) ?_
  refine zw_iand 6 33 f189_32 rfl e0 ?_
  refine zw_table_i (off := 341) 374 f189_33 (by decide +kernel) (by decide +kernel) (by decide +kernel) ?_
  refine zw_aload_n 375 f189_374 rfl rfl ?_
  refine zw_aload_f 376 f189_375 rfl rfl ?_
  refine zw_iload_n 377 f189_376 rfl rfl ?_
  refine zw_iconst 1 378 f189_377 rfl (by decide +kernel) ?_
  refine zw_iadd 1 379 f189_378 rfl (by decide +kernel) ?_
  refine zw_iaload_f 1 6 (xs 1) 380 f189_379 rfl rfl (by decide +kernel) (by decide +kernel) (by decide +kernel) rfl ?_
  refine zw_aload_f 381 f189_380 rfl rfl ?_
  refine zw_iload_n 382 f189_381 rfl rfl ?_
  refine zw_iconst 2 383 f189_382 rfl (by decide +kernel) ?_
  refine zw_iadd 2 384 f189_383 rfl (by decide +kernel) ?_
  refine zw_iaload_f 2 6 (xs 2) 385 f189_384 rfl rfl (by decide +kernel) (by decide +kernel) (by decide +kernel) rfl ?_
  refine zw_virtual_i 388 82 7398 [.ref 0, .int (xs 1), .int (xs 2)] [(0, .ref 0), (1, .int (xs 1)), (2, .int (xs 2))] f189_385 rfl n189_39 k189_39_11 rfl rfl (by decide +kernel) (Nat.le_of_ble_eq_true rfl) rfl rfl (by decide +kernel) (by decide +kernel) rfl (Nat.le_of_ble_eq_true rfl) rfl ?_
  refine zWp.mono (x_fill_r (zro 6 xs) (xs 1) (xs 2)) ?_
  rintro r h1 ⟨rfl, hm⟩
  refine ⟨_, rfl, ?_⟩
  obtain ⟨x, rfl⟩ := zMF_ex hm
  refine zw_aload_n 389 f189_388 rfl rfl ?_
  refine zw_aload_f 390 f189_389 rfl rfl ?_
  refine zw_iload_n 391 f189_390 rfl rfl ?_
  refine zw_iconst 1 392 f189_391 rfl (by decide +kernel) ?_
  refine zw_iadd 1 393 f189_392 rfl (by decide +kernel) ?_
  refine zw_iaload_f 1 6 (xs 1) 394 f189_393 rfl rfl (by decide +kernel) (by decide +kernel) (by decide +kernel) rfl ?_
  refine zw_aload_f 395 f189_394 rfl rfl ?_
  refine zw_iload_n 396 f189_395 rfl rfl ?_
  refine zw_iconst 2 397 f189_396 rfl (by decide +kernel) ?_
  refine zw_iadd 2 398 f189_397 rfl (by decide +kernel) ?_
  refine zw_iaload_f 2 6 (xs 2) 399 f189_398 rfl rfl (by decide +kernel) (by decide +kernel) (by decide +kernel) rfl ?_
  refine zw_virtual_i 402 82 7398 [.ref 52, .int (xs 1), .int (xs 2)] [(0, .ref 52), (1, .int (xs 1)), (2, .int (xs 2))] f189_399 rfl n189_42 k189_42_12 rfl rfl (by decide +kernel) (Nat.le_of_ble_eq_true rfl) rfl rfl (by decide +kernel) (by decide +kernel) rfl (Nat.le_of_ble_eq_true rfl) rfl ?_
  refine zWp.mono (m_fill_r (zro 6 xs) x (xs 1) (xs 2)) ?_
  rintro r h2 rfl
  refine ⟨_, rfl, ?_⟩
  refine zw_ic_eq_t 1015 f189_402 (by decide +kernel) (by decide +kernel) ?_
  refine zw_iinc 6 [(3, .int 6), (2, .ref 52), (1, .ref 0), (0, .float 0)] 1018 f189_1015 rfl rfl (by decide +kernel) (by decide +kernel) rfl ?_
  refine zw_goto 18 f189_1018 (by decide +kernel) ?_
  refine zw_iload_n 19 f189_18 rfl rfl ?_
  refine zw_aload_f 20 f189_19 rfl rfl ?_
  refine zw_arraylength 6 21 f189_20 rfl rfl ?_
  refine zw_bipush 6 23 f189_21 rfl (by decide +kernel) ?_
  refine zw_isub 0 24 f189_23 rfl (by decide +kernel) ?_
  refine zw_ic_gt_t 1021 f189_24 (by decide +kernel) (by decide +kernel) ?_
  refine zw_iconst 1 1022 f189_1021 rfl (by decide +kernel) ?_
  refine zw_zreturn f189_1022 r189 u189 (by decide +kernel) ?_
  exact rfl
set_option maxRecDepth 100000 in
set_option maxHeartbeats 0 in
theorem l_shut_r0 (xs : Nat → Int32) (e0 : xs 0 &&& 31 = 7) (q2 : xs 2 = 0)  : zWp (zro 6 xs) 189 18 [(3, .int 0), (2, .ref 52), (1, .ref 0), (0, .float 0)] [] hF 82 7398 (fun r _ => r = some (.int 1)) := by
  refine zw_iload_n 19 f189_18 rfl rfl ?_
  refine zw_aload_f 20 f189_19 rfl rfl ?_
  refine zw_arraylength 6 21 f189_20 rfl rfl ?_
  refine zw_bipush 6 23 f189_21 rfl (by decide +kernel) ?_
  refine zw_isub 0 24 f189_23 rfl (by decide +kernel) ?_
  refine zw_ic_gt_f 27 1021 f189_24 (by decide +kernel) rfl (by decide +kernel) ?_
  refine zw_aload_f 28 f189_27 rfl rfl ?_
  refine zw_iload_n 29 f189_28 rfl rfl ?_
  refine zw_iaload_f 0 6 (xs 0) 30 f189_29 rfl rfl (by decide +kernel) (by decide +kernel) (by decide +kernel) rfl ?_
  refine zw_bipush 31 32 f189_30 rfl (by decide +kernel) ?_
  refine zw_iand 7 33 f189_32 rfl e0 ?_
  refine zw_table_i (off := 374) 407 f189_33 (by decide +kernel) (by decide +kernel) (by decide +kernel) ?_
  refine zw_aload_n 408 f189_407 rfl rfl ?_
  refine zw_aload_f 409 f189_408 rfl rfl ?_
  refine zw_iload_n 410 f189_409 rfl rfl ?_
  refine zw_iconst 1 411 f189_410 rfl (by decide +kernel) ?_
  refine zw_iadd 1 412 f189_411 rfl (by decide +kernel) ?_
  refine zw_iaload_f 1 6 (xs 1) 413 f189_412 rfl rfl (by decide +kernel) (by decide +kernel) (by decide +kernel) rfl ?_
  refine zw_aload_f 414 f189_413 rfl rfl ?_
  refine zw_iload_n 415 f189_414 rfl rfl ?_
  refine zw_iconst 2 416 f189_415 rfl (by decide +kernel) ?_
  refine zw_iadd 2 417 f189_416 rfl (by decide +kernel) ?_
  refine zw_iaload_f 2 6 (xs 2) 418 f189_417 rfl rfl (by decide +kernel) (by decide +kernel) (by decide +kernel) rfl ?_
  refine zw_if_eq_t 425 f189_418 (by decide +kernel) q2 ?_
  refine zw_iconst 0 426 f189_425 rfl (by decide +kernel) ?_
  refine zw_virtual_i 429 82 7398 [.ref 0, .int (xs 1), .int 0] [(0, .ref 0), (1, .int (xs 1)), (2, .int 0)] f189_426 rfl n189_43 k189_43_11 rfl rfl (by decide +kernel) (Nat.le_of_ble_eq_true rfl) rfl rfl (by decide +kernel) (by decide +kernel) rfl (Nat.le_of_ble_eq_true rfl) rfl ?_
  refine zWp.mono (x_shut_r0 (zro 6 xs) (xs 1)) ?_
  rintro r h1 ⟨rfl, hm⟩
  refine ⟨_, rfl, ?_⟩
  obtain ⟨x, rfl⟩ := zMF_ex hm
  refine zw_aload_n 430 f189_429 rfl rfl ?_
  refine zw_aload_f 431 f189_430 rfl rfl ?_
  refine zw_iload_n 432 f189_431 rfl rfl ?_
  refine zw_iconst 1 433 f189_432 rfl (by decide +kernel) ?_
  refine zw_iadd 1 434 f189_433 rfl (by decide +kernel) ?_
  refine zw_iaload_f 1 6 (xs 1) 435 f189_434 rfl rfl (by decide +kernel) (by decide +kernel) (by decide +kernel) rfl ?_
  refine zw_aload_f 436 f189_435 rfl rfl ?_
  refine zw_iload_n 437 f189_436 rfl rfl ?_
  refine zw_iconst 2 438 f189_437 rfl (by decide +kernel) ?_
  refine zw_iadd 2 439 f189_438 rfl (by decide +kernel) ?_
  refine zw_iaload_f 2 6 (xs 2) 440 f189_439 rfl rfl (by decide +kernel) (by decide +kernel) (by decide +kernel) rfl ?_
  refine zw_if_eq_t 447 f189_440 (by decide +kernel) q2 ?_
  refine zw_iconst 0 448 f189_447 rfl (by decide +kernel) ?_
  refine zw_virtual_i 451 82 7398 [.ref 52, .int (xs 1), .int 0] [(0, .ref 52), (1, .int (xs 1)), (2, .int 0)] f189_448 rfl n189_47 k189_47_12 rfl rfl (by decide +kernel) (Nat.le_of_ble_eq_true rfl) rfl rfl (by decide +kernel) (by decide +kernel) rfl (Nat.le_of_ble_eq_true rfl) rfl ?_
  refine zWp.mono (m_shut_r0 (zro 6 xs) x (xs 1)) ?_
  rintro r h2 rfl
  refine ⟨_, rfl, ?_⟩
  refine zw_ic_eq_t 1015 f189_451 (by decide +kernel) (by decide +kernel) ?_
  refine zw_iinc 6 [(3, .int 6), (2, .ref 52), (1, .ref 0), (0, .float 0)] 1018 f189_1015 rfl rfl (by decide +kernel) (by decide +kernel) rfl ?_
  refine zw_goto 18 f189_1018 (by decide +kernel) ?_
  refine zw_iload_n 19 f189_18 rfl rfl ?_
  refine zw_aload_f 20 f189_19 rfl rfl ?_
  refine zw_arraylength 6 21 f189_20 rfl rfl ?_
  refine zw_bipush 6 23 f189_21 rfl (by decide +kernel) ?_
  refine zw_isub 0 24 f189_23 rfl (by decide +kernel) ?_
  refine zw_ic_gt_t 1021 f189_24 (by decide +kernel) (by decide +kernel) ?_
  refine zw_iconst 1 1022 f189_1021 rfl (by decide +kernel) ?_
  refine zw_zreturn f189_1022 r189 u189 (by decide +kernel) ?_
  exact rfl
set_option maxRecDepth 100000 in
set_option maxHeartbeats 0 in
theorem l_shut_r1 (xs : Nat → Int32) (e0 : xs 0 &&& 31 = 7) (q2 : ¬ xs 2 = 0)  : zWp (zro 6 xs) 189 18 [(3, .int 0), (2, .ref 52), (1, .ref 0), (0, .float 0)] [] hF 82 7398 (fun r _ => r = some (.int 1)) := by
  refine zw_iload_n 19 f189_18 rfl rfl ?_
  refine zw_aload_f 20 f189_19 rfl rfl ?_
  refine zw_arraylength 6 21 f189_20 rfl rfl ?_
  refine zw_bipush 6 23 f189_21 rfl (by decide +kernel) ?_
  refine zw_isub 0 24 f189_23 rfl (by decide +kernel) ?_
  refine zw_ic_gt_f 27 1021 f189_24 (by decide +kernel) rfl (by decide +kernel) ?_
  refine zw_aload_f 28 f189_27 rfl rfl ?_
  refine zw_iload_n 29 f189_28 rfl rfl ?_
  refine zw_iaload_f 0 6 (xs 0) 30 f189_29 rfl rfl (by decide +kernel) (by decide +kernel) (by decide +kernel) rfl ?_
  refine zw_bipush 31 32 f189_30 rfl (by decide +kernel) ?_
  refine zw_iand 7 33 f189_32 rfl e0 ?_
  refine zw_table_i (off := 374) 407 f189_33 (by decide +kernel) (by decide +kernel) (by decide +kernel) ?_
  refine zw_aload_n 408 f189_407 rfl rfl ?_
  refine zw_aload_f 409 f189_408 rfl rfl ?_
  refine zw_iload_n 410 f189_409 rfl rfl ?_
  refine zw_iconst 1 411 f189_410 rfl (by decide +kernel) ?_
  refine zw_iadd 1 412 f189_411 rfl (by decide +kernel) ?_
  refine zw_iaload_f 1 6 (xs 1) 413 f189_412 rfl rfl (by decide +kernel) (by decide +kernel) (by decide +kernel) rfl ?_
  refine zw_aload_f 414 f189_413 rfl rfl ?_
  refine zw_iload_n 415 f189_414 rfl rfl ?_
  refine zw_iconst 2 416 f189_415 rfl (by decide +kernel) ?_
  refine zw_iadd 2 417 f189_416 rfl (by decide +kernel) ?_
  refine zw_iaload_f 2 6 (xs 2) 418 f189_417 rfl rfl (by decide +kernel) (by decide +kernel) (by decide +kernel) rfl ?_
  refine zw_if_eq_f 421 425 f189_418 (by decide +kernel) rfl q2 ?_
  refine zw_iconst 1 422 f189_421 rfl (by decide +kernel) ?_
  refine zw_goto 426 f189_422 (by decide +kernel) ?_
  refine zw_virtual_i 429 82 7398 [.ref 0, .int (xs 1), .int 1] [(0, .ref 0), (1, .int (xs 1)), (2, .int 1)] f189_426 rfl n189_43 k189_43_11 rfl rfl (by decide +kernel) (Nat.le_of_ble_eq_true rfl) rfl rfl (by decide +kernel) (by decide +kernel) rfl (Nat.le_of_ble_eq_true rfl) rfl ?_
  refine zWp.mono (x_shut_r1 (zro 6 xs) (xs 1)) ?_
  rintro r h1 ⟨rfl, hm⟩
  refine ⟨_, rfl, ?_⟩
  obtain ⟨x, rfl⟩ := zMF_ex hm
  refine zw_aload_n 430 f189_429 rfl rfl ?_
  refine zw_aload_f 431 f189_430 rfl rfl ?_
  refine zw_iload_n 432 f189_431 rfl rfl ?_
  refine zw_iconst 1 433 f189_432 rfl (by decide +kernel) ?_
  refine zw_iadd 1 434 f189_433 rfl (by decide +kernel) ?_
  refine zw_iaload_f 1 6 (xs 1) 435 f189_434 rfl rfl (by decide +kernel) (by decide +kernel) (by decide +kernel) rfl ?_
  refine zw_aload_f 436 f189_435 rfl rfl ?_
  refine zw_iload_n 437 f189_436 rfl rfl ?_
  refine zw_iconst 2 438 f189_437 rfl (by decide +kernel) ?_
  refine zw_iadd 2 439 f189_438 rfl (by decide +kernel) ?_
  refine zw_iaload_f 2 6 (xs 2) 440 f189_439 rfl rfl (by decide +kernel) (by decide +kernel) (by decide +kernel) rfl ?_
  refine zw_if_eq_f 443 447 f189_440 (by decide +kernel) rfl q2 ?_
  refine zw_iconst 1 444 f189_443 rfl (by decide +kernel) ?_
  refine zw_goto 448 f189_444 (by decide +kernel) ?_
  refine zw_virtual_i 451 82 7398 [.ref 52, .int (xs 1), .int 1] [(0, .ref 52), (1, .int (xs 1)), (2, .int 1)] f189_448 rfl n189_47 k189_47_12 rfl rfl (by decide +kernel) (Nat.le_of_ble_eq_true rfl) rfl rfl (by decide +kernel) (by decide +kernel) rfl (Nat.le_of_ble_eq_true rfl) rfl ?_
  refine zWp.mono (m_shut_r1 (zro 6 xs) x (xs 1)) ?_
  rintro r h2 rfl
  refine ⟨_, rfl, ?_⟩
  refine zw_ic_eq_t 1015 f189_451 (by decide +kernel) (by decide +kernel) ?_
  refine zw_iinc 6 [(3, .int 6), (2, .ref 52), (1, .ref 0), (0, .float 0)] 1018 f189_1015 rfl rfl (by decide +kernel) (by decide +kernel) rfl ?_
  refine zw_goto 18 f189_1018 (by decide +kernel) ?_
  refine zw_iload_n 19 f189_18 rfl rfl ?_
  refine zw_aload_f 20 f189_19 rfl rfl ?_
  refine zw_arraylength 6 21 f189_20 rfl rfl ?_
  refine zw_bipush 6 23 f189_21 rfl (by decide +kernel) ?_
  refine zw_isub 0 24 f189_23 rfl (by decide +kernel) ?_
  refine zw_ic_gt_t 1021 f189_24 (by decide +kernel) (by decide +kernel) ?_
  refine zw_iconst 1 1022 f189_1021 rfl (by decide +kernel) ?_
  refine zw_zreturn f189_1022 r189 u189 (by decide +kernel) ?_
  exact rfl
set_option maxRecDepth 100000 in
set_option maxHeartbeats 0 in
theorem l_amount_r (xs : Nat → Int32) (e0 : xs 0 &&& 31 = 8)   : zWp (zro 6 xs) 189 18 [(3, .int 0), (2, .ref 52), (1, .ref 0), (0, .float 0)] [] hF 82 7398 (fun r _ => r = some (.int 1)) := by
  refine zw_iload_n 19 f189_18 rfl rfl ?_
  refine zw_aload_f 20 f189_19 rfl rfl ?_
  refine zw_arraylength 6 21 f189_20 rfl rfl ?_
  refine zw_bipush 6 23 f189_21 rfl (by decide +kernel) ?_
  refine zw_isub 0 24 f189_23 rfl (by decide +kernel) ?_
  refine zw_ic_gt_f 27 1021 f189_24 (by decide +kernel) rfl (by decide +kernel) ?_
  refine zw_aload_f 28 f189_27 rfl rfl ?_
  refine zw_iload_n 29 f189_28 rfl rfl ?_
  refine zw_iaload_f 0 6 (xs 0) 30 f189_29 rfl rfl (by decide +kernel) (by decide +kernel) (by decide +kernel) rfl ?_
  refine zw_bipush 31 32 f189_30 rfl (by decide +kernel) ?_
  refine zw_iand 8 33 f189_32 rfl e0 ?_
  refine zw_table_i (off := 423) 456 f189_33 (by decide +kernel) (by decide +kernel) (by decide +kernel) ?_
  refine zw_aload_n 457 f189_456 rfl rfl ?_
  refine zw_aload_f 458 f189_457 rfl rfl ?_
  refine zw_iload_n 459 f189_458 rfl rfl ?_
  refine zw_iconst 1 460 f189_459 rfl (by decide +kernel) ?_
  refine zw_iadd 1 461 f189_460 rfl (by decide +kernel) ?_
  refine zw_iaload_f 1 6 (xs 1) 462 f189_461 rfl rfl (by decide +kernel) (by decide +kernel) (by decide +kernel) rfl ?_
  refine zw_aload_f 463 f189_462 rfl rfl ?_
  refine zw_iload_n 464 f189_463 rfl rfl ?_
  refine zw_iconst 2 465 f189_464 rfl (by decide +kernel) ?_
  refine zw_iadd 2 466 f189_465 rfl (by decide +kernel) ?_
  refine zw_iaload_f 2 6 (xs 2) 467 f189_466 rfl rfl (by decide +kernel) (by decide +kernel) (by decide +kernel) rfl ?_
  refine zw_virtual_i 470 82 7398 [.ref 0, .int (xs 1), .int (xs 2)] [(0, .ref 0), (1, .int (xs 1)), (2, .int (xs 2))] f189_467 rfl n189_48 k189_48_11 rfl rfl (by decide +kernel) (Nat.le_of_ble_eq_true rfl) rfl rfl (by decide +kernel) (by decide +kernel) rfl (Nat.le_of_ble_eq_true rfl) rfl ?_
  refine zWp.mono (x_amount_r (zro 6 xs) (xs 1) (xs 2)) ?_
  rintro r h1 ⟨rfl, hm⟩
  refine ⟨_, rfl, ?_⟩
  obtain ⟨x, rfl⟩ := zMF_ex hm
  refine zw_aload_n 471 f189_470 rfl rfl ?_
  refine zw_aload_f 472 f189_471 rfl rfl ?_
  refine zw_iload_n 473 f189_472 rfl rfl ?_
  refine zw_iconst 1 474 f189_473 rfl (by decide +kernel) ?_
  refine zw_iadd 1 475 f189_474 rfl (by decide +kernel) ?_
  refine zw_iaload_f 1 6 (xs 1) 476 f189_475 rfl rfl (by decide +kernel) (by decide +kernel) (by decide +kernel) rfl ?_
  refine zw_aload_f 477 f189_476 rfl rfl ?_
  refine zw_iload_n 478 f189_477 rfl rfl ?_
  refine zw_iconst 2 479 f189_478 rfl (by decide +kernel) ?_
  refine zw_iadd 2 480 f189_479 rfl (by decide +kernel) ?_
  refine zw_iaload_f 2 6 (xs 2) 481 f189_480 rfl rfl (by decide +kernel) (by decide +kernel) (by decide +kernel) rfl ?_
  refine zw_virtual_i 484 82 7398 [.ref 52, .int (xs 1), .int (xs 2)] [(0, .ref 52), (1, .int (xs 1)), (2, .int (xs 2))] f189_481 rfl n189_51 k189_51_12 rfl rfl (by decide +kernel) (Nat.le_of_ble_eq_true rfl) rfl rfl (by decide +kernel) (by decide +kernel) rfl (Nat.le_of_ble_eq_true rfl) rfl ?_
  refine zWp.mono (m_amount_r (zro 6 xs) x (xs 1) (xs 2)) ?_
  rintro r h2 rfl
  refine ⟨_, rfl, ?_⟩
  refine zw_ic_eq_t 1015 f189_484 (by decide +kernel) (by decide +kernel) ?_
  refine zw_iinc 6 [(3, .int 6), (2, .ref 52), (1, .ref 0), (0, .float 0)] 1018 f189_1015 rfl rfl (by decide +kernel) (by decide +kernel) rfl ?_
  refine zw_goto 18 f189_1018 (by decide +kernel) ?_
  refine zw_iload_n 19 f189_18 rfl rfl ?_
  refine zw_aload_f 20 f189_19 rfl rfl ?_
  refine zw_arraylength 6 21 f189_20 rfl rfl ?_
  refine zw_bipush 6 23 f189_21 rfl (by decide +kernel) ?_
  refine zw_isub 0 24 f189_23 rfl (by decide +kernel) ?_
  refine zw_ic_gt_t 1021 f189_24 (by decide +kernel) (by decide +kernel) ?_
  refine zw_iconst 1 1022 f189_1021 rfl (by decide +kernel) ?_
  refine zw_zreturn f189_1022 r189 u189 (by decide +kernel) ?_
  exact rfl
set_option maxRecDepth 100000 in
set_option maxHeartbeats 0 in
theorem l_go_r1 (xs : Nat → Int32) (e0 : xs 0 &&& 31 = 9)  (h1 : 10000 < (xs 1)) : zWp (zro 6 xs) 189 18 [(3, .int 0), (2, .ref 52), (1, .ref 0), (0, .float 0)] [] hF 82 7398 (fun r _ => r = some (.int 1)) := by
  refine zw_iload_n 19 f189_18 rfl rfl ?_
  refine zw_aload_f 20 f189_19 rfl rfl ?_
  refine zw_arraylength 6 21 f189_20 rfl rfl ?_
  refine zw_bipush 6 23 f189_21 rfl (by decide +kernel) ?_
  refine zw_isub 0 24 f189_23 rfl (by decide +kernel) ?_
  refine zw_ic_gt_f 27 1021 f189_24 (by decide +kernel) rfl (by decide +kernel) ?_
  refine zw_aload_f 28 f189_27 rfl rfl ?_
  refine zw_iload_n 29 f189_28 rfl rfl ?_
  refine zw_iaload_f 0 6 (xs 0) 30 f189_29 rfl rfl (by decide +kernel) (by decide +kernel) (by decide +kernel) rfl ?_
  refine zw_bipush 31 32 f189_30 rfl (by decide +kernel) ?_
  refine zw_iand 9 33 f189_32 rfl e0 ?_
  refine zw_table_i (off := 456) 489 f189_33 (by decide +kernel) (by decide +kernel) (by decide +kernel) ?_
  refine zw_aload_n 490 f189_489 rfl rfl ?_
  refine zw_aload_f 491 f189_490 rfl rfl ?_
  refine zw_iload_n 492 f189_491 rfl rfl ?_
  refine zw_iconst 1 493 f189_492 rfl (by decide +kernel) ?_
  refine zw_iadd 1 494 f189_493 rfl (by decide +kernel) ?_
  refine zw_iaload_f 1 6 (xs 1) 495 f189_494 rfl rfl (by decide +kernel) (by decide +kernel) (by decide +kernel) rfl ?_
  refine zw_virtual_i 498 82 7398 [.ref 0, .int (xs 1)] [(0, .ref 0), (1, .int (xs 1))] f189_495 rfl n189_52 k189_52_11 rfl rfl (by decide +kernel) (Nat.le_of_ble_eq_true rfl) rfl rfl (by decide +kernel) (by decide +kernel) rfl (Nat.le_of_ble_eq_true rfl) rfl ?_
  refine zWp.mono (x_go_r1 (zro 6 xs) (xs 1) h1) ?_
  rintro r h1 ⟨rfl, hm⟩
  refine ⟨_, rfl, ?_⟩
  obtain ⟨x, rfl⟩ := zMF_ex hm
  refine zw_aload_n 499 f189_498 rfl rfl ?_
  refine zw_aload_f 500 f189_499 rfl rfl ?_
  refine zw_iload_n 501 f189_500 rfl rfl ?_
  refine zw_iconst 1 502 f189_501 rfl (by decide +kernel) ?_
  refine zw_iadd 1 503 f189_502 rfl (by decide +kernel) ?_
  refine zw_iaload_f 1 6 (xs 1) 504 f189_503 rfl rfl (by decide +kernel) (by decide +kernel) (by decide +kernel) rfl ?_
  refine zw_virtual_i 507 82 7398 [.ref 52, .int (xs 1)] [(0, .ref 52), (1, .int (xs 1))] f189_504 rfl n189_56 k189_56_12 rfl rfl (by decide +kernel) (Nat.le_of_ble_eq_true rfl) rfl rfl (by decide +kernel) (by decide +kernel) rfl (Nat.le_of_ble_eq_true rfl) rfl ?_
  refine zWp.mono (m_go_r1 (zro 6 xs) x (xs 1) h1) ?_
  rintro r h2 rfl
  refine ⟨_, rfl, ?_⟩
  refine zw_ic_eq_t 1015 f189_507 (by decide +kernel) (by decide +kernel) ?_
  refine zw_iinc 6 [(3, .int 6), (2, .ref 52), (1, .ref 0), (0, .float 0)] 1018 f189_1015 rfl rfl (by decide +kernel) (by decide +kernel) rfl ?_
  refine zw_goto 18 f189_1018 (by decide +kernel) ?_
  refine zw_iload_n 19 f189_18 rfl rfl ?_
  refine zw_aload_f 20 f189_19 rfl rfl ?_
  refine zw_arraylength 6 21 f189_20 rfl rfl ?_
  refine zw_bipush 6 23 f189_21 rfl (by decide +kernel) ?_
  refine zw_isub 0 24 f189_23 rfl (by decide +kernel) ?_
  refine zw_ic_gt_t 1021 f189_24 (by decide +kernel) (by decide +kernel) ?_
  refine zw_iconst 1 1022 f189_1021 rfl (by decide +kernel) ?_
  refine zw_zreturn f189_1022 r189 u189 (by decide +kernel) ?_
  exact rfl
set_option maxRecDepth 100000 in
set_option maxHeartbeats 0 in
theorem l_go_r2 (xs : Nat → Int32) (e0 : xs 0 &&& 31 = 9)  (h1 : ¬ 10000 < (xs 1)) (h2 : (xs 1) < 0) : zWp (zro 6 xs) 189 18 [(3, .int 0), (2, .ref 52), (1, .ref 0), (0, .float 0)] [] hF 82 7398 (fun r _ => r = some (.int 1)) := by
  refine zw_iload_n 19 f189_18 rfl rfl ?_
  refine zw_aload_f 20 f189_19 rfl rfl ?_
  refine zw_arraylength 6 21 f189_20 rfl rfl ?_
  refine zw_bipush 6 23 f189_21 rfl (by decide +kernel) ?_
  refine zw_isub 0 24 f189_23 rfl (by decide +kernel) ?_
  refine zw_ic_gt_f 27 1021 f189_24 (by decide +kernel) rfl (by decide +kernel) ?_
  refine zw_aload_f 28 f189_27 rfl rfl ?_
  refine zw_iload_n 29 f189_28 rfl rfl ?_
  refine zw_iaload_f 0 6 (xs 0) 30 f189_29 rfl rfl (by decide +kernel) (by decide +kernel) (by decide +kernel) rfl ?_
  refine zw_bipush 31 32 f189_30 rfl (by decide +kernel) ?_
  refine zw_iand 9 33 f189_32 rfl e0 ?_
  refine zw_table_i (off := 456) 489 f189_33 (by decide +kernel) (by decide +kernel) (by decide +kernel) ?_
  refine zw_aload_n 490 f189_489 rfl rfl ?_
  refine zw_aload_f 491 f189_490 rfl rfl ?_
  refine zw_iload_n 492 f189_491 rfl rfl ?_
  refine zw_iconst 1 493 f189_492 rfl (by decide +kernel) ?_
  refine zw_iadd 1 494 f189_493 rfl (by decide +kernel) ?_
  refine zw_iaload_f 1 6 (xs 1) 495 f189_494 rfl rfl (by decide +kernel) (by decide +kernel) (by decide +kernel) rfl ?_
  refine zw_virtual_i 498 82 7398 [.ref 0, .int (xs 1)] [(0, .ref 0), (1, .int (xs 1))] f189_495 rfl n189_52 k189_52_11 rfl rfl (by decide +kernel) (Nat.le_of_ble_eq_true rfl) rfl rfl (by decide +kernel) (by decide +kernel) rfl (Nat.le_of_ble_eq_true rfl) rfl ?_
  refine zWp.mono (x_go_r2 (zro 6 xs) (xs 1) h1 h2) ?_
  rintro r h1 ⟨rfl, hm⟩
  refine ⟨_, rfl, ?_⟩
  obtain ⟨x, rfl⟩ := zMF_ex hm
  refine zw_aload_n 499 f189_498 rfl rfl ?_
  refine zw_aload_f 500 f189_499 rfl rfl ?_
  refine zw_iload_n 501 f189_500 rfl rfl ?_
  refine zw_iconst 1 502 f189_501 rfl (by decide +kernel) ?_
  refine zw_iadd 1 503 f189_502 rfl (by decide +kernel) ?_
  refine zw_iaload_f 1 6 (xs 1) 504 f189_503 rfl rfl (by decide +kernel) (by decide +kernel) (by decide +kernel) rfl ?_
  refine zw_virtual_i 507 82 7398 [.ref 52, .int (xs 1)] [(0, .ref 52), (1, .int (xs 1))] f189_504 rfl n189_56 k189_56_12 rfl rfl (by decide +kernel) (Nat.le_of_ble_eq_true rfl) rfl rfl (by decide +kernel) (by decide +kernel) rfl (Nat.le_of_ble_eq_true rfl) rfl ?_
  refine zWp.mono (m_go_r2 (zro 6 xs) x (xs 1) h1 h2) ?_
  rintro r h2 rfl
  refine ⟨_, rfl, ?_⟩
  refine zw_ic_eq_t 1015 f189_507 (by decide +kernel) (by decide +kernel) ?_
  refine zw_iinc 6 [(3, .int 6), (2, .ref 52), (1, .ref 0), (0, .float 0)] 1018 f189_1015 rfl rfl (by decide +kernel) (by decide +kernel) rfl ?_
  refine zw_goto 18 f189_1018 (by decide +kernel) ?_
  refine zw_iload_n 19 f189_18 rfl rfl ?_
  refine zw_aload_f 20 f189_19 rfl rfl ?_
  refine zw_arraylength 6 21 f189_20 rfl rfl ?_
  refine zw_bipush 6 23 f189_21 rfl (by decide +kernel) ?_
  refine zw_isub 0 24 f189_23 rfl (by decide +kernel) ?_
  refine zw_ic_gt_t 1021 f189_24 (by decide +kernel) (by decide +kernel) ?_
  refine zw_iconst 1 1022 f189_1021 rfl (by decide +kernel) ?_
  refine zw_zreturn f189_1022 r189 u189 (by decide +kernel) ?_
  exact rfl
set_option maxRecDepth 100000 in
set_option maxHeartbeats 0 in
theorem l_go_r3 (xs : Nat → Int32) (e0 : xs 0 &&& 31 = 9) (q1 : xs 1 = 0)  : zWp (zro 6 xs) 189 18 [(3, .int 0), (2, .ref 52), (1, .ref 0), (0, .float 0)] [] hF 82 7398 (fun r _ => r = some (.int 1)) := by
  refine zw_iload_n 19 f189_18 rfl rfl ?_
  refine zw_aload_f 20 f189_19 rfl rfl ?_
  refine zw_arraylength 6 21 f189_20 rfl rfl ?_
  refine zw_bipush 6 23 f189_21 rfl (by decide +kernel) ?_
  refine zw_isub 0 24 f189_23 rfl (by decide +kernel) ?_
  refine zw_ic_gt_f 27 1021 f189_24 (by decide +kernel) rfl (by decide +kernel) ?_
  refine zw_aload_f 28 f189_27 rfl rfl ?_
  refine zw_iload_n 29 f189_28 rfl rfl ?_
  refine zw_iaload_f 0 6 (xs 0) 30 f189_29 rfl rfl (by decide +kernel) (by decide +kernel) (by decide +kernel) rfl ?_
  refine zw_bipush 31 32 f189_30 rfl (by decide +kernel) ?_
  refine zw_iand 9 33 f189_32 rfl e0 ?_
  refine zw_table_i (off := 456) 489 f189_33 (by decide +kernel) (by decide +kernel) (by decide +kernel) ?_
  refine zw_aload_n 490 f189_489 rfl rfl ?_
  refine zw_aload_f 491 f189_490 rfl rfl ?_
  refine zw_iload_n 492 f189_491 rfl rfl ?_
  refine zw_iconst 1 493 f189_492 rfl (by decide +kernel) ?_
  refine zw_iadd 1 494 f189_493 rfl (by decide +kernel) ?_
  refine zw_iaload_f 1 6 0 495 f189_494 rfl rfl (by decide +kernel) (by decide +kernel) (by decide +kernel) q1 ?_
  refine zw_virtual_i 498 82 7398 [.ref 0, .int 0] [(0, .ref 0), (1, .int 0)] f189_495 rfl n189_52 k189_52_11 rfl rfl (by decide +kernel) (Nat.le_of_ble_eq_true rfl) rfl rfl (by decide +kernel) (by decide +kernel) rfl (Nat.le_of_ble_eq_true rfl) rfl ?_
  refine zWp.mono (x_go_r3 (zro 6 xs) ) ?_
  rintro r h1 ⟨rfl, hm⟩
  refine ⟨_, rfl, ?_⟩
  obtain ⟨x, rfl⟩ := zMF_ex hm
  refine zw_aload_n 499 f189_498 rfl rfl ?_
  refine zw_aload_f 500 f189_499 rfl rfl ?_
  refine zw_iload_n 501 f189_500 rfl rfl ?_
  refine zw_iconst 1 502 f189_501 rfl (by decide +kernel) ?_
  refine zw_iadd 1 503 f189_502 rfl (by decide +kernel) ?_
  refine zw_iaload_f 1 6 0 504 f189_503 rfl rfl (by decide +kernel) (by decide +kernel) (by decide +kernel) q1 ?_
  refine zw_virtual_i 507 82 7398 [.ref 52, .int 0] [(0, .ref 52), (1, .int 0)] f189_504 rfl n189_56 k189_56_12 rfl rfl (by decide +kernel) (Nat.le_of_ble_eq_true rfl) rfl rfl (by decide +kernel) (by decide +kernel) rfl (Nat.le_of_ble_eq_true rfl) rfl ?_
  refine zWp.mono (m_go_r3 (zro 6 xs) x ) ?_
  rintro r h2 rfl
  refine ⟨_, rfl, ?_⟩
  refine zw_ic_eq_t 1015 f189_507 (by decide +kernel) (by decide +kernel) ?_
  refine zw_iinc 6 [(3, .int 6), (2, .ref 52), (1, .ref 0), (0, .float 0)] 1018 f189_1015 rfl rfl (by decide +kernel) (by decide +kernel) rfl ?_
  refine zw_goto 18 f189_1018 (by decide +kernel) ?_
  refine zw_iload_n 19 f189_18 rfl rfl ?_
  refine zw_aload_f 20 f189_19 rfl rfl ?_
  refine zw_arraylength 6 21 f189_20 rfl rfl ?_
  refine zw_bipush 6 23 f189_21 rfl (by decide +kernel) ?_
  refine zw_isub 0 24 f189_23 rfl (by decide +kernel) ?_
  refine zw_ic_gt_t 1021 f189_24 (by decide +kernel) (by decide +kernel) ?_
  refine zw_iconst 1 1022 f189_1021 rfl (by decide +kernel) ?_
  refine zw_zreturn f189_1022 r189 u189 (by decide +kernel) ?_
  exact rfl
set_option maxRecDepth 100000 in
set_option maxHeartbeats 0 in
theorem l_go_r4 (xs : Nat → Int32) (e0 : xs 0 &&& 31 = 9)  (h1 : ¬ 10000 < (xs 1)) (h2 : 0 < (xs 1)) : zWp (zro 6 xs) 189 18 [(3, .int 0), (2, .ref 52), (1, .ref 0), (0, .float 0)] [] hF 82 7398 (fun r _ => r = some (.int 1)) := by
  refine zw_iload_n 19 f189_18 rfl rfl ?_
  refine zw_aload_f 20 f189_19 rfl rfl ?_
  refine zw_arraylength 6 21 f189_20 rfl rfl ?_
  refine zw_bipush 6 23 f189_21 rfl (by decide +kernel) ?_
  refine zw_isub 0 24 f189_23 rfl (by decide +kernel) ?_
  refine zw_ic_gt_f 27 1021 f189_24 (by decide +kernel) rfl (by decide +kernel) ?_
  refine zw_aload_f 28 f189_27 rfl rfl ?_
  refine zw_iload_n 29 f189_28 rfl rfl ?_
  refine zw_iaload_f 0 6 (xs 0) 30 f189_29 rfl rfl (by decide +kernel) (by decide +kernel) (by decide +kernel) rfl ?_
  refine zw_bipush 31 32 f189_30 rfl (by decide +kernel) ?_
  refine zw_iand 9 33 f189_32 rfl e0 ?_
  refine zw_table_i (off := 456) 489 f189_33 (by decide +kernel) (by decide +kernel) (by decide +kernel) ?_
  refine zw_aload_n 490 f189_489 rfl rfl ?_
  refine zw_aload_f 491 f189_490 rfl rfl ?_
  refine zw_iload_n 492 f189_491 rfl rfl ?_
  refine zw_iconst 1 493 f189_492 rfl (by decide +kernel) ?_
  refine zw_iadd 1 494 f189_493 rfl (by decide +kernel) ?_
  refine zw_iaload_f 1 6 (xs 1) 495 f189_494 rfl rfl (by decide +kernel) (by decide +kernel) (by decide +kernel) rfl ?_
  refine zw_virtual_i 498 82 7398 [.ref 0, .int (xs 1)] [(0, .ref 0), (1, .int (xs 1))] f189_495 rfl n189_52 k189_52_11 rfl rfl (by decide +kernel) (Nat.le_of_ble_eq_true rfl) rfl rfl (by decide +kernel) (by decide +kernel) rfl (Nat.le_of_ble_eq_true rfl) rfl ?_
  refine zWp.mono (x_go_r4 (zro 6 xs) (xs 1) h1 h2) ?_
  rintro r h1 ⟨rfl, hm⟩
  refine ⟨_, rfl, ?_⟩
  obtain ⟨x, rfl⟩ := zMF_ex hm
  refine zw_aload_n 499 f189_498 rfl rfl ?_
  refine zw_aload_f 500 f189_499 rfl rfl ?_
  refine zw_iload_n 501 f189_500 rfl rfl ?_
  refine zw_iconst 1 502 f189_501 rfl (by decide +kernel) ?_
  refine zw_iadd 1 503 f189_502 rfl (by decide +kernel) ?_
  refine zw_iaload_f 1 6 (xs 1) 504 f189_503 rfl rfl (by decide +kernel) (by decide +kernel) (by decide +kernel) rfl ?_
  refine zw_virtual_i 507 82 7398 [.ref 52, .int (xs 1)] [(0, .ref 52), (1, .int (xs 1))] f189_504 rfl n189_56 k189_56_12 rfl rfl (by decide +kernel) (Nat.le_of_ble_eq_true rfl) rfl rfl (by decide +kernel) (by decide +kernel) rfl (Nat.le_of_ble_eq_true rfl) rfl ?_
  refine zWp.mono (m_go_r4 (zro 6 xs) x (xs 1) h1 h2) ?_
  rintro r h2 rfl
  refine ⟨_, rfl, ?_⟩
  refine zw_ic_eq_t 1015 f189_507 (by decide +kernel) (by decide +kernel) ?_
  refine zw_iinc 6 [(3, .int 6), (2, .ref 52), (1, .ref 0), (0, .float 0)] 1018 f189_1015 rfl rfl (by decide +kernel) (by decide +kernel) rfl ?_
  refine zw_goto 18 f189_1018 (by decide +kernel) ?_
  refine zw_iload_n 19 f189_18 rfl rfl ?_
  refine zw_aload_f 20 f189_19 rfl rfl ?_
  refine zw_arraylength 6 21 f189_20 rfl rfl ?_
  refine zw_bipush 6 23 f189_21 rfl (by decide +kernel) ?_
  refine zw_isub 0 24 f189_23 rfl (by decide +kernel) ?_
  refine zw_ic_gt_t 1021 f189_24 (by decide +kernel) (by decide +kernel) ?_
  refine zw_iconst 1 1022 f189_1021 rfl (by decide +kernel) ?_
  refine zw_zreturn f189_1022 r189 u189 (by decide +kernel) ?_
  exact rfl
set_option maxRecDepth 100000 in
set_option maxHeartbeats 0 in
theorem l_now_k0 (xs : Nat → Int32) (e0 : xs 0 &&& 31 = 10) (q1 : xs 1 = 0)  : zWp (zro 6 xs) 189 18 [(3, .int 0), (2, .ref 52), (1, .ref 0), (0, .float 0)] [] hF 82 7398 (fun r _ => r = some (.int 1)) := by
  refine zw_iload_n 19 f189_18 rfl rfl ?_
  refine zw_aload_f 20 f189_19 rfl rfl ?_
  refine zw_arraylength 6 21 f189_20 rfl rfl ?_
  refine zw_bipush 6 23 f189_21 rfl (by decide +kernel) ?_
  refine zw_isub 0 24 f189_23 rfl (by decide +kernel) ?_
  refine zw_ic_gt_f 27 1021 f189_24 (by decide +kernel) rfl (by decide +kernel) ?_
  refine zw_aload_f 28 f189_27 rfl rfl ?_
  refine zw_iload_n 29 f189_28 rfl rfl ?_
  refine zw_iaload_f 0 6 (xs 0) 30 f189_29 rfl rfl (by decide +kernel) (by decide +kernel) (by decide +kernel) rfl ?_
  refine zw_bipush 31 32 f189_30 rfl (by decide +kernel) ?_
  refine zw_iand 10 33 f189_32 rfl e0 ?_
  refine zw_table_i (off := 479) 512 f189_33 (by decide +kernel) (by decide +kernel) (by decide +kernel) ?_
  refine zw_aload_n 513 f189_512 rfl rfl ?_
  refine zw_aload_f 514 f189_513 rfl rfl ?_
  refine zw_iload_n 515 f189_514 rfl rfl ?_
  refine zw_iconst 1 516 f189_515 rfl (by decide +kernel) ?_
  refine zw_iadd 1 517 f189_516 rfl (by decide +kernel) ?_
  refine zw_iaload_f 1 6 0 518 f189_517 rfl rfl (by decide +kernel) (by decide +kernel) (by decide +kernel) q1 ?_
  refine zw_virtual_i 521 82 7398 [.ref 0, .int 0] [(0, .ref 0), (1, .int 0)] f189_518 rfl n189_57 k189_57_11 rfl rfl (by decide +kernel) (Nat.le_of_ble_eq_true rfl) rfl rfl (by decide +kernel) (by decide +kernel) rfl (Nat.le_of_ble_eq_true rfl) rfl ?_
  refine zWp.mono (x_now_k0 (zro 6 xs) ) ?_
  rintro r h1 ⟨rfl, hm⟩
  refine ⟨_, rfl, ?_⟩
  obtain ⟨x, rfl⟩ := zMF_ex hm
  refine zw_aload_n 522 f189_521 rfl rfl ?_
  refine zw_aload_f 523 f189_522 rfl rfl ?_
  refine zw_iload_n 524 f189_523 rfl rfl ?_
  refine zw_iconst 1 525 f189_524 rfl (by decide +kernel) ?_
  refine zw_iadd 1 526 f189_525 rfl (by decide +kernel) ?_
  refine zw_iaload_f 1 6 0 527 f189_526 rfl rfl (by decide +kernel) (by decide +kernel) (by decide +kernel) q1 ?_
  refine zw_virtual_i 530 82 7398 [.ref 52, .int 0] [(0, .ref 52), (1, .int 0)] f189_527 rfl n189_60 k189_60_12 rfl rfl (by decide +kernel) (Nat.le_of_ble_eq_true rfl) rfl rfl (by decide +kernel) (by decide +kernel) rfl (Nat.le_of_ble_eq_true rfl) rfl ?_
  refine zWp.mono (m_now_k0 (zro 6 xs) x ) ?_
  rintro r h2 rfl
  refine ⟨_, rfl, ?_⟩
  refine zw_ic_eq_t 1015 f189_530 (by decide +kernel) (by decide +kernel) ?_
  refine zw_iinc 6 [(3, .int 6), (2, .ref 52), (1, .ref 0), (0, .float 0)] 1018 f189_1015 rfl rfl (by decide +kernel) (by decide +kernel) rfl ?_
  refine zw_goto 18 f189_1018 (by decide +kernel) ?_
  refine zw_iload_n 19 f189_18 rfl rfl ?_
  refine zw_aload_f 20 f189_19 rfl rfl ?_
  refine zw_arraylength 6 21 f189_20 rfl rfl ?_
  refine zw_bipush 6 23 f189_21 rfl (by decide +kernel) ?_
  refine zw_isub 0 24 f189_23 rfl (by decide +kernel) ?_
  refine zw_ic_gt_t 1021 f189_24 (by decide +kernel) (by decide +kernel) ?_
  refine zw_iconst 1 1022 f189_1021 rfl (by decide +kernel) ?_
  refine zw_zreturn f189_1022 r189 u189 (by decide +kernel) ?_
  exact rfl
set_option maxRecDepth 100000 in
set_option maxHeartbeats 0 in
theorem l_now_k1 (xs : Nat → Int32) (e0 : xs 0 &&& 31 = 10) (q1 : xs 1 = 1)  : zWp (zro 6 xs) 189 18 [(3, .int 0), (2, .ref 52), (1, .ref 0), (0, .float 0)] [] hF 82 7398 (fun r _ => r = some (.int 1)) := by
  refine zw_iload_n 19 f189_18 rfl rfl ?_
  refine zw_aload_f 20 f189_19 rfl rfl ?_
  refine zw_arraylength 6 21 f189_20 rfl rfl ?_
  refine zw_bipush 6 23 f189_21 rfl (by decide +kernel) ?_
  refine zw_isub 0 24 f189_23 rfl (by decide +kernel) ?_
  refine zw_ic_gt_f 27 1021 f189_24 (by decide +kernel) rfl (by decide +kernel) ?_
  refine zw_aload_f 28 f189_27 rfl rfl ?_
  refine zw_iload_n 29 f189_28 rfl rfl ?_
  refine zw_iaload_f 0 6 (xs 0) 30 f189_29 rfl rfl (by decide +kernel) (by decide +kernel) (by decide +kernel) rfl ?_
  refine zw_bipush 31 32 f189_30 rfl (by decide +kernel) ?_
  refine zw_iand 10 33 f189_32 rfl e0 ?_
  refine zw_table_i (off := 479) 512 f189_33 (by decide +kernel) (by decide +kernel) (by decide +kernel) ?_
  refine zw_aload_n 513 f189_512 rfl rfl ?_
  refine zw_aload_f 514 f189_513 rfl rfl ?_
  refine zw_iload_n 515 f189_514 rfl rfl ?_
  refine zw_iconst 1 516 f189_515 rfl (by decide +kernel) ?_
  refine zw_iadd 1 517 f189_516 rfl (by decide +kernel) ?_
  refine zw_iaload_f 1 6 1 518 f189_517 rfl rfl (by decide +kernel) (by decide +kernel) (by decide +kernel) q1 ?_
  refine zw_virtual_i 521 82 7398 [.ref 0, .int 1] [(0, .ref 0), (1, .int 1)] f189_518 rfl n189_57 k189_57_11 rfl rfl (by decide +kernel) (Nat.le_of_ble_eq_true rfl) rfl rfl (by decide +kernel) (by decide +kernel) rfl (Nat.le_of_ble_eq_true rfl) rfl ?_
  refine zWp.mono (x_now_k1 (zro 6 xs) ) ?_
  rintro r h1 ⟨rfl, hm⟩
  refine ⟨_, rfl, ?_⟩
  obtain ⟨x, rfl⟩ := zMF_ex hm
  refine zw_aload_n 522 f189_521 rfl rfl ?_
  refine zw_aload_f 523 f189_522 rfl rfl ?_
  refine zw_iload_n 524 f189_523 rfl rfl ?_
  refine zw_iconst 1 525 f189_524 rfl (by decide +kernel) ?_
  refine zw_iadd 1 526 f189_525 rfl (by decide +kernel) ?_
  refine zw_iaload_f 1 6 1 527 f189_526 rfl rfl (by decide +kernel) (by decide +kernel) (by decide +kernel) q1 ?_
  refine zw_virtual_i 530 82 7398 [.ref 52, .int 1] [(0, .ref 52), (1, .int 1)] f189_527 rfl n189_60 k189_60_12 rfl rfl (by decide +kernel) (Nat.le_of_ble_eq_true rfl) rfl rfl (by decide +kernel) (by decide +kernel) rfl (Nat.le_of_ble_eq_true rfl) rfl ?_
  refine zWp.mono (m_now_k1 (zro 6 xs) x ) ?_
  rintro r h2 rfl
  refine ⟨_, rfl, ?_⟩
  refine zw_ic_eq_t 1015 f189_530 (by decide +kernel) (by decide +kernel) ?_
  refine zw_iinc 6 [(3, .int 6), (2, .ref 52), (1, .ref 0), (0, .float 0)] 1018 f189_1015 rfl rfl (by decide +kernel) (by decide +kernel) rfl ?_
  refine zw_goto 18 f189_1018 (by decide +kernel) ?_
  refine zw_iload_n 19 f189_18 rfl rfl ?_
  refine zw_aload_f 20 f189_19 rfl rfl ?_
  refine zw_arraylength 6 21 f189_20 rfl rfl ?_
  refine zw_bipush 6 23 f189_21 rfl (by decide +kernel) ?_
  refine zw_isub 0 24 f189_23 rfl (by decide +kernel) ?_
  refine zw_ic_gt_t 1021 f189_24 (by decide +kernel) (by decide +kernel) ?_
  refine zw_iconst 1 1022 f189_1021 rfl (by decide +kernel) ?_
  refine zw_zreturn f189_1022 r189 u189 (by decide +kernel) ?_
  exact rfl
set_option maxRecDepth 100000 in
set_option maxHeartbeats 0 in
theorem l_now_k2 (xs : Nat → Int32) (e0 : xs 0 &&& 31 = 10) (q1 : xs 1 = 2)  : zWp (zro 6 xs) 189 18 [(3, .int 0), (2, .ref 52), (1, .ref 0), (0, .float 0)] [] hF 82 7398 (fun r _ => r = some (.int 1)) := by
  refine zw_iload_n 19 f189_18 rfl rfl ?_
  refine zw_aload_f 20 f189_19 rfl rfl ?_
  refine zw_arraylength 6 21 f189_20 rfl rfl ?_
  refine zw_bipush 6 23 f189_21 rfl (by decide +kernel) ?_
  refine zw_isub 0 24 f189_23 rfl (by decide +kernel) ?_
  refine zw_ic_gt_f 27 1021 f189_24 (by decide +kernel) rfl (by decide +kernel) ?_
  refine zw_aload_f 28 f189_27 rfl rfl ?_
  refine zw_iload_n 29 f189_28 rfl rfl ?_
  refine zw_iaload_f 0 6 (xs 0) 30 f189_29 rfl rfl (by decide +kernel) (by decide +kernel) (by decide +kernel) rfl ?_
  refine zw_bipush 31 32 f189_30 rfl (by decide +kernel) ?_
  refine zw_iand 10 33 f189_32 rfl e0 ?_
  refine zw_table_i (off := 479) 512 f189_33 (by decide +kernel) (by decide +kernel) (by decide +kernel) ?_
  refine zw_aload_n 513 f189_512 rfl rfl ?_
  refine zw_aload_f 514 f189_513 rfl rfl ?_
  refine zw_iload_n 515 f189_514 rfl rfl ?_
  refine zw_iconst 1 516 f189_515 rfl (by decide +kernel) ?_
  refine zw_iadd 1 517 f189_516 rfl (by decide +kernel) ?_
  refine zw_iaload_f 1 6 2 518 f189_517 rfl rfl (by decide +kernel) (by decide +kernel) (by decide +kernel) q1 ?_
  refine zw_virtual_i 521 82 7398 [.ref 0, .int 2] [(0, .ref 0), (1, .int 2)] f189_518 rfl n189_57 k189_57_11 rfl rfl (by decide +kernel) (Nat.le_of_ble_eq_true rfl) rfl rfl (by decide +kernel) (by decide +kernel) rfl (Nat.le_of_ble_eq_true rfl) rfl ?_
  refine zWp.mono (x_now_k2 (zro 6 xs) ) ?_
  rintro r h1 ⟨rfl, hm⟩
  refine ⟨_, rfl, ?_⟩
  obtain ⟨x, rfl⟩ := zMF_ex hm
  refine zw_aload_n 522 f189_521 rfl rfl ?_
  refine zw_aload_f 523 f189_522 rfl rfl ?_
  refine zw_iload_n 524 f189_523 rfl rfl ?_
  refine zw_iconst 1 525 f189_524 rfl (by decide +kernel) ?_
  refine zw_iadd 1 526 f189_525 rfl (by decide +kernel) ?_
  refine zw_iaload_f 1 6 2 527 f189_526 rfl rfl (by decide +kernel) (by decide +kernel) (by decide +kernel) q1 ?_
  refine zw_virtual_i 530 82 7398 [.ref 52, .int 2] [(0, .ref 52), (1, .int 2)] f189_527 rfl n189_60 k189_60_12 rfl rfl (by decide +kernel) (Nat.le_of_ble_eq_true rfl) rfl rfl (by decide +kernel) (by decide +kernel) rfl (Nat.le_of_ble_eq_true rfl) rfl ?_
  refine zWp.mono (m_now_k2 (zro 6 xs) x ) ?_
  rintro r h2 rfl
  refine ⟨_, rfl, ?_⟩
  refine zw_ic_eq_t 1015 f189_530 (by decide +kernel) (by decide +kernel) ?_
  refine zw_iinc 6 [(3, .int 6), (2, .ref 52), (1, .ref 0), (0, .float 0)] 1018 f189_1015 rfl rfl (by decide +kernel) (by decide +kernel) rfl ?_
  refine zw_goto 18 f189_1018 (by decide +kernel) ?_
  refine zw_iload_n 19 f189_18 rfl rfl ?_
  refine zw_aload_f 20 f189_19 rfl rfl ?_
  refine zw_arraylength 6 21 f189_20 rfl rfl ?_
  refine zw_bipush 6 23 f189_21 rfl (by decide +kernel) ?_
  refine zw_isub 0 24 f189_23 rfl (by decide +kernel) ?_
  refine zw_ic_gt_t 1021 f189_24 (by decide +kernel) (by decide +kernel) ?_
  refine zw_iconst 1 1022 f189_1021 rfl (by decide +kernel) ?_
  refine zw_zreturn f189_1022 r189 u189 (by decide +kernel) ?_
  exact rfl
set_option maxRecDepth 100000 in
set_option maxHeartbeats 0 in
theorem l_now_o (xs : Nat → Int32) (e0 : xs 0 &&& 31 = 10)  (h1 : (xs 1).toInt < 0 ∨ (2 : Int) < (xs 1).toInt) : zWp (zro 6 xs) 189 18 [(3, .int 0), (2, .ref 52), (1, .ref 0), (0, .float 0)] [] hF 82 7398 (fun r _ => r = some (.int 1)) := by
  refine zw_iload_n 19 f189_18 rfl rfl ?_
  refine zw_aload_f 20 f189_19 rfl rfl ?_
  refine zw_arraylength 6 21 f189_20 rfl rfl ?_
  refine zw_bipush 6 23 f189_21 rfl (by decide +kernel) ?_
  refine zw_isub 0 24 f189_23 rfl (by decide +kernel) ?_
  refine zw_ic_gt_f 27 1021 f189_24 (by decide +kernel) rfl (by decide +kernel) ?_
  refine zw_aload_f 28 f189_27 rfl rfl ?_
  refine zw_iload_n 29 f189_28 rfl rfl ?_
  refine zw_iaload_f 0 6 (xs 0) 30 f189_29 rfl rfl (by decide +kernel) (by decide +kernel) (by decide +kernel) rfl ?_
  refine zw_bipush 31 32 f189_30 rfl (by decide +kernel) ?_
  refine zw_iand 10 33 f189_32 rfl e0 ?_
  refine zw_table_i (off := 479) 512 f189_33 (by decide +kernel) (by decide +kernel) (by decide +kernel) ?_
  refine zw_aload_n 513 f189_512 rfl rfl ?_
  refine zw_aload_f 514 f189_513 rfl rfl ?_
  refine zw_iload_n 515 f189_514 rfl rfl ?_
  refine zw_iconst 1 516 f189_515 rfl (by decide +kernel) ?_
  refine zw_iadd 1 517 f189_516 rfl (by decide +kernel) ?_
  refine zw_iaload_f 1 6 (xs 1) 518 f189_517 rfl rfl (by decide +kernel) (by decide +kernel) (by decide +kernel) rfl ?_
  refine zw_virtual_i 521 82 7398 [.ref 0, .int (xs 1)] [(0, .ref 0), (1, .int (xs 1))] f189_518 rfl n189_57 k189_57_11 rfl rfl (by decide +kernel) (Nat.le_of_ble_eq_true rfl) rfl rfl (by decide +kernel) (by decide +kernel) rfl (Nat.le_of_ble_eq_true rfl) rfl ?_
  refine zWp.mono (x_now_o (zro 6 xs) (xs 1) h1) ?_
  rintro r h1 ⟨rfl, hm⟩
  refine ⟨_, rfl, ?_⟩
  obtain ⟨x, rfl⟩ := zMF_ex hm
  refine zw_aload_n 522 f189_521 rfl rfl ?_
  refine zw_aload_f 523 f189_522 rfl rfl ?_
  refine zw_iload_n 524 f189_523 rfl rfl ?_
  refine zw_iconst 1 525 f189_524 rfl (by decide +kernel) ?_
  refine zw_iadd 1 526 f189_525 rfl (by decide +kernel) ?_
  refine zw_iaload_f 1 6 (xs 1) 527 f189_526 rfl rfl (by decide +kernel) (by decide +kernel) (by decide +kernel) rfl ?_
  refine zw_virtual_i 530 82 7398 [.ref 52, .int (xs 1)] [(0, .ref 52), (1, .int (xs 1))] f189_527 rfl n189_60 k189_60_12 rfl rfl (by decide +kernel) (Nat.le_of_ble_eq_true rfl) rfl rfl (by decide +kernel) (by decide +kernel) rfl (Nat.le_of_ble_eq_true rfl) rfl ?_
  refine zWp.mono (m_now_o (zro 6 xs) x (xs 1) h1) ?_
  rintro r h2 rfl
  refine ⟨_, rfl, ?_⟩
  refine zw_ic_eq_t 1015 f189_530 (by decide +kernel) (by decide +kernel) ?_
  refine zw_iinc 6 [(3, .int 6), (2, .ref 52), (1, .ref 0), (0, .float 0)] 1018 f189_1015 rfl rfl (by decide +kernel) (by decide +kernel) rfl ?_
  refine zw_goto 18 f189_1018 (by decide +kernel) ?_
  refine zw_iload_n 19 f189_18 rfl rfl ?_
  refine zw_aload_f 20 f189_19 rfl rfl ?_
  refine zw_arraylength 6 21 f189_20 rfl rfl ?_
  refine zw_bipush 6 23 f189_21 rfl (by decide +kernel) ?_
  refine zw_isub 0 24 f189_23 rfl (by decide +kernel) ?_
  refine zw_ic_gt_t 1021 f189_24 (by decide +kernel) (by decide +kernel) ?_
  refine zw_iconst 1 1022 f189_1021 rfl (by decide +kernel) ?_
  refine zw_zreturn f189_1022 r189 u189 (by decide +kernel) ?_
  exact rfl
set_option maxRecDepth 100000 in
set_option maxHeartbeats 0 in
theorem l_next_r (xs : Nat → Int32) (e0 : xs 0 &&& 31 = 11)   : zWp (zro 6 xs) 189 18 [(3, .int 0), (2, .ref 52), (1, .ref 0), (0, .float 0)] [] hF 82 7398 (fun r _ => r = some (.int 1)) := by
  refine zw_iload_n 19 f189_18 rfl rfl ?_
  refine zw_aload_f 20 f189_19 rfl rfl ?_
  refine zw_arraylength 6 21 f189_20 rfl rfl ?_
  refine zw_bipush 6 23 f189_21 rfl (by decide +kernel) ?_
  refine zw_isub 0 24 f189_23 rfl (by decide +kernel) ?_
  refine zw_ic_gt_f 27 1021 f189_24 (by decide +kernel) rfl (by decide +kernel) ?_
  refine zw_aload_f 28 f189_27 rfl rfl ?_
  refine zw_iload_n 29 f189_28 rfl rfl ?_
  refine zw_iaload_f 0 6 (xs 0) 30 f189_29 rfl rfl (by decide +kernel) (by decide +kernel) (by decide +kernel) rfl ?_
  refine zw_bipush 31 32 f189_30 rfl (by decide +kernel) ?_
  refine zw_iand 11 33 f189_32 rfl e0 ?_
  refine zw_table_i (off := 502) 535 f189_33 (by decide +kernel) (by decide +kernel) (by decide +kernel) ?_
  refine zw_aload_n 536 f189_535 rfl rfl ?_
  refine zw_aload_f 537 f189_536 rfl rfl ?_
  refine zw_iload_n 538 f189_537 rfl rfl ?_
  refine zw_iconst 1 539 f189_538 rfl (by decide +kernel) ?_
  refine zw_iadd 1 540 f189_539 rfl (by decide +kernel) ?_
  refine zw_iaload_f 1 6 (xs 1) 541 f189_540 rfl rfl (by decide +kernel) (by decide +kernel) (by decide +kernel) rfl ?_
  refine zw_virtual_l 544 82 7398 [.ref 0, .int (xs 1)] [(0, .ref 0), (1, .int (xs 1))] f189_541 rfl n189_61 k189_61_11 rfl rfl (by decide +kernel) (Nat.le_of_ble_eq_true rfl) rfl rfl (by decide +kernel) (by decide +kernel) rfl (Nat.le_of_ble_eq_true rfl) rfl ?_
  refine zWp.mono (x_next_r (zro 6 xs) (xs 1)) ?_
  rintro r h1 ⟨rfl, hm⟩
  refine ⟨_, rfl, ?_⟩
  obtain ⟨x, rfl⟩ := zMF_ex hm
  refine zw_aload_n 545 f189_544 rfl rfl ?_
  refine zw_aload_f 546 f189_545 rfl rfl ?_
  refine zw_iload_n 547 f189_546 rfl rfl ?_
  refine zw_iconst 1 548 f189_547 rfl (by decide +kernel) ?_
  refine zw_iadd 1 549 f189_548 rfl (by decide +kernel) ?_
  refine zw_iaload_f 1 6 (xs 1) 550 f189_549 rfl rfl (by decide +kernel) (by decide +kernel) (by decide +kernel) rfl ?_
  refine zw_virtual_l 553 82 7398 [.ref 52, .int (xs 1)] [(0, .ref 52), (1, .int (xs 1))] f189_550 rfl n189_65 k189_65_12 rfl rfl (by decide +kernel) (Nat.le_of_ble_eq_true rfl) rfl rfl (by decide +kernel) (by decide +kernel) rfl (Nat.le_of_ble_eq_true rfl) rfl ?_
  refine zWp.mono (m_next_r (zro 6 xs) x (xs 1)) ?_
  rintro r h2 rfl
  refine ⟨_, rfl, ?_⟩
  refine zw_lcmp 0 554 f189_553 rfl (by decide +kernel) ?_
  refine zw_if_eq_t 1015 f189_554 (by decide +kernel) (by decide +kernel) ?_
  refine zw_iinc 6 [(3, .int 6), (2, .ref 52), (1, .ref 0), (0, .float 0)] 1018 f189_1015 rfl rfl (by decide +kernel) (by decide +kernel) rfl ?_
  refine zw_goto 18 f189_1018 (by decide +kernel) ?_
  refine zw_iload_n 19 f189_18 rfl rfl ?_
  refine zw_aload_f 20 f189_19 rfl rfl ?_
  refine zw_arraylength 6 21 f189_20 rfl rfl ?_
  refine zw_bipush 6 23 f189_21 rfl (by decide +kernel) ?_
  refine zw_isub 0 24 f189_23 rfl (by decide +kernel) ?_
  refine zw_ic_gt_t 1021 f189_24 (by decide +kernel) (by decide +kernel) ?_
  refine zw_iconst 1 1022 f189_1021 rfl (by decide +kernel) ?_
  refine zw_zreturn f189_1022 r189 u189 (by decide +kernel) ?_
  exact rfl
set_option maxRecDepth 100000 in
set_option maxHeartbeats 0 in
theorem l_level_r (xs : Nat → Int32) (e0 : xs 0 &&& 31 = 12)   : zWp (zro 6 xs) 189 18 [(3, .int 0), (2, .ref 52), (1, .ref 0), (0, .float 0)] [] hF 82 7398 (fun r _ => r = some (.int 1)) := by
  refine zw_iload_n 19 f189_18 rfl rfl ?_
  refine zw_aload_f 20 f189_19 rfl rfl ?_
  refine zw_arraylength 6 21 f189_20 rfl rfl ?_
  refine zw_bipush 6 23 f189_21 rfl (by decide +kernel) ?_
  refine zw_isub 0 24 f189_23 rfl (by decide +kernel) ?_
  refine zw_ic_gt_f 27 1021 f189_24 (by decide +kernel) rfl (by decide +kernel) ?_
  refine zw_aload_f 28 f189_27 rfl rfl ?_
  refine zw_iload_n 29 f189_28 rfl rfl ?_
  refine zw_iaload_f 0 6 (xs 0) 30 f189_29 rfl rfl (by decide +kernel) (by decide +kernel) (by decide +kernel) rfl ?_
  refine zw_bipush 31 32 f189_30 rfl (by decide +kernel) ?_
  refine zw_iand 12 33 f189_32 rfl e0 ?_
  refine zw_table_i (off := 526) 559 f189_33 (by decide +kernel) (by decide +kernel) (by decide +kernel) ?_
  refine zw_aload_n 560 f189_559 rfl rfl ?_
  refine zw_aload_f 561 f189_560 rfl rfl ?_
  refine zw_iload_n 562 f189_561 rfl rfl ?_
  refine zw_iconst 1 563 f189_562 rfl (by decide +kernel) ?_
  refine zw_iadd 1 564 f189_563 rfl (by decide +kernel) ?_
  refine zw_iaload_f 1 6 (xs 1) 565 f189_564 rfl rfl (by decide +kernel) (by decide +kernel) (by decide +kernel) rfl ?_
  refine zw_aload_f 566 f189_565 rfl rfl ?_
  refine zw_iload_n 567 f189_566 rfl rfl ?_
  refine zw_iconst 2 568 f189_567 rfl (by decide +kernel) ?_
  refine zw_iadd 2 569 f189_568 rfl (by decide +kernel) ?_
  refine zw_iaload_f 2 6 (xs 2) 570 f189_569 rfl rfl (by decide +kernel) (by decide +kernel) (by decide +kernel) rfl ?_
  refine zw_virtual_i 573 82 7398 [.ref 0, .int (xs 1), .int (xs 2)] [(0, .ref 0), (1, .int (xs 1)), (2, .int (xs 2))] f189_570 rfl n189_66 k189_66_11 rfl rfl (by decide +kernel) (Nat.le_of_ble_eq_true rfl) rfl rfl (by decide +kernel) (by decide +kernel) rfl (Nat.le_of_ble_eq_true rfl) rfl ?_
  refine zWp.mono (x_level_r (zro 6 xs) (xs 1) (xs 2)) ?_
  rintro r h1 ⟨rfl, hm⟩
  refine ⟨_, rfl, ?_⟩
  obtain ⟨x, rfl⟩ := zMF_ex hm
  refine zw_aload_n 574 f189_573 rfl rfl ?_
  refine zw_aload_f 575 f189_574 rfl rfl ?_
  refine zw_iload_n 576 f189_575 rfl rfl ?_
  refine zw_iconst 1 577 f189_576 rfl (by decide +kernel) ?_
  refine zw_iadd 1 578 f189_577 rfl (by decide +kernel) ?_
  refine zw_iaload_f 1 6 (xs 1) 579 f189_578 rfl rfl (by decide +kernel) (by decide +kernel) (by decide +kernel) rfl ?_
  refine zw_aload_f 580 f189_579 rfl rfl ?_
  refine zw_iload_n 581 f189_580 rfl rfl ?_
  refine zw_iconst 2 582 f189_581 rfl (by decide +kernel) ?_
  refine zw_iadd 2 583 f189_582 rfl (by decide +kernel) ?_
  refine zw_iaload_f 2 6 (xs 2) 584 f189_583 rfl rfl (by decide +kernel) (by decide +kernel) (by decide +kernel) rfl ?_
  refine zw_virtual_i 587 82 7398 [.ref 52, .int (xs 1), .int (xs 2)] [(0, .ref 52), (1, .int (xs 1)), (2, .int (xs 2))] f189_584 rfl n189_69 k189_69_12 rfl rfl (by decide +kernel) (Nat.le_of_ble_eq_true rfl) rfl rfl (by decide +kernel) (by decide +kernel) rfl (Nat.le_of_ble_eq_true rfl) rfl ?_
  refine zWp.mono (m_level_r (zro 6 xs) x (xs 1) (xs 2)) ?_
  rintro r h2 rfl
  refine ⟨_, rfl, ?_⟩
  refine zw_ic_eq_t 1015 f189_587 (by decide +kernel) (by decide +kernel) ?_
  refine zw_iinc 6 [(3, .int 6), (2, .ref 52), (1, .ref 0), (0, .float 0)] 1018 f189_1015 rfl rfl (by decide +kernel) (by decide +kernel) rfl ?_
  refine zw_goto 18 f189_1018 (by decide +kernel) ?_
  refine zw_iload_n 19 f189_18 rfl rfl ?_
  refine zw_aload_f 20 f189_19 rfl rfl ?_
  refine zw_arraylength 6 21 f189_20 rfl rfl ?_
  refine zw_bipush 6 23 f189_21 rfl (by decide +kernel) ?_
  refine zw_isub 0 24 f189_23 rfl (by decide +kernel) ?_
  refine zw_ic_gt_t 1021 f189_24 (by decide +kernel) (by decide +kernel) ?_
  refine zw_iconst 1 1022 f189_1021 rfl (by decide +kernel) ?_
  refine zw_zreturn f189_1022 r189 u189 (by decide +kernel) ?_
  exact rfl
set_option maxRecDepth 100000 in
set_option maxHeartbeats 0 in
theorem l_rate_r (xs : Nat → Int32) (e0 : xs 0 &&& 31 = 13)   : zWp (zro 6 xs) 189 18 [(3, .int 0), (2, .ref 52), (1, .ref 0), (0, .float 0)] [] hF 82 7398 (fun r _ => r = some (.int 1)) := by
  refine zw_iload_n 19 f189_18 rfl rfl ?_
  refine zw_aload_f 20 f189_19 rfl rfl ?_
  refine zw_arraylength 6 21 f189_20 rfl rfl ?_
  refine zw_bipush 6 23 f189_21 rfl (by decide +kernel) ?_
  refine zw_isub 0 24 f189_23 rfl (by decide +kernel) ?_
  refine zw_ic_gt_f 27 1021 f189_24 (by decide +kernel) rfl (by decide +kernel) ?_
  refine zw_aload_f 28 f189_27 rfl rfl ?_
  refine zw_iload_n 29 f189_28 rfl rfl ?_
  refine zw_iaload_f 0 6 (xs 0) 30 f189_29 rfl rfl (by decide +kernel) (by decide +kernel) (by decide +kernel) rfl ?_
  refine zw_bipush 31 32 f189_30 rfl (by decide +kernel) ?_
  refine zw_iand 13 33 f189_32 rfl e0 ?_
  refine zw_table_i (off := 559) 592 f189_33 (by decide +kernel) (by decide +kernel) (by decide +kernel) ?_
  refine zw_aload_n 593 f189_592 rfl rfl ?_
  refine zw_aload_f 594 f189_593 rfl rfl ?_
  refine zw_iload_n 595 f189_594 rfl rfl ?_
  refine zw_iconst 1 596 f189_595 rfl (by decide +kernel) ?_
  refine zw_iadd 1 597 f189_596 rfl (by decide +kernel) ?_
  refine zw_iaload_f 1 6 (xs 1) 598 f189_597 rfl rfl (by decide +kernel) (by decide +kernel) (by decide +kernel) rfl ?_
  refine zw_virtual_i 601 82 7398 [.ref 0, .int (xs 1)] [(0, .ref 0), (1, .int (xs 1))] f189_598 rfl n189_70 k189_70_11 rfl rfl (by decide +kernel) (Nat.le_of_ble_eq_true rfl) rfl rfl (by decide +kernel) (by decide +kernel) rfl (Nat.le_of_ble_eq_true rfl) rfl ?_
  refine zWp.mono (x_rate_r (zro 6 xs) (xs 1)) ?_
  rintro r h1 ⟨rfl, hm⟩
  refine ⟨_, rfl, ?_⟩
  obtain ⟨x, rfl⟩ := zMF_ex hm
  refine zw_aload_n 602 f189_601 rfl rfl ?_
  refine zw_aload_f 603 f189_602 rfl rfl ?_
  refine zw_iload_n 604 f189_603 rfl rfl ?_
  refine zw_iconst 1 605 f189_604 rfl (by decide +kernel) ?_
  refine zw_iadd 1 606 f189_605 rfl (by decide +kernel) ?_
  refine zw_iaload_f 1 6 (xs 1) 607 f189_606 rfl rfl (by decide +kernel) (by decide +kernel) (by decide +kernel) rfl ?_
  refine zw_virtual_i 610 82 7398 [.ref 52, .int (xs 1)] [(0, .ref 52), (1, .int (xs 1))] f189_607 rfl n189_73 k189_73_12 rfl rfl (by decide +kernel) (Nat.le_of_ble_eq_true rfl) rfl rfl (by decide +kernel) (by decide +kernel) rfl (Nat.le_of_ble_eq_true rfl) rfl ?_
  refine zWp.mono (m_rate_r (zro 6 xs) x (xs 1)) ?_
  rintro r h2 rfl
  refine ⟨_, rfl, ?_⟩
  refine zw_ic_eq_t 1015 f189_610 (by decide +kernel) (by decide +kernel) ?_
  refine zw_iinc 6 [(3, .int 6), (2, .ref 52), (1, .ref 0), (0, .float 0)] 1018 f189_1015 rfl rfl (by decide +kernel) (by decide +kernel) rfl ?_
  refine zw_goto 18 f189_1018 (by decide +kernel) ?_
  refine zw_iload_n 19 f189_18 rfl rfl ?_
  refine zw_aload_f 20 f189_19 rfl rfl ?_
  refine zw_arraylength 6 21 f189_20 rfl rfl ?_
  refine zw_bipush 6 23 f189_21 rfl (by decide +kernel) ?_
  refine zw_isub 0 24 f189_23 rfl (by decide +kernel) ?_
  refine zw_ic_gt_t 1021 f189_24 (by decide +kernel) (by decide +kernel) ?_
  refine zw_iconst 1 1022 f189_1021 rfl (by decide +kernel) ?_
  refine zw_zreturn f189_1022 r189 u189 (by decide +kernel) ?_
  exact rfl
set_option maxRecDepth 100000 in
set_option maxHeartbeats 0 in
theorem l_flow_r (xs : Nat → Int32) (e0 : xs 0 &&& 31 = 14)   : zWp (zro 6 xs) 189 18 [(3, .int 0), (2, .ref 52), (1, .ref 0), (0, .float 0)] [] hF 82 7398 (fun r _ => r = some (.int 1)) := by
  refine zw_iload_n 19 f189_18 rfl rfl ?_
  refine zw_aload_f 20 f189_19 rfl rfl ?_
  refine zw_arraylength 6 21 f189_20 rfl rfl ?_
  refine zw_bipush 6 23 f189_21 rfl (by decide +kernel) ?_
  refine zw_isub 0 24 f189_23 rfl (by decide +kernel) ?_
  refine zw_ic_gt_f 27 1021 f189_24 (by decide +kernel) rfl (by decide +kernel) ?_
  refine zw_aload_f 28 f189_27 rfl rfl ?_
  refine zw_iload_n 29 f189_28 rfl rfl ?_
  refine zw_iaload_f 0 6 (xs 0) 30 f189_29 rfl rfl (by decide +kernel) (by decide +kernel) (by decide +kernel) rfl ?_
  refine zw_bipush 31 32 f189_30 rfl (by decide +kernel) ?_
  refine zw_iand 14 33 f189_32 rfl e0 ?_
  refine zw_table_i (off := 582) 615 f189_33 (by decide +kernel) (by decide +kernel) (by decide +kernel) ?_
  refine zw_aload_n 616 f189_615 rfl rfl ?_
  refine zw_aload_f 617 f189_616 rfl rfl ?_
  refine zw_iload_n 618 f189_617 rfl rfl ?_
  refine zw_iconst 1 619 f189_618 rfl (by decide +kernel) ?_
  refine zw_iadd 1 620 f189_619 rfl (by decide +kernel) ?_
  refine zw_iaload_f 1 6 (xs 1) 621 f189_620 rfl rfl (by decide +kernel) (by decide +kernel) (by decide +kernel) rfl ?_
  refine zw_virtual_i 624 82 7398 [.ref 0, .int (xs 1)] [(0, .ref 0), (1, .int (xs 1))] f189_621 rfl n189_74 k189_74_11 rfl rfl (by decide +kernel) (Nat.le_of_ble_eq_true rfl) rfl rfl (by decide +kernel) (by decide +kernel) rfl (Nat.le_of_ble_eq_true rfl) rfl ?_
  refine zWp.mono (x_flow_r (zro 6 xs) (xs 1)) ?_
  rintro r h1 ⟨rfl, hm⟩
  refine ⟨_, rfl, ?_⟩
  obtain ⟨x, rfl⟩ := zMF_ex hm
  refine zw_aload_n 625 f189_624 rfl rfl ?_
  refine zw_aload_f 626 f189_625 rfl rfl ?_
  refine zw_iload_n 627 f189_626 rfl rfl ?_
  refine zw_iconst 1 628 f189_627 rfl (by decide +kernel) ?_
  refine zw_iadd 1 629 f189_628 rfl (by decide +kernel) ?_
  refine zw_iaload_f 1 6 (xs 1) 630 f189_629 rfl rfl (by decide +kernel) (by decide +kernel) (by decide +kernel) rfl ?_
  refine zw_virtual_i 633 82 7398 [.ref 52, .int (xs 1)] [(0, .ref 52), (1, .int (xs 1))] f189_630 rfl n189_77 k189_77_12 rfl rfl (by decide +kernel) (Nat.le_of_ble_eq_true rfl) rfl rfl (by decide +kernel) (by decide +kernel) rfl (Nat.le_of_ble_eq_true rfl) rfl ?_
  refine zWp.mono (m_flow_r (zro 6 xs) x (xs 1)) ?_
  rintro r h2 rfl
  refine ⟨_, rfl, ?_⟩
  refine zw_ic_eq_t 1015 f189_633 (by decide +kernel) (by decide +kernel) ?_
  refine zw_iinc 6 [(3, .int 6), (2, .ref 52), (1, .ref 0), (0, .float 0)] 1018 f189_1015 rfl rfl (by decide +kernel) (by decide +kernel) rfl ?_
  refine zw_goto 18 f189_1018 (by decide +kernel) ?_
  refine zw_iload_n 19 f189_18 rfl rfl ?_
  refine zw_aload_f 20 f189_19 rfl rfl ?_
  refine zw_arraylength 6 21 f189_20 rfl rfl ?_
  refine zw_bipush 6 23 f189_21 rfl (by decide +kernel) ?_
  refine zw_isub 0 24 f189_23 rfl (by decide +kernel) ?_
  refine zw_ic_gt_t 1021 f189_24 (by decide +kernel) (by decide +kernel) ?_
  refine zw_iconst 1 1022 f189_1021 rfl (by decide +kernel) ?_
  refine zw_zreturn f189_1022 r189 u189 (by decide +kernel) ?_
  exact rfl
set_option maxRecDepth 100000 in
set_option maxHeartbeats 0 in
theorem l_flood_r (xs : Nat → Int32) (e0 : xs 0 &&& 31 = 15)   : zWp (zro 6 xs) 189 18 [(3, .int 0), (2, .ref 52), (1, .ref 0), (0, .float 0)] [] hF 82 7398 (fun r _ => r = some (.int 1)) := by
  refine zw_iload_n 19 f189_18 rfl rfl ?_
  refine zw_aload_f 20 f189_19 rfl rfl ?_
  refine zw_arraylength 6 21 f189_20 rfl rfl ?_
  refine zw_bipush 6 23 f189_21 rfl (by decide +kernel) ?_
  refine zw_isub 0 24 f189_23 rfl (by decide +kernel) ?_
  refine zw_ic_gt_f 27 1021 f189_24 (by decide +kernel) rfl (by decide +kernel) ?_
  refine zw_aload_f 28 f189_27 rfl rfl ?_
  refine zw_iload_n 29 f189_28 rfl rfl ?_
  refine zw_iaload_f 0 6 (xs 0) 30 f189_29 rfl rfl (by decide +kernel) (by decide +kernel) (by decide +kernel) rfl ?_
  refine zw_bipush 31 32 f189_30 rfl (by decide +kernel) ?_
  refine zw_iand 15 33 f189_32 rfl e0 ?_
  refine zw_table_i (off := 605) 638 f189_33 (by decide +kernel) (by decide +kernel) (by decide +kernel) ?_
  refine zw_aload_n 639 f189_638 rfl rfl ?_
  refine zw_aload_f 640 f189_639 rfl rfl ?_
  refine zw_iload_n 641 f189_640 rfl rfl ?_
  refine zw_iconst 1 642 f189_641 rfl (by decide +kernel) ?_
  refine zw_iadd 1 643 f189_642 rfl (by decide +kernel) ?_
  refine zw_iaload_f 1 6 (xs 1) 644 f189_643 rfl rfl (by decide +kernel) (by decide +kernel) (by decide +kernel) rfl ?_
  refine zw_virtual_i 647 82 7398 [.ref 0, .int (xs 1)] [(0, .ref 0), (1, .int (xs 1))] f189_644 rfl n189_78 k189_78_11 rfl rfl (by decide +kernel) (Nat.le_of_ble_eq_true rfl) rfl rfl (by decide +kernel) (by decide +kernel) rfl (Nat.le_of_ble_eq_true rfl) rfl ?_
  refine zWp.mono (x_flood_r (zro 6 xs) (xs 1)) ?_
  rintro r h1 ⟨rfl, hm⟩
  refine ⟨_, rfl, ?_⟩
  obtain ⟨x, rfl⟩ := zMF_ex hm
  refine zw_aload_n 648 f189_647 rfl rfl ?_
  refine zw_aload_f 649 f189_648 rfl rfl ?_
  refine zw_iload_n 650 f189_649 rfl rfl ?_
  refine zw_iconst 1 651 f189_650 rfl (by decide +kernel) ?_
  refine zw_iadd 1 652 f189_651 rfl (by decide +kernel) ?_
  refine zw_iaload_f 1 6 (xs 1) 653 f189_652 rfl rfl (by decide +kernel) (by decide +kernel) (by decide +kernel) rfl ?_
  refine zw_virtual_i 656 82 7398 [.ref 52, .int (xs 1)] [(0, .ref 52), (1, .int (xs 1))] f189_653 rfl n189_81 k189_81_12 rfl rfl (by decide +kernel) (Nat.le_of_ble_eq_true rfl) rfl rfl (by decide +kernel) (by decide +kernel) rfl (Nat.le_of_ble_eq_true rfl) rfl ?_
  refine zWp.mono (m_flood_r (zro 6 xs) x (xs 1)) ?_
  rintro r h2 rfl
  refine ⟨_, rfl, ?_⟩
  refine zw_ic_eq_t 1015 f189_656 (by decide +kernel) (by decide +kernel) ?_
  refine zw_iinc 6 [(3, .int 6), (2, .ref 52), (1, .ref 0), (0, .float 0)] 1018 f189_1015 rfl rfl (by decide +kernel) (by decide +kernel) rfl ?_
  refine zw_goto 18 f189_1018 (by decide +kernel) ?_
  refine zw_iload_n 19 f189_18 rfl rfl ?_
  refine zw_aload_f 20 f189_19 rfl rfl ?_
  refine zw_arraylength 6 21 f189_20 rfl rfl ?_
  refine zw_bipush 6 23 f189_21 rfl (by decide +kernel) ?_
  refine zw_isub 0 24 f189_23 rfl (by decide +kernel) ?_
  refine zw_ic_gt_t 1021 f189_24 (by decide +kernel) (by decide +kernel) ?_
  refine zw_iconst 1 1022 f189_1021 rfl (by decide +kernel) ?_
  refine zw_zreturn f189_1022 r189 u189 (by decide +kernel) ?_
  exact rfl
set_option maxRecDepth 100000 in
set_option maxHeartbeats 0 in
theorem l_told_r (xs : Nat → Int32) (e0 : xs 0 &&& 31 = 16)   : zWp (zro 6 xs) 189 18 [(3, .int 0), (2, .ref 52), (1, .ref 0), (0, .float 0)] [] hF 82 7398 (fun r _ => r = some (.int 1)) := by
  refine zw_iload_n 19 f189_18 rfl rfl ?_
  refine zw_aload_f 20 f189_19 rfl rfl ?_
  refine zw_arraylength 6 21 f189_20 rfl rfl ?_
  refine zw_bipush 6 23 f189_21 rfl (by decide +kernel) ?_
  refine zw_isub 0 24 f189_23 rfl (by decide +kernel) ?_
  refine zw_ic_gt_f 27 1021 f189_24 (by decide +kernel) rfl (by decide +kernel) ?_
  refine zw_aload_f 28 f189_27 rfl rfl ?_
  refine zw_iload_n 29 f189_28 rfl rfl ?_
  refine zw_iaload_f 0 6 (xs 0) 30 f189_29 rfl rfl (by decide +kernel) (by decide +kernel) (by decide +kernel) rfl ?_
  refine zw_bipush 31 32 f189_30 rfl (by decide +kernel) ?_
  refine zw_iand 16 33 f189_32 rfl e0 ?_
  refine zw_table_i (off := 628) 661 f189_33 (by decide +kernel) (by decide +kernel) (by decide +kernel) ?_
  refine zw_aload_n 662 f189_661 rfl rfl ?_
  refine zw_aload_f 663 f189_662 rfl rfl ?_
  refine zw_iload_n 664 f189_663 rfl rfl ?_
  refine zw_iconst 1 665 f189_664 rfl (by decide +kernel) ?_
  refine zw_iadd 1 666 f189_665 rfl (by decide +kernel) ?_
  refine zw_iaload_f 1 6 (xs 1) 667 f189_666 rfl rfl (by decide +kernel) (by decide +kernel) (by decide +kernel) rfl ?_
  refine zw_aload_f 668 f189_667 rfl rfl ?_
  refine zw_iload_n 669 f189_668 rfl rfl ?_
  refine zw_iconst 2 670 f189_669 rfl (by decide +kernel) ?_
  refine zw_iadd 2 671 f189_670 rfl (by decide +kernel) ?_
  refine zw_iaload_f 2 6 (xs 2) 672 f189_671 rfl rfl (by decide +kernel) (by decide +kernel) (by decide +kernel) rfl ?_
  refine zw_virtual_i 675 82 7398 [.ref 0, .int (xs 1), .int (xs 2)] [(0, .ref 0), (1, .int (xs 1)), (2, .int (xs 2))] f189_672 rfl n189_82 k189_82_11 rfl rfl (by decide +kernel) (Nat.le_of_ble_eq_true rfl) rfl rfl (by decide +kernel) (by decide +kernel) rfl (Nat.le_of_ble_eq_true rfl) rfl ?_
  refine zWp.mono (x_told_r (zro 6 xs) (xs 1) (xs 2)) ?_
  rintro r h1 ⟨rfl, hm⟩
  refine ⟨_, rfl, ?_⟩
  obtain ⟨x, rfl⟩ := zMF_ex hm
  refine zw_aload_n 676 f189_675 rfl rfl ?_
  refine zw_aload_f 677 f189_676 rfl rfl ?_
  refine zw_iload_n 678 f189_677 rfl rfl ?_
  refine zw_iconst 1 679 f189_678 rfl (by decide +kernel) ?_
  refine zw_iadd 1 680 f189_679 rfl (by decide +kernel) ?_
  refine zw_iaload_f 1 6 (xs 1) 681 f189_680 rfl rfl (by decide +kernel) (by decide +kernel) (by decide +kernel) rfl ?_
  refine zw_aload_f 682 f189_681 rfl rfl ?_
  refine zw_iload_n 683 f189_682 rfl rfl ?_
  refine zw_iconst 2 684 f189_683 rfl (by decide +kernel) ?_
  refine zw_iadd 2 685 f189_684 rfl (by decide +kernel) ?_
  refine zw_iaload_f 2 6 (xs 2) 686 f189_685 rfl rfl (by decide +kernel) (by decide +kernel) (by decide +kernel) rfl ?_
  refine zw_virtual_i 689 82 7398 [.ref 52, .int (xs 1), .int (xs 2)] [(0, .ref 52), (1, .int (xs 1)), (2, .int (xs 2))] f189_686 rfl n189_85 k189_85_12 rfl rfl (by decide +kernel) (Nat.le_of_ble_eq_true rfl) rfl rfl (by decide +kernel) (by decide +kernel) rfl (Nat.le_of_ble_eq_true rfl) rfl ?_
  refine zWp.mono (m_told_r (zro 6 xs) x (xs 1) (xs 2)) ?_
  rintro r h2 rfl
  refine ⟨_, rfl, ?_⟩
  refine zw_ic_eq_t 1015 f189_689 (by decide +kernel) (by decide +kernel) ?_
  refine zw_iinc 6 [(3, .int 6), (2, .ref 52), (1, .ref 0), (0, .float 0)] 1018 f189_1015 rfl rfl (by decide +kernel) (by decide +kernel) rfl ?_
  refine zw_goto 18 f189_1018 (by decide +kernel) ?_
  refine zw_iload_n 19 f189_18 rfl rfl ?_
  refine zw_aload_f 20 f189_19 rfl rfl ?_
  refine zw_arraylength 6 21 f189_20 rfl rfl ?_
  refine zw_bipush 6 23 f189_21 rfl (by decide +kernel) ?_
  refine zw_isub 0 24 f189_23 rfl (by decide +kernel) ?_
  refine zw_ic_gt_t 1021 f189_24 (by decide +kernel) (by decide +kernel) ?_
  refine zw_iconst 1 1022 f189_1021 rfl (by decide +kernel) ?_
  refine zw_zreturn f189_1022 r189 u189 (by decide +kernel) ?_
  exact rfl
set_option maxRecDepth 100000 in
set_option maxHeartbeats 0 in
theorem l_pipeTold_r (xs : Nat → Int32) (e0 : xs 0 &&& 31 = 17)   : zWp (zro 6 xs) 189 18 [(3, .int 0), (2, .ref 52), (1, .ref 0), (0, .float 0)] [] hF 82 7398 (fun r _ => r = some (.int 1)) := by
  refine zw_iload_n 19 f189_18 rfl rfl ?_
  refine zw_aload_f 20 f189_19 rfl rfl ?_
  refine zw_arraylength 6 21 f189_20 rfl rfl ?_
  refine zw_bipush 6 23 f189_21 rfl (by decide +kernel) ?_
  refine zw_isub 0 24 f189_23 rfl (by decide +kernel) ?_
  refine zw_ic_gt_f 27 1021 f189_24 (by decide +kernel) rfl (by decide +kernel) ?_
  refine zw_aload_f 28 f189_27 rfl rfl ?_
  refine zw_iload_n 29 f189_28 rfl rfl ?_
  refine zw_iaload_f 0 6 (xs 0) 30 f189_29 rfl rfl (by decide +kernel) (by decide +kernel) (by decide +kernel) rfl ?_
  refine zw_bipush 31 32 f189_30 rfl (by decide +kernel) ?_
  refine zw_iand 17 33 f189_32 rfl e0 ?_
  refine zw_table_i (off := 661) 694 f189_33 (by decide +kernel) (by decide +kernel) (by decide +kernel) ?_
  refine zw_aload_n 695 f189_694 rfl rfl ?_
  refine zw_aload_f 696 f189_695 rfl rfl ?_
  refine zw_iload_n 697 f189_696 rfl rfl ?_
  refine zw_iconst 1 698 f189_697 rfl (by decide +kernel) ?_
  refine zw_iadd 1 699 f189_698 rfl (by decide +kernel) ?_
  refine zw_iaload_f 1 6 (xs 1) 700 f189_699 rfl rfl (by decide +kernel) (by decide +kernel) (by decide +kernel) rfl ?_
  refine zw_aload_f 701 f189_700 rfl rfl ?_
  refine zw_iload_n 702 f189_701 rfl rfl ?_
  refine zw_iconst 2 703 f189_702 rfl (by decide +kernel) ?_
  refine zw_iadd 2 704 f189_703 rfl (by decide +kernel) ?_
  refine zw_iaload_f 2 6 (xs 2) 705 f189_704 rfl rfl (by decide +kernel) (by decide +kernel) (by decide +kernel) rfl ?_
  refine zw_virtual_i 708 82 7398 [.ref 0, .int (xs 1), .int (xs 2)] [(0, .ref 0), (1, .int (xs 1)), (2, .int (xs 2))] f189_705 rfl n189_86 k189_86_11 rfl rfl (by decide +kernel) (Nat.le_of_ble_eq_true rfl) rfl rfl (by decide +kernel) (by decide +kernel) rfl (Nat.le_of_ble_eq_true rfl) rfl ?_
  refine zWp.mono (x_pipeTold_r (zro 6 xs) (xs 1) (xs 2)) ?_
  rintro r h1 ⟨rfl, hm⟩
  refine ⟨_, rfl, ?_⟩
  obtain ⟨x, rfl⟩ := zMF_ex hm
  refine zw_aload_n 709 f189_708 rfl rfl ?_
  refine zw_aload_f 710 f189_709 rfl rfl ?_
  refine zw_iload_n 711 f189_710 rfl rfl ?_
  refine zw_iconst 1 712 f189_711 rfl (by decide +kernel) ?_
  refine zw_iadd 1 713 f189_712 rfl (by decide +kernel) ?_
  refine zw_iaload_f 1 6 (xs 1) 714 f189_713 rfl rfl (by decide +kernel) (by decide +kernel) (by decide +kernel) rfl ?_
  refine zw_aload_f 715 f189_714 rfl rfl ?_
  refine zw_iload_n 716 f189_715 rfl rfl ?_
  refine zw_iconst 2 717 f189_716 rfl (by decide +kernel) ?_
  refine zw_iadd 2 718 f189_717 rfl (by decide +kernel) ?_
  refine zw_iaload_f 2 6 (xs 2) 719 f189_718 rfl rfl (by decide +kernel) (by decide +kernel) (by decide +kernel) rfl ?_
  refine zw_virtual_i 722 82 7398 [.ref 52, .int (xs 1), .int (xs 2)] [(0, .ref 52), (1, .int (xs 1)), (2, .int (xs 2))] f189_719 rfl n189_89 k189_89_12 rfl rfl (by decide +kernel) (Nat.le_of_ble_eq_true rfl) rfl rfl (by decide +kernel) (by decide +kernel) rfl (Nat.le_of_ble_eq_true rfl) rfl ?_
  refine zWp.mono (m_pipeTold_r (zro 6 xs) x (xs 1) (xs 2)) ?_
  rintro r h2 rfl
  refine ⟨_, rfl, ?_⟩
  refine zw_ic_eq_t 1015 f189_722 (by decide +kernel) (by decide +kernel) ?_
  refine zw_iinc 6 [(3, .int 6), (2, .ref 52), (1, .ref 0), (0, .float 0)] 1018 f189_1015 rfl rfl (by decide +kernel) (by decide +kernel) rfl ?_
  refine zw_goto 18 f189_1018 (by decide +kernel) ?_
  refine zw_iload_n 19 f189_18 rfl rfl ?_
  refine zw_aload_f 20 f189_19 rfl rfl ?_
  refine zw_arraylength 6 21 f189_20 rfl rfl ?_
  refine zw_bipush 6 23 f189_21 rfl (by decide +kernel) ?_
  refine zw_isub 0 24 f189_23 rfl (by decide +kernel) ?_
  refine zw_ic_gt_t 1021 f189_24 (by decide +kernel) (by decide +kernel) ?_
  refine zw_iconst 1 1022 f189_1021 rfl (by decide +kernel) ?_
  refine zw_zreturn f189_1022 r189 u189 (by decide +kernel) ?_
  exact rfl
set_option maxRecDepth 100000 in
set_option maxHeartbeats 0 in
theorem l_count_k0 (xs : Nat → Int32) (e0 : xs 0 &&& 31 = 18) (q1 : xs 1 = 0)  : zWp (zro 6 xs) 189 18 [(3, .int 0), (2, .ref 52), (1, .ref 0), (0, .float 0)] [] hF 82 7398 (fun r _ => r = some (.int 1)) := by
  refine zw_iload_n 19 f189_18 rfl rfl ?_
  refine zw_aload_f 20 f189_19 rfl rfl ?_
  refine zw_arraylength 6 21 f189_20 rfl rfl ?_
  refine zw_bipush 6 23 f189_21 rfl (by decide +kernel) ?_
  refine zw_isub 0 24 f189_23 rfl (by decide +kernel) ?_
  refine zw_ic_gt_f 27 1021 f189_24 (by decide +kernel) rfl (by decide +kernel) ?_
  refine zw_aload_f 28 f189_27 rfl rfl ?_
  refine zw_iload_n 29 f189_28 rfl rfl ?_
  refine zw_iaload_f 0 6 (xs 0) 30 f189_29 rfl rfl (by decide +kernel) (by decide +kernel) (by decide +kernel) rfl ?_
  refine zw_bipush 31 32 f189_30 rfl (by decide +kernel) ?_
  refine zw_iand 18 33 f189_32 rfl e0 ?_
  refine zw_table_i (off := 694) 727 f189_33 (by decide +kernel) (by decide +kernel) (by decide +kernel) ?_
  refine zw_aload_n 728 f189_727 rfl rfl ?_
  refine zw_aload_f 729 f189_728 rfl rfl ?_
  refine zw_iload_n 730 f189_729 rfl rfl ?_
  refine zw_iconst 1 731 f189_730 rfl (by decide +kernel) ?_
  refine zw_iadd 1 732 f189_731 rfl (by decide +kernel) ?_
  refine zw_iaload_f 1 6 0 733 f189_732 rfl rfl (by decide +kernel) (by decide +kernel) (by decide +kernel) q1 ?_
  refine zw_virtual_i 736 82 7398 [.ref 0, .int 0] [(0, .ref 0), (1, .int 0)] f189_733 rfl n189_90 k189_90_11 rfl rfl (by decide +kernel) (Nat.le_of_ble_eq_true rfl) rfl rfl (by decide +kernel) (by decide +kernel) rfl (Nat.le_of_ble_eq_true rfl) rfl ?_
  refine zWp.mono (x_count_k0 (zro 6 xs) ) ?_
  rintro r h1 ⟨rfl, hm⟩
  refine ⟨_, rfl, ?_⟩
  obtain ⟨x, rfl⟩ := zMF_ex hm
  refine zw_aload_n 737 f189_736 rfl rfl ?_
  refine zw_aload_f 738 f189_737 rfl rfl ?_
  refine zw_iload_n 739 f189_738 rfl rfl ?_
  refine zw_iconst 1 740 f189_739 rfl (by decide +kernel) ?_
  refine zw_iadd 1 741 f189_740 rfl (by decide +kernel) ?_
  refine zw_iaload_f 1 6 0 742 f189_741 rfl rfl (by decide +kernel) (by decide +kernel) (by decide +kernel) q1 ?_
  refine zw_virtual_i 745 82 7398 [.ref 52, .int 0] [(0, .ref 52), (1, .int 0)] f189_742 rfl n189_93 k189_93_12 rfl rfl (by decide +kernel) (Nat.le_of_ble_eq_true rfl) rfl rfl (by decide +kernel) (by decide +kernel) rfl (Nat.le_of_ble_eq_true rfl) rfl ?_
  refine zWp.mono (m_count_k0 (zro 6 xs) x ) ?_
  rintro r h2 rfl
  refine ⟨_, rfl, ?_⟩
  refine zw_ic_eq_t 1015 f189_745 (by decide +kernel) (by decide +kernel) ?_
  refine zw_iinc 6 [(3, .int 6), (2, .ref 52), (1, .ref 0), (0, .float 0)] 1018 f189_1015 rfl rfl (by decide +kernel) (by decide +kernel) rfl ?_
  refine zw_goto 18 f189_1018 (by decide +kernel) ?_
  refine zw_iload_n 19 f189_18 rfl rfl ?_
  refine zw_aload_f 20 f189_19 rfl rfl ?_
  refine zw_arraylength 6 21 f189_20 rfl rfl ?_
  refine zw_bipush 6 23 f189_21 rfl (by decide +kernel) ?_
  refine zw_isub 0 24 f189_23 rfl (by decide +kernel) ?_
  refine zw_ic_gt_t 1021 f189_24 (by decide +kernel) (by decide +kernel) ?_
  refine zw_iconst 1 1022 f189_1021 rfl (by decide +kernel) ?_
  refine zw_zreturn f189_1022 r189 u189 (by decide +kernel) ?_
  exact rfl
set_option maxRecDepth 100000 in
set_option maxHeartbeats 0 in
theorem l_count_k1 (xs : Nat → Int32) (e0 : xs 0 &&& 31 = 18) (q1 : xs 1 = 1)  : zWp (zro 6 xs) 189 18 [(3, .int 0), (2, .ref 52), (1, .ref 0), (0, .float 0)] [] hF 82 7398 (fun r _ => r = some (.int 1)) := by
  refine zw_iload_n 19 f189_18 rfl rfl ?_
  refine zw_aload_f 20 f189_19 rfl rfl ?_
  refine zw_arraylength 6 21 f189_20 rfl rfl ?_
  refine zw_bipush 6 23 f189_21 rfl (by decide +kernel) ?_
  refine zw_isub 0 24 f189_23 rfl (by decide +kernel) ?_
  refine zw_ic_gt_f 27 1021 f189_24 (by decide +kernel) rfl (by decide +kernel) ?_
  refine zw_aload_f 28 f189_27 rfl rfl ?_
  refine zw_iload_n 29 f189_28 rfl rfl ?_
  refine zw_iaload_f 0 6 (xs 0) 30 f189_29 rfl rfl (by decide +kernel) (by decide +kernel) (by decide +kernel) rfl ?_
  refine zw_bipush 31 32 f189_30 rfl (by decide +kernel) ?_
  refine zw_iand 18 33 f189_32 rfl e0 ?_
  refine zw_table_i (off := 694) 727 f189_33 (by decide +kernel) (by decide +kernel) (by decide +kernel) ?_
  refine zw_aload_n 728 f189_727 rfl rfl ?_
  refine zw_aload_f 729 f189_728 rfl rfl ?_
  refine zw_iload_n 730 f189_729 rfl rfl ?_
  refine zw_iconst 1 731 f189_730 rfl (by decide +kernel) ?_
  refine zw_iadd 1 732 f189_731 rfl (by decide +kernel) ?_
  refine zw_iaload_f 1 6 1 733 f189_732 rfl rfl (by decide +kernel) (by decide +kernel) (by decide +kernel) q1 ?_
  refine zw_virtual_i 736 82 7398 [.ref 0, .int 1] [(0, .ref 0), (1, .int 1)] f189_733 rfl n189_90 k189_90_11 rfl rfl (by decide +kernel) (Nat.le_of_ble_eq_true rfl) rfl rfl (by decide +kernel) (by decide +kernel) rfl (Nat.le_of_ble_eq_true rfl) rfl ?_
  refine zWp.mono (x_count_k1 (zro 6 xs) ) ?_
  rintro r h1 ⟨rfl, hm⟩
  refine ⟨_, rfl, ?_⟩
  obtain ⟨x, rfl⟩ := zMF_ex hm
  refine zw_aload_n 737 f189_736 rfl rfl ?_
  refine zw_aload_f 738 f189_737 rfl rfl ?_
  refine zw_iload_n 739 f189_738 rfl rfl ?_
  refine zw_iconst 1 740 f189_739 rfl (by decide +kernel) ?_
  refine zw_iadd 1 741 f189_740 rfl (by decide +kernel) ?_
  refine zw_iaload_f 1 6 1 742 f189_741 rfl rfl (by decide +kernel) (by decide +kernel) (by decide +kernel) q1 ?_
  refine zw_virtual_i 745 82 7398 [.ref 52, .int 1] [(0, .ref 52), (1, .int 1)] f189_742 rfl n189_93 k189_93_12 rfl rfl (by decide +kernel) (Nat.le_of_ble_eq_true rfl) rfl rfl (by decide +kernel) (by decide +kernel) rfl (Nat.le_of_ble_eq_true rfl) rfl ?_
  refine zWp.mono (m_count_k1 (zro 6 xs) x ) ?_
  rintro r h2 rfl
  refine ⟨_, rfl, ?_⟩
  refine zw_ic_eq_t 1015 f189_745 (by decide +kernel) (by decide +kernel) ?_
  refine zw_iinc 6 [(3, .int 6), (2, .ref 52), (1, .ref 0), (0, .float 0)] 1018 f189_1015 rfl rfl (by decide +kernel) (by decide +kernel) rfl ?_
  refine zw_goto 18 f189_1018 (by decide +kernel) ?_
  refine zw_iload_n 19 f189_18 rfl rfl ?_
  refine zw_aload_f 20 f189_19 rfl rfl ?_
  refine zw_arraylength 6 21 f189_20 rfl rfl ?_
  refine zw_bipush 6 23 f189_21 rfl (by decide +kernel) ?_
  refine zw_isub 0 24 f189_23 rfl (by decide +kernel) ?_
  refine zw_ic_gt_t 1021 f189_24 (by decide +kernel) (by decide +kernel) ?_
  refine zw_iconst 1 1022 f189_1021 rfl (by decide +kernel) ?_
  refine zw_zreturn f189_1022 r189 u189 (by decide +kernel) ?_
  exact rfl
set_option maxRecDepth 100000 in
set_option maxHeartbeats 0 in
theorem l_count_k2 (xs : Nat → Int32) (e0 : xs 0 &&& 31 = 18) (q1 : xs 1 = 2)  : zWp (zro 6 xs) 189 18 [(3, .int 0), (2, .ref 52), (1, .ref 0), (0, .float 0)] [] hF 82 7398 (fun r _ => r = some (.int 1)) := by
  refine zw_iload_n 19 f189_18 rfl rfl ?_
  refine zw_aload_f 20 f189_19 rfl rfl ?_
  refine zw_arraylength 6 21 f189_20 rfl rfl ?_
  refine zw_bipush 6 23 f189_21 rfl (by decide +kernel) ?_
  refine zw_isub 0 24 f189_23 rfl (by decide +kernel) ?_
  refine zw_ic_gt_f 27 1021 f189_24 (by decide +kernel) rfl (by decide +kernel) ?_
  refine zw_aload_f 28 f189_27 rfl rfl ?_
  refine zw_iload_n 29 f189_28 rfl rfl ?_
  refine zw_iaload_f 0 6 (xs 0) 30 f189_29 rfl rfl (by decide +kernel) (by decide +kernel) (by decide +kernel) rfl ?_
  refine zw_bipush 31 32 f189_30 rfl (by decide +kernel) ?_
  refine zw_iand 18 33 f189_32 rfl e0 ?_
  refine zw_table_i (off := 694) 727 f189_33 (by decide +kernel) (by decide +kernel) (by decide +kernel) ?_
  refine zw_aload_n 728 f189_727 rfl rfl ?_
  refine zw_aload_f 729 f189_728 rfl rfl ?_
  refine zw_iload_n 730 f189_729 rfl rfl ?_
  refine zw_iconst 1 731 f189_730 rfl (by decide +kernel) ?_
  refine zw_iadd 1 732 f189_731 rfl (by decide +kernel) ?_
  refine zw_iaload_f 1 6 2 733 f189_732 rfl rfl (by decide +kernel) (by decide +kernel) (by decide +kernel) q1 ?_
  refine zw_virtual_i 736 82 7398 [.ref 0, .int 2] [(0, .ref 0), (1, .int 2)] f189_733 rfl n189_90 k189_90_11 rfl rfl (by decide +kernel) (Nat.le_of_ble_eq_true rfl) rfl rfl (by decide +kernel) (by decide +kernel) rfl (Nat.le_of_ble_eq_true rfl) rfl ?_
  refine zWp.mono (x_count_k2 (zro 6 xs) ) ?_
  rintro r h1 ⟨rfl, hm⟩
  refine ⟨_, rfl, ?_⟩
  obtain ⟨x, rfl⟩ := zMF_ex hm
  refine zw_aload_n 737 f189_736 rfl rfl ?_
  refine zw_aload_f 738 f189_737 rfl rfl ?_
  refine zw_iload_n 739 f189_738 rfl rfl ?_
  refine zw_iconst 1 740 f189_739 rfl (by decide +kernel) ?_
  refine zw_iadd 1 741 f189_740 rfl (by decide +kernel) ?_
  refine zw_iaload_f 1 6 2 742 f189_741 rfl rfl (by decide +kernel) (by decide +kernel) (by decide +kernel) q1 ?_
  refine zw_virtual_i 745 82 7398 [.ref 52, .int 2] [(0, .ref 52), (1, .int 2)] f189_742 rfl n189_93 k189_93_12 rfl rfl (by decide +kernel) (Nat.le_of_ble_eq_true rfl) rfl rfl (by decide +kernel) (by decide +kernel) rfl (Nat.le_of_ble_eq_true rfl) rfl ?_
  refine zWp.mono (m_count_k2 (zro 6 xs) x ) ?_
  rintro r h2 rfl
  refine ⟨_, rfl, ?_⟩
  refine zw_ic_eq_t 1015 f189_745 (by decide +kernel) (by decide +kernel) ?_
  refine zw_iinc 6 [(3, .int 6), (2, .ref 52), (1, .ref 0), (0, .float 0)] 1018 f189_1015 rfl rfl (by decide +kernel) (by decide +kernel) rfl ?_
  refine zw_goto 18 f189_1018 (by decide +kernel) ?_
  refine zw_iload_n 19 f189_18 rfl rfl ?_
  refine zw_aload_f 20 f189_19 rfl rfl ?_
  refine zw_arraylength 6 21 f189_20 rfl rfl ?_
  refine zw_bipush 6 23 f189_21 rfl (by decide +kernel) ?_
  refine zw_isub 0 24 f189_23 rfl (by decide +kernel) ?_
  refine zw_ic_gt_t 1021 f189_24 (by decide +kernel) (by decide +kernel) ?_
  refine zw_iconst 1 1022 f189_1021 rfl (by decide +kernel) ?_
  refine zw_zreturn f189_1022 r189 u189 (by decide +kernel) ?_
  exact rfl
set_option maxRecDepth 100000 in
set_option maxHeartbeats 0 in
theorem l_count_k3 (xs : Nat → Int32) (e0 : xs 0 &&& 31 = 18) (q1 : xs 1 = 3)  : zWp (zro 6 xs) 189 18 [(3, .int 0), (2, .ref 52), (1, .ref 0), (0, .float 0)] [] hF 82 7398 (fun r _ => r = some (.int 1)) := by
  refine zw_iload_n 19 f189_18 rfl rfl ?_
  refine zw_aload_f 20 f189_19 rfl rfl ?_
  refine zw_arraylength 6 21 f189_20 rfl rfl ?_
  refine zw_bipush 6 23 f189_21 rfl (by decide +kernel) ?_
  refine zw_isub 0 24 f189_23 rfl (by decide +kernel) ?_
  refine zw_ic_gt_f 27 1021 f189_24 (by decide +kernel) rfl (by decide +kernel) ?_
  refine zw_aload_f 28 f189_27 rfl rfl ?_
  refine zw_iload_n 29 f189_28 rfl rfl ?_
  refine zw_iaload_f 0 6 (xs 0) 30 f189_29 rfl rfl (by decide +kernel) (by decide +kernel) (by decide +kernel) rfl ?_
  refine zw_bipush 31 32 f189_30 rfl (by decide +kernel) ?_
  refine zw_iand 18 33 f189_32 rfl e0 ?_
  refine zw_table_i (off := 694) 727 f189_33 (by decide +kernel) (by decide +kernel) (by decide +kernel) ?_
  refine zw_aload_n 728 f189_727 rfl rfl ?_
  refine zw_aload_f 729 f189_728 rfl rfl ?_
  refine zw_iload_n 730 f189_729 rfl rfl ?_
  refine zw_iconst 1 731 f189_730 rfl (by decide +kernel) ?_
  refine zw_iadd 1 732 f189_731 rfl (by decide +kernel) ?_
  refine zw_iaload_f 1 6 3 733 f189_732 rfl rfl (by decide +kernel) (by decide +kernel) (by decide +kernel) q1 ?_
  refine zw_virtual_i 736 82 7398 [.ref 0, .int 3] [(0, .ref 0), (1, .int 3)] f189_733 rfl n189_90 k189_90_11 rfl rfl (by decide +kernel) (Nat.le_of_ble_eq_true rfl) rfl rfl (by decide +kernel) (by decide +kernel) rfl (Nat.le_of_ble_eq_true rfl) rfl ?_
  refine zWp.mono (x_count_k3 (zro 6 xs) ) ?_
  rintro r h1 ⟨rfl, hm⟩
  refine ⟨_, rfl, ?_⟩
  obtain ⟨x, rfl⟩ := zMF_ex hm
  refine zw_aload_n 737 f189_736 rfl rfl ?_
  refine zw_aload_f 738 f189_737 rfl rfl ?_
  refine zw_iload_n 739 f189_738 rfl rfl ?_
  refine zw_iconst 1 740 f189_739 rfl (by decide +kernel) ?_
  refine zw_iadd 1 741 f189_740 rfl (by decide +kernel) ?_
  refine zw_iaload_f 1 6 3 742 f189_741 rfl rfl (by decide +kernel) (by decide +kernel) (by decide +kernel) q1 ?_
  refine zw_virtual_i 745 82 7398 [.ref 52, .int 3] [(0, .ref 52), (1, .int 3)] f189_742 rfl n189_93 k189_93_12 rfl rfl (by decide +kernel) (Nat.le_of_ble_eq_true rfl) rfl rfl (by decide +kernel) (by decide +kernel) rfl (Nat.le_of_ble_eq_true rfl) rfl ?_
  refine zWp.mono (m_count_k3 (zro 6 xs) x ) ?_
  rintro r h2 rfl
  refine ⟨_, rfl, ?_⟩
  refine zw_ic_eq_t 1015 f189_745 (by decide +kernel) (by decide +kernel) ?_
  refine zw_iinc 6 [(3, .int 6), (2, .ref 52), (1, .ref 0), (0, .float 0)] 1018 f189_1015 rfl rfl (by decide +kernel) (by decide +kernel) rfl ?_
  refine zw_goto 18 f189_1018 (by decide +kernel) ?_
  refine zw_iload_n 19 f189_18 rfl rfl ?_
  refine zw_aload_f 20 f189_19 rfl rfl ?_
  refine zw_arraylength 6 21 f189_20 rfl rfl ?_
  refine zw_bipush 6 23 f189_21 rfl (by decide +kernel) ?_
  refine zw_isub 0 24 f189_23 rfl (by decide +kernel) ?_
  refine zw_ic_gt_t 1021 f189_24 (by decide +kernel) (by decide +kernel) ?_
  refine zw_iconst 1 1022 f189_1021 rfl (by decide +kernel) ?_
  refine zw_zreturn f189_1022 r189 u189 (by decide +kernel) ?_
  exact rfl
set_option maxRecDepth 100000 in
set_option maxHeartbeats 0 in
theorem l_count_o (xs : Nat → Int32) (e0 : xs 0 &&& 31 = 18)  (h1 : (xs 1).toInt < 0 ∨ (3 : Int) < (xs 1).toInt) : zWp (zro 6 xs) 189 18 [(3, .int 0), (2, .ref 52), (1, .ref 0), (0, .float 0)] [] hF 82 7398 (fun r _ => r = some (.int 1)) := by
  refine zw_iload_n 19 f189_18 rfl rfl ?_
  refine zw_aload_f 20 f189_19 rfl rfl ?_
  refine zw_arraylength 6 21 f189_20 rfl rfl ?_
  refine zw_bipush 6 23 f189_21 rfl (by decide +kernel) ?_
  refine zw_isub 0 24 f189_23 rfl (by decide +kernel) ?_
  refine zw_ic_gt_f 27 1021 f189_24 (by decide +kernel) rfl (by decide +kernel) ?_
  refine zw_aload_f 28 f189_27 rfl rfl ?_
  refine zw_iload_n 29 f189_28 rfl rfl ?_
  refine zw_iaload_f 0 6 (xs 0) 30 f189_29 rfl rfl (by decide +kernel) (by decide +kernel) (by decide +kernel) rfl ?_
  refine zw_bipush 31 32 f189_30 rfl (by decide +kernel) ?_
  refine zw_iand 18 33 f189_32 rfl e0 ?_
  refine zw_table_i (off := 694) 727 f189_33 (by decide +kernel) (by decide +kernel) (by decide +kernel) ?_
  refine zw_aload_n 728 f189_727 rfl rfl ?_
  refine zw_aload_f 729 f189_728 rfl rfl ?_
  refine zw_iload_n 730 f189_729 rfl rfl ?_
  refine zw_iconst 1 731 f189_730 rfl (by decide +kernel) ?_
  refine zw_iadd 1 732 f189_731 rfl (by decide +kernel) ?_
  refine zw_iaload_f 1 6 (xs 1) 733 f189_732 rfl rfl (by decide +kernel) (by decide +kernel) (by decide +kernel) rfl ?_
  refine zw_virtual_i 736 82 7398 [.ref 0, .int (xs 1)] [(0, .ref 0), (1, .int (xs 1))] f189_733 rfl n189_90 k189_90_11 rfl rfl (by decide +kernel) (Nat.le_of_ble_eq_true rfl) rfl rfl (by decide +kernel) (by decide +kernel) rfl (Nat.le_of_ble_eq_true rfl) rfl ?_
  refine zWp.mono (x_count_o (zro 6 xs) (xs 1) h1) ?_
  rintro r h1 ⟨rfl, hm⟩
  refine ⟨_, rfl, ?_⟩
  obtain ⟨x, rfl⟩ := zMF_ex hm
  refine zw_aload_n 737 f189_736 rfl rfl ?_
  refine zw_aload_f 738 f189_737 rfl rfl ?_
  refine zw_iload_n 739 f189_738 rfl rfl ?_
  refine zw_iconst 1 740 f189_739 rfl (by decide +kernel) ?_
  refine zw_iadd 1 741 f189_740 rfl (by decide +kernel) ?_
  refine zw_iaload_f 1 6 (xs 1) 742 f189_741 rfl rfl (by decide +kernel) (by decide +kernel) (by decide +kernel) rfl ?_
  refine zw_virtual_i 745 82 7398 [.ref 52, .int (xs 1)] [(0, .ref 52), (1, .int (xs 1))] f189_742 rfl n189_93 k189_93_12 rfl rfl (by decide +kernel) (Nat.le_of_ble_eq_true rfl) rfl rfl (by decide +kernel) (by decide +kernel) rfl (Nat.le_of_ble_eq_true rfl) rfl ?_
  refine zWp.mono (m_count_o (zro 6 xs) x (xs 1) h1) ?_
  rintro r h2 rfl
  refine ⟨_, rfl, ?_⟩
  refine zw_ic_eq_t 1015 f189_745 (by decide +kernel) (by decide +kernel) ?_
  refine zw_iinc 6 [(3, .int 6), (2, .ref 52), (1, .ref 0), (0, .float 0)] 1018 f189_1015 rfl rfl (by decide +kernel) (by decide +kernel) rfl ?_
  refine zw_goto 18 f189_1018 (by decide +kernel) ?_
  refine zw_iload_n 19 f189_18 rfl rfl ?_
  refine zw_aload_f 20 f189_19 rfl rfl ?_
  refine zw_arraylength 6 21 f189_20 rfl rfl ?_
  refine zw_bipush 6 23 f189_21 rfl (by decide +kernel) ?_
  refine zw_isub 0 24 f189_23 rfl (by decide +kernel) ?_
  refine zw_ic_gt_t 1021 f189_24 (by decide +kernel) (by decide +kernel) ?_
  refine zw_iconst 1 1022 f189_1021 rfl (by decide +kernel) ?_
  refine zw_zreturn f189_1022 r189 u189 (by decide +kernel) ?_
  exact rfl
set_option maxRecDepth 100000 in
set_option maxHeartbeats 0 in
theorem l_event_r (xs : Nat → Int32) (e0 : xs 0 &&& 31 = 19)   : zWp (zro 6 xs) 189 18 [(3, .int 0), (2, .ref 52), (1, .ref 0), (0, .float 0)] [] hF 82 7398 (fun r _ => r = some (.int 1)) := by
  refine zw_iload_n 19 f189_18 rfl rfl ?_
  refine zw_aload_f 20 f189_19 rfl rfl ?_
  refine zw_arraylength 6 21 f189_20 rfl rfl ?_
  refine zw_bipush 6 23 f189_21 rfl (by decide +kernel) ?_
  refine zw_isub 0 24 f189_23 rfl (by decide +kernel) ?_
  refine zw_ic_gt_f 27 1021 f189_24 (by decide +kernel) rfl (by decide +kernel) ?_
  refine zw_aload_f 28 f189_27 rfl rfl ?_
  refine zw_iload_n 29 f189_28 rfl rfl ?_
  refine zw_iaload_f 0 6 (xs 0) 30 f189_29 rfl rfl (by decide +kernel) (by decide +kernel) (by decide +kernel) rfl ?_
  refine zw_bipush 31 32 f189_30 rfl (by decide +kernel) ?_
  refine zw_iand 19 33 f189_32 rfl e0 ?_
  refine zw_table_i (off := 717) 750 f189_33 (by decide +kernel) (by decide +kernel) (by decide +kernel) ?_
  refine zw_aload_n 751 f189_750 rfl rfl ?_
  refine zw_aload_f 752 f189_751 rfl rfl ?_
  refine zw_iload_n 753 f189_752 rfl rfl ?_
  refine zw_iconst 1 754 f189_753 rfl (by decide +kernel) ?_
  refine zw_iadd 1 755 f189_754 rfl (by decide +kernel) ?_
  refine zw_iaload_f 1 6 (xs 1) 756 f189_755 rfl rfl (by decide +kernel) (by decide +kernel) (by decide +kernel) rfl ?_
  refine zw_aload_f 757 f189_756 rfl rfl ?_
  refine zw_iload_n 758 f189_757 rfl rfl ?_
  refine zw_iconst 2 759 f189_758 rfl (by decide +kernel) ?_
  refine zw_iadd 2 760 f189_759 rfl (by decide +kernel) ?_
  refine zw_iaload_f 2 6 (xs 2) 761 f189_760 rfl rfl (by decide +kernel) (by decide +kernel) (by decide +kernel) rfl ?_
  refine zw_virtual_i 764 82 7398 [.ref 0, .int (xs 1), .int (xs 2)] [(0, .ref 0), (1, .int (xs 1)), (2, .int (xs 2))] f189_761 rfl n189_94 k189_94_11 rfl rfl (by decide +kernel) (Nat.le_of_ble_eq_true rfl) rfl rfl (by decide +kernel) (by decide +kernel) rfl (Nat.le_of_ble_eq_true rfl) rfl ?_
  refine zWp.mono (x_event_r (zro 6 xs) (xs 1) (xs 2)) ?_
  rintro r h1 ⟨rfl, hm⟩
  refine ⟨_, rfl, ?_⟩
  obtain ⟨x, rfl⟩ := zMF_ex hm
  refine zw_aload_n 765 f189_764 rfl rfl ?_
  refine zw_aload_f 766 f189_765 rfl rfl ?_
  refine zw_iload_n 767 f189_766 rfl rfl ?_
  refine zw_iconst 1 768 f189_767 rfl (by decide +kernel) ?_
  refine zw_iadd 1 769 f189_768 rfl (by decide +kernel) ?_
  refine zw_iaload_f 1 6 (xs 1) 770 f189_769 rfl rfl (by decide +kernel) (by decide +kernel) (by decide +kernel) rfl ?_
  refine zw_aload_f 771 f189_770 rfl rfl ?_
  refine zw_iload_n 772 f189_771 rfl rfl ?_
  refine zw_iconst 2 773 f189_772 rfl (by decide +kernel) ?_
  refine zw_iadd 2 774 f189_773 rfl (by decide +kernel) ?_
  refine zw_iaload_f 2 6 (xs 2) 775 f189_774 rfl rfl (by decide +kernel) (by decide +kernel) (by decide +kernel) rfl ?_
  refine zw_virtual_i 778 82 7398 [.ref 52, .int (xs 1), .int (xs 2)] [(0, .ref 52), (1, .int (xs 1)), (2, .int (xs 2))] f189_775 rfl n189_97 k189_97_12 rfl rfl (by decide +kernel) (Nat.le_of_ble_eq_true rfl) rfl rfl (by decide +kernel) (by decide +kernel) rfl (Nat.le_of_ble_eq_true rfl) rfl ?_
  refine zWp.mono (m_event_r (zro 6 xs) x (xs 1) (xs 2)) ?_
  rintro r h2 rfl
  refine ⟨_, rfl, ?_⟩
  refine zw_ic_eq_t 1015 f189_778 (by decide +kernel) (by decide +kernel) ?_
  refine zw_iinc 6 [(3, .int 6), (2, .ref 52), (1, .ref 0), (0, .float 0)] 1018 f189_1015 rfl rfl (by decide +kernel) (by decide +kernel) rfl ?_
  refine zw_goto 18 f189_1018 (by decide +kernel) ?_
  refine zw_iload_n 19 f189_18 rfl rfl ?_
  refine zw_aload_f 20 f189_19 rfl rfl ?_
  refine zw_arraylength 6 21 f189_20 rfl rfl ?_
  refine zw_bipush 6 23 f189_21 rfl (by decide +kernel) ?_
  refine zw_isub 0 24 f189_23 rfl (by decide +kernel) ?_
  refine zw_ic_gt_t 1021 f189_24 (by decide +kernel) (by decide +kernel) ?_
  refine zw_iconst 1 1022 f189_1021 rfl (by decide +kernel) ?_
  refine zw_zreturn f189_1022 r189 u189 (by decide +kernel) ?_
  exact rfl
set_option maxRecDepth 100000 in
set_option maxHeartbeats 0 in
theorem l_sum_k0 (xs : Nat → Int32) (e0 : xs 0 &&& 31 = 20) (q1 : xs 1 = 0)  : zWp (zro 6 xs) 189 18 [(3, .int 0), (2, .ref 52), (1, .ref 0), (0, .float 0)] [] hF 82 7398 (fun r _ => r = some (.int 1)) := by
  refine zw_iload_n 19 f189_18 rfl rfl ?_
  refine zw_aload_f 20 f189_19 rfl rfl ?_
  refine zw_arraylength 6 21 f189_20 rfl rfl ?_
  refine zw_bipush 6 23 f189_21 rfl (by decide +kernel) ?_
  refine zw_isub 0 24 f189_23 rfl (by decide +kernel) ?_
  refine zw_ic_gt_f 27 1021 f189_24 (by decide +kernel) rfl (by decide +kernel) ?_
  refine zw_aload_f 28 f189_27 rfl rfl ?_
  refine zw_iload_n 29 f189_28 rfl rfl ?_
  refine zw_iaload_f 0 6 (xs 0) 30 f189_29 rfl rfl (by decide +kernel) (by decide +kernel) (by decide +kernel) rfl ?_
  refine zw_bipush 31 32 f189_30 rfl (by decide +kernel) ?_
  refine zw_iand 20 33 f189_32 rfl e0 ?_
  refine zw_table_i (off := 750) 783 f189_33 (by decide +kernel) (by decide +kernel) (by decide +kernel) ?_
  refine zw_aload_n 784 f189_783 rfl rfl ?_
  refine zw_aload_f 785 f189_784 rfl rfl ?_
  refine zw_iload_n 786 f189_785 rfl rfl ?_
  refine zw_iconst 1 787 f189_786 rfl (by decide +kernel) ?_
  refine zw_iadd 1 788 f189_787 rfl (by decide +kernel) ?_
  refine zw_iaload_f 1 6 0 789 f189_788 rfl rfl (by decide +kernel) (by decide +kernel) (by decide +kernel) q1 ?_
  refine zw_virtual_l 792 82 7398 [.ref 0, .int 0] [(0, .ref 0), (1, .int 0)] f189_789 rfl n189_98 k189_98_11 rfl rfl (by decide +kernel) (Nat.le_of_ble_eq_true rfl) rfl rfl (by decide +kernel) (by decide +kernel) rfl (Nat.le_of_ble_eq_true rfl) rfl ?_
  refine zWp.mono (x_sum_k0 (zro 6 xs) ) ?_
  rintro r h1 ⟨rfl, hm⟩
  refine ⟨_, rfl, ?_⟩
  obtain ⟨x, rfl⟩ := zMF_ex hm
  refine zw_aload_n 793 f189_792 rfl rfl ?_
  refine zw_aload_f 794 f189_793 rfl rfl ?_
  refine zw_iload_n 795 f189_794 rfl rfl ?_
  refine zw_iconst 1 796 f189_795 rfl (by decide +kernel) ?_
  refine zw_iadd 1 797 f189_796 rfl (by decide +kernel) ?_
  refine zw_iaload_f 1 6 0 798 f189_797 rfl rfl (by decide +kernel) (by decide +kernel) (by decide +kernel) q1 ?_
  refine zw_virtual_l 801 82 7398 [.ref 52, .int 0] [(0, .ref 52), (1, .int 0)] f189_798 rfl n189_101 k189_101_12 rfl rfl (by decide +kernel) (Nat.le_of_ble_eq_true rfl) rfl rfl (by decide +kernel) (by decide +kernel) rfl (Nat.le_of_ble_eq_true rfl) rfl ?_
  refine zWp.mono (m_sum_k0 (zro 6 xs) x ) ?_
  rintro r h2 rfl
  refine ⟨_, rfl, ?_⟩
  refine zw_lcmp 0 802 f189_801 rfl (by decide +kernel) ?_
  refine zw_if_eq_t 1015 f189_802 (by decide +kernel) (by decide +kernel) ?_
  refine zw_iinc 6 [(3, .int 6), (2, .ref 52), (1, .ref 0), (0, .float 0)] 1018 f189_1015 rfl rfl (by decide +kernel) (by decide +kernel) rfl ?_
  refine zw_goto 18 f189_1018 (by decide +kernel) ?_
  refine zw_iload_n 19 f189_18 rfl rfl ?_
  refine zw_aload_f 20 f189_19 rfl rfl ?_
  refine zw_arraylength 6 21 f189_20 rfl rfl ?_
  refine zw_bipush 6 23 f189_21 rfl (by decide +kernel) ?_
  refine zw_isub 0 24 f189_23 rfl (by decide +kernel) ?_
  refine zw_ic_gt_t 1021 f189_24 (by decide +kernel) (by decide +kernel) ?_
  refine zw_iconst 1 1022 f189_1021 rfl (by decide +kernel) ?_
  refine zw_zreturn f189_1022 r189 u189 (by decide +kernel) ?_
  exact rfl
set_option maxRecDepth 100000 in
set_option maxHeartbeats 0 in
theorem l_sum_k1 (xs : Nat → Int32) (e0 : xs 0 &&& 31 = 20) (q1 : xs 1 = 1)  : zWp (zro 6 xs) 189 18 [(3, .int 0), (2, .ref 52), (1, .ref 0), (0, .float 0)] [] hF 82 7398 (fun r _ => r = some (.int 1)) := by
  refine zw_iload_n 19 f189_18 rfl rfl ?_
  refine zw_aload_f 20 f189_19 rfl rfl ?_
  refine zw_arraylength 6 21 f189_20 rfl rfl ?_
  refine zw_bipush 6 23 f189_21 rfl (by decide +kernel) ?_
  refine zw_isub 0 24 f189_23 rfl (by decide +kernel) ?_
  refine zw_ic_gt_f 27 1021 f189_24 (by decide +kernel) rfl (by decide +kernel) ?_
  refine zw_aload_f 28 f189_27 rfl rfl ?_
  refine zw_iload_n 29 f189_28 rfl rfl ?_
  refine zw_iaload_f 0 6 (xs 0) 30 f189_29 rfl rfl (by decide +kernel) (by decide +kernel) (by decide +kernel) rfl ?_
  refine zw_bipush 31 32 f189_30 rfl (by decide +kernel) ?_
  refine zw_iand 20 33 f189_32 rfl e0 ?_
  refine zw_table_i (off := 750) 783 f189_33 (by decide +kernel) (by decide +kernel) (by decide +kernel) ?_
  refine zw_aload_n 784 f189_783 rfl rfl ?_
  refine zw_aload_f 785 f189_784 rfl rfl ?_
  refine zw_iload_n 786 f189_785 rfl rfl ?_
  refine zw_iconst 1 787 f189_786 rfl (by decide +kernel) ?_
  refine zw_iadd 1 788 f189_787 rfl (by decide +kernel) ?_
  refine zw_iaload_f 1 6 1 789 f189_788 rfl rfl (by decide +kernel) (by decide +kernel) (by decide +kernel) q1 ?_
  refine zw_virtual_l 792 82 7398 [.ref 0, .int 1] [(0, .ref 0), (1, .int 1)] f189_789 rfl n189_98 k189_98_11 rfl rfl (by decide +kernel) (Nat.le_of_ble_eq_true rfl) rfl rfl (by decide +kernel) (by decide +kernel) rfl (Nat.le_of_ble_eq_true rfl) rfl ?_
  refine zWp.mono (x_sum_k1 (zro 6 xs) ) ?_
  rintro r h1 ⟨rfl, hm⟩
  refine ⟨_, rfl, ?_⟩
  obtain ⟨x, rfl⟩ := zMF_ex hm
  refine zw_aload_n 793 f189_792 rfl rfl ?_
  refine zw_aload_f 794 f189_793 rfl rfl ?_
  refine zw_iload_n 795 f189_794 rfl rfl ?_
  refine zw_iconst 1 796 f189_795 rfl (by decide +kernel) ?_
  refine zw_iadd 1 797 f189_796 rfl (by decide +kernel) ?_
  refine zw_iaload_f 1 6 1 798 f189_797 rfl rfl (by decide +kernel) (by decide +kernel) (by decide +kernel) q1 ?_
  refine zw_virtual_l 801 82 7398 [.ref 52, .int 1] [(0, .ref 52), (1, .int 1)] f189_798 rfl n189_101 k189_101_12 rfl rfl (by decide +kernel) (Nat.le_of_ble_eq_true rfl) rfl rfl (by decide +kernel) (by decide +kernel) rfl (Nat.le_of_ble_eq_true rfl) rfl ?_
  refine zWp.mono (m_sum_k1 (zro 6 xs) x ) ?_
  rintro r h2 rfl
  refine ⟨_, rfl, ?_⟩
  refine zw_lcmp 0 802 f189_801 rfl (by decide +kernel) ?_
  refine zw_if_eq_t 1015 f189_802 (by decide +kernel) (by decide +kernel) ?_
  refine zw_iinc 6 [(3, .int 6), (2, .ref 52), (1, .ref 0), (0, .float 0)] 1018 f189_1015 rfl rfl (by decide +kernel) (by decide +kernel) rfl ?_
  refine zw_goto 18 f189_1018 (by decide +kernel) ?_
  refine zw_iload_n 19 f189_18 rfl rfl ?_
  refine zw_aload_f 20 f189_19 rfl rfl ?_
  refine zw_arraylength 6 21 f189_20 rfl rfl ?_
  refine zw_bipush 6 23 f189_21 rfl (by decide +kernel) ?_
  refine zw_isub 0 24 f189_23 rfl (by decide +kernel) ?_
  refine zw_ic_gt_t 1021 f189_24 (by decide +kernel) (by decide +kernel) ?_
  refine zw_iconst 1 1022 f189_1021 rfl (by decide +kernel) ?_
  refine zw_zreturn f189_1022 r189 u189 (by decide +kernel) ?_
  exact rfl
set_option maxRecDepth 100000 in
set_option maxHeartbeats 0 in
theorem l_sum_k2 (xs : Nat → Int32) (e0 : xs 0 &&& 31 = 20) (q1 : xs 1 = 2)  : zWp (zro 6 xs) 189 18 [(3, .int 0), (2, .ref 52), (1, .ref 0), (0, .float 0)] [] hF 82 7398 (fun r _ => r = some (.int 1)) := by
  refine zw_iload_n 19 f189_18 rfl rfl ?_
  refine zw_aload_f 20 f189_19 rfl rfl ?_
  refine zw_arraylength 6 21 f189_20 rfl rfl ?_
  refine zw_bipush 6 23 f189_21 rfl (by decide +kernel) ?_
  refine zw_isub 0 24 f189_23 rfl (by decide +kernel) ?_
  refine zw_ic_gt_f 27 1021 f189_24 (by decide +kernel) rfl (by decide +kernel) ?_
  refine zw_aload_f 28 f189_27 rfl rfl ?_
  refine zw_iload_n 29 f189_28 rfl rfl ?_
  refine zw_iaload_f 0 6 (xs 0) 30 f189_29 rfl rfl (by decide +kernel) (by decide +kernel) (by decide +kernel) rfl ?_
  refine zw_bipush 31 32 f189_30 rfl (by decide +kernel) ?_
  refine zw_iand 20 33 f189_32 rfl e0 ?_
  refine zw_table_i (off := 750) 783 f189_33 (by decide +kernel) (by decide +kernel) (by decide +kernel) ?_
  refine zw_aload_n 784 f189_783 rfl rfl ?_
  refine zw_aload_f 785 f189_784 rfl rfl ?_
  refine zw_iload_n 786 f189_785 rfl rfl ?_
  refine zw_iconst 1 787 f189_786 rfl (by decide +kernel) ?_
  refine zw_iadd 1 788 f189_787 rfl (by decide +kernel) ?_
  refine zw_iaload_f 1 6 2 789 f189_788 rfl rfl (by decide +kernel) (by decide +kernel) (by decide +kernel) q1 ?_
  refine zw_virtual_l 792 82 7398 [.ref 0, .int 2] [(0, .ref 0), (1, .int 2)] f189_789 rfl n189_98 k189_98_11 rfl rfl (by decide +kernel) (Nat.le_of_ble_eq_true rfl) rfl rfl (by decide +kernel) (by decide +kernel) rfl (Nat.le_of_ble_eq_true rfl) rfl ?_
  refine zWp.mono (x_sum_k2 (zro 6 xs) ) ?_
  rintro r h1 ⟨rfl, hm⟩
  refine ⟨_, rfl, ?_⟩
  obtain ⟨x, rfl⟩ := zMF_ex hm
  refine zw_aload_n 793 f189_792 rfl rfl ?_
  refine zw_aload_f 794 f189_793 rfl rfl ?_
  refine zw_iload_n 795 f189_794 rfl rfl ?_
  refine zw_iconst 1 796 f189_795 rfl (by decide +kernel) ?_
  refine zw_iadd 1 797 f189_796 rfl (by decide +kernel) ?_
  refine zw_iaload_f 1 6 2 798 f189_797 rfl rfl (by decide +kernel) (by decide +kernel) (by decide +kernel) q1 ?_
  refine zw_virtual_l 801 82 7398 [.ref 52, .int 2] [(0, .ref 52), (1, .int 2)] f189_798 rfl n189_101 k189_101_12 rfl rfl (by decide +kernel) (Nat.le_of_ble_eq_true rfl) rfl rfl (by decide +kernel) (by decide +kernel) rfl (Nat.le_of_ble_eq_true rfl) rfl ?_
  refine zWp.mono (m_sum_k2 (zro 6 xs) x ) ?_
  rintro r h2 rfl
  refine ⟨_, rfl, ?_⟩
  refine zw_lcmp 0 802 f189_801 rfl (by decide +kernel) ?_
  refine zw_if_eq_t 1015 f189_802 (by decide +kernel) (by decide +kernel) ?_
  refine zw_iinc 6 [(3, .int 6), (2, .ref 52), (1, .ref 0), (0, .float 0)] 1018 f189_1015 rfl rfl (by decide +kernel) (by decide +kernel) rfl ?_
  refine zw_goto 18 f189_1018 (by decide +kernel) ?_
  refine zw_iload_n 19 f189_18 rfl rfl ?_
  refine zw_aload_f 20 f189_19 rfl rfl ?_
  refine zw_arraylength 6 21 f189_20 rfl rfl ?_
  refine zw_bipush 6 23 f189_21 rfl (by decide +kernel) ?_
  refine zw_isub 0 24 f189_23 rfl (by decide +kernel) ?_
  refine zw_ic_gt_t 1021 f189_24 (by decide +kernel) (by decide +kernel) ?_
  refine zw_iconst 1 1022 f189_1021 rfl (by decide +kernel) ?_
  refine zw_zreturn f189_1022 r189 u189 (by decide +kernel) ?_
  exact rfl
set_option maxRecDepth 100000 in
set_option maxHeartbeats 0 in
theorem l_sum_k3 (xs : Nat → Int32) (e0 : xs 0 &&& 31 = 20) (q1 : xs 1 = 3)  : zWp (zro 6 xs) 189 18 [(3, .int 0), (2, .ref 52), (1, .ref 0), (0, .float 0)] [] hF 82 7398 (fun r _ => r = some (.int 1)) := by
  refine zw_iload_n 19 f189_18 rfl rfl ?_
  refine zw_aload_f 20 f189_19 rfl rfl ?_
  refine zw_arraylength 6 21 f189_20 rfl rfl ?_
  refine zw_bipush 6 23 f189_21 rfl (by decide +kernel) ?_
  refine zw_isub 0 24 f189_23 rfl (by decide +kernel) ?_
  refine zw_ic_gt_f 27 1021 f189_24 (by decide +kernel) rfl (by decide +kernel) ?_
  refine zw_aload_f 28 f189_27 rfl rfl ?_
  refine zw_iload_n 29 f189_28 rfl rfl ?_
  refine zw_iaload_f 0 6 (xs 0) 30 f189_29 rfl rfl (by decide +kernel) (by decide +kernel) (by decide +kernel) rfl ?_
  refine zw_bipush 31 32 f189_30 rfl (by decide +kernel) ?_
  refine zw_iand 20 33 f189_32 rfl e0 ?_
  refine zw_table_i (off := 750) 783 f189_33 (by decide +kernel) (by decide +kernel) (by decide +kernel) ?_
  refine zw_aload_n 784 f189_783 rfl rfl ?_
  refine zw_aload_f 785 f189_784 rfl rfl ?_
  refine zw_iload_n 786 f189_785 rfl rfl ?_
  refine zw_iconst 1 787 f189_786 rfl (by decide +kernel) ?_
  refine zw_iadd 1 788 f189_787 rfl (by decide +kernel) ?_
  refine zw_iaload_f 1 6 3 789 f189_788 rfl rfl (by decide +kernel) (by decide +kernel) (by decide +kernel) q1 ?_
  refine zw_virtual_l 792 82 7398 [.ref 0, .int 3] [(0, .ref 0), (1, .int 3)] f189_789 rfl n189_98 k189_98_11 rfl rfl (by decide +kernel) (Nat.le_of_ble_eq_true rfl) rfl rfl (by decide +kernel) (by decide +kernel) rfl (Nat.le_of_ble_eq_true rfl) rfl ?_
  refine zWp.mono (x_sum_k3 (zro 6 xs) ) ?_
  rintro r h1 ⟨rfl, hm⟩
  refine ⟨_, rfl, ?_⟩
  obtain ⟨x, rfl⟩ := zMF_ex hm
  refine zw_aload_n 793 f189_792 rfl rfl ?_
  refine zw_aload_f 794 f189_793 rfl rfl ?_
  refine zw_iload_n 795 f189_794 rfl rfl ?_
  refine zw_iconst 1 796 f189_795 rfl (by decide +kernel) ?_
  refine zw_iadd 1 797 f189_796 rfl (by decide +kernel) ?_
  refine zw_iaload_f 1 6 3 798 f189_797 rfl rfl (by decide +kernel) (by decide +kernel) (by decide +kernel) q1 ?_
  refine zw_virtual_l 801 82 7398 [.ref 52, .int 3] [(0, .ref 52), (1, .int 3)] f189_798 rfl n189_101 k189_101_12 rfl rfl (by decide +kernel) (Nat.le_of_ble_eq_true rfl) rfl rfl (by decide +kernel) (by decide +kernel) rfl (Nat.le_of_ble_eq_true rfl) rfl ?_
  refine zWp.mono (m_sum_k3 (zro 6 xs) x ) ?_
  rintro r h2 rfl
  refine ⟨_, rfl, ?_⟩
  refine zw_lcmp 0 802 f189_801 rfl (by decide +kernel) ?_
  refine zw_if_eq_t 1015 f189_802 (by decide +kernel) (by decide +kernel) ?_
  refine zw_iinc 6 [(3, .int 6), (2, .ref 52), (1, .ref 0), (0, .float 0)] 1018 f189_1015 rfl rfl (by decide +kernel) (by decide +kernel) rfl ?_
  refine zw_goto 18 f189_1018 (by decide +kernel) ?_
  refine zw_iload_n 19 f189_18 rfl rfl ?_
  refine zw_aload_f 20 f189_19 rfl rfl ?_
  refine zw_arraylength 6 21 f189_20 rfl rfl ?_
  refine zw_bipush 6 23 f189_21 rfl (by decide +kernel) ?_
  refine zw_isub 0 24 f189_23 rfl (by decide +kernel) ?_
  refine zw_ic_gt_t 1021 f189_24 (by decide +kernel) (by decide +kernel) ?_
  refine zw_iconst 1 1022 f189_1021 rfl (by decide +kernel) ?_
  refine zw_zreturn f189_1022 r189 u189 (by decide +kernel) ?_
  exact rfl
set_option maxRecDepth 100000 in
set_option maxHeartbeats 0 in
theorem l_sum_k4 (xs : Nat → Int32) (e0 : xs 0 &&& 31 = 20) (q1 : xs 1 = 4)  : zWp (zro 6 xs) 189 18 [(3, .int 0), (2, .ref 52), (1, .ref 0), (0, .float 0)] [] hF 82 7398 (fun r _ => r = some (.int 1)) := by
  refine zw_iload_n 19 f189_18 rfl rfl ?_
  refine zw_aload_f 20 f189_19 rfl rfl ?_
  refine zw_arraylength 6 21 f189_20 rfl rfl ?_
  refine zw_bipush 6 23 f189_21 rfl (by decide +kernel) ?_
  refine zw_isub 0 24 f189_23 rfl (by decide +kernel) ?_
  refine zw_ic_gt_f 27 1021 f189_24 (by decide +kernel) rfl (by decide +kernel) ?_
  refine zw_aload_f 28 f189_27 rfl rfl ?_
  refine zw_iload_n 29 f189_28 rfl rfl ?_
  refine zw_iaload_f 0 6 (xs 0) 30 f189_29 rfl rfl (by decide +kernel) (by decide +kernel) (by decide +kernel) rfl ?_
  refine zw_bipush 31 32 f189_30 rfl (by decide +kernel) ?_
  refine zw_iand 20 33 f189_32 rfl e0 ?_
  refine zw_table_i (off := 750) 783 f189_33 (by decide +kernel) (by decide +kernel) (by decide +kernel) ?_
  refine zw_aload_n 784 f189_783 rfl rfl ?_
  refine zw_aload_f 785 f189_784 rfl rfl ?_
  refine zw_iload_n 786 f189_785 rfl rfl ?_
  refine zw_iconst 1 787 f189_786 rfl (by decide +kernel) ?_
  refine zw_iadd 1 788 f189_787 rfl (by decide +kernel) ?_
  refine zw_iaload_f 1 6 4 789 f189_788 rfl rfl (by decide +kernel) (by decide +kernel) (by decide +kernel) q1 ?_
  refine zw_virtual_l 792 82 7398 [.ref 0, .int 4] [(0, .ref 0), (1, .int 4)] f189_789 rfl n189_98 k189_98_11 rfl rfl (by decide +kernel) (Nat.le_of_ble_eq_true rfl) rfl rfl (by decide +kernel) (by decide +kernel) rfl (Nat.le_of_ble_eq_true rfl) rfl ?_
  refine zWp.mono (x_sum_k4 (zro 6 xs) ) ?_
  rintro r h1 ⟨rfl, hm⟩
  refine ⟨_, rfl, ?_⟩
  obtain ⟨x, rfl⟩ := zMF_ex hm
  refine zw_aload_n 793 f189_792 rfl rfl ?_
  refine zw_aload_f 794 f189_793 rfl rfl ?_
  refine zw_iload_n 795 f189_794 rfl rfl ?_
  refine zw_iconst 1 796 f189_795 rfl (by decide +kernel) ?_
  refine zw_iadd 1 797 f189_796 rfl (by decide +kernel) ?_
  refine zw_iaload_f 1 6 4 798 f189_797 rfl rfl (by decide +kernel) (by decide +kernel) (by decide +kernel) q1 ?_
  refine zw_virtual_l 801 82 7398 [.ref 52, .int 4] [(0, .ref 52), (1, .int 4)] f189_798 rfl n189_101 k189_101_12 rfl rfl (by decide +kernel) (Nat.le_of_ble_eq_true rfl) rfl rfl (by decide +kernel) (by decide +kernel) rfl (Nat.le_of_ble_eq_true rfl) rfl ?_
  refine zWp.mono (m_sum_k4 (zro 6 xs) x ) ?_
  rintro r h2 rfl
  refine ⟨_, rfl, ?_⟩
  refine zw_lcmp 0 802 f189_801 rfl (by decide +kernel) ?_
  refine zw_if_eq_t 1015 f189_802 (by decide +kernel) (by decide +kernel) ?_
  refine zw_iinc 6 [(3, .int 6), (2, .ref 52), (1, .ref 0), (0, .float 0)] 1018 f189_1015 rfl rfl (by decide +kernel) (by decide +kernel) rfl ?_
  refine zw_goto 18 f189_1018 (by decide +kernel) ?_
  refine zw_iload_n 19 f189_18 rfl rfl ?_
  refine zw_aload_f 20 f189_19 rfl rfl ?_
  refine zw_arraylength 6 21 f189_20 rfl rfl ?_
  refine zw_bipush 6 23 f189_21 rfl (by decide +kernel) ?_
  refine zw_isub 0 24 f189_23 rfl (by decide +kernel) ?_
  refine zw_ic_gt_t 1021 f189_24 (by decide +kernel) (by decide +kernel) ?_
  refine zw_iconst 1 1022 f189_1021 rfl (by decide +kernel) ?_
  refine zw_zreturn f189_1022 r189 u189 (by decide +kernel) ?_
  exact rfl
set_option maxRecDepth 100000 in
set_option maxHeartbeats 0 in
theorem l_sum_k5 (xs : Nat → Int32) (e0 : xs 0 &&& 31 = 20) (q1 : xs 1 = 5)  : zWp (zro 6 xs) 189 18 [(3, .int 0), (2, .ref 52), (1, .ref 0), (0, .float 0)] [] hF 82 7398 (fun r _ => r = some (.int 1)) := by
  refine zw_iload_n 19 f189_18 rfl rfl ?_
  refine zw_aload_f 20 f189_19 rfl rfl ?_
  refine zw_arraylength 6 21 f189_20 rfl rfl ?_
  refine zw_bipush 6 23 f189_21 rfl (by decide +kernel) ?_
  refine zw_isub 0 24 f189_23 rfl (by decide +kernel) ?_
  refine zw_ic_gt_f 27 1021 f189_24 (by decide +kernel) rfl (by decide +kernel) ?_
  refine zw_aload_f 28 f189_27 rfl rfl ?_
  refine zw_iload_n 29 f189_28 rfl rfl ?_
  refine zw_iaload_f 0 6 (xs 0) 30 f189_29 rfl rfl (by decide +kernel) (by decide +kernel) (by decide +kernel) rfl ?_
  refine zw_bipush 31 32 f189_30 rfl (by decide +kernel) ?_
  refine zw_iand 20 33 f189_32 rfl e0 ?_
  refine zw_table_i (off := 750) 783 f189_33 (by decide +kernel) (by decide +kernel) (by decide +kernel) ?_
  refine zw_aload_n 784 f189_783 rfl rfl ?_
  refine zw_aload_f 785 f189_784 rfl rfl ?_
  refine zw_iload_n 786 f189_785 rfl rfl ?_
  refine zw_iconst 1 787 f189_786 rfl (by decide +kernel) ?_
  refine zw_iadd 1 788 f189_787 rfl (by decide +kernel) ?_
  refine zw_iaload_f 1 6 5 789 f189_788 rfl rfl (by decide +kernel) (by decide +kernel) (by decide +kernel) q1 ?_
  refine zw_virtual_l 792 82 7398 [.ref 0, .int 5] [(0, .ref 0), (1, .int 5)] f189_789 rfl n189_98 k189_98_11 rfl rfl (by decide +kernel) (Nat.le_of_ble_eq_true rfl) rfl rfl (by decide +kernel) (by decide +kernel) rfl (Nat.le_of_ble_eq_true rfl) rfl ?_
  refine zWp.mono (x_sum_k5 (zro 6 xs) ) ?_
  rintro r h1 ⟨rfl, hm⟩
  refine ⟨_, rfl, ?_⟩
  obtain ⟨x, rfl⟩ := zMF_ex hm
  refine zw_aload_n 793 f189_792 rfl rfl ?_
  refine zw_aload_f 794 f189_793 rfl rfl ?_
  refine zw_iload_n 795 f189_794 rfl rfl ?_
  refine zw_iconst 1 796 f189_795 rfl (by decide +kernel) ?_
  refine zw_iadd 1 797 f189_796 rfl (by decide +kernel) ?_
  refine zw_iaload_f 1 6 5 798 f189_797 rfl rfl (by decide +kernel) (by decide +kernel) (by decide +kernel) q1 ?_
  refine zw_virtual_l 801 82 7398 [.ref 52, .int 5] [(0, .ref 52), (1, .int 5)] f189_798 rfl n189_101 k189_101_12 rfl rfl (by decide +kernel) (Nat.le_of_ble_eq_true rfl) rfl rfl (by decide +kernel) (by decide +kernel) rfl (Nat.le_of_ble_eq_true rfl) rfl ?_
  refine zWp.mono (m_sum_k5 (zro 6 xs) x ) ?_
  rintro r h2 rfl
  refine ⟨_, rfl, ?_⟩
  refine zw_lcmp 0 802 f189_801 rfl (by decide +kernel) ?_
  refine zw_if_eq_t 1015 f189_802 (by decide +kernel) (by decide +kernel) ?_
  refine zw_iinc 6 [(3, .int 6), (2, .ref 52), (1, .ref 0), (0, .float 0)] 1018 f189_1015 rfl rfl (by decide +kernel) (by decide +kernel) rfl ?_
  refine zw_goto 18 f189_1018 (by decide +kernel) ?_
  refine zw_iload_n 19 f189_18 rfl rfl ?_
  refine zw_aload_f 20 f189_19 rfl rfl ?_
  refine zw_arraylength 6 21 f189_20 rfl rfl ?_
  refine zw_bipush 6 23 f189_21 rfl (by decide +kernel) ?_
  refine zw_isub 0 24 f189_23 rfl (by decide +kernel) ?_
  refine zw_ic_gt_t 1021 f189_24 (by decide +kernel) (by decide +kernel) ?_
  refine zw_iconst 1 1022 f189_1021 rfl (by decide +kernel) ?_
  refine zw_zreturn f189_1022 r189 u189 (by decide +kernel) ?_
  exact rfl
set_option maxRecDepth 100000 in
set_option maxHeartbeats 0 in
theorem l_sum_k6 (xs : Nat → Int32) (e0 : xs 0 &&& 31 = 20) (q1 : xs 1 = 6)  : zWp (zro 6 xs) 189 18 [(3, .int 0), (2, .ref 52), (1, .ref 0), (0, .float 0)] [] hF 82 7398 (fun r _ => r = some (.int 1)) := by
  refine zw_iload_n 19 f189_18 rfl rfl ?_
  refine zw_aload_f 20 f189_19 rfl rfl ?_
  refine zw_arraylength 6 21 f189_20 rfl rfl ?_
  refine zw_bipush 6 23 f189_21 rfl (by decide +kernel) ?_
  refine zw_isub 0 24 f189_23 rfl (by decide +kernel) ?_
  refine zw_ic_gt_f 27 1021 f189_24 (by decide +kernel) rfl (by decide +kernel) ?_
  refine zw_aload_f 28 f189_27 rfl rfl ?_
  refine zw_iload_n 29 f189_28 rfl rfl ?_
  refine zw_iaload_f 0 6 (xs 0) 30 f189_29 rfl rfl (by decide +kernel) (by decide +kernel) (by decide +kernel) rfl ?_
  refine zw_bipush 31 32 f189_30 rfl (by decide +kernel) ?_
  refine zw_iand 20 33 f189_32 rfl e0 ?_
  refine zw_table_i (off := 750) 783 f189_33 (by decide +kernel) (by decide +kernel) (by decide +kernel) ?_
  refine zw_aload_n 784 f189_783 rfl rfl ?_
  refine zw_aload_f 785 f189_784 rfl rfl ?_
  refine zw_iload_n 786 f189_785 rfl rfl ?_
  refine zw_iconst 1 787 f189_786 rfl (by decide +kernel) ?_
  refine zw_iadd 1 788 f189_787 rfl (by decide +kernel) ?_
  refine zw_iaload_f 1 6 6 789 f189_788 rfl rfl (by decide +kernel) (by decide +kernel) (by decide +kernel) q1 ?_
  refine zw_virtual_l 792 82 7398 [.ref 0, .int 6] [(0, .ref 0), (1, .int 6)] f189_789 rfl n189_98 k189_98_11 rfl rfl (by decide +kernel) (Nat.le_of_ble_eq_true rfl) rfl rfl (by decide +kernel) (by decide +kernel) rfl (Nat.le_of_ble_eq_true rfl) rfl ?_
  refine zWp.mono (x_sum_k6 (zro 6 xs) ) ?_
  rintro r h1 ⟨rfl, hm⟩
  refine ⟨_, rfl, ?_⟩
  obtain ⟨x, rfl⟩ := zMF_ex hm
  refine zw_aload_n 793 f189_792 rfl rfl ?_
  refine zw_aload_f 794 f189_793 rfl rfl ?_
  refine zw_iload_n 795 f189_794 rfl rfl ?_
  refine zw_iconst 1 796 f189_795 rfl (by decide +kernel) ?_
  refine zw_iadd 1 797 f189_796 rfl (by decide +kernel) ?_
  refine zw_iaload_f 1 6 6 798 f189_797 rfl rfl (by decide +kernel) (by decide +kernel) (by decide +kernel) q1 ?_
  refine zw_virtual_l 801 82 7398 [.ref 52, .int 6] [(0, .ref 52), (1, .int 6)] f189_798 rfl n189_101 k189_101_12 rfl rfl (by decide +kernel) (Nat.le_of_ble_eq_true rfl) rfl rfl (by decide +kernel) (by decide +kernel) rfl (Nat.le_of_ble_eq_true rfl) rfl ?_
  refine zWp.mono (m_sum_k6 (zro 6 xs) x ) ?_
  rintro r h2 rfl
  refine ⟨_, rfl, ?_⟩
  refine zw_lcmp 0 802 f189_801 rfl (by decide +kernel) ?_
  refine zw_if_eq_t 1015 f189_802 (by decide +kernel) (by decide +kernel) ?_
  refine zw_iinc 6 [(3, .int 6), (2, .ref 52), (1, .ref 0), (0, .float 0)] 1018 f189_1015 rfl rfl (by decide +kernel) (by decide +kernel) rfl ?_
  refine zw_goto 18 f189_1018 (by decide +kernel) ?_
  refine zw_iload_n 19 f189_18 rfl rfl ?_
  refine zw_aload_f 20 f189_19 rfl rfl ?_
  refine zw_arraylength 6 21 f189_20 rfl rfl ?_
  refine zw_bipush 6 23 f189_21 rfl (by decide +kernel) ?_
  refine zw_isub 0 24 f189_23 rfl (by decide +kernel) ?_
  refine zw_ic_gt_t 1021 f189_24 (by decide +kernel) (by decide +kernel) ?_
  refine zw_iconst 1 1022 f189_1021 rfl (by decide +kernel) ?_
  refine zw_zreturn f189_1022 r189 u189 (by decide +kernel) ?_
  exact rfl
set_option maxRecDepth 100000 in
set_option maxHeartbeats 0 in
theorem l_sum_o (xs : Nat → Int32) (e0 : xs 0 &&& 31 = 20)  (h1 : (xs 1).toInt < 0 ∨ (6 : Int) < (xs 1).toInt) : zWp (zro 6 xs) 189 18 [(3, .int 0), (2, .ref 52), (1, .ref 0), (0, .float 0)] [] hF 82 7398 (fun r _ => r = some (.int 1)) := by
  refine zw_iload_n 19 f189_18 rfl rfl ?_
  refine zw_aload_f 20 f189_19 rfl rfl ?_
  refine zw_arraylength 6 21 f189_20 rfl rfl ?_
  refine zw_bipush 6 23 f189_21 rfl (by decide +kernel) ?_
  refine zw_isub 0 24 f189_23 rfl (by decide +kernel) ?_
  refine zw_ic_gt_f 27 1021 f189_24 (by decide +kernel) rfl (by decide +kernel) ?_
  refine zw_aload_f 28 f189_27 rfl rfl ?_
  refine zw_iload_n 29 f189_28 rfl rfl ?_
  refine zw_iaload_f 0 6 (xs 0) 30 f189_29 rfl rfl (by decide +kernel) (by decide +kernel) (by decide +kernel) rfl ?_
  refine zw_bipush 31 32 f189_30 rfl (by decide +kernel) ?_
  refine zw_iand 20 33 f189_32 rfl e0 ?_
  refine zw_table_i (off := 750) 783 f189_33 (by decide +kernel) (by decide +kernel) (by decide +kernel) ?_
  refine zw_aload_n 784 f189_783 rfl rfl ?_
  refine zw_aload_f 785 f189_784 rfl rfl ?_
  refine zw_iload_n 786 f189_785 rfl rfl ?_
  refine zw_iconst 1 787 f189_786 rfl (by decide +kernel) ?_
  refine zw_iadd 1 788 f189_787 rfl (by decide +kernel) ?_
  refine zw_iaload_f 1 6 (xs 1) 789 f189_788 rfl rfl (by decide +kernel) (by decide +kernel) (by decide +kernel) rfl ?_
  refine zw_virtual_l 792 82 7398 [.ref 0, .int (xs 1)] [(0, .ref 0), (1, .int (xs 1))] f189_789 rfl n189_98 k189_98_11 rfl rfl (by decide +kernel) (Nat.le_of_ble_eq_true rfl) rfl rfl (by decide +kernel) (by decide +kernel) rfl (Nat.le_of_ble_eq_true rfl) rfl ?_
  refine zWp.mono (x_sum_o (zro 6 xs) (xs 1) h1) ?_
  rintro r h1 ⟨rfl, hm⟩
  refine ⟨_, rfl, ?_⟩
  obtain ⟨x, rfl⟩ := zMF_ex hm
  refine zw_aload_n 793 f189_792 rfl rfl ?_
  refine zw_aload_f 794 f189_793 rfl rfl ?_
  refine zw_iload_n 795 f189_794 rfl rfl ?_
  refine zw_iconst 1 796 f189_795 rfl (by decide +kernel) ?_
  refine zw_iadd 1 797 f189_796 rfl (by decide +kernel) ?_
  refine zw_iaload_f 1 6 (xs 1) 798 f189_797 rfl rfl (by decide +kernel) (by decide +kernel) (by decide +kernel) rfl ?_
  refine zw_virtual_l 801 82 7398 [.ref 52, .int (xs 1)] [(0, .ref 52), (1, .int (xs 1))] f189_798 rfl n189_101 k189_101_12 rfl rfl (by decide +kernel) (Nat.le_of_ble_eq_true rfl) rfl rfl (by decide +kernel) (by decide +kernel) rfl (Nat.le_of_ble_eq_true rfl) rfl ?_
  refine zWp.mono (m_sum_o (zro 6 xs) x (xs 1) h1) ?_
  rintro r h2 rfl
  refine ⟨_, rfl, ?_⟩
  refine zw_lcmp 0 802 f189_801 rfl (by decide +kernel) ?_
  refine zw_if_eq_t 1015 f189_802 (by decide +kernel) (by decide +kernel) ?_
  refine zw_iinc 6 [(3, .int 6), (2, .ref 52), (1, .ref 0), (0, .float 0)] 1018 f189_1015 rfl rfl (by decide +kernel) (by decide +kernel) rfl ?_
  refine zw_goto 18 f189_1018 (by decide +kernel) ?_
  refine zw_iload_n 19 f189_18 rfl rfl ?_
  refine zw_aload_f 20 f189_19 rfl rfl ?_
  refine zw_arraylength 6 21 f189_20 rfl rfl ?_
  refine zw_bipush 6 23 f189_21 rfl (by decide +kernel) ?_
  refine zw_isub 0 24 f189_23 rfl (by decide +kernel) ?_
  refine zw_ic_gt_t 1021 f189_24 (by decide +kernel) (by decide +kernel) ?_
  refine zw_iconst 1 1022 f189_1021 rfl (by decide +kernel) ?_
  refine zw_zreturn f189_1022 r189 u189 (by decide +kernel) ?_
  exact rfl
set_option maxRecDepth 100000 in
set_option maxHeartbeats 0 in
theorem l_round_k0 (xs : Nat → Int32) (e0 : xs 0 &&& 31 = 21) (q1 : xs 1 = 0)  : zWp (zro 6 xs) 189 18 [(3, .int 0), (2, .ref 52), (1, .ref 0), (0, .float 0)] [] hF 82 7398 (fun r _ => r = some (.int 1)) := by
  refine zw_iload_n 19 f189_18 rfl rfl ?_
  refine zw_aload_f 20 f189_19 rfl rfl ?_
  refine zw_arraylength 6 21 f189_20 rfl rfl ?_
  refine zw_bipush 6 23 f189_21 rfl (by decide +kernel) ?_
  refine zw_isub 0 24 f189_23 rfl (by decide +kernel) ?_
  refine zw_ic_gt_f 27 1021 f189_24 (by decide +kernel) rfl (by decide +kernel) ?_
  refine zw_aload_f 28 f189_27 rfl rfl ?_
  refine zw_iload_n 29 f189_28 rfl rfl ?_
  refine zw_iaload_f 0 6 (xs 0) 30 f189_29 rfl rfl (by decide +kernel) (by decide +kernel) (by decide +kernel) rfl ?_
  refine zw_bipush 31 32 f189_30 rfl (by decide +kernel) ?_
  refine zw_iand 21 33 f189_32 rfl e0 ?_
  refine zw_table_i (off := 774) 807 f189_33 (by decide +kernel) (by decide +kernel) (by decide +kernel) ?_
  refine zw_aload_n 808 f189_807 rfl rfl ?_
  refine zw_aload_f 809 f189_808 rfl rfl ?_
  refine zw_iload_n 810 f189_809 rfl rfl ?_
  refine zw_iconst 1 811 f189_810 rfl (by decide +kernel) ?_
  refine zw_iadd 1 812 f189_811 rfl (by decide +kernel) ?_
  refine zw_iaload_f 1 6 0 813 f189_812 rfl rfl (by decide +kernel) (by decide +kernel) (by decide +kernel) q1 ?_
  refine zw_virtual_i 816 82 7398 [.ref 0, .int 0] [(0, .ref 0), (1, .int 0)] f189_813 rfl n189_102 k189_102_11 rfl rfl (by decide +kernel) (Nat.le_of_ble_eq_true rfl) rfl rfl (by decide +kernel) (by decide +kernel) rfl (Nat.le_of_ble_eq_true rfl) rfl ?_
  refine zWp.mono (x_round_k0 (zro 6 xs) ) ?_
  rintro r h1 ⟨rfl, hm⟩
  refine ⟨_, rfl, ?_⟩
  obtain ⟨x, rfl⟩ := zMF_ex hm
  refine zw_aload_n 817 f189_816 rfl rfl ?_
  refine zw_aload_f 818 f189_817 rfl rfl ?_
  refine zw_iload_n 819 f189_818 rfl rfl ?_
  refine zw_iconst 1 820 f189_819 rfl (by decide +kernel) ?_
  refine zw_iadd 1 821 f189_820 rfl (by decide +kernel) ?_
  refine zw_iaload_f 1 6 0 822 f189_821 rfl rfl (by decide +kernel) (by decide +kernel) (by decide +kernel) q1 ?_
  refine zw_virtual_i 825 82 7398 [.ref 52, .int 0] [(0, .ref 52), (1, .int 0)] f189_822 rfl n189_105 k189_105_12 rfl rfl (by decide +kernel) (Nat.le_of_ble_eq_true rfl) rfl rfl (by decide +kernel) (by decide +kernel) rfl (Nat.le_of_ble_eq_true rfl) rfl ?_
  refine zWp.mono (m_round_k0 (zro 6 xs) x ) ?_
  rintro r h2 rfl
  refine ⟨_, rfl, ?_⟩
  refine zw_ic_eq_t 1015 f189_825 (by decide +kernel) (by decide +kernel) ?_
  refine zw_iinc 6 [(3, .int 6), (2, .ref 52), (1, .ref 0), (0, .float 0)] 1018 f189_1015 rfl rfl (by decide +kernel) (by decide +kernel) rfl ?_
  refine zw_goto 18 f189_1018 (by decide +kernel) ?_
  refine zw_iload_n 19 f189_18 rfl rfl ?_
  refine zw_aload_f 20 f189_19 rfl rfl ?_
  refine zw_arraylength 6 21 f189_20 rfl rfl ?_
  refine zw_bipush 6 23 f189_21 rfl (by decide +kernel) ?_
  refine zw_isub 0 24 f189_23 rfl (by decide +kernel) ?_
  refine zw_ic_gt_t 1021 f189_24 (by decide +kernel) (by decide +kernel) ?_
  refine zw_iconst 1 1022 f189_1021 rfl (by decide +kernel) ?_
  refine zw_zreturn f189_1022 r189 u189 (by decide +kernel) ?_
  exact rfl
set_option maxRecDepth 100000 in
set_option maxHeartbeats 0 in
theorem l_round_r (xs : Nat → Int32) (e0 : xs 0 &&& 31 = 21)  (h1 : ¬ (xs 1) = 0) : zWp (zro 6 xs) 189 18 [(3, .int 0), (2, .ref 52), (1, .ref 0), (0, .float 0)] [] hF 82 7398 (fun r _ => r = some (.int 1)) := by
  refine zw_iload_n 19 f189_18 rfl rfl ?_
  refine zw_aload_f 20 f189_19 rfl rfl ?_
  refine zw_arraylength 6 21 f189_20 rfl rfl ?_
  refine zw_bipush 6 23 f189_21 rfl (by decide +kernel) ?_
  refine zw_isub 0 24 f189_23 rfl (by decide +kernel) ?_
  refine zw_ic_gt_f 27 1021 f189_24 (by decide +kernel) rfl (by decide +kernel) ?_
  refine zw_aload_f 28 f189_27 rfl rfl ?_
  refine zw_iload_n 29 f189_28 rfl rfl ?_
  refine zw_iaload_f 0 6 (xs 0) 30 f189_29 rfl rfl (by decide +kernel) (by decide +kernel) (by decide +kernel) rfl ?_
  refine zw_bipush 31 32 f189_30 rfl (by decide +kernel) ?_
  refine zw_iand 21 33 f189_32 rfl e0 ?_
  refine zw_table_i (off := 774) 807 f189_33 (by decide +kernel) (by decide +kernel) (by decide +kernel) ?_
  refine zw_aload_n 808 f189_807 rfl rfl ?_
  refine zw_aload_f 809 f189_808 rfl rfl ?_
  refine zw_iload_n 810 f189_809 rfl rfl ?_
  refine zw_iconst 1 811 f189_810 rfl (by decide +kernel) ?_
  refine zw_iadd 1 812 f189_811 rfl (by decide +kernel) ?_
  refine zw_iaload_f 1 6 (xs 1) 813 f189_812 rfl rfl (by decide +kernel) (by decide +kernel) (by decide +kernel) rfl ?_
  refine zw_virtual_i 816 82 7398 [.ref 0, .int (xs 1)] [(0, .ref 0), (1, .int (xs 1))] f189_813 rfl n189_102 k189_102_11 rfl rfl (by decide +kernel) (Nat.le_of_ble_eq_true rfl) rfl rfl (by decide +kernel) (by decide +kernel) rfl (Nat.le_of_ble_eq_true rfl) rfl ?_
  refine zWp.mono (x_round_r (zro 6 xs) (xs 1) h1) ?_
  rintro r h1 ⟨rfl, hm⟩
  refine ⟨_, rfl, ?_⟩
  obtain ⟨x, rfl⟩ := zMF_ex hm
  refine zw_aload_n 817 f189_816 rfl rfl ?_
  refine zw_aload_f 818 f189_817 rfl rfl ?_
  refine zw_iload_n 819 f189_818 rfl rfl ?_
  refine zw_iconst 1 820 f189_819 rfl (by decide +kernel) ?_
  refine zw_iadd 1 821 f189_820 rfl (by decide +kernel) ?_
  refine zw_iaload_f 1 6 (xs 1) 822 f189_821 rfl rfl (by decide +kernel) (by decide +kernel) (by decide +kernel) rfl ?_
  refine zw_virtual_i 825 82 7398 [.ref 52, .int (xs 1)] [(0, .ref 52), (1, .int (xs 1))] f189_822 rfl n189_105 k189_105_12 rfl rfl (by decide +kernel) (Nat.le_of_ble_eq_true rfl) rfl rfl (by decide +kernel) (by decide +kernel) rfl (Nat.le_of_ble_eq_true rfl) rfl ?_
  refine zWp.mono (m_round_r (zro 6 xs) x (xs 1) h1) ?_
  rintro r h2 rfl
  refine ⟨_, rfl, ?_⟩
  refine zw_ic_eq_t 1015 f189_825 (by decide +kernel) (by decide +kernel) ?_
  refine zw_iinc 6 [(3, .int 6), (2, .ref 52), (1, .ref 0), (0, .float 0)] 1018 f189_1015 rfl rfl (by decide +kernel) (by decide +kernel) rfl ?_
  refine zw_goto 18 f189_1018 (by decide +kernel) ?_
  refine zw_iload_n 19 f189_18 rfl rfl ?_
  refine zw_aload_f 20 f189_19 rfl rfl ?_
  refine zw_arraylength 6 21 f189_20 rfl rfl ?_
  refine zw_bipush 6 23 f189_21 rfl (by decide +kernel) ?_
  refine zw_isub 0 24 f189_23 rfl (by decide +kernel) ?_
  refine zw_ic_gt_t 1021 f189_24 (by decide +kernel) (by decide +kernel) ?_
  refine zw_iconst 1 1022 f189_1021 rfl (by decide +kernel) ?_
  refine zw_zreturn f189_1022 r189 u189 (by decide +kernel) ?_
  exact rfl
set_option maxRecDepth 100000 in
set_option maxHeartbeats 0 in
theorem l_tune_r (xs : Nat → Int32) (e0 : xs 0 &&& 31 = 22)   : zWp (zro 6 xs) 189 18 [(3, .int 0), (2, .ref 52), (1, .ref 0), (0, .float 0)] [] hF 82 7398 (fun r _ => r = some (.int 1)) := by
  refine zw_iload_n 19 f189_18 rfl rfl ?_
  refine zw_aload_f 20 f189_19 rfl rfl ?_
  refine zw_arraylength 6 21 f189_20 rfl rfl ?_
  refine zw_bipush 6 23 f189_21 rfl (by decide +kernel) ?_
  refine zw_isub 0 24 f189_23 rfl (by decide +kernel) ?_
  refine zw_ic_gt_f 27 1021 f189_24 (by decide +kernel) rfl (by decide +kernel) ?_
  refine zw_aload_f 28 f189_27 rfl rfl ?_
  refine zw_iload_n 29 f189_28 rfl rfl ?_
  refine zw_iaload_f 0 6 (xs 0) 30 f189_29 rfl rfl (by decide +kernel) (by decide +kernel) (by decide +kernel) rfl ?_
  refine zw_bipush 31 32 f189_30 rfl (by decide +kernel) ?_
  refine zw_iand 22 33 f189_32 rfl e0 ?_
  refine zw_table_i (off := 797) 830 f189_33 (by decide +kernel) (by decide +kernel) (by decide +kernel) ?_
  refine zw_aload_n 831 f189_830 rfl rfl ?_
  refine zw_aload_f 832 f189_831 rfl rfl ?_
  refine zw_iload_n 833 f189_832 rfl rfl ?_
  refine zw_iconst 1 834 f189_833 rfl (by decide +kernel) ?_
  refine zw_iadd 1 835 f189_834 rfl (by decide +kernel) ?_
  refine zw_iaload_f 1 6 (xs 1) 836 f189_835 rfl rfl (by decide +kernel) (by decide +kernel) (by decide +kernel) rfl ?_
  refine zw_aload_f 837 f189_836 rfl rfl ?_
  refine zw_iload_n 838 f189_837 rfl rfl ?_
  refine zw_iconst 2 839 f189_838 rfl (by decide +kernel) ?_
  refine zw_iadd 2 840 f189_839 rfl (by decide +kernel) ?_
  refine zw_iaload_f 2 6 (xs 2) 841 f189_840 rfl rfl (by decide +kernel) (by decide +kernel) (by decide +kernel) rfl ?_
  refine zw_aload_f 842 f189_841 rfl rfl ?_
  refine zw_iload_n 843 f189_842 rfl rfl ?_
  refine zw_iconst 3 844 f189_843 rfl (by decide +kernel) ?_
  refine zw_iadd 3 845 f189_844 rfl (by decide +kernel) ?_
  refine zw_iaload_f 3 6 (xs 3) 846 f189_845 rfl rfl (by decide +kernel) (by decide +kernel) (by decide +kernel) rfl ?_
  refine zw_aload_f 847 f189_846 rfl rfl ?_
  refine zw_iload_n 848 f189_847 rfl rfl ?_
  refine zw_iconst 4 849 f189_848 rfl (by decide +kernel) ?_
  refine zw_iadd 4 850 f189_849 rfl (by decide +kernel) ?_
  refine zw_iaload_f 4 6 (xs 4) 851 f189_850 rfl rfl (by decide +kernel) (by decide +kernel) (by decide +kernel) rfl ?_
  refine zw_aload_f 852 f189_851 rfl rfl ?_
  refine zw_iload_n 853 f189_852 rfl rfl ?_
  refine zw_iconst 5 854 f189_853 rfl (by decide +kernel) ?_
  refine zw_iadd 5 855 f189_854 rfl (by decide +kernel) ?_
  refine zw_iaload_f 5 6 (xs 5) 856 f189_855 rfl rfl (by decide +kernel) (by decide +kernel) (by decide +kernel) rfl ?_
  refine zw_virtual_i 859 82 7398 [.ref 0, .int (xs 1), .int (xs 2), .int (xs 3), .int (xs 4), .int (xs 5)] [(0, .ref 0), (1, .int (xs 1)), (2, .int (xs 2)), (3, .int (xs 3)), (4, .int (xs 4)), (5, .int (xs 5))] f189_856 rfl n189_106 k189_106_11 rfl rfl (by decide +kernel) (Nat.le_of_ble_eq_true rfl) rfl rfl (by decide +kernel) (by decide +kernel) rfl (Nat.le_of_ble_eq_true rfl) rfl ?_
  refine zWp.mono (x_tune_r (zro 6 xs) (xs 1) (xs 2) (xs 3) (xs 4) (xs 5)) ?_
  rintro r h1 ⟨rfl, hm⟩
  refine ⟨_, rfl, ?_⟩
  obtain ⟨x, rfl⟩ := zMF_ex hm
  refine zw_aload_n 860 f189_859 rfl rfl ?_
  refine zw_aload_f 861 f189_860 rfl rfl ?_
  refine zw_iload_n 862 f189_861 rfl rfl ?_
  refine zw_iconst 1 863 f189_862 rfl (by decide +kernel) ?_
  refine zw_iadd 1 864 f189_863 rfl (by decide +kernel) ?_
  refine zw_iaload_f 1 6 (xs 1) 865 f189_864 rfl rfl (by decide +kernel) (by decide +kernel) (by decide +kernel) rfl ?_
  refine zw_aload_f 866 f189_865 rfl rfl ?_
  refine zw_iload_n 867 f189_866 rfl rfl ?_
  refine zw_iconst 2 868 f189_867 rfl (by decide +kernel) ?_
  refine zw_iadd 2 869 f189_868 rfl (by decide +kernel) ?_
  refine zw_iaload_f 2 6 (xs 2) 870 f189_869 rfl rfl (by decide +kernel) (by decide +kernel) (by decide +kernel) rfl ?_
  refine zw_aload_f 871 f189_870 rfl rfl ?_
  refine zw_iload_n 872 f189_871 rfl rfl ?_
  refine zw_iconst 3 873 f189_872 rfl (by decide +kernel) ?_
  refine zw_iadd 3 874 f189_873 rfl (by decide +kernel) ?_
  refine zw_iaload_f 3 6 (xs 3) 875 f189_874 rfl rfl (by decide +kernel) (by decide +kernel) (by decide +kernel) rfl ?_
  refine zw_aload_f 876 f189_875 rfl rfl ?_
  refine zw_iload_n 877 f189_876 rfl rfl ?_
  refine zw_iconst 4 878 f189_877 rfl (by decide +kernel) ?_
  refine zw_iadd 4 879 f189_878 rfl (by decide +kernel) ?_
  refine zw_iaload_f 4 6 (xs 4) 880 f189_879 rfl rfl (by decide +kernel) (by decide +kernel) (by decide +kernel) rfl ?_
  refine zw_aload_f 881 f189_880 rfl rfl ?_
  refine zw_iload_n 882 f189_881 rfl rfl ?_
  refine zw_iconst 5 883 f189_882 rfl (by decide +kernel) ?_
  refine zw_iadd 5 884 f189_883 rfl (by decide +kernel) ?_
  refine zw_iaload_f 5 6 (xs 5) 885 f189_884 rfl rfl (by decide +kernel) (by decide +kernel) (by decide +kernel) rfl ?_
  refine zw_virtual_i 888 82 7398 [.ref 52, .int (xs 1), .int (xs 2), .int (xs 3), .int (xs 4), .int (xs 5)] [(0, .ref 52), (1, .int (xs 1)), (2, .int (xs 2)), (3, .int (xs 3)), (4, .int (xs 4)), (5, .int (xs 5))] f189_885 rfl n189_110 k189_110_12 rfl rfl (by decide +kernel) (Nat.le_of_ble_eq_true rfl) rfl rfl (by decide +kernel) (by decide +kernel) rfl (Nat.le_of_ble_eq_true rfl) rfl ?_
  refine zWp.mono (m_tune_r (zro 6 xs) x (xs 1) (xs 2) (xs 3) (xs 4) (xs 5)) ?_
  rintro r h2 rfl
  refine ⟨_, rfl, ?_⟩
  refine zw_ic_eq_t 1015 f189_888 (by decide +kernel) (by decide +kernel) ?_
  refine zw_iinc 6 [(3, .int 6), (2, .ref 52), (1, .ref 0), (0, .float 0)] 1018 f189_1015 rfl rfl (by decide +kernel) (by decide +kernel) rfl ?_
  refine zw_goto 18 f189_1018 (by decide +kernel) ?_
  refine zw_iload_n 19 f189_18 rfl rfl ?_
  refine zw_aload_f 20 f189_19 rfl rfl ?_
  refine zw_arraylength 6 21 f189_20 rfl rfl ?_
  refine zw_bipush 6 23 f189_21 rfl (by decide +kernel) ?_
  refine zw_isub 0 24 f189_23 rfl (by decide +kernel) ?_
  refine zw_ic_gt_t 1021 f189_24 (by decide +kernel) (by decide +kernel) ?_
  refine zw_iconst 1 1022 f189_1021 rfl (by decide +kernel) ?_
  refine zw_zreturn f189_1022 r189 u189 (by decide +kernel) ?_
  exact rfl
set_option maxRecDepth 100000 in
set_option maxHeartbeats 0 in
theorem l_act_r (xs : Nat → Int32) (e0 : xs 0 &&& 31 = 23)   : zWp (zro 6 xs) 189 18 [(3, .int 0), (2, .ref 52), (1, .ref 0), (0, .float 0)] [] hF 82 7398 (fun r _ => r = some (.int 1)) := by
  refine zw_iload_n 19 f189_18 rfl rfl ?_
  refine zw_aload_f 20 f189_19 rfl rfl ?_
  refine zw_arraylength 6 21 f189_20 rfl rfl ?_
  refine zw_bipush 6 23 f189_21 rfl (by decide +kernel) ?_
  refine zw_isub 0 24 f189_23 rfl (by decide +kernel) ?_
  refine zw_ic_gt_f 27 1021 f189_24 (by decide +kernel) rfl (by decide +kernel) ?_
  refine zw_aload_f 28 f189_27 rfl rfl ?_
  refine zw_iload_n 29 f189_28 rfl rfl ?_
  refine zw_iaload_f 0 6 (xs 0) 30 f189_29 rfl rfl (by decide +kernel) (by decide +kernel) (by decide +kernel) rfl ?_
  refine zw_bipush 31 32 f189_30 rfl (by decide +kernel) ?_
  refine zw_iand 23 33 f189_32 rfl e0 ?_
  refine zw_table_i (off := 860) 893 f189_33 (by decide +kernel) (by decide +kernel) (by decide +kernel) ?_
  refine zw_aload_n 894 f189_893 rfl rfl ?_
  refine zw_aload_f 895 f189_894 rfl rfl ?_
  refine zw_iload_n 896 f189_895 rfl rfl ?_
  refine zw_iconst 1 897 f189_896 rfl (by decide +kernel) ?_
  refine zw_iadd 1 898 f189_897 rfl (by decide +kernel) ?_
  refine zw_iaload_f 1 6 (xs 1) 899 f189_898 rfl rfl (by decide +kernel) (by decide +kernel) (by decide +kernel) rfl ?_
  refine zw_aload_f 900 f189_899 rfl rfl ?_
  refine zw_iload_n 901 f189_900 rfl rfl ?_
  refine zw_iconst 2 902 f189_901 rfl (by decide +kernel) ?_
  refine zw_iadd 2 903 f189_902 rfl (by decide +kernel) ?_
  refine zw_iaload_f 2 6 (xs 2) 904 f189_903 rfl rfl (by decide +kernel) (by decide +kernel) (by decide +kernel) rfl ?_
  refine zw_aload_f 905 f189_904 rfl rfl ?_
  refine zw_iload_n 906 f189_905 rfl rfl ?_
  refine zw_iconst 3 907 f189_906 rfl (by decide +kernel) ?_
  refine zw_iadd 3 908 f189_907 rfl (by decide +kernel) ?_
  refine zw_iaload_f 3 6 (xs 3) 909 f189_908 rfl rfl (by decide +kernel) (by decide +kernel) (by decide +kernel) rfl ?_
  refine zw_virtual_i 912 82 7398 [.ref 0, .int (xs 1), .int (xs 2), .int (xs 3)] [(0, .ref 0), (1, .int (xs 1)), (2, .int (xs 2)), (3, .int (xs 3))] f189_909 rfl n189_111 k189_111_11 rfl rfl (by decide +kernel) (Nat.le_of_ble_eq_true rfl) rfl rfl (by decide +kernel) (by decide +kernel) rfl (Nat.le_of_ble_eq_true rfl) rfl ?_
  refine zWp.mono (x_act_r (zro 6 xs) (xs 1) (xs 2) (xs 3)) ?_
  rintro r h1 ⟨rfl, hm⟩
  refine ⟨_, rfl, ?_⟩
  obtain ⟨x, rfl⟩ := zMF_ex hm
  refine zw_aload_n 913 f189_912 rfl rfl ?_
  refine zw_aload_f 914 f189_913 rfl rfl ?_
  refine zw_iload_n 915 f189_914 rfl rfl ?_
  refine zw_iconst 1 916 f189_915 rfl (by decide +kernel) ?_
  refine zw_iadd 1 917 f189_916 rfl (by decide +kernel) ?_
  refine zw_iaload_f 1 6 (xs 1) 918 f189_917 rfl rfl (by decide +kernel) (by decide +kernel) (by decide +kernel) rfl ?_
  refine zw_aload_f 919 f189_918 rfl rfl ?_
  refine zw_iload_n 920 f189_919 rfl rfl ?_
  refine zw_iconst 2 921 f189_920 rfl (by decide +kernel) ?_
  refine zw_iadd 2 922 f189_921 rfl (by decide +kernel) ?_
  refine zw_iaload_f 2 6 (xs 2) 923 f189_922 rfl rfl (by decide +kernel) (by decide +kernel) (by decide +kernel) rfl ?_
  refine zw_aload_f 924 f189_923 rfl rfl ?_
  refine zw_iload_n 925 f189_924 rfl rfl ?_
  refine zw_iconst 3 926 f189_925 rfl (by decide +kernel) ?_
  refine zw_iadd 3 927 f189_926 rfl (by decide +kernel) ?_
  refine zw_iaload_f 3 6 (xs 3) 928 f189_927 rfl rfl (by decide +kernel) (by decide +kernel) (by decide +kernel) rfl ?_
  refine zw_virtual_i 931 82 7398 [.ref 52, .int (xs 1), .int (xs 2), .int (xs 3)] [(0, .ref 52), (1, .int (xs 1)), (2, .int (xs 2)), (3, .int (xs 3))] f189_928 rfl n189_114 k189_114_12 rfl rfl (by decide +kernel) (Nat.le_of_ble_eq_true rfl) rfl rfl (by decide +kernel) (by decide +kernel) rfl (Nat.le_of_ble_eq_true rfl) rfl ?_
  refine zWp.mono (m_act_r (zro 6 xs) x (xs 1) (xs 2) (xs 3)) ?_
  rintro r h2 rfl
  refine ⟨_, rfl, ?_⟩
  refine zw_ic_eq_t 1015 f189_931 (by decide +kernel) (by decide +kernel) ?_
  refine zw_iinc 6 [(3, .int 6), (2, .ref 52), (1, .ref 0), (0, .float 0)] 1018 f189_1015 rfl rfl (by decide +kernel) (by decide +kernel) rfl ?_
  refine zw_goto 18 f189_1018 (by decide +kernel) ?_
  refine zw_iload_n 19 f189_18 rfl rfl ?_
  refine zw_aload_f 20 f189_19 rfl rfl ?_
  refine zw_arraylength 6 21 f189_20 rfl rfl ?_
  refine zw_bipush 6 23 f189_21 rfl (by decide +kernel) ?_
  refine zw_isub 0 24 f189_23 rfl (by decide +kernel) ?_
  refine zw_ic_gt_t 1021 f189_24 (by decide +kernel) (by decide +kernel) ?_
  refine zw_iconst 1 1022 f189_1021 rfl (by decide +kernel) ?_
  refine zw_zreturn f189_1022 r189 u189 (by decide +kernel) ?_
  exact rfl
set_option maxRecDepth 100000 in
set_option maxHeartbeats 0 in
theorem l_trace_r (xs : Nat → Int32) (e0 : xs 0 &&& 31 = 24)   : zWp (zro 6 xs) 189 18 [(3, .int 0), (2, .ref 52), (1, .ref 0), (0, .float 0)] [] hF 82 7398 (fun r _ => r = some (.int 1)) := by
  refine zw_iload_n 19 f189_18 rfl rfl ?_
  refine zw_aload_f 20 f189_19 rfl rfl ?_
  refine zw_arraylength 6 21 f189_20 rfl rfl ?_
  refine zw_bipush 6 23 f189_21 rfl (by decide +kernel) ?_
  refine zw_isub 0 24 f189_23 rfl (by decide +kernel) ?_
  refine zw_ic_gt_f 27 1021 f189_24 (by decide +kernel) rfl (by decide +kernel) ?_
  refine zw_aload_f 28 f189_27 rfl rfl ?_
  refine zw_iload_n 29 f189_28 rfl rfl ?_
  refine zw_iaload_f 0 6 (xs 0) 30 f189_29 rfl rfl (by decide +kernel) (by decide +kernel) (by decide +kernel) rfl ?_
  refine zw_bipush 31 32 f189_30 rfl (by decide +kernel) ?_
  refine zw_iand 24 33 f189_32 rfl e0 ?_
  refine zw_table_i (off := 903) 936 f189_33 (by decide +kernel) (by decide +kernel) (by decide +kernel) ?_
  refine zw_aload_n 937 f189_936 rfl rfl ?_
  refine zw_aload_f 938 f189_937 rfl rfl ?_
  refine zw_iload_n 939 f189_938 rfl rfl ?_
  refine zw_iconst 1 940 f189_939 rfl (by decide +kernel) ?_
  refine zw_iadd 1 941 f189_940 rfl (by decide +kernel) ?_
  refine zw_iaload_f 1 6 (xs 1) 942 f189_941 rfl rfl (by decide +kernel) (by decide +kernel) (by decide +kernel) rfl ?_
  refine zw_virtual_i 945 82 7398 [.ref 0, .int (xs 1)] [(0, .ref 0), (1, .int (xs 1))] f189_942 rfl n189_115 k189_115_11 rfl rfl (by decide +kernel) (Nat.le_of_ble_eq_true rfl) rfl rfl (by decide +kernel) (by decide +kernel) rfl (Nat.le_of_ble_eq_true rfl) rfl ?_
  refine zWp.mono (x_trace_r (zro 6 xs) (xs 1)) ?_
  rintro r h1 ⟨rfl, hm⟩
  refine ⟨_, rfl, ?_⟩
  obtain ⟨x, rfl⟩ := zMF_ex hm
  refine zw_aload_n 946 f189_945 rfl rfl ?_
  refine zw_aload_f 947 f189_946 rfl rfl ?_
  refine zw_iload_n 948 f189_947 rfl rfl ?_
  refine zw_iconst 1 949 f189_948 rfl (by decide +kernel) ?_
  refine zw_iadd 1 950 f189_949 rfl (by decide +kernel) ?_
  refine zw_iaload_f 1 6 (xs 1) 951 f189_950 rfl rfl (by decide +kernel) (by decide +kernel) (by decide +kernel) rfl ?_
  refine zw_virtual_i 954 82 7398 [.ref 52, .int (xs 1)] [(0, .ref 52), (1, .int (xs 1))] f189_951 rfl n189_118 k189_118_12 rfl rfl (by decide +kernel) (Nat.le_of_ble_eq_true rfl) rfl rfl (by decide +kernel) (by decide +kernel) rfl (Nat.le_of_ble_eq_true rfl) rfl ?_
  refine zWp.mono (m_trace_r (zro 6 xs) x (xs 1)) ?_
  rintro r h2 rfl
  refine ⟨_, rfl, ?_⟩
  refine zw_ic_eq_t 1015 f189_954 (by decide +kernel) (by decide +kernel) ?_
  refine zw_iinc 6 [(3, .int 6), (2, .ref 52), (1, .ref 0), (0, .float 0)] 1018 f189_1015 rfl rfl (by decide +kernel) (by decide +kernel) rfl ?_
  refine zw_goto 18 f189_1018 (by decide +kernel) ?_
  refine zw_iload_n 19 f189_18 rfl rfl ?_
  refine zw_aload_f 20 f189_19 rfl rfl ?_
  refine zw_arraylength 6 21 f189_20 rfl rfl ?_
  refine zw_bipush 6 23 f189_21 rfl (by decide +kernel) ?_
  refine zw_isub 0 24 f189_23 rfl (by decide +kernel) ?_
  refine zw_ic_gt_t 1021 f189_24 (by decide +kernel) (by decide +kernel) ?_
  refine zw_iconst 1 1022 f189_1021 rfl (by decide +kernel) ?_
  refine zw_zreturn f189_1022 r189 u189 (by decide +kernel) ?_
  exact rfl
set_option maxRecDepth 100000 in
set_option maxHeartbeats 0 in
theorem l_forge_s1 (xs : Nat → Int32) (e0 : xs 0 &&& 31 = 25)  (h0 : (xs 1) < 0) : zWp (zro 6 xs) 189 18 [(3, .int 0), (2, .ref 52), (1, .ref 0), (0, .float 0)] [] hF 82 7398 (fun r _ => r = some (.int 1)) := by
  refine zw_iload_n 19 f189_18 rfl rfl ?_
  refine zw_aload_f 20 f189_19 rfl rfl ?_
  refine zw_arraylength 6 21 f189_20 rfl rfl ?_
  refine zw_bipush 6 23 f189_21 rfl (by decide +kernel) ?_
  refine zw_isub 0 24 f189_23 rfl (by decide +kernel) ?_
  refine zw_ic_gt_f 27 1021 f189_24 (by decide +kernel) rfl (by decide +kernel) ?_
  refine zw_aload_f 28 f189_27 rfl rfl ?_
  refine zw_iload_n 29 f189_28 rfl rfl ?_
  refine zw_iaload_f 0 6 (xs 0) 30 f189_29 rfl rfl (by decide +kernel) (by decide +kernel) (by decide +kernel) rfl ?_
  refine zw_bipush 31 32 f189_30 rfl (by decide +kernel) ?_
  refine zw_iand 25 33 f189_32 rfl e0 ?_
  refine zw_table_i (off := 926) 959 f189_33 (by decide +kernel) (by decide +kernel) (by decide +kernel) ?_
  refine zw_aload_n 960 f189_959 rfl rfl ?_
  refine zw_aload_f 961 f189_960 rfl rfl ?_
  refine zw_iload_n 962 f189_961 rfl rfl ?_
  refine zw_iconst 1 963 f189_962 rfl (by decide +kernel) ?_
  refine zw_iadd 1 964 f189_963 rfl (by decide +kernel) ?_
  refine zw_iaload_f 1 6 (xs 1) 965 f189_964 rfl rfl (by decide +kernel) (by decide +kernel) (by decide +kernel) rfl ?_
  refine zw_aload_f 966 f189_965 rfl rfl ?_
  refine zw_iload_n 967 f189_966 rfl rfl ?_
  refine zw_iconst 2 968 f189_967 rfl (by decide +kernel) ?_
  refine zw_iadd 2 969 f189_968 rfl (by decide +kernel) ?_
  refine zw_iaload_f 2 6 (xs 2) 970 f189_969 rfl rfl (by decide +kernel) (by decide +kernel) (by decide +kernel) rfl ?_
  refine zw_aload_f 971 f189_970 rfl rfl ?_
  refine zw_iload_n 972 f189_971 rfl rfl ?_
  refine zw_iconst 3 973 f189_972 rfl (by decide +kernel) ?_
  refine zw_iadd 3 974 f189_973 rfl (by decide +kernel) ?_
  refine zw_iaload_f 3 6 (xs 3) 975 f189_974 rfl rfl (by decide +kernel) (by decide +kernel) (by decide +kernel) rfl ?_
  refine zw_virtual_i 978 82 7398 [.ref 0, .int (xs 1), .int (xs 2), .int (xs 3)] [(0, .ref 0), (1, .int (xs 1)), (2, .int (xs 2)), (3, .int (xs 3))] f189_975 rfl n189_119 k189_119_11 rfl rfl (by decide +kernel) (Nat.le_of_ble_eq_true rfl) rfl rfl (by decide +kernel) (by decide +kernel) rfl (Nat.le_of_ble_eq_true rfl) rfl ?_
  refine zWp.mono (x_forge_s1 (zro 6 xs) (xs 1) (xs 2) (xs 3) h0) ?_
  rintro r h1 ⟨rfl, hm⟩
  refine ⟨_, rfl, ?_⟩
  obtain ⟨x, rfl⟩ := zMF_ex hm
  refine zw_aload_n 979 f189_978 rfl rfl ?_
  refine zw_aload_f 980 f189_979 rfl rfl ?_
  refine zw_iload_n 981 f189_980 rfl rfl ?_
  refine zw_iconst 1 982 f189_981 rfl (by decide +kernel) ?_
  refine zw_iadd 1 983 f189_982 rfl (by decide +kernel) ?_
  refine zw_iaload_f 1 6 (xs 1) 984 f189_983 rfl rfl (by decide +kernel) (by decide +kernel) (by decide +kernel) rfl ?_
  refine zw_aload_f 985 f189_984 rfl rfl ?_
  refine zw_iload_n 986 f189_985 rfl rfl ?_
  refine zw_iconst 2 987 f189_986 rfl (by decide +kernel) ?_
  refine zw_iadd 2 988 f189_987 rfl (by decide +kernel) ?_
  refine zw_iaload_f 2 6 (xs 2) 989 f189_988 rfl rfl (by decide +kernel) (by decide +kernel) (by decide +kernel) rfl ?_
  refine zw_aload_f 990 f189_989 rfl rfl ?_
  refine zw_iload_n 991 f189_990 rfl rfl ?_
  refine zw_iconst 3 992 f189_991 rfl (by decide +kernel) ?_
  refine zw_iadd 3 993 f189_992 rfl (by decide +kernel) ?_
  refine zw_iaload_f 3 6 (xs 3) 994 f189_993 rfl rfl (by decide +kernel) (by decide +kernel) (by decide +kernel) rfl ?_
  refine zw_virtual_i 997 82 7398 [.ref 52, .int (xs 1), .int (xs 2), .int (xs 3)] [(0, .ref 52), (1, .int (xs 1)), (2, .int (xs 2)), (3, .int (xs 3))] f189_994 rfl n189_122 k189_122_12 rfl rfl (by decide +kernel) (Nat.le_of_ble_eq_true rfl) rfl rfl (by decide +kernel) (by decide +kernel) rfl (Nat.le_of_ble_eq_true rfl) rfl ?_
  refine zWp.mono (m_forge_s1 (zro 6 xs) x (xs 1) (xs 2) (xs 3) h0) ?_
  rintro r h2 rfl
  refine ⟨_, rfl, ?_⟩
  refine zw_ic_eq_t 1015 f189_997 (by decide +kernel) (by decide +kernel) ?_
  refine zw_iinc 6 [(3, .int 6), (2, .ref 52), (1, .ref 0), (0, .float 0)] 1018 f189_1015 rfl rfl (by decide +kernel) (by decide +kernel) rfl ?_
  refine zw_goto 18 f189_1018 (by decide +kernel) ?_
  refine zw_iload_n 19 f189_18 rfl rfl ?_
  refine zw_aload_f 20 f189_19 rfl rfl ?_
  refine zw_arraylength 6 21 f189_20 rfl rfl ?_
  refine zw_bipush 6 23 f189_21 rfl (by decide +kernel) ?_
  refine zw_isub 0 24 f189_23 rfl (by decide +kernel) ?_
  refine zw_ic_gt_t 1021 f189_24 (by decide +kernel) (by decide +kernel) ?_
  refine zw_iconst 1 1022 f189_1021 rfl (by decide +kernel) ?_
  refine zw_zreturn f189_1022 r189 u189 (by decide +kernel) ?_
  exact rfl
set_option maxRecDepth 100000 in
set_option maxHeartbeats 0 in
theorem l_forge_s2 (xs : Nat → Int32) (e0 : xs 0 &&& 31 = 25)  (h0 : ¬ (xs 1) < 0) (h9 : 6 < (xs 1)) : zWp (zro 6 xs) 189 18 [(3, .int 0), (2, .ref 52), (1, .ref 0), (0, .float 0)] [] hF 82 7398 (fun r _ => r = some (.int 1)) := by
  refine zw_iload_n 19 f189_18 rfl rfl ?_
  refine zw_aload_f 20 f189_19 rfl rfl ?_
  refine zw_arraylength 6 21 f189_20 rfl rfl ?_
  refine zw_bipush 6 23 f189_21 rfl (by decide +kernel) ?_
  refine zw_isub 0 24 f189_23 rfl (by decide +kernel) ?_
  refine zw_ic_gt_f 27 1021 f189_24 (by decide +kernel) rfl (by decide +kernel) ?_
  refine zw_aload_f 28 f189_27 rfl rfl ?_
  refine zw_iload_n 29 f189_28 rfl rfl ?_
  refine zw_iaload_f 0 6 (xs 0) 30 f189_29 rfl rfl (by decide +kernel) (by decide +kernel) (by decide +kernel) rfl ?_
  refine zw_bipush 31 32 f189_30 rfl (by decide +kernel) ?_
  refine zw_iand 25 33 f189_32 rfl e0 ?_
  refine zw_table_i (off := 926) 959 f189_33 (by decide +kernel) (by decide +kernel) (by decide +kernel) ?_
  refine zw_aload_n 960 f189_959 rfl rfl ?_
  refine zw_aload_f 961 f189_960 rfl rfl ?_
  refine zw_iload_n 962 f189_961 rfl rfl ?_
  refine zw_iconst 1 963 f189_962 rfl (by decide +kernel) ?_
  refine zw_iadd 1 964 f189_963 rfl (by decide +kernel) ?_
  refine zw_iaload_f 1 6 (xs 1) 965 f189_964 rfl rfl (by decide +kernel) (by decide +kernel) (by decide +kernel) rfl ?_
  refine zw_aload_f 966 f189_965 rfl rfl ?_
  refine zw_iload_n 967 f189_966 rfl rfl ?_
  refine zw_iconst 2 968 f189_967 rfl (by decide +kernel) ?_
  refine zw_iadd 2 969 f189_968 rfl (by decide +kernel) ?_
  refine zw_iaload_f 2 6 (xs 2) 970 f189_969 rfl rfl (by decide +kernel) (by decide +kernel) (by decide +kernel) rfl ?_
  refine zw_aload_f 971 f189_970 rfl rfl ?_
  refine zw_iload_n 972 f189_971 rfl rfl ?_
  refine zw_iconst 3 973 f189_972 rfl (by decide +kernel) ?_
  refine zw_iadd 3 974 f189_973 rfl (by decide +kernel) ?_
  refine zw_iaload_f 3 6 (xs 3) 975 f189_974 rfl rfl (by decide +kernel) (by decide +kernel) (by decide +kernel) rfl ?_
  refine zw_virtual_i 978 82 7398 [.ref 0, .int (xs 1), .int (xs 2), .int (xs 3)] [(0, .ref 0), (1, .int (xs 1)), (2, .int (xs 2)), (3, .int (xs 3))] f189_975 rfl n189_119 k189_119_11 rfl rfl (by decide +kernel) (Nat.le_of_ble_eq_true rfl) rfl rfl (by decide +kernel) (by decide +kernel) rfl (Nat.le_of_ble_eq_true rfl) rfl ?_
  refine zWp.mono (x_forge_s2 (zro 6 xs) (xs 1) (xs 2) (xs 3) h0 h9) ?_
  rintro r h1 ⟨rfl, hm⟩
  refine ⟨_, rfl, ?_⟩
  obtain ⟨x, rfl⟩ := zMF_ex hm
  refine zw_aload_n 979 f189_978 rfl rfl ?_
  refine zw_aload_f 980 f189_979 rfl rfl ?_
  refine zw_iload_n 981 f189_980 rfl rfl ?_
  refine zw_iconst 1 982 f189_981 rfl (by decide +kernel) ?_
  refine zw_iadd 1 983 f189_982 rfl (by decide +kernel) ?_
  refine zw_iaload_f 1 6 (xs 1) 984 f189_983 rfl rfl (by decide +kernel) (by decide +kernel) (by decide +kernel) rfl ?_
  refine zw_aload_f 985 f189_984 rfl rfl ?_
  refine zw_iload_n 986 f189_985 rfl rfl ?_
  refine zw_iconst 2 987 f189_986 rfl (by decide +kernel) ?_
  refine zw_iadd 2 988 f189_987 rfl (by decide +kernel) ?_
  refine zw_iaload_f 2 6 (xs 2) 989 f189_988 rfl rfl (by decide +kernel) (by decide +kernel) (by decide +kernel) rfl ?_
  refine zw_aload_f 990 f189_989 rfl rfl ?_
  refine zw_iload_n 991 f189_990 rfl rfl ?_
  refine zw_iconst 3 992 f189_991 rfl (by decide +kernel) ?_
  refine zw_iadd 3 993 f189_992 rfl (by decide +kernel) ?_
  refine zw_iaload_f 3 6 (xs 3) 994 f189_993 rfl rfl (by decide +kernel) (by decide +kernel) (by decide +kernel) rfl ?_
  refine zw_virtual_i 997 82 7398 [.ref 52, .int (xs 1), .int (xs 2), .int (xs 3)] [(0, .ref 52), (1, .int (xs 1)), (2, .int (xs 2)), (3, .int (xs 3))] f189_994 rfl n189_122 k189_122_12 rfl rfl (by decide +kernel) (Nat.le_of_ble_eq_true rfl) rfl rfl (by decide +kernel) (by decide +kernel) rfl (Nat.le_of_ble_eq_true rfl) rfl ?_
  refine zWp.mono (m_forge_s2 (zro 6 xs) x (xs 1) (xs 2) (xs 3) h0 h9) ?_
  rintro r h2 rfl
  refine ⟨_, rfl, ?_⟩
  refine zw_ic_eq_t 1015 f189_997 (by decide +kernel) (by decide +kernel) ?_
  refine zw_iinc 6 [(3, .int 6), (2, .ref 52), (1, .ref 0), (0, .float 0)] 1018 f189_1015 rfl rfl (by decide +kernel) (by decide +kernel) rfl ?_
  refine zw_goto 18 f189_1018 (by decide +kernel) ?_
  refine zw_iload_n 19 f189_18 rfl rfl ?_
  refine zw_aload_f 20 f189_19 rfl rfl ?_
  refine zw_arraylength 6 21 f189_20 rfl rfl ?_
  refine zw_bipush 6 23 f189_21 rfl (by decide +kernel) ?_
  refine zw_isub 0 24 f189_23 rfl (by decide +kernel) ?_
  refine zw_ic_gt_t 1021 f189_24 (by decide +kernel) (by decide +kernel) ?_
  refine zw_iconst 1 1022 f189_1021 rfl (by decide +kernel) ?_
  refine zw_zreturn f189_1022 r189 u189 (by decide +kernel) ?_
  exact rfl
set_option maxRecDepth 100000 in
set_option maxHeartbeats 0 in
theorem l_forge_s3 (xs : Nat → Int32) (e0 : xs 0 &&& 31 = 25)  (h0 : ¬ (xs 1) < 0) (h9 : ¬ 6 < (xs 1)) (h1 : (xs 2) < -100) : zWp (zro 6 xs) 189 18 [(3, .int 0), (2, .ref 52), (1, .ref 0), (0, .float 0)] [] hF 82 7398 (fun r _ => r = some (.int 1)) := by
  refine zw_iload_n 19 f189_18 rfl rfl ?_
  refine zw_aload_f 20 f189_19 rfl rfl ?_
  refine zw_arraylength 6 21 f189_20 rfl rfl ?_
  refine zw_bipush 6 23 f189_21 rfl (by decide +kernel) ?_
  refine zw_isub 0 24 f189_23 rfl (by decide +kernel) ?_
  refine zw_ic_gt_f 27 1021 f189_24 (by decide +kernel) rfl (by decide +kernel) ?_
  refine zw_aload_f 28 f189_27 rfl rfl ?_
  refine zw_iload_n 29 f189_28 rfl rfl ?_
  refine zw_iaload_f 0 6 (xs 0) 30 f189_29 rfl rfl (by decide +kernel) (by decide +kernel) (by decide +kernel) rfl ?_
  refine zw_bipush 31 32 f189_30 rfl (by decide +kernel) ?_
  refine zw_iand 25 33 f189_32 rfl e0 ?_
  refine zw_table_i (off := 926) 959 f189_33 (by decide +kernel) (by decide +kernel) (by decide +kernel) ?_
  refine zw_aload_n 960 f189_959 rfl rfl ?_
  refine zw_aload_f 961 f189_960 rfl rfl ?_
  refine zw_iload_n 962 f189_961 rfl rfl ?_
  refine zw_iconst 1 963 f189_962 rfl (by decide +kernel) ?_
  refine zw_iadd 1 964 f189_963 rfl (by decide +kernel) ?_
  refine zw_iaload_f 1 6 (xs 1) 965 f189_964 rfl rfl (by decide +kernel) (by decide +kernel) (by decide +kernel) rfl ?_
  refine zw_aload_f 966 f189_965 rfl rfl ?_
  refine zw_iload_n 967 f189_966 rfl rfl ?_
  refine zw_iconst 2 968 f189_967 rfl (by decide +kernel) ?_
  refine zw_iadd 2 969 f189_968 rfl (by decide +kernel) ?_
  refine zw_iaload_f 2 6 (xs 2) 970 f189_969 rfl rfl (by decide +kernel) (by decide +kernel) (by decide +kernel) rfl ?_
  refine zw_aload_f 971 f189_970 rfl rfl ?_
  refine zw_iload_n 972 f189_971 rfl rfl ?_
  refine zw_iconst 3 973 f189_972 rfl (by decide +kernel) ?_
  refine zw_iadd 3 974 f189_973 rfl (by decide +kernel) ?_
  refine zw_iaload_f 3 6 (xs 3) 975 f189_974 rfl rfl (by decide +kernel) (by decide +kernel) (by decide +kernel) rfl ?_
  refine zw_virtual_i 978 82 7398 [.ref 0, .int (xs 1), .int (xs 2), .int (xs 3)] [(0, .ref 0), (1, .int (xs 1)), (2, .int (xs 2)), (3, .int (xs 3))] f189_975 rfl n189_119 k189_119_11 rfl rfl (by decide +kernel) (Nat.le_of_ble_eq_true rfl) rfl rfl (by decide +kernel) (by decide +kernel) rfl (Nat.le_of_ble_eq_true rfl) rfl ?_
  refine zWp.mono (x_forge_s3 (zro 6 xs) (xs 1) (xs 2) (xs 3) h0 h9 h1) ?_
  rintro r h1 ⟨rfl, hm⟩
  refine ⟨_, rfl, ?_⟩
  obtain ⟨x, rfl⟩ := zMF_ex hm
  refine zw_aload_n 979 f189_978 rfl rfl ?_
  refine zw_aload_f 980 f189_979 rfl rfl ?_
  refine zw_iload_n 981 f189_980 rfl rfl ?_
  refine zw_iconst 1 982 f189_981 rfl (by decide +kernel) ?_
  refine zw_iadd 1 983 f189_982 rfl (by decide +kernel) ?_
  refine zw_iaload_f 1 6 (xs 1) 984 f189_983 rfl rfl (by decide +kernel) (by decide +kernel) (by decide +kernel) rfl ?_
  refine zw_aload_f 985 f189_984 rfl rfl ?_
  refine zw_iload_n 986 f189_985 rfl rfl ?_
  refine zw_iconst 2 987 f189_986 rfl (by decide +kernel) ?_
  refine zw_iadd 2 988 f189_987 rfl (by decide +kernel) ?_
  refine zw_iaload_f 2 6 (xs 2) 989 f189_988 rfl rfl (by decide +kernel) (by decide +kernel) (by decide +kernel) rfl ?_
  refine zw_aload_f 990 f189_989 rfl rfl ?_
  refine zw_iload_n 991 f189_990 rfl rfl ?_
  refine zw_iconst 3 992 f189_991 rfl (by decide +kernel) ?_
  refine zw_iadd 3 993 f189_992 rfl (by decide +kernel) ?_
  refine zw_iaload_f 3 6 (xs 3) 994 f189_993 rfl rfl (by decide +kernel) (by decide +kernel) (by decide +kernel) rfl ?_
  refine zw_virtual_i 997 82 7398 [.ref 52, .int (xs 1), .int (xs 2), .int (xs 3)] [(0, .ref 52), (1, .int (xs 1)), (2, .int (xs 2)), (3, .int (xs 3))] f189_994 rfl n189_122 k189_122_12 rfl rfl (by decide +kernel) (Nat.le_of_ble_eq_true rfl) rfl rfl (by decide +kernel) (by decide +kernel) rfl (Nat.le_of_ble_eq_true rfl) rfl ?_
  refine zWp.mono (m_forge_s3 (zro 6 xs) x (xs 1) (xs 2) (xs 3) h0 h9 h1) ?_
  rintro r h2 rfl
  refine ⟨_, rfl, ?_⟩
  refine zw_ic_eq_t 1015 f189_997 (by decide +kernel) (by decide +kernel) ?_
  refine zw_iinc 6 [(3, .int 6), (2, .ref 52), (1, .ref 0), (0, .float 0)] 1018 f189_1015 rfl rfl (by decide +kernel) (by decide +kernel) rfl ?_
  refine zw_goto 18 f189_1018 (by decide +kernel) ?_
  refine zw_iload_n 19 f189_18 rfl rfl ?_
  refine zw_aload_f 20 f189_19 rfl rfl ?_
  refine zw_arraylength 6 21 f189_20 rfl rfl ?_
  refine zw_bipush 6 23 f189_21 rfl (by decide +kernel) ?_
  refine zw_isub 0 24 f189_23 rfl (by decide +kernel) ?_
  refine zw_ic_gt_t 1021 f189_24 (by decide +kernel) (by decide +kernel) ?_
  refine zw_iconst 1 1022 f189_1021 rfl (by decide +kernel) ?_
  refine zw_zreturn f189_1022 r189 u189 (by decide +kernel) ?_
  exact rfl
set_option maxRecDepth 100000 in
set_option maxHeartbeats 0 in
theorem l_forge_s4 (xs : Nat → Int32) (e0 : xs 0 &&& 31 = 25)  (h0 : ¬ (xs 1) < 0) (h9 : ¬ 6 < (xs 1)) (h1 : ¬ (xs 2) < -100) (h2 : 100 < (xs 2)) : zWp (zro 6 xs) 189 18 [(3, .int 0), (2, .ref 52), (1, .ref 0), (0, .float 0)] [] hF 82 7398 (fun r _ => r = some (.int 1)) := by
  refine zw_iload_n 19 f189_18 rfl rfl ?_
  refine zw_aload_f 20 f189_19 rfl rfl ?_
  refine zw_arraylength 6 21 f189_20 rfl rfl ?_
  refine zw_bipush 6 23 f189_21 rfl (by decide +kernel) ?_
  refine zw_isub 0 24 f189_23 rfl (by decide +kernel) ?_
  refine zw_ic_gt_f 27 1021 f189_24 (by decide +kernel) rfl (by decide +kernel) ?_
  refine zw_aload_f 28 f189_27 rfl rfl ?_
  refine zw_iload_n 29 f189_28 rfl rfl ?_
  refine zw_iaload_f 0 6 (xs 0) 30 f189_29 rfl rfl (by decide +kernel) (by decide +kernel) (by decide +kernel) rfl ?_
  refine zw_bipush 31 32 f189_30 rfl (by decide +kernel) ?_
  refine zw_iand 25 33 f189_32 rfl e0 ?_
  refine zw_table_i (off := 926) 959 f189_33 (by decide +kernel) (by decide +kernel) (by decide +kernel) ?_
  refine zw_aload_n 960 f189_959 rfl rfl ?_
  refine zw_aload_f 961 f189_960 rfl rfl ?_
  refine zw_iload_n 962 f189_961 rfl rfl ?_
  refine zw_iconst 1 963 f189_962 rfl (by decide +kernel) ?_
  refine zw_iadd 1 964 f189_963 rfl (by decide +kernel) ?_
  refine zw_iaload_f 1 6 (xs 1) 965 f189_964 rfl rfl (by decide +kernel) (by decide +kernel) (by decide +kernel) rfl ?_
  refine zw_aload_f 966 f189_965 rfl rfl ?_
  refine zw_iload_n 967 f189_966 rfl rfl ?_
  refine zw_iconst 2 968 f189_967 rfl (by decide +kernel) ?_
  refine zw_iadd 2 969 f189_968 rfl (by decide +kernel) ?_
  refine zw_iaload_f 2 6 (xs 2) 970 f189_969 rfl rfl (by decide +kernel) (by decide +kernel) (by decide +kernel) rfl ?_
  refine zw_aload_f 971 f189_970 rfl rfl ?_
  refine zw_iload_n 972 f189_971 rfl rfl ?_
  refine zw_iconst 3 973 f189_972 rfl (by decide +kernel) ?_
  refine zw_iadd 3 974 f189_973 rfl (by decide +kernel) ?_
  refine zw_iaload_f 3 6 (xs 3) 975 f189_974 rfl rfl (by decide +kernel) (by decide +kernel) (by decide +kernel) rfl ?_
  refine zw_virtual_i 978 82 7398 [.ref 0, .int (xs 1), .int (xs 2), .int (xs 3)] [(0, .ref 0), (1, .int (xs 1)), (2, .int (xs 2)), (3, .int (xs 3))] f189_975 rfl n189_119 k189_119_11 rfl rfl (by decide +kernel) (Nat.le_of_ble_eq_true rfl) rfl rfl (by decide +kernel) (by decide +kernel) rfl (Nat.le_of_ble_eq_true rfl) rfl ?_
  refine zWp.mono (x_forge_s4 (zro 6 xs) (xs 1) (xs 2) (xs 3) h0 h9 h1 h2) ?_
  rintro r h1 ⟨rfl, hm⟩
  refine ⟨_, rfl, ?_⟩
  obtain ⟨x, rfl⟩ := zMF_ex hm
  refine zw_aload_n 979 f189_978 rfl rfl ?_
  refine zw_aload_f 980 f189_979 rfl rfl ?_
  refine zw_iload_n 981 f189_980 rfl rfl ?_
  refine zw_iconst 1 982 f189_981 rfl (by decide +kernel) ?_
  refine zw_iadd 1 983 f189_982 rfl (by decide +kernel) ?_
  refine zw_iaload_f 1 6 (xs 1) 984 f189_983 rfl rfl (by decide +kernel) (by decide +kernel) (by decide +kernel) rfl ?_
  refine zw_aload_f 985 f189_984 rfl rfl ?_
  refine zw_iload_n 986 f189_985 rfl rfl ?_
  refine zw_iconst 2 987 f189_986 rfl (by decide +kernel) ?_
  refine zw_iadd 2 988 f189_987 rfl (by decide +kernel) ?_
  refine zw_iaload_f 2 6 (xs 2) 989 f189_988 rfl rfl (by decide +kernel) (by decide +kernel) (by decide +kernel) rfl ?_
  refine zw_aload_f 990 f189_989 rfl rfl ?_
  refine zw_iload_n 991 f189_990 rfl rfl ?_
  refine zw_iconst 3 992 f189_991 rfl (by decide +kernel) ?_
  refine zw_iadd 3 993 f189_992 rfl (by decide +kernel) ?_
  refine zw_iaload_f 3 6 (xs 3) 994 f189_993 rfl rfl (by decide +kernel) (by decide +kernel) (by decide +kernel) rfl ?_
  refine zw_virtual_i 997 82 7398 [.ref 52, .int (xs 1), .int (xs 2), .int (xs 3)] [(0, .ref 52), (1, .int (xs 1)), (2, .int (xs 2)), (3, .int (xs 3))] f189_994 rfl n189_122 k189_122_12 rfl rfl (by decide +kernel) (Nat.le_of_ble_eq_true rfl) rfl rfl (by decide +kernel) (by decide +kernel) rfl (Nat.le_of_ble_eq_true rfl) rfl ?_
  refine zWp.mono (m_forge_s4 (zro 6 xs) x (xs 1) (xs 2) (xs 3) h0 h9 h1 h2) ?_
  rintro r h2 rfl
  refine ⟨_, rfl, ?_⟩
  refine zw_ic_eq_t 1015 f189_997 (by decide +kernel) (by decide +kernel) ?_
  refine zw_iinc 6 [(3, .int 6), (2, .ref 52), (1, .ref 0), (0, .float 0)] 1018 f189_1015 rfl rfl (by decide +kernel) (by decide +kernel) rfl ?_
  refine zw_goto 18 f189_1018 (by decide +kernel) ?_
  refine zw_iload_n 19 f189_18 rfl rfl ?_
  refine zw_aload_f 20 f189_19 rfl rfl ?_
  refine zw_arraylength 6 21 f189_20 rfl rfl ?_
  refine zw_bipush 6 23 f189_21 rfl (by decide +kernel) ?_
  refine zw_isub 0 24 f189_23 rfl (by decide +kernel) ?_
  refine zw_ic_gt_t 1021 f189_24 (by decide +kernel) (by decide +kernel) ?_
  refine zw_iconst 1 1022 f189_1021 rfl (by decide +kernel) ?_
  refine zw_zreturn f189_1022 r189 u189 (by decide +kernel) ?_
  exact rfl
set_option maxRecDepth 100000 in
set_option maxHeartbeats 0 in
theorem l_forge_s5 (xs : Nat → Int32) (e0 : xs 0 &&& 31 = 25)  (h0 : ¬ (xs 1) < 0) (h9 : ¬ 6 < (xs 1)) (h1 : ¬ (xs 2) < -100) (h2 : ¬ 100 < (xs 2)) (h3 : (xs 3) < -100) : zWp (zro 6 xs) 189 18 [(3, .int 0), (2, .ref 52), (1, .ref 0), (0, .float 0)] [] hF 82 7398 (fun r _ => r = some (.int 1)) := by
  refine zw_iload_n 19 f189_18 rfl rfl ?_
  refine zw_aload_f 20 f189_19 rfl rfl ?_
  refine zw_arraylength 6 21 f189_20 rfl rfl ?_
  refine zw_bipush 6 23 f189_21 rfl (by decide +kernel) ?_
  refine zw_isub 0 24 f189_23 rfl (by decide +kernel) ?_
  refine zw_ic_gt_f 27 1021 f189_24 (by decide +kernel) rfl (by decide +kernel) ?_
  refine zw_aload_f 28 f189_27 rfl rfl ?_
  refine zw_iload_n 29 f189_28 rfl rfl ?_
  refine zw_iaload_f 0 6 (xs 0) 30 f189_29 rfl rfl (by decide +kernel) (by decide +kernel) (by decide +kernel) rfl ?_
  refine zw_bipush 31 32 f189_30 rfl (by decide +kernel) ?_
  refine zw_iand 25 33 f189_32 rfl e0 ?_
  refine zw_table_i (off := 926) 959 f189_33 (by decide +kernel) (by decide +kernel) (by decide +kernel) ?_
  refine zw_aload_n 960 f189_959 rfl rfl ?_
  refine zw_aload_f 961 f189_960 rfl rfl ?_
  refine zw_iload_n 962 f189_961 rfl rfl ?_
  refine zw_iconst 1 963 f189_962 rfl (by decide +kernel) ?_
  refine zw_iadd 1 964 f189_963 rfl (by decide +kernel) ?_
  refine zw_iaload_f 1 6 (xs 1) 965 f189_964 rfl rfl (by decide +kernel) (by decide +kernel) (by decide +kernel) rfl ?_
  refine zw_aload_f 966 f189_965 rfl rfl ?_
  refine zw_iload_n 967 f189_966 rfl rfl ?_
  refine zw_iconst 2 968 f189_967 rfl (by decide +kernel) ?_
  refine zw_iadd 2 969 f189_968 rfl (by decide +kernel) ?_
  refine zw_iaload_f 2 6 (xs 2) 970 f189_969 rfl rfl (by decide +kernel) (by decide +kernel) (by decide +kernel) rfl ?_
  refine zw_aload_f 971 f189_970 rfl rfl ?_
  refine zw_iload_n 972 f189_971 rfl rfl ?_
  refine zw_iconst 3 973 f189_972 rfl (by decide +kernel) ?_
  refine zw_iadd 3 974 f189_973 rfl (by decide +kernel) ?_
  refine zw_iaload_f 3 6 (xs 3) 975 f189_974 rfl rfl (by decide +kernel) (by decide +kernel) (by decide +kernel) rfl ?_
  refine zw_virtual_i 978 82 7398 [.ref 0, .int (xs 1), .int (xs 2), .int (xs 3)] [(0, .ref 0), (1, .int (xs 1)), (2, .int (xs 2)), (3, .int (xs 3))] f189_975 rfl n189_119 k189_119_11 rfl rfl (by decide +kernel) (Nat.le_of_ble_eq_true rfl) rfl rfl (by decide +kernel) (by decide +kernel) rfl (Nat.le_of_ble_eq_true rfl) rfl ?_
  refine zWp.mono (x_forge_s5 (zro 6 xs) (xs 1) (xs 2) (xs 3) h0 h9 h1 h2 h3) ?_
  rintro r h1 ⟨rfl, hm⟩
  refine ⟨_, rfl, ?_⟩
  obtain ⟨x, rfl⟩ := zMF_ex hm
  refine zw_aload_n 979 f189_978 rfl rfl ?_
  refine zw_aload_f 980 f189_979 rfl rfl ?_
  refine zw_iload_n 981 f189_980 rfl rfl ?_
  refine zw_iconst 1 982 f189_981 rfl (by decide +kernel) ?_
  refine zw_iadd 1 983 f189_982 rfl (by decide +kernel) ?_
  refine zw_iaload_f 1 6 (xs 1) 984 f189_983 rfl rfl (by decide +kernel) (by decide +kernel) (by decide +kernel) rfl ?_
  refine zw_aload_f 985 f189_984 rfl rfl ?_
  refine zw_iload_n 986 f189_985 rfl rfl ?_
  refine zw_iconst 2 987 f189_986 rfl (by decide +kernel) ?_
  refine zw_iadd 2 988 f189_987 rfl (by decide +kernel) ?_
  refine zw_iaload_f 2 6 (xs 2) 989 f189_988 rfl rfl (by decide +kernel) (by decide +kernel) (by decide +kernel) rfl ?_
  refine zw_aload_f 990 f189_989 rfl rfl ?_
  refine zw_iload_n 991 f189_990 rfl rfl ?_
  refine zw_iconst 3 992 f189_991 rfl (by decide +kernel) ?_
  refine zw_iadd 3 993 f189_992 rfl (by decide +kernel) ?_
  refine zw_iaload_f 3 6 (xs 3) 994 f189_993 rfl rfl (by decide +kernel) (by decide +kernel) (by decide +kernel) rfl ?_
  refine zw_virtual_i 997 82 7398 [.ref 52, .int (xs 1), .int (xs 2), .int (xs 3)] [(0, .ref 52), (1, .int (xs 1)), (2, .int (xs 2)), (3, .int (xs 3))] f189_994 rfl n189_122 k189_122_12 rfl rfl (by decide +kernel) (Nat.le_of_ble_eq_true rfl) rfl rfl (by decide +kernel) (by decide +kernel) rfl (Nat.le_of_ble_eq_true rfl) rfl ?_
  refine zWp.mono (m_forge_s5 (zro 6 xs) x (xs 1) (xs 2) (xs 3) h0 h9 h1 h2 h3) ?_
  rintro r h2 rfl
  refine ⟨_, rfl, ?_⟩
  refine zw_ic_eq_t 1015 f189_997 (by decide +kernel) (by decide +kernel) ?_
  refine zw_iinc 6 [(3, .int 6), (2, .ref 52), (1, .ref 0), (0, .float 0)] 1018 f189_1015 rfl rfl (by decide +kernel) (by decide +kernel) rfl ?_
  refine zw_goto 18 f189_1018 (by decide +kernel) ?_
  refine zw_iload_n 19 f189_18 rfl rfl ?_
  refine zw_aload_f 20 f189_19 rfl rfl ?_
  refine zw_arraylength 6 21 f189_20 rfl rfl ?_
  refine zw_bipush 6 23 f189_21 rfl (by decide +kernel) ?_
  refine zw_isub 0 24 f189_23 rfl (by decide +kernel) ?_
  refine zw_ic_gt_t 1021 f189_24 (by decide +kernel) (by decide +kernel) ?_
  refine zw_iconst 1 1022 f189_1021 rfl (by decide +kernel) ?_
  refine zw_zreturn f189_1022 r189 u189 (by decide +kernel) ?_
  exact rfl
set_option maxRecDepth 100000 in
set_option maxHeartbeats 0 in
theorem l_forge_s6 (xs : Nat → Int32) (e0 : xs 0 &&& 31 = 25)  (h0 : ¬ (xs 1) < 0) (h9 : ¬ 6 < (xs 1)) (h1 : ¬ (xs 2) < -100) (h2 : ¬ 100 < (xs 2)) (h3 : ¬ (xs 3) < -100) (h4 : 100 < (xs 3)) : zWp (zro 6 xs) 189 18 [(3, .int 0), (2, .ref 52), (1, .ref 0), (0, .float 0)] [] hF 82 7398 (fun r _ => r = some (.int 1)) := by
  refine zw_iload_n 19 f189_18 rfl rfl ?_
  refine zw_aload_f 20 f189_19 rfl rfl ?_
  refine zw_arraylength 6 21 f189_20 rfl rfl ?_
  refine zw_bipush 6 23 f189_21 rfl (by decide +kernel) ?_
  refine zw_isub 0 24 f189_23 rfl (by decide +kernel) ?_
  refine zw_ic_gt_f 27 1021 f189_24 (by decide +kernel) rfl (by decide +kernel) ?_
  refine zw_aload_f 28 f189_27 rfl rfl ?_
  refine zw_iload_n 29 f189_28 rfl rfl ?_
  refine zw_iaload_f 0 6 (xs 0) 30 f189_29 rfl rfl (by decide +kernel) (by decide +kernel) (by decide +kernel) rfl ?_
  refine zw_bipush 31 32 f189_30 rfl (by decide +kernel) ?_
  refine zw_iand 25 33 f189_32 rfl e0 ?_
  refine zw_table_i (off := 926) 959 f189_33 (by decide +kernel) (by decide +kernel) (by decide +kernel) ?_
  refine zw_aload_n 960 f189_959 rfl rfl ?_
  refine zw_aload_f 961 f189_960 rfl rfl ?_
  refine zw_iload_n 962 f189_961 rfl rfl ?_
  refine zw_iconst 1 963 f189_962 rfl (by decide +kernel) ?_
  refine zw_iadd 1 964 f189_963 rfl (by decide +kernel) ?_
  refine zw_iaload_f 1 6 (xs 1) 965 f189_964 rfl rfl (by decide +kernel) (by decide +kernel) (by decide +kernel) rfl ?_
  refine zw_aload_f 966 f189_965 rfl rfl ?_
  refine zw_iload_n 967 f189_966 rfl rfl ?_
  refine zw_iconst 2 968 f189_967 rfl (by decide +kernel) ?_
  refine zw_iadd 2 969 f189_968 rfl (by decide +kernel) ?_
  refine zw_iaload_f 2 6 (xs 2) 970 f189_969 rfl rfl (by decide +kernel) (by decide +kernel) (by decide +kernel) rfl ?_
  refine zw_aload_f 971 f189_970 rfl rfl ?_
  refine zw_iload_n 972 f189_971 rfl rfl ?_
  refine zw_iconst 3 973 f189_972 rfl (by decide +kernel) ?_
  refine zw_iadd 3 974 f189_973 rfl (by decide +kernel) ?_
  refine zw_iaload_f 3 6 (xs 3) 975 f189_974 rfl rfl (by decide +kernel) (by decide +kernel) (by decide +kernel) rfl ?_
  refine zw_virtual_i 978 82 7398 [.ref 0, .int (xs 1), .int (xs 2), .int (xs 3)] [(0, .ref 0), (1, .int (xs 1)), (2, .int (xs 2)), (3, .int (xs 3))] f189_975 rfl n189_119 k189_119_11 rfl rfl (by decide +kernel) (Nat.le_of_ble_eq_true rfl) rfl rfl (by decide +kernel) (by decide +kernel) rfl (Nat.le_of_ble_eq_true rfl) rfl ?_
  refine zWp.mono (x_forge_s6 (zro 6 xs) (xs 1) (xs 2) (xs 3) h0 h9 h1 h2 h3 h4) ?_
  rintro r h1 ⟨rfl, hm⟩
  refine ⟨_, rfl, ?_⟩
  obtain ⟨x, rfl⟩ := zMF_ex hm
  refine zw_aload_n 979 f189_978 rfl rfl ?_
  refine zw_aload_f 980 f189_979 rfl rfl ?_
  refine zw_iload_n 981 f189_980 rfl rfl ?_
  refine zw_iconst 1 982 f189_981 rfl (by decide +kernel) ?_
  refine zw_iadd 1 983 f189_982 rfl (by decide +kernel) ?_
  refine zw_iaload_f 1 6 (xs 1) 984 f189_983 rfl rfl (by decide +kernel) (by decide +kernel) (by decide +kernel) rfl ?_
  refine zw_aload_f 985 f189_984 rfl rfl ?_
  refine zw_iload_n 986 f189_985 rfl rfl ?_
  refine zw_iconst 2 987 f189_986 rfl (by decide +kernel) ?_
  refine zw_iadd 2 988 f189_987 rfl (by decide +kernel) ?_
  refine zw_iaload_f 2 6 (xs 2) 989 f189_988 rfl rfl (by decide +kernel) (by decide +kernel) (by decide +kernel) rfl ?_
  refine zw_aload_f 990 f189_989 rfl rfl ?_
  refine zw_iload_n 991 f189_990 rfl rfl ?_
  refine zw_iconst 3 992 f189_991 rfl (by decide +kernel) ?_
  refine zw_iadd 3 993 f189_992 rfl (by decide +kernel) ?_
  refine zw_iaload_f 3 6 (xs 3) 994 f189_993 rfl rfl (by decide +kernel) (by decide +kernel) (by decide +kernel) rfl ?_
  refine zw_virtual_i 997 82 7398 [.ref 52, .int (xs 1), .int (xs 2), .int (xs 3)] [(0, .ref 52), (1, .int (xs 1)), (2, .int (xs 2)), (3, .int (xs 3))] f189_994 rfl n189_122 k189_122_12 rfl rfl (by decide +kernel) (Nat.le_of_ble_eq_true rfl) rfl rfl (by decide +kernel) (by decide +kernel) rfl (Nat.le_of_ble_eq_true rfl) rfl ?_
  refine zWp.mono (m_forge_s6 (zro 6 xs) x (xs 1) (xs 2) (xs 3) h0 h9 h1 h2 h3 h4) ?_
  rintro r h2 rfl
  refine ⟨_, rfl, ?_⟩
  refine zw_ic_eq_t 1015 f189_997 (by decide +kernel) (by decide +kernel) ?_
  refine zw_iinc 6 [(3, .int 6), (2, .ref 52), (1, .ref 0), (0, .float 0)] 1018 f189_1015 rfl rfl (by decide +kernel) (by decide +kernel) rfl ?_
  refine zw_goto 18 f189_1018 (by decide +kernel) ?_
  refine zw_iload_n 19 f189_18 rfl rfl ?_
  refine zw_aload_f 20 f189_19 rfl rfl ?_
  refine zw_arraylength 6 21 f189_20 rfl rfl ?_
  refine zw_bipush 6 23 f189_21 rfl (by decide +kernel) ?_
  refine zw_isub 0 24 f189_23 rfl (by decide +kernel) ?_
  refine zw_ic_gt_t 1021 f189_24 (by decide +kernel) (by decide +kernel) ?_
  refine zw_iconst 1 1022 f189_1021 rfl (by decide +kernel) ?_
  refine zw_zreturn f189_1022 r189 u189 (by decide +kernel) ?_
  exact rfl
set_option maxRecDepth 100000 in
set_option maxHeartbeats 0 in
theorem l_forge_w0 (xs : Nat → Int32) (e0 : xs 0 &&& 31 = 25) (q1 : xs 1 = 0) (h1 : ¬ (xs 2) < -100) (h2 : ¬ 100 < (xs 2)) (h3 : ¬ (xs 3) < -100) (h4 : ¬ 100 < (xs 3)) : zWp (zro 6 xs) 189 18 [(3, .int 0), (2, .ref 52), (1, .ref 0), (0, .float 0)] [] hF 82 7398 (fun r _ => r = some (.int 1)) := by
  refine zw_iload_n 19 f189_18 rfl rfl ?_
  refine zw_aload_f 20 f189_19 rfl rfl ?_
  refine zw_arraylength 6 21 f189_20 rfl rfl ?_
  refine zw_bipush 6 23 f189_21 rfl (by decide +kernel) ?_
  refine zw_isub 0 24 f189_23 rfl (by decide +kernel) ?_
  refine zw_ic_gt_f 27 1021 f189_24 (by decide +kernel) rfl (by decide +kernel) ?_
  refine zw_aload_f 28 f189_27 rfl rfl ?_
  refine zw_iload_n 29 f189_28 rfl rfl ?_
  refine zw_iaload_f 0 6 (xs 0) 30 f189_29 rfl rfl (by decide +kernel) (by decide +kernel) (by decide +kernel) rfl ?_
  refine zw_bipush 31 32 f189_30 rfl (by decide +kernel) ?_
  refine zw_iand 25 33 f189_32 rfl e0 ?_
  refine zw_table_i (off := 926) 959 f189_33 (by decide +kernel) (by decide +kernel) (by decide +kernel) ?_
  refine zw_aload_n 960 f189_959 rfl rfl ?_
  refine zw_aload_f 961 f189_960 rfl rfl ?_
  refine zw_iload_n 962 f189_961 rfl rfl ?_
  refine zw_iconst 1 963 f189_962 rfl (by decide +kernel) ?_
  refine zw_iadd 1 964 f189_963 rfl (by decide +kernel) ?_
  refine zw_iaload_f 1 6 0 965 f189_964 rfl rfl (by decide +kernel) (by decide +kernel) (by decide +kernel) q1 ?_
  refine zw_aload_f 966 f189_965 rfl rfl ?_
  refine zw_iload_n 967 f189_966 rfl rfl ?_
  refine zw_iconst 2 968 f189_967 rfl (by decide +kernel) ?_
  refine zw_iadd 2 969 f189_968 rfl (by decide +kernel) ?_
  refine zw_iaload_f 2 6 (xs 2) 970 f189_969 rfl rfl (by decide +kernel) (by decide +kernel) (by decide +kernel) rfl ?_
  refine zw_aload_f 971 f189_970 rfl rfl ?_
  refine zw_iload_n 972 f189_971 rfl rfl ?_
  refine zw_iconst 3 973 f189_972 rfl (by decide +kernel) ?_
  refine zw_iadd 3 974 f189_973 rfl (by decide +kernel) ?_
  refine zw_iaload_f 3 6 (xs 3) 975 f189_974 rfl rfl (by decide +kernel) (by decide +kernel) (by decide +kernel) rfl ?_
  refine zw_virtual_i 978 82 7398 [.ref 0, .int 0, .int (xs 2), .int (xs 3)] [(0, .ref 0), (1, .int 0), (2, .int (xs 2)), (3, .int (xs 3))] f189_975 rfl n189_119 k189_119_11 rfl rfl (by decide +kernel) (Nat.le_of_ble_eq_true rfl) rfl rfl (by decide +kernel) (by decide +kernel) rfl (Nat.le_of_ble_eq_true rfl) rfl ?_
  refine zWp.mono (x_forge_w0 (zro 6 xs) (xs 2) (xs 3) h1 h2 h3 h4) ?_
  rintro r h1 ⟨rfl, hm⟩
  refine ⟨_, rfl, ?_⟩
  obtain ⟨x, rfl⟩ := zMF_ex hm
  refine zw_aload_n 979 f189_978 rfl rfl ?_
  refine zw_aload_f 980 f189_979 rfl rfl ?_
  refine zw_iload_n 981 f189_980 rfl rfl ?_
  refine zw_iconst 1 982 f189_981 rfl (by decide +kernel) ?_
  refine zw_iadd 1 983 f189_982 rfl (by decide +kernel) ?_
  refine zw_iaload_f 1 6 0 984 f189_983 rfl rfl (by decide +kernel) (by decide +kernel) (by decide +kernel) q1 ?_
  refine zw_aload_f 985 f189_984 rfl rfl ?_
  refine zw_iload_n 986 f189_985 rfl rfl ?_
  refine zw_iconst 2 987 f189_986 rfl (by decide +kernel) ?_
  refine zw_iadd 2 988 f189_987 rfl (by decide +kernel) ?_
  refine zw_iaload_f 2 6 (xs 2) 989 f189_988 rfl rfl (by decide +kernel) (by decide +kernel) (by decide +kernel) rfl ?_
  refine zw_aload_f 990 f189_989 rfl rfl ?_
  refine zw_iload_n 991 f189_990 rfl rfl ?_
  refine zw_iconst 3 992 f189_991 rfl (by decide +kernel) ?_
  refine zw_iadd 3 993 f189_992 rfl (by decide +kernel) ?_
  refine zw_iaload_f 3 6 (xs 3) 994 f189_993 rfl rfl (by decide +kernel) (by decide +kernel) (by decide +kernel) rfl ?_
  refine zw_virtual_i 997 82 7398 [.ref 52, .int 0, .int (xs 2), .int (xs 3)] [(0, .ref 52), (1, .int 0), (2, .int (xs 2)), (3, .int (xs 3))] f189_994 rfl n189_122 k189_122_12 rfl rfl (by decide +kernel) (Nat.le_of_ble_eq_true rfl) rfl rfl (by decide +kernel) (by decide +kernel) rfl (Nat.le_of_ble_eq_true rfl) rfl ?_
  refine zWp.mono (m_forge_w0 (zro 6 xs) x (xs 2) (xs 3) h1 h2 h3 h4) ?_
  rintro r h2 rfl
  refine ⟨_, rfl, ?_⟩
  refine zw_ic_eq_t 1015 f189_997 (by decide +kernel) (by decide +kernel) ?_
  refine zw_iinc 6 [(3, .int 6), (2, .ref 52), (1, .ref 0), (0, .float 0)] 1018 f189_1015 rfl rfl (by decide +kernel) (by decide +kernel) rfl ?_
  refine zw_goto 18 f189_1018 (by decide +kernel) ?_
  refine zw_iload_n 19 f189_18 rfl rfl ?_
  refine zw_aload_f 20 f189_19 rfl rfl ?_
  refine zw_arraylength 6 21 f189_20 rfl rfl ?_
  refine zw_bipush 6 23 f189_21 rfl (by decide +kernel) ?_
  refine zw_isub 0 24 f189_23 rfl (by decide +kernel) ?_
  refine zw_ic_gt_t 1021 f189_24 (by decide +kernel) (by decide +kernel) ?_
  refine zw_iconst 1 1022 f189_1021 rfl (by decide +kernel) ?_
  refine zw_zreturn f189_1022 r189 u189 (by decide +kernel) ?_
  exact rfl
set_option maxRecDepth 100000 in
set_option maxHeartbeats 0 in
theorem l_forge_w1n (xs : Nat → Int32) (e0 : xs 0 &&& 31 = 25) (q1 : xs 1 = 1) (h1 : ¬ (xs 2) < -100) (h2 : ¬ 100 < (xs 2)) (h3 : ¬ (xs 3) < -100) (h4 : ¬ 100 < (xs 3)) (h5 : (xs 2) < 0) : zWp (zro 6 xs) 189 18 [(3, .int 0), (2, .ref 52), (1, .ref 0), (0, .float 0)] [] hF 82 7398 (fun r _ => r = some (.int 1)) := by
  refine zw_iload_n 19 f189_18 rfl rfl ?_
  refine zw_aload_f 20 f189_19 rfl rfl ?_
  refine zw_arraylength 6 21 f189_20 rfl rfl ?_
  refine zw_bipush 6 23 f189_21 rfl (by decide +kernel) ?_
  refine zw_isub 0 24 f189_23 rfl (by decide +kernel) ?_
  refine zw_ic_gt_f 27 1021 f189_24 (by decide +kernel) rfl (by decide +kernel) ?_
  refine zw_aload_f 28 f189_27 rfl rfl ?_
  refine zw_iload_n 29 f189_28 rfl rfl ?_
  refine zw_iaload_f 0 6 (xs 0) 30 f189_29 rfl rfl (by decide +kernel) (by decide +kernel) (by decide +kernel) rfl ?_
  refine zw_bipush 31 32 f189_30 rfl (by decide +kernel) ?_
  refine zw_iand 25 33 f189_32 rfl e0 ?_
  refine zw_table_i (off := 926) 959 f189_33 (by decide +kernel) (by decide +kernel) (by decide +kernel) ?_
  refine zw_aload_n 960 f189_959 rfl rfl ?_
  refine zw_aload_f 961 f189_960 rfl rfl ?_
  refine zw_iload_n 962 f189_961 rfl rfl ?_
  refine zw_iconst 1 963 f189_962 rfl (by decide +kernel) ?_
  refine zw_iadd 1 964 f189_963 rfl (by decide +kernel) ?_
  refine zw_iaload_f 1 6 1 965 f189_964 rfl rfl (by decide +kernel) (by decide +kernel) (by decide +kernel) q1 ?_
  refine zw_aload_f 966 f189_965 rfl rfl ?_
  refine zw_iload_n 967 f189_966 rfl rfl ?_
  refine zw_iconst 2 968 f189_967 rfl (by decide +kernel) ?_
  refine zw_iadd 2 969 f189_968 rfl (by decide +kernel) ?_
  refine zw_iaload_f 2 6 (xs 2) 970 f189_969 rfl rfl (by decide +kernel) (by decide +kernel) (by decide +kernel) rfl ?_
  refine zw_aload_f 971 f189_970 rfl rfl ?_
  refine zw_iload_n 972 f189_971 rfl rfl ?_
  refine zw_iconst 3 973 f189_972 rfl (by decide +kernel) ?_
  refine zw_iadd 3 974 f189_973 rfl (by decide +kernel) ?_
  refine zw_iaload_f 3 6 (xs 3) 975 f189_974 rfl rfl (by decide +kernel) (by decide +kernel) (by decide +kernel) rfl ?_
  refine zw_virtual_i 978 82 7398 [.ref 0, .int 1, .int (xs 2), .int (xs 3)] [(0, .ref 0), (1, .int 1), (2, .int (xs 2)), (3, .int (xs 3))] f189_975 rfl n189_119 k189_119_11 rfl rfl (by decide +kernel) (Nat.le_of_ble_eq_true rfl) rfl rfl (by decide +kernel) (by decide +kernel) rfl (Nat.le_of_ble_eq_true rfl) rfl ?_
  refine zWp.mono (x_forge_w1n (zro 6 xs) (xs 2) (xs 3) h1 h2 h3 h4 h5) ?_
  rintro r h1 ⟨rfl, hm⟩
  refine ⟨_, rfl, ?_⟩
  obtain ⟨x, rfl⟩ := zMF_ex hm
  refine zw_aload_n 979 f189_978 rfl rfl ?_
  refine zw_aload_f 980 f189_979 rfl rfl ?_
  refine zw_iload_n 981 f189_980 rfl rfl ?_
  refine zw_iconst 1 982 f189_981 rfl (by decide +kernel) ?_
  refine zw_iadd 1 983 f189_982 rfl (by decide +kernel) ?_
  refine zw_iaload_f 1 6 1 984 f189_983 rfl rfl (by decide +kernel) (by decide +kernel) (by decide +kernel) q1 ?_
  refine zw_aload_f 985 f189_984 rfl rfl ?_
  refine zw_iload_n 986 f189_985 rfl rfl ?_
  refine zw_iconst 2 987 f189_986 rfl (by decide +kernel) ?_
  refine zw_iadd 2 988 f189_987 rfl (by decide +kernel) ?_
  refine zw_iaload_f 2 6 (xs 2) 989 f189_988 rfl rfl (by decide +kernel) (by decide +kernel) (by decide +kernel) rfl ?_
  refine zw_aload_f 990 f189_989 rfl rfl ?_
  refine zw_iload_n 991 f189_990 rfl rfl ?_
  refine zw_iconst 3 992 f189_991 rfl (by decide +kernel) ?_
  refine zw_iadd 3 993 f189_992 rfl (by decide +kernel) ?_
  refine zw_iaload_f 3 6 (xs 3) 994 f189_993 rfl rfl (by decide +kernel) (by decide +kernel) (by decide +kernel) rfl ?_
  refine zw_virtual_i 997 82 7398 [.ref 52, .int 1, .int (xs 2), .int (xs 3)] [(0, .ref 52), (1, .int 1), (2, .int (xs 2)), (3, .int (xs 3))] f189_994 rfl n189_122 k189_122_12 rfl rfl (by decide +kernel) (Nat.le_of_ble_eq_true rfl) rfl rfl (by decide +kernel) (by decide +kernel) rfl (Nat.le_of_ble_eq_true rfl) rfl ?_
  refine zWp.mono (m_forge_w1n (zro 6 xs) x (xs 2) (xs 3) h1 h2 h3 h4 h5) ?_
  rintro r h2 rfl
  refine ⟨_, rfl, ?_⟩
  refine zw_ic_eq_t 1015 f189_997 (by decide +kernel) (by decide +kernel) ?_
  refine zw_iinc 6 [(3, .int 6), (2, .ref 52), (1, .ref 0), (0, .float 0)] 1018 f189_1015 rfl rfl (by decide +kernel) (by decide +kernel) rfl ?_
  refine zw_goto 18 f189_1018 (by decide +kernel) ?_
  refine zw_iload_n 19 f189_18 rfl rfl ?_
  refine zw_aload_f 20 f189_19 rfl rfl ?_
  refine zw_arraylength 6 21 f189_20 rfl rfl ?_
  refine zw_bipush 6 23 f189_21 rfl (by decide +kernel) ?_
  refine zw_isub 0 24 f189_23 rfl (by decide +kernel) ?_
  refine zw_ic_gt_t 1021 f189_24 (by decide +kernel) (by decide +kernel) ?_
  refine zw_iconst 1 1022 f189_1021 rfl (by decide +kernel) ?_
  refine zw_zreturn f189_1022 r189 u189 (by decide +kernel) ?_
  exact rfl
set_option maxRecDepth 100000 in
set_option maxHeartbeats 0 in
theorem l_forge_w1p (xs : Nat → Int32) (e0 : xs 0 &&& 31 = 25) (q1 : xs 1 = 1) (h1 : ¬ (xs 2) < -100) (h2 : ¬ 100 < (xs 2)) (h3 : ¬ (xs 3) < -100) (h4 : ¬ 100 < (xs 3)) (h5 : ¬ (xs 2) < 0) : zWp (zro 6 xs) 189 18 [(3, .int 0), (2, .ref 52), (1, .ref 0), (0, .float 0)] [] hF 82 7398 (fun r _ => r = some (.int 1)) := by
  refine zw_iload_n 19 f189_18 rfl rfl ?_
  refine zw_aload_f 20 f189_19 rfl rfl ?_
  refine zw_arraylength 6 21 f189_20 rfl rfl ?_
  refine zw_bipush 6 23 f189_21 rfl (by decide +kernel) ?_
  refine zw_isub 0 24 f189_23 rfl (by decide +kernel) ?_
  refine zw_ic_gt_f 27 1021 f189_24 (by decide +kernel) rfl (by decide +kernel) ?_
  refine zw_aload_f 28 f189_27 rfl rfl ?_
  refine zw_iload_n 29 f189_28 rfl rfl ?_
  refine zw_iaload_f 0 6 (xs 0) 30 f189_29 rfl rfl (by decide +kernel) (by decide +kernel) (by decide +kernel) rfl ?_
  refine zw_bipush 31 32 f189_30 rfl (by decide +kernel) ?_
  refine zw_iand 25 33 f189_32 rfl e0 ?_
  refine zw_table_i (off := 926) 959 f189_33 (by decide +kernel) (by decide +kernel) (by decide +kernel) ?_
  refine zw_aload_n 960 f189_959 rfl rfl ?_
  refine zw_aload_f 961 f189_960 rfl rfl ?_
  refine zw_iload_n 962 f189_961 rfl rfl ?_
  refine zw_iconst 1 963 f189_962 rfl (by decide +kernel) ?_
  refine zw_iadd 1 964 f189_963 rfl (by decide +kernel) ?_
  refine zw_iaload_f 1 6 1 965 f189_964 rfl rfl (by decide +kernel) (by decide +kernel) (by decide +kernel) q1 ?_
  refine zw_aload_f 966 f189_965 rfl rfl ?_
  refine zw_iload_n 967 f189_966 rfl rfl ?_
  refine zw_iconst 2 968 f189_967 rfl (by decide +kernel) ?_
  refine zw_iadd 2 969 f189_968 rfl (by decide +kernel) ?_
  refine zw_iaload_f 2 6 (xs 2) 970 f189_969 rfl rfl (by decide +kernel) (by decide +kernel) (by decide +kernel) rfl ?_
  refine zw_aload_f 971 f189_970 rfl rfl ?_
  refine zw_iload_n 972 f189_971 rfl rfl ?_
  refine zw_iconst 3 973 f189_972 rfl (by decide +kernel) ?_
  refine zw_iadd 3 974 f189_973 rfl (by decide +kernel) ?_
  refine zw_iaload_f 3 6 (xs 3) 975 f189_974 rfl rfl (by decide +kernel) (by decide +kernel) (by decide +kernel) rfl ?_
  refine zw_virtual_i 978 82 7398 [.ref 0, .int 1, .int (xs 2), .int (xs 3)] [(0, .ref 0), (1, .int 1), (2, .int (xs 2)), (3, .int (xs 3))] f189_975 rfl n189_119 k189_119_11 rfl rfl (by decide +kernel) (Nat.le_of_ble_eq_true rfl) rfl rfl (by decide +kernel) (by decide +kernel) rfl (Nat.le_of_ble_eq_true rfl) rfl ?_
  refine zWp.mono (x_forge_w1p (zro 6 xs) (xs 2) (xs 3) h1 h2 h3 h4 h5) ?_
  rintro r h1 ⟨rfl, hm⟩
  refine ⟨_, rfl, ?_⟩
  obtain ⟨x, rfl⟩ := zMF_ex hm
  refine zw_aload_n 979 f189_978 rfl rfl ?_
  refine zw_aload_f 980 f189_979 rfl rfl ?_
  refine zw_iload_n 981 f189_980 rfl rfl ?_
  refine zw_iconst 1 982 f189_981 rfl (by decide +kernel) ?_
  refine zw_iadd 1 983 f189_982 rfl (by decide +kernel) ?_
  refine zw_iaload_f 1 6 1 984 f189_983 rfl rfl (by decide +kernel) (by decide +kernel) (by decide +kernel) q1 ?_
  refine zw_aload_f 985 f189_984 rfl rfl ?_
  refine zw_iload_n 986 f189_985 rfl rfl ?_
  refine zw_iconst 2 987 f189_986 rfl (by decide +kernel) ?_
  refine zw_iadd 2 988 f189_987 rfl (by decide +kernel) ?_
  refine zw_iaload_f 2 6 (xs 2) 989 f189_988 rfl rfl (by decide +kernel) (by decide +kernel) (by decide +kernel) rfl ?_
  refine zw_aload_f 990 f189_989 rfl rfl ?_
  refine zw_iload_n 991 f189_990 rfl rfl ?_
  refine zw_iconst 3 992 f189_991 rfl (by decide +kernel) ?_
  refine zw_iadd 3 993 f189_992 rfl (by decide +kernel) ?_
  refine zw_iaload_f 3 6 (xs 3) 994 f189_993 rfl rfl (by decide +kernel) (by decide +kernel) (by decide +kernel) rfl ?_
  refine zw_virtual_i 997 82 7398 [.ref 52, .int 1, .int (xs 2), .int (xs 3)] [(0, .ref 52), (1, .int 1), (2, .int (xs 2)), (3, .int (xs 3))] f189_994 rfl n189_122 k189_122_12 rfl rfl (by decide +kernel) (Nat.le_of_ble_eq_true rfl) rfl rfl (by decide +kernel) (by decide +kernel) rfl (Nat.le_of_ble_eq_true rfl) rfl ?_
  refine zWp.mono (m_forge_w1p (zro 6 xs) x (xs 2) (xs 3) h1 h2 h3 h4 h5) ?_
  rintro r h2 rfl
  refine ⟨_, rfl, ?_⟩
  refine zw_ic_eq_t 1015 f189_997 (by decide +kernel) rfl ?_
  refine zw_iinc 6 [(3, .int 6), (2, .ref 52), (1, .ref 0), (0, .float 0)] 1018 f189_1015 rfl rfl (by decide +kernel) (by decide +kernel) rfl ?_
  refine zw_goto 18 f189_1018 (by decide +kernel) ?_
  refine zw_iload_n 19 f189_18 rfl rfl ?_
  refine zw_aload_f 20 f189_19 rfl rfl ?_
  refine zw_arraylength 6 21 f189_20 rfl rfl ?_
  refine zw_bipush 6 23 f189_21 rfl (by decide +kernel) ?_
  refine zw_isub 0 24 f189_23 rfl (by decide +kernel) ?_
  refine zw_ic_gt_t 1021 f189_24 (by decide +kernel) (by decide +kernel) ?_
  refine zw_iconst 1 1022 f189_1021 rfl (by decide +kernel) ?_
  refine zw_zreturn f189_1022 r189 u189 (by decide +kernel) ?_
  exact rfl
set_option maxRecDepth 100000 in
set_option maxHeartbeats 0 in
theorem l_forge_w2 (xs : Nat → Int32) (e0 : xs 0 &&& 31 = 25) (q1 : xs 1 = 2) (h1 : ¬ (xs 2) < -100) (h2 : ¬ 100 < (xs 2)) (h3 : ¬ (xs 3) < -100) (h4 : ¬ 100 < (xs 3)) : zWp (zro 6 xs) 189 18 [(3, .int 0), (2, .ref 52), (1, .ref 0), (0, .float 0)] [] hF 82 7398 (fun r _ => r = some (.int 1)) := by
  refine zw_iload_n 19 f189_18 rfl rfl ?_
  refine zw_aload_f 20 f189_19 rfl rfl ?_
  refine zw_arraylength 6 21 f189_20 rfl rfl ?_
  refine zw_bipush 6 23 f189_21 rfl (by decide +kernel) ?_
  refine zw_isub 0 24 f189_23 rfl (by decide +kernel) ?_
  refine zw_ic_gt_f 27 1021 f189_24 (by decide +kernel) rfl (by decide +kernel) ?_
  refine zw_aload_f 28 f189_27 rfl rfl ?_
  refine zw_iload_n 29 f189_28 rfl rfl ?_
  refine zw_iaload_f 0 6 (xs 0) 30 f189_29 rfl rfl (by decide +kernel) (by decide +kernel) (by decide +kernel) rfl ?_
  refine zw_bipush 31 32 f189_30 rfl (by decide +kernel) ?_
  refine zw_iand 25 33 f189_32 rfl e0 ?_
  refine zw_table_i (off := 926) 959 f189_33 (by decide +kernel) (by decide +kernel) (by decide +kernel) ?_
  refine zw_aload_n 960 f189_959 rfl rfl ?_
  refine zw_aload_f 961 f189_960 rfl rfl ?_
  refine zw_iload_n 962 f189_961 rfl rfl ?_
  refine zw_iconst 1 963 f189_962 rfl (by decide +kernel) ?_
  refine zw_iadd 1 964 f189_963 rfl (by decide +kernel) ?_
  refine zw_iaload_f 1 6 2 965 f189_964 rfl rfl (by decide +kernel) (by decide +kernel) (by decide +kernel) q1 ?_
  refine zw_aload_f 966 f189_965 rfl rfl ?_
  refine zw_iload_n 967 f189_966 rfl rfl ?_
  refine zw_iconst 2 968 f189_967 rfl (by decide +kernel) ?_
  refine zw_iadd 2 969 f189_968 rfl (by decide +kernel) ?_
  refine zw_iaload_f 2 6 (xs 2) 970 f189_969 rfl rfl (by decide +kernel) (by decide +kernel) (by decide +kernel) rfl ?_
  refine zw_aload_f 971 f189_970 rfl rfl ?_
  refine zw_iload_n 972 f189_971 rfl rfl ?_
  refine zw_iconst 3 973 f189_972 rfl (by decide +kernel) ?_
  refine zw_iadd 3 974 f189_973 rfl (by decide +kernel) ?_
  refine zw_iaload_f 3 6 (xs 3) 975 f189_974 rfl rfl (by decide +kernel) (by decide +kernel) (by decide +kernel) rfl ?_
  refine zw_virtual_i 978 82 7398 [.ref 0, .int 2, .int (xs 2), .int (xs 3)] [(0, .ref 0), (1, .int 2), (2, .int (xs 2)), (3, .int (xs 3))] f189_975 rfl n189_119 k189_119_11 rfl rfl (by decide +kernel) (Nat.le_of_ble_eq_true rfl) rfl rfl (by decide +kernel) (by decide +kernel) rfl (Nat.le_of_ble_eq_true rfl) rfl ?_
  refine zWp.mono (x_forge_w2 (zro 6 xs) (xs 2) (xs 3) h1 h2 h3 h4) ?_
  rintro r h1 ⟨rfl, hm⟩
  refine ⟨_, rfl, ?_⟩
  obtain ⟨x, rfl⟩ := zMF_ex hm
  refine zw_aload_n 979 f189_978 rfl rfl ?_
  refine zw_aload_f 980 f189_979 rfl rfl ?_
  refine zw_iload_n 981 f189_980 rfl rfl ?_
  refine zw_iconst 1 982 f189_981 rfl (by decide +kernel) ?_
  refine zw_iadd 1 983 f189_982 rfl (by decide +kernel) ?_
  refine zw_iaload_f 1 6 2 984 f189_983 rfl rfl (by decide +kernel) (by decide +kernel) (by decide +kernel) q1 ?_
  refine zw_aload_f 985 f189_984 rfl rfl ?_
  refine zw_iload_n 986 f189_985 rfl rfl ?_
  refine zw_iconst 2 987 f189_986 rfl (by decide +kernel) ?_
  refine zw_iadd 2 988 f189_987 rfl (by decide +kernel) ?_
  refine zw_iaload_f 2 6 (xs 2) 989 f189_988 rfl rfl (by decide +kernel) (by decide +kernel) (by decide +kernel) rfl ?_
  refine zw_aload_f 990 f189_989 rfl rfl ?_
  refine zw_iload_n 991 f189_990 rfl rfl ?_
  refine zw_iconst 3 992 f189_991 rfl (by decide +kernel) ?_
  refine zw_iadd 3 993 f189_992 rfl (by decide +kernel) ?_
  refine zw_iaload_f 3 6 (xs 3) 994 f189_993 rfl rfl (by decide +kernel) (by decide +kernel) (by decide +kernel) rfl ?_
  refine zw_virtual_i 997 82 7398 [.ref 52, .int 2, .int (xs 2), .int (xs 3)] [(0, .ref 52), (1, .int 2), (2, .int (xs 2)), (3, .int (xs 3))] f189_994 rfl n189_122 k189_122_12 rfl rfl (by decide +kernel) (Nat.le_of_ble_eq_true rfl) rfl rfl (by decide +kernel) (by decide +kernel) rfl (Nat.le_of_ble_eq_true rfl) rfl ?_
  refine zWp.mono (m_forge_w2 (zro 6 xs) x (xs 2) (xs 3) h1 h2 h3 h4) ?_
  rintro r h2 rfl
  refine ⟨_, rfl, ?_⟩
  refine zw_ic_eq_t 1015 f189_997 (by decide +kernel) (by decide +kernel) ?_
  refine zw_iinc 6 [(3, .int 6), (2, .ref 52), (1, .ref 0), (0, .float 0)] 1018 f189_1015 rfl rfl (by decide +kernel) (by decide +kernel) rfl ?_
  refine zw_goto 18 f189_1018 (by decide +kernel) ?_
  refine zw_iload_n 19 f189_18 rfl rfl ?_
  refine zw_aload_f 20 f189_19 rfl rfl ?_
  refine zw_arraylength 6 21 f189_20 rfl rfl ?_
  refine zw_bipush 6 23 f189_21 rfl (by decide +kernel) ?_
  refine zw_isub 0 24 f189_23 rfl (by decide +kernel) ?_
  refine zw_ic_gt_t 1021 f189_24 (by decide +kernel) (by decide +kernel) ?_
  refine zw_iconst 1 1022 f189_1021 rfl (by decide +kernel) ?_
  refine zw_zreturn f189_1022 r189 u189 (by decide +kernel) ?_
  exact rfl
set_option maxRecDepth 100000 in
set_option maxHeartbeats 0 in
theorem l_forge_w3a (xs : Nat → Int32) (e0 : xs 0 &&& 31 = 25) (q1 : xs 1 = 3) (q2 : xs 2 = 0) (q3 : xs 3 = 0)  : zWp (zro 6 xs) 189 18 [(3, .int 0), (2, .ref 52), (1, .ref 0), (0, .float 0)] [] hF 82 7398 (fun r _ => r = some (.int 1)) := by
  refine zw_iload_n 19 f189_18 rfl rfl ?_
  refine zw_aload_f 20 f189_19 rfl rfl ?_
  refine zw_arraylength 6 21 f189_20 rfl rfl ?_
  refine zw_bipush 6 23 f189_21 rfl (by decide +kernel) ?_
  refine zw_isub 0 24 f189_23 rfl (by decide +kernel) ?_
  refine zw_ic_gt_f 27 1021 f189_24 (by decide +kernel) rfl (by decide +kernel) ?_
  refine zw_aload_f 28 f189_27 rfl rfl ?_
  refine zw_iload_n 29 f189_28 rfl rfl ?_
  refine zw_iaload_f 0 6 (xs 0) 30 f189_29 rfl rfl (by decide +kernel) (by decide +kernel) (by decide +kernel) rfl ?_
  refine zw_bipush 31 32 f189_30 rfl (by decide +kernel) ?_
  refine zw_iand 25 33 f189_32 rfl e0 ?_
  refine zw_table_i (off := 926) 959 f189_33 (by decide +kernel) (by decide +kernel) (by decide +kernel) ?_
  refine zw_aload_n 960 f189_959 rfl rfl ?_
  refine zw_aload_f 961 f189_960 rfl rfl ?_
  refine zw_iload_n 962 f189_961 rfl rfl ?_
  refine zw_iconst 1 963 f189_962 rfl (by decide +kernel) ?_
  refine zw_iadd 1 964 f189_963 rfl (by decide +kernel) ?_
  refine zw_iaload_f 1 6 3 965 f189_964 rfl rfl (by decide +kernel) (by decide +kernel) (by decide +kernel) q1 ?_
  refine zw_aload_f 966 f189_965 rfl rfl ?_
  refine zw_iload_n 967 f189_966 rfl rfl ?_
  refine zw_iconst 2 968 f189_967 rfl (by decide +kernel) ?_
  refine zw_iadd 2 969 f189_968 rfl (by decide +kernel) ?_
  refine zw_iaload_f 2 6 0 970 f189_969 rfl rfl (by decide +kernel) (by decide +kernel) (by decide +kernel) q2 ?_
  refine zw_aload_f 971 f189_970 rfl rfl ?_
  refine zw_iload_n 972 f189_971 rfl rfl ?_
  refine zw_iconst 3 973 f189_972 rfl (by decide +kernel) ?_
  refine zw_iadd 3 974 f189_973 rfl (by decide +kernel) ?_
  refine zw_iaload_f 3 6 0 975 f189_974 rfl rfl (by decide +kernel) (by decide +kernel) (by decide +kernel) q3 ?_
  refine zw_virtual_i 978 82 7398 [.ref 0, .int 3, .int 0, .int 0] [(0, .ref 0), (1, .int 3), (2, .int 0), (3, .int 0)] f189_975 rfl n189_119 k189_119_11 rfl rfl (by decide +kernel) (Nat.le_of_ble_eq_true rfl) rfl rfl (by decide +kernel) (by decide +kernel) rfl (Nat.le_of_ble_eq_true rfl) rfl ?_
  refine zWp.mono (x_forge_w3a (zro 6 xs) ) ?_
  rintro r h1 ⟨rfl, hm⟩
  refine ⟨_, rfl, ?_⟩
  obtain ⟨x, rfl⟩ := zMF_ex hm
  refine zw_aload_n 979 f189_978 rfl rfl ?_
  refine zw_aload_f 980 f189_979 rfl rfl ?_
  refine zw_iload_n 981 f189_980 rfl rfl ?_
  refine zw_iconst 1 982 f189_981 rfl (by decide +kernel) ?_
  refine zw_iadd 1 983 f189_982 rfl (by decide +kernel) ?_
  refine zw_iaload_f 1 6 3 984 f189_983 rfl rfl (by decide +kernel) (by decide +kernel) (by decide +kernel) q1 ?_
  refine zw_aload_f 985 f189_984 rfl rfl ?_
  refine zw_iload_n 986 f189_985 rfl rfl ?_
  refine zw_iconst 2 987 f189_986 rfl (by decide +kernel) ?_
  refine zw_iadd 2 988 f189_987 rfl (by decide +kernel) ?_
  refine zw_iaload_f 2 6 0 989 f189_988 rfl rfl (by decide +kernel) (by decide +kernel) (by decide +kernel) q2 ?_
  refine zw_aload_f 990 f189_989 rfl rfl ?_
  refine zw_iload_n 991 f189_990 rfl rfl ?_
  refine zw_iconst 3 992 f189_991 rfl (by decide +kernel) ?_
  refine zw_iadd 3 993 f189_992 rfl (by decide +kernel) ?_
  refine zw_iaload_f 3 6 0 994 f189_993 rfl rfl (by decide +kernel) (by decide +kernel) (by decide +kernel) q3 ?_
  refine zw_virtual_i 997 82 7398 [.ref 52, .int 3, .int 0, .int 0] [(0, .ref 52), (1, .int 3), (2, .int 0), (3, .int 0)] f189_994 rfl n189_122 k189_122_12 rfl rfl (by decide +kernel) (Nat.le_of_ble_eq_true rfl) rfl rfl (by decide +kernel) (by decide +kernel) rfl (Nat.le_of_ble_eq_true rfl) rfl ?_
  refine zWp.mono (m_forge_w3a (zro 6 xs) x ) ?_
  rintro r h2 rfl
  refine ⟨_, rfl, ?_⟩
  refine zw_ic_eq_t 1015 f189_997 (by decide +kernel) (by decide +kernel) ?_
  refine zw_iinc 6 [(3, .int 6), (2, .ref 52), (1, .ref 0), (0, .float 0)] 1018 f189_1015 rfl rfl (by decide +kernel) (by decide +kernel) rfl ?_
  refine zw_goto 18 f189_1018 (by decide +kernel) ?_
  refine zw_iload_n 19 f189_18 rfl rfl ?_
  refine zw_aload_f 20 f189_19 rfl rfl ?_
  refine zw_arraylength 6 21 f189_20 rfl rfl ?_
  refine zw_bipush 6 23 f189_21 rfl (by decide +kernel) ?_
  refine zw_isub 0 24 f189_23 rfl (by decide +kernel) ?_
  refine zw_ic_gt_t 1021 f189_24 (by decide +kernel) (by decide +kernel) ?_
  refine zw_iconst 1 1022 f189_1021 rfl (by decide +kernel) ?_
  refine zw_zreturn f189_1022 r189 u189 (by decide +kernel) ?_
  exact rfl
set_option maxRecDepth 100000 in
set_option maxHeartbeats 0 in
theorem l_forge_w3b (xs : Nat → Int32) (e0 : xs 0 &&& 31 = 25) (q1 : xs 1 = 3) (h1 : ¬ (xs 2) < -100) (h2 : ¬ 100 < (xs 2)) (h3 : ¬ (xs 3) < -100) (h4 : ¬ 100 < (xs 3)) (h5 : (xs 2) < 0) : zWp (zro 6 xs) 189 18 [(3, .int 0), (2, .ref 52), (1, .ref 0), (0, .float 0)] [] hF 82 7398 (fun r _ => r = some (.int 1)) := by
  refine zw_iload_n 19 f189_18 rfl rfl ?_
  refine zw_aload_f 20 f189_19 rfl rfl ?_
  refine zw_arraylength 6 21 f189_20 rfl rfl ?_
  refine zw_bipush 6 23 f189_21 rfl (by decide +kernel) ?_
  refine zw_isub 0 24 f189_23 rfl (by decide +kernel) ?_
  refine zw_ic_gt_f 27 1021 f189_24 (by decide +kernel) rfl (by decide +kernel) ?_
  refine zw_aload_f 28 f189_27 rfl rfl ?_
  refine zw_iload_n 29 f189_28 rfl rfl ?_
  refine zw_iaload_f 0 6 (xs 0) 30 f189_29 rfl rfl (by decide +kernel) (by decide +kernel) (by decide +kernel) rfl ?_
  refine zw_bipush 31 32 f189_30 rfl (by decide +kernel) ?_
  refine zw_iand 25 33 f189_32 rfl e0 ?_
  refine zw_table_i (off := 926) 959 f189_33 (by decide +kernel) (by decide +kernel) (by decide +kernel) ?_
  refine zw_aload_n 960 f189_959 rfl rfl ?_
  refine zw_aload_f 961 f189_960 rfl rfl ?_
  refine zw_iload_n 962 f189_961 rfl rfl ?_
  refine zw_iconst 1 963 f189_962 rfl (by decide +kernel) ?_
  refine zw_iadd 1 964 f189_963 rfl (by decide +kernel) ?_
  refine zw_iaload_f 1 6 3 965 f189_964 rfl rfl (by decide +kernel) (by decide +kernel) (by decide +kernel) q1 ?_
  refine zw_aload_f 966 f189_965 rfl rfl ?_
  refine zw_iload_n 967 f189_966 rfl rfl ?_
  refine zw_iconst 2 968 f189_967 rfl (by decide +kernel) ?_
  refine zw_iadd 2 969 f189_968 rfl (by decide +kernel) ?_
  refine zw_iaload_f 2 6 (xs 2) 970 f189_969 rfl rfl (by decide +kernel) (by decide +kernel) (by decide +kernel) rfl ?_
  refine zw_aload_f 971 f189_970 rfl rfl ?_
  refine zw_iload_n 972 f189_971 rfl rfl ?_
  refine zw_iconst 3 973 f189_972 rfl (by decide +kernel) ?_
  refine zw_iadd 3 974 f189_973 rfl (by decide +kernel) ?_
  refine zw_iaload_f 3 6 (xs 3) 975 f189_974 rfl rfl (by decide +kernel) (by decide +kernel) (by decide +kernel) rfl ?_
  refine zw_virtual_i 978 82 7398 [.ref 0, .int 3, .int (xs 2), .int (xs 3)] [(0, .ref 0), (1, .int 3), (2, .int (xs 2)), (3, .int (xs 3))] f189_975 rfl n189_119 k189_119_11 rfl rfl (by decide +kernel) (Nat.le_of_ble_eq_true rfl) rfl rfl (by decide +kernel) (by decide +kernel) rfl (Nat.le_of_ble_eq_true rfl) rfl ?_
  refine zWp.mono (x_forge_w3b (zro 6 xs) (xs 2) (xs 3) h1 h2 h3 h4 h5) ?_
  rintro r h1 ⟨rfl, hm⟩
  refine ⟨_, rfl, ?_⟩
  obtain ⟨x, rfl⟩ := zMF_ex hm
  refine zw_aload_n 979 f189_978 rfl rfl ?_
  refine zw_aload_f 980 f189_979 rfl rfl ?_
  refine zw_iload_n 981 f189_980 rfl rfl ?_
  refine zw_iconst 1 982 f189_981 rfl (by decide +kernel) ?_
  refine zw_iadd 1 983 f189_982 rfl (by decide +kernel) ?_
  refine zw_iaload_f 1 6 3 984 f189_983 rfl rfl (by decide +kernel) (by decide +kernel) (by decide +kernel) q1 ?_
  refine zw_aload_f 985 f189_984 rfl rfl ?_
  refine zw_iload_n 986 f189_985 rfl rfl ?_
  refine zw_iconst 2 987 f189_986 rfl (by decide +kernel) ?_
  refine zw_iadd 2 988 f189_987 rfl (by decide +kernel) ?_
  refine zw_iaload_f 2 6 (xs 2) 989 f189_988 rfl rfl (by decide +kernel) (by decide +kernel) (by decide +kernel) rfl ?_
  refine zw_aload_f 990 f189_989 rfl rfl ?_
  refine zw_iload_n 991 f189_990 rfl rfl ?_
  refine zw_iconst 3 992 f189_991 rfl (by decide +kernel) ?_
  refine zw_iadd 3 993 f189_992 rfl (by decide +kernel) ?_
  refine zw_iaload_f 3 6 (xs 3) 994 f189_993 rfl rfl (by decide +kernel) (by decide +kernel) (by decide +kernel) rfl ?_
  refine zw_virtual_i 997 82 7398 [.ref 52, .int 3, .int (xs 2), .int (xs 3)] [(0, .ref 52), (1, .int 3), (2, .int (xs 2)), (3, .int (xs 3))] f189_994 rfl n189_122 k189_122_12 rfl rfl (by decide +kernel) (Nat.le_of_ble_eq_true rfl) rfl rfl (by decide +kernel) (by decide +kernel) rfl (Nat.le_of_ble_eq_true rfl) rfl ?_
  refine zWp.mono (m_forge_w3b (zro 6 xs) x (xs 2) (xs 3) h1 h2 h3 h4 h5) ?_
  rintro r h2 rfl
  refine ⟨_, rfl, ?_⟩
  refine zw_ic_eq_t 1015 f189_997 (by decide +kernel) (by decide +kernel) ?_
  refine zw_iinc 6 [(3, .int 6), (2, .ref 52), (1, .ref 0), (0, .float 0)] 1018 f189_1015 rfl rfl (by decide +kernel) (by decide +kernel) rfl ?_
  refine zw_goto 18 f189_1018 (by decide +kernel) ?_
  refine zw_iload_n 19 f189_18 rfl rfl ?_
  refine zw_aload_f 20 f189_19 rfl rfl ?_
  refine zw_arraylength 6 21 f189_20 rfl rfl ?_
  refine zw_bipush 6 23 f189_21 rfl (by decide +kernel) ?_
  refine zw_isub 0 24 f189_23 rfl (by decide +kernel) ?_
  refine zw_ic_gt_t 1021 f189_24 (by decide +kernel) (by decide +kernel) ?_
  refine zw_iconst 1 1022 f189_1021 rfl (by decide +kernel) ?_
  refine zw_zreturn f189_1022 r189 u189 (by decide +kernel) ?_
  exact rfl
set_option maxRecDepth 100000 in
set_option maxHeartbeats 0 in
theorem l_forge_w3c (xs : Nat → Int32) (e0 : xs 0 &&& 31 = 25) (q1 : xs 1 = 3) (h1 : ¬ (xs 2) < -100) (h2 : ¬ 100 < (xs 2)) (h3 : ¬ (xs 3) < -100) (h4 : ¬ 100 < (xs 3)) (h5 : ¬ (xs 2) < 0) (h6 : (xs 3) < 0) : zWp (zro 6 xs) 189 18 [(3, .int 0), (2, .ref 52), (1, .ref 0), (0, .float 0)] [] hF 82 7398 (fun r _ => r = some (.int 1)) := by
  refine zw_iload_n 19 f189_18 rfl rfl ?_
  refine zw_aload_f 20 f189_19 rfl rfl ?_
  refine zw_arraylength 6 21 f189_20 rfl rfl ?_
  refine zw_bipush 6 23 f189_21 rfl (by decide +kernel) ?_
  refine zw_isub 0 24 f189_23 rfl (by decide +kernel) ?_
  refine zw_ic_gt_f 27 1021 f189_24 (by decide +kernel) rfl (by decide +kernel) ?_
  refine zw_aload_f 28 f189_27 rfl rfl ?_
  refine zw_iload_n 29 f189_28 rfl rfl ?_
  refine zw_iaload_f 0 6 (xs 0) 30 f189_29 rfl rfl (by decide +kernel) (by decide +kernel) (by decide +kernel) rfl ?_
  refine zw_bipush 31 32 f189_30 rfl (by decide +kernel) ?_
  refine zw_iand 25 33 f189_32 rfl e0 ?_
  refine zw_table_i (off := 926) 959 f189_33 (by decide +kernel) (by decide +kernel) (by decide +kernel) ?_
  refine zw_aload_n 960 f189_959 rfl rfl ?_
  refine zw_aload_f 961 f189_960 rfl rfl ?_
  refine zw_iload_n 962 f189_961 rfl rfl ?_
  refine zw_iconst 1 963 f189_962 rfl (by decide +kernel) ?_
  refine zw_iadd 1 964 f189_963 rfl (by decide +kernel) ?_
  refine zw_iaload_f 1 6 3 965 f189_964 rfl rfl (by decide +kernel) (by decide +kernel) (by decide +kernel) q1 ?_
  refine zw_aload_f 966 f189_965 rfl rfl ?_
  refine zw_iload_n 967 f189_966 rfl rfl ?_
  refine zw_iconst 2 968 f189_967 rfl (by decide +kernel) ?_
  refine zw_iadd 2 969 f189_968 rfl (by decide +kernel) ?_
  refine zw_iaload_f 2 6 (xs 2) 970 f189_969 rfl rfl (by decide +kernel) (by decide +kernel) (by decide +kernel) rfl ?_
  refine zw_aload_f 971 f189_970 rfl rfl ?_
  refine zw_iload_n 972 f189_971 rfl rfl ?_
  refine zw_iconst 3 973 f189_972 rfl (by decide +kernel) ?_
  refine zw_iadd 3 974 f189_973 rfl (by decide +kernel) ?_
  refine zw_iaload_f 3 6 (xs 3) 975 f189_974 rfl rfl (by decide +kernel) (by decide +kernel) (by decide +kernel) rfl ?_
  refine zw_virtual_i 978 82 7398 [.ref 0, .int 3, .int (xs 2), .int (xs 3)] [(0, .ref 0), (1, .int 3), (2, .int (xs 2)), (3, .int (xs 3))] f189_975 rfl n189_119 k189_119_11 rfl rfl (by decide +kernel) (Nat.le_of_ble_eq_true rfl) rfl rfl (by decide +kernel) (by decide +kernel) rfl (Nat.le_of_ble_eq_true rfl) rfl ?_
  refine zWp.mono (x_forge_w3c (zro 6 xs) (xs 2) (xs 3) h1 h2 h3 h4 h5 h6) ?_
  rintro r h1 ⟨rfl, hm⟩
  refine ⟨_, rfl, ?_⟩
  obtain ⟨x, rfl⟩ := zMF_ex hm
  refine zw_aload_n 979 f189_978 rfl rfl ?_
  refine zw_aload_f 980 f189_979 rfl rfl ?_
  refine zw_iload_n 981 f189_980 rfl rfl ?_
  refine zw_iconst 1 982 f189_981 rfl (by decide +kernel) ?_
  refine zw_iadd 1 983 f189_982 rfl (by decide +kernel) ?_
  refine zw_iaload_f 1 6 3 984 f189_983 rfl rfl (by decide +kernel) (by decide +kernel) (by decide +kernel) q1 ?_
  refine zw_aload_f 985 f189_984 rfl rfl ?_
  refine zw_iload_n 986 f189_985 rfl rfl ?_
  refine zw_iconst 2 987 f189_986 rfl (by decide +kernel) ?_
  refine zw_iadd 2 988 f189_987 rfl (by decide +kernel) ?_
  refine zw_iaload_f 2 6 (xs 2) 989 f189_988 rfl rfl (by decide +kernel) (by decide +kernel) (by decide +kernel) rfl ?_
  refine zw_aload_f 990 f189_989 rfl rfl ?_
  refine zw_iload_n 991 f189_990 rfl rfl ?_
  refine zw_iconst 3 992 f189_991 rfl (by decide +kernel) ?_
  refine zw_iadd 3 993 f189_992 rfl (by decide +kernel) ?_
  refine zw_iaload_f 3 6 (xs 3) 994 f189_993 rfl rfl (by decide +kernel) (by decide +kernel) (by decide +kernel) rfl ?_
  refine zw_virtual_i 997 82 7398 [.ref 52, .int 3, .int (xs 2), .int (xs 3)] [(0, .ref 52), (1, .int 3), (2, .int (xs 2)), (3, .int (xs 3))] f189_994 rfl n189_122 k189_122_12 rfl rfl (by decide +kernel) (Nat.le_of_ble_eq_true rfl) rfl rfl (by decide +kernel) (by decide +kernel) rfl (Nat.le_of_ble_eq_true rfl) rfl ?_
  refine zWp.mono (m_forge_w3c (zro 6 xs) x (xs 2) (xs 3) h1 h2 h3 h4 h5 h6) ?_
  rintro r h2 rfl
  refine ⟨_, rfl, ?_⟩
  refine zw_ic_eq_t 1015 f189_997 (by decide +kernel) (by decide +kernel) ?_
  refine zw_iinc 6 [(3, .int 6), (2, .ref 52), (1, .ref 0), (0, .float 0)] 1018 f189_1015 rfl rfl (by decide +kernel) (by decide +kernel) rfl ?_
  refine zw_goto 18 f189_1018 (by decide +kernel) ?_
  refine zw_iload_n 19 f189_18 rfl rfl ?_
  refine zw_aload_f 20 f189_19 rfl rfl ?_
  refine zw_arraylength 6 21 f189_20 rfl rfl ?_
  refine zw_bipush 6 23 f189_21 rfl (by decide +kernel) ?_
  refine zw_isub 0 24 f189_23 rfl (by decide +kernel) ?_
  refine zw_ic_gt_t 1021 f189_24 (by decide +kernel) (by decide +kernel) ?_
  refine zw_iconst 1 1022 f189_1021 rfl (by decide +kernel) ?_
  refine zw_zreturn f189_1022 r189 u189 (by decide +kernel) ?_
  exact rfl
set_option maxRecDepth 100000 in
set_option maxHeartbeats 0 in
theorem l_forge_w3d (xs : Nat → Int32) (e0 : xs 0 &&& 31 = 25) (q1 : xs 1 = 3) (h1 : ¬ (xs 2) < -100) (h2 : ¬ 100 < (xs 2)) (h3 : ¬ (xs 3) < -100) (h4 : ¬ 100 < (xs 3)) (h5 : ¬ (xs 2) < 0) (h6 : ¬ (xs 3) < 0) (h7 : 6 < (xs 2)) : zWp (zro 6 xs) 189 18 [(3, .int 0), (2, .ref 52), (1, .ref 0), (0, .float 0)] [] hF 82 7398 (fun r _ => r = some (.int 1)) := by
  refine zw_iload_n 19 f189_18 rfl rfl ?_
  refine zw_aload_f 20 f189_19 rfl rfl ?_
  refine zw_arraylength 6 21 f189_20 rfl rfl ?_
  refine zw_bipush 6 23 f189_21 rfl (by decide +kernel) ?_
  refine zw_isub 0 24 f189_23 rfl (by decide +kernel) ?_
  refine zw_ic_gt_f 27 1021 f189_24 (by decide +kernel) rfl (by decide +kernel) ?_
  refine zw_aload_f 28 f189_27 rfl rfl ?_
  refine zw_iload_n 29 f189_28 rfl rfl ?_
  refine zw_iaload_f 0 6 (xs 0) 30 f189_29 rfl rfl (by decide +kernel) (by decide +kernel) (by decide +kernel) rfl ?_
  refine zw_bipush 31 32 f189_30 rfl (by decide +kernel) ?_
  refine zw_iand 25 33 f189_32 rfl e0 ?_
  refine zw_table_i (off := 926) 959 f189_33 (by decide +kernel) (by decide +kernel) (by decide +kernel) ?_
  refine zw_aload_n 960 f189_959 rfl rfl ?_
  refine zw_aload_f 961 f189_960 rfl rfl ?_
  refine zw_iload_n 962 f189_961 rfl rfl ?_
  refine zw_iconst 1 963 f189_962 rfl (by decide +kernel) ?_
  refine zw_iadd 1 964 f189_963 rfl (by decide +kernel) ?_
  refine zw_iaload_f 1 6 3 965 f189_964 rfl rfl (by decide +kernel) (by decide +kernel) (by decide +kernel) q1 ?_
  refine zw_aload_f 966 f189_965 rfl rfl ?_
  refine zw_iload_n 967 f189_966 rfl rfl ?_
  refine zw_iconst 2 968 f189_967 rfl (by decide +kernel) ?_
  refine zw_iadd 2 969 f189_968 rfl (by decide +kernel) ?_
  refine zw_iaload_f 2 6 (xs 2) 970 f189_969 rfl rfl (by decide +kernel) (by decide +kernel) (by decide +kernel) rfl ?_
  refine zw_aload_f 971 f189_970 rfl rfl ?_
  refine zw_iload_n 972 f189_971 rfl rfl ?_
  refine zw_iconst 3 973 f189_972 rfl (by decide +kernel) ?_
  refine zw_iadd 3 974 f189_973 rfl (by decide +kernel) ?_
  refine zw_iaload_f 3 6 (xs 3) 975 f189_974 rfl rfl (by decide +kernel) (by decide +kernel) (by decide +kernel) rfl ?_
  refine zw_virtual_i 978 82 7398 [.ref 0, .int 3, .int (xs 2), .int (xs 3)] [(0, .ref 0), (1, .int 3), (2, .int (xs 2)), (3, .int (xs 3))] f189_975 rfl n189_119 k189_119_11 rfl rfl (by decide +kernel) (Nat.le_of_ble_eq_true rfl) rfl rfl (by decide +kernel) (by decide +kernel) rfl (Nat.le_of_ble_eq_true rfl) rfl ?_
  refine zWp.mono (x_forge_w3d (zro 6 xs) (xs 2) (xs 3) h1 h2 h3 h4 h5 h6 h7) ?_
  rintro r h1 ⟨rfl, hm⟩
  refine ⟨_, rfl, ?_⟩
  obtain ⟨x, rfl⟩ := zMF_ex hm
  refine zw_aload_n 979 f189_978 rfl rfl ?_
  refine zw_aload_f 980 f189_979 rfl rfl ?_
  refine zw_iload_n 981 f189_980 rfl rfl ?_
  refine zw_iconst 1 982 f189_981 rfl (by decide +kernel) ?_
  refine zw_iadd 1 983 f189_982 rfl (by decide +kernel) ?_
  refine zw_iaload_f 1 6 3 984 f189_983 rfl rfl (by decide +kernel) (by decide +kernel) (by decide +kernel) q1 ?_
  refine zw_aload_f 985 f189_984 rfl rfl ?_
  refine zw_iload_n 986 f189_985 rfl rfl ?_
  refine zw_iconst 2 987 f189_986 rfl (by decide +kernel) ?_
  refine zw_iadd 2 988 f189_987 rfl (by decide +kernel) ?_
  refine zw_iaload_f 2 6 (xs 2) 989 f189_988 rfl rfl (by decide +kernel) (by decide +kernel) (by decide +kernel) rfl ?_
  refine zw_aload_f 990 f189_989 rfl rfl ?_
  refine zw_iload_n 991 f189_990 rfl rfl ?_
  refine zw_iconst 3 992 f189_991 rfl (by decide +kernel) ?_
  refine zw_iadd 3 993 f189_992 rfl (by decide +kernel) ?_
  refine zw_iaload_f 3 6 (xs 3) 994 f189_993 rfl rfl (by decide +kernel) (by decide +kernel) (by decide +kernel) rfl ?_
  refine zw_virtual_i 997 82 7398 [.ref 52, .int 3, .int (xs 2), .int (xs 3)] [(0, .ref 52), (1, .int 3), (2, .int (xs 2)), (3, .int (xs 3))] f189_994 rfl n189_122 k189_122_12 rfl rfl (by decide +kernel) (Nat.le_of_ble_eq_true rfl) rfl rfl (by decide +kernel) (by decide +kernel) rfl (Nat.le_of_ble_eq_true rfl) rfl ?_
  refine zWp.mono (m_forge_w3d (zro 6 xs) x (xs 2) (xs 3) h1 h2 h3 h4 h5 h6 h7) ?_
  rintro r h2 rfl
  refine ⟨_, rfl, ?_⟩
  refine zw_ic_eq_t 1015 f189_997 (by decide +kernel) (by decide +kernel) ?_
  refine zw_iinc 6 [(3, .int 6), (2, .ref 52), (1, .ref 0), (0, .float 0)] 1018 f189_1015 rfl rfl (by decide +kernel) (by decide +kernel) rfl ?_
  refine zw_goto 18 f189_1018 (by decide +kernel) ?_
  refine zw_iload_n 19 f189_18 rfl rfl ?_
  refine zw_aload_f 20 f189_19 rfl rfl ?_
  refine zw_arraylength 6 21 f189_20 rfl rfl ?_
  refine zw_bipush 6 23 f189_21 rfl (by decide +kernel) ?_
  refine zw_isub 0 24 f189_23 rfl (by decide +kernel) ?_
  refine zw_ic_gt_t 1021 f189_24 (by decide +kernel) (by decide +kernel) ?_
  refine zw_iconst 1 1022 f189_1021 rfl (by decide +kernel) ?_
  refine zw_zreturn f189_1022 r189 u189 (by decide +kernel) ?_
  exact rfl
set_option maxRecDepth 100000 in
set_option maxHeartbeats 0 in
theorem l_forge_w3e (xs : Nat → Int32) (e0 : xs 0 &&& 31 = 25) (q1 : xs 1 = 3) (h1 : ¬ (xs 2) < -100) (h2 : ¬ 100 < (xs 2)) (h3 : ¬ (xs 3) < -100) (h4 : ¬ 100 < (xs 3)) (h5 : ¬ (xs 2) < 0) (h6 : ¬ (xs 3) < 0) (h7 : ¬ 6 < (xs 2)) (h8 : 0 < (xs 3) + (xs 2)) : zWp (zro 6 xs) 189 18 [(3, .int 0), (2, .ref 52), (1, .ref 0), (0, .float 0)] [] hF 82 7398 (fun r _ => r = some (.int 1)) := by
  refine zw_iload_n 19 f189_18 rfl rfl ?_
  refine zw_aload_f 20 f189_19 rfl rfl ?_
  refine zw_arraylength 6 21 f189_20 rfl rfl ?_
  refine zw_bipush 6 23 f189_21 rfl (by decide +kernel) ?_
  refine zw_isub 0 24 f189_23 rfl (by decide +kernel) ?_
  refine zw_ic_gt_f 27 1021 f189_24 (by decide +kernel) rfl (by decide +kernel) ?_
  refine zw_aload_f 28 f189_27 rfl rfl ?_
  refine zw_iload_n 29 f189_28 rfl rfl ?_
  refine zw_iaload_f 0 6 (xs 0) 30 f189_29 rfl rfl (by decide +kernel) (by decide +kernel) (by decide +kernel) rfl ?_
  refine zw_bipush 31 32 f189_30 rfl (by decide +kernel) ?_
  refine zw_iand 25 33 f189_32 rfl e0 ?_
  refine zw_table_i (off := 926) 959 f189_33 (by decide +kernel) (by decide +kernel) (by decide +kernel) ?_
  refine zw_aload_n 960 f189_959 rfl rfl ?_
  refine zw_aload_f 961 f189_960 rfl rfl ?_
  refine zw_iload_n 962 f189_961 rfl rfl ?_
  refine zw_iconst 1 963 f189_962 rfl (by decide +kernel) ?_
  refine zw_iadd 1 964 f189_963 rfl (by decide +kernel) ?_
  refine zw_iaload_f 1 6 3 965 f189_964 rfl rfl (by decide +kernel) (by decide +kernel) (by decide +kernel) q1 ?_
  refine zw_aload_f 966 f189_965 rfl rfl ?_
  refine zw_iload_n 967 f189_966 rfl rfl ?_
  refine zw_iconst 2 968 f189_967 rfl (by decide +kernel) ?_
  refine zw_iadd 2 969 f189_968 rfl (by decide +kernel) ?_
  refine zw_iaload_f 2 6 (xs 2) 970 f189_969 rfl rfl (by decide +kernel) (by decide +kernel) (by decide +kernel) rfl ?_
  refine zw_aload_f 971 f189_970 rfl rfl ?_
  refine zw_iload_n 972 f189_971 rfl rfl ?_
  refine zw_iconst 3 973 f189_972 rfl (by decide +kernel) ?_
  refine zw_iadd 3 974 f189_973 rfl (by decide +kernel) ?_
  refine zw_iaload_f 3 6 (xs 3) 975 f189_974 rfl rfl (by decide +kernel) (by decide +kernel) (by decide +kernel) rfl ?_
  refine zw_virtual_i 978 82 7398 [.ref 0, .int 3, .int (xs 2), .int (xs 3)] [(0, .ref 0), (1, .int 3), (2, .int (xs 2)), (3, .int (xs 3))] f189_975 rfl n189_119 k189_119_11 rfl rfl (by decide +kernel) (Nat.le_of_ble_eq_true rfl) rfl rfl (by decide +kernel) (by decide +kernel) rfl (Nat.le_of_ble_eq_true rfl) rfl ?_
  refine zWp.mono (x_forge_w3e (zro 6 xs) (xs 2) (xs 3) h1 h2 h3 h4 h5 h6 h7 h8) ?_
  rintro r h1 ⟨rfl, hm⟩
  refine ⟨_, rfl, ?_⟩
  obtain ⟨x, rfl⟩ := zMF_ex hm
  refine zw_aload_n 979 f189_978 rfl rfl ?_
  refine zw_aload_f 980 f189_979 rfl rfl ?_
  refine zw_iload_n 981 f189_980 rfl rfl ?_
  refine zw_iconst 1 982 f189_981 rfl (by decide +kernel) ?_
  refine zw_iadd 1 983 f189_982 rfl (by decide +kernel) ?_
  refine zw_iaload_f 1 6 3 984 f189_983 rfl rfl (by decide +kernel) (by decide +kernel) (by decide +kernel) q1 ?_
  refine zw_aload_f 985 f189_984 rfl rfl ?_
  refine zw_iload_n 986 f189_985 rfl rfl ?_
  refine zw_iconst 2 987 f189_986 rfl (by decide +kernel) ?_
  refine zw_iadd 2 988 f189_987 rfl (by decide +kernel) ?_
  refine zw_iaload_f 2 6 (xs 2) 989 f189_988 rfl rfl (by decide +kernel) (by decide +kernel) (by decide +kernel) rfl ?_
  refine zw_aload_f 990 f189_989 rfl rfl ?_
  refine zw_iload_n 991 f189_990 rfl rfl ?_
  refine zw_iconst 3 992 f189_991 rfl (by decide +kernel) ?_
  refine zw_iadd 3 993 f189_992 rfl (by decide +kernel) ?_
  refine zw_iaload_f 3 6 (xs 3) 994 f189_993 rfl rfl (by decide +kernel) (by decide +kernel) (by decide +kernel) rfl ?_
  refine zw_virtual_i 997 82 7398 [.ref 52, .int 3, .int (xs 2), .int (xs 3)] [(0, .ref 52), (1, .int 3), (2, .int (xs 2)), (3, .int (xs 3))] f189_994 rfl n189_122 k189_122_12 rfl rfl (by decide +kernel) (Nat.le_of_ble_eq_true rfl) rfl rfl (by decide +kernel) (by decide +kernel) rfl (Nat.le_of_ble_eq_true rfl) rfl ?_
  refine zWp.mono (m_forge_w3e (zro 6 xs) x (xs 2) (xs 3) h1 h2 h3 h4 h5 h6 h7 h8) ?_
  rintro r h2 rfl
  refine ⟨_, rfl, ?_⟩
  refine zw_ic_eq_t 1015 f189_997 (by decide +kernel) (by decide +kernel) ?_
  refine zw_iinc 6 [(3, .int 6), (2, .ref 52), (1, .ref 0), (0, .float 0)] 1018 f189_1015 rfl rfl (by decide +kernel) (by decide +kernel) rfl ?_
  refine zw_goto 18 f189_1018 (by decide +kernel) ?_
  refine zw_iload_n 19 f189_18 rfl rfl ?_
  refine zw_aload_f 20 f189_19 rfl rfl ?_
  refine zw_arraylength 6 21 f189_20 rfl rfl ?_
  refine zw_bipush 6 23 f189_21 rfl (by decide +kernel) ?_
  refine zw_isub 0 24 f189_23 rfl (by decide +kernel) ?_
  refine zw_ic_gt_t 1021 f189_24 (by decide +kernel) (by decide +kernel) ?_
  refine zw_iconst 1 1022 f189_1021 rfl (by decide +kernel) ?_
  refine zw_zreturn f189_1022 r189 u189 (by decide +kernel) ?_
  exact rfl
set_option maxRecDepth 100000 in
set_option maxHeartbeats 0 in
theorem l_forge_w4 (xs : Nat → Int32) (e0 : xs 0 &&& 31 = 25) (q1 : xs 1 = 4) (h1 : ¬ (xs 2) < -100) (h2 : ¬ 100 < (xs 2)) (h3 : ¬ (xs 3) < -100) (h4 : ¬ 100 < (xs 3)) : zWp (zro 6 xs) 189 18 [(3, .int 0), (2, .ref 52), (1, .ref 0), (0, .float 0)] [] hF 82 7398 (fun r _ => r = some (.int 1)) := by
  refine zw_iload_n 19 f189_18 rfl rfl ?_
  refine zw_aload_f 20 f189_19 rfl rfl ?_
  refine zw_arraylength 6 21 f189_20 rfl rfl ?_
  refine zw_bipush 6 23 f189_21 rfl (by decide +kernel) ?_
  refine zw_isub 0 24 f189_23 rfl (by decide +kernel) ?_
  refine zw_ic_gt_f 27 1021 f189_24 (by decide +kernel) rfl (by decide +kernel) ?_
  refine zw_aload_f 28 f189_27 rfl rfl ?_
  refine zw_iload_n 29 f189_28 rfl rfl ?_
  refine zw_iaload_f 0 6 (xs 0) 30 f189_29 rfl rfl (by decide +kernel) (by decide +kernel) (by decide +kernel) rfl ?_
  refine zw_bipush 31 32 f189_30 rfl (by decide +kernel) ?_
  refine zw_iand 25 33 f189_32 rfl e0 ?_
  refine zw_table_i (off := 926) 959 f189_33 (by decide +kernel) (by decide +kernel) (by decide +kernel) ?_
  refine zw_aload_n 960 f189_959 rfl rfl ?_
  refine zw_aload_f 961 f189_960 rfl rfl ?_
  refine zw_iload_n 962 f189_961 rfl rfl ?_
  refine zw_iconst 1 963 f189_962 rfl (by decide +kernel) ?_
  refine zw_iadd 1 964 f189_963 rfl (by decide +kernel) ?_
  refine zw_iaload_f 1 6 4 965 f189_964 rfl rfl (by decide +kernel) (by decide +kernel) (by decide +kernel) q1 ?_
  refine zw_aload_f 966 f189_965 rfl rfl ?_
  refine zw_iload_n 967 f189_966 rfl rfl ?_
  refine zw_iconst 2 968 f189_967 rfl (by decide +kernel) ?_
  refine zw_iadd 2 969 f189_968 rfl (by decide +kernel) ?_
  refine zw_iaload_f 2 6 (xs 2) 970 f189_969 rfl rfl (by decide +kernel) (by decide +kernel) (by decide +kernel) rfl ?_
  refine zw_aload_f 971 f189_970 rfl rfl ?_
  refine zw_iload_n 972 f189_971 rfl rfl ?_
  refine zw_iconst 3 973 f189_972 rfl (by decide +kernel) ?_
  refine zw_iadd 3 974 f189_973 rfl (by decide +kernel) ?_
  refine zw_iaload_f 3 6 (xs 3) 975 f189_974 rfl rfl (by decide +kernel) (by decide +kernel) (by decide +kernel) rfl ?_
  refine zw_virtual_i 978 82 7398 [.ref 0, .int 4, .int (xs 2), .int (xs 3)] [(0, .ref 0), (1, .int 4), (2, .int (xs 2)), (3, .int (xs 3))] f189_975 rfl n189_119 k189_119_11 rfl rfl (by decide +kernel) (Nat.le_of_ble_eq_true rfl) rfl rfl (by decide +kernel) (by decide +kernel) rfl (Nat.le_of_ble_eq_true rfl) rfl ?_
  refine zWp.mono (x_forge_w4 (zro 6 xs) (xs 2) (xs 3) h1 h2 h3 h4) ?_
  rintro r h1 ⟨rfl, hm⟩
  refine ⟨_, rfl, ?_⟩
  obtain ⟨x, rfl⟩ := zMF_ex hm
  refine zw_aload_n 979 f189_978 rfl rfl ?_
  refine zw_aload_f 980 f189_979 rfl rfl ?_
  refine zw_iload_n 981 f189_980 rfl rfl ?_
  refine zw_iconst 1 982 f189_981 rfl (by decide +kernel) ?_
  refine zw_iadd 1 983 f189_982 rfl (by decide +kernel) ?_
  refine zw_iaload_f 1 6 4 984 f189_983 rfl rfl (by decide +kernel) (by decide +kernel) (by decide +kernel) q1 ?_
  refine zw_aload_f 985 f189_984 rfl rfl ?_
  refine zw_iload_n 986 f189_985 rfl rfl ?_
  refine zw_iconst 2 987 f189_986 rfl (by decide +kernel) ?_
  refine zw_iadd 2 988 f189_987 rfl (by decide +kernel) ?_
  refine zw_iaload_f 2 6 (xs 2) 989 f189_988 rfl rfl (by decide +kernel) (by decide +kernel) (by decide +kernel) rfl ?_
  refine zw_aload_f 990 f189_989 rfl rfl ?_
  refine zw_iload_n 991 f189_990 rfl rfl ?_
  refine zw_iconst 3 992 f189_991 rfl (by decide +kernel) ?_
  refine zw_iadd 3 993 f189_992 rfl (by decide +kernel) ?_
  refine zw_iaload_f 3 6 (xs 3) 994 f189_993 rfl rfl (by decide +kernel) (by decide +kernel) (by decide +kernel) rfl ?_
  refine zw_virtual_i 997 82 7398 [.ref 52, .int 4, .int (xs 2), .int (xs 3)] [(0, .ref 52), (1, .int 4), (2, .int (xs 2)), (3, .int (xs 3))] f189_994 rfl n189_122 k189_122_12 rfl rfl (by decide +kernel) (Nat.le_of_ble_eq_true rfl) rfl rfl (by decide +kernel) (by decide +kernel) rfl (Nat.le_of_ble_eq_true rfl) rfl ?_
  refine zWp.mono (m_forge_w4 (zro 6 xs) x (xs 2) (xs 3) h1 h2 h3 h4) ?_
  rintro r h2 rfl
  refine ⟨_, rfl, ?_⟩
  refine zw_ic_eq_t 1015 f189_997 (by decide +kernel) (by decide +kernel) ?_
  refine zw_iinc 6 [(3, .int 6), (2, .ref 52), (1, .ref 0), (0, .float 0)] 1018 f189_1015 rfl rfl (by decide +kernel) (by decide +kernel) rfl ?_
  refine zw_goto 18 f189_1018 (by decide +kernel) ?_
  refine zw_iload_n 19 f189_18 rfl rfl ?_
  refine zw_aload_f 20 f189_19 rfl rfl ?_
  refine zw_arraylength 6 21 f189_20 rfl rfl ?_
  refine zw_bipush 6 23 f189_21 rfl (by decide +kernel) ?_
  refine zw_isub 0 24 f189_23 rfl (by decide +kernel) ?_
  refine zw_ic_gt_t 1021 f189_24 (by decide +kernel) (by decide +kernel) ?_
  refine zw_iconst 1 1022 f189_1021 rfl (by decide +kernel) ?_
  refine zw_zreturn f189_1022 r189 u189 (by decide +kernel) ?_
  exact rfl
set_option maxRecDepth 100000 in
set_option maxHeartbeats 0 in
theorem l_forge_w5z (xs : Nat → Int32) (e0 : xs 0 &&& 31 = 25) (q1 : xs 1 = 5) (q2 : xs 2 = 0) (h3 : ¬ (xs 3) < -100) (h4 : ¬ 100 < (xs 3)) : zWp (zro 6 xs) 189 18 [(3, .int 0), (2, .ref 52), (1, .ref 0), (0, .float 0)] [] hF 82 7398 (fun r _ => r = some (.int 1)) := by
  refine zw_iload_n 19 f189_18 rfl rfl ?_
  refine zw_aload_f 20 f189_19 rfl rfl ?_
  refine zw_arraylength 6 21 f189_20 rfl rfl ?_
  refine zw_bipush 6 23 f189_21 rfl (by decide +kernel) ?_
  refine zw_isub 0 24 f189_23 rfl (by decide +kernel) ?_
  refine zw_ic_gt_f 27 1021 f189_24 (by decide +kernel) rfl (by decide +kernel) ?_
  refine zw_aload_f 28 f189_27 rfl rfl ?_
  refine zw_iload_n 29 f189_28 rfl rfl ?_
  refine zw_iaload_f 0 6 (xs 0) 30 f189_29 rfl rfl (by decide +kernel) (by decide +kernel) (by decide +kernel) rfl ?_
  refine zw_bipush 31 32 f189_30 rfl (by decide +kernel) ?_
  refine zw_iand 25 33 f189_32 rfl e0 ?_
  refine zw_table_i (off := 926) 959 f189_33 (by decide +kernel) (by decide +kernel) (by decide +kernel) ?_
  refine zw_aload_n 960 f189_959 rfl rfl ?_
  refine zw_aload_f 961 f189_960 rfl rfl ?_
  refine zw_iload_n 962 f189_961 rfl rfl ?_
  refine zw_iconst 1 963 f189_962 rfl (by decide +kernel) ?_
  refine zw_iadd 1 964 f189_963 rfl (by decide +kernel) ?_
  refine zw_iaload_f 1 6 5 965 f189_964 rfl rfl (by decide +kernel) (by decide +kernel) (by decide +kernel) q1 ?_
  refine zw_aload_f 966 f189_965 rfl rfl ?_
  refine zw_iload_n 967 f189_966 rfl rfl ?_
  refine zw_iconst 2 968 f189_967 rfl (by decide +kernel) ?_
  refine zw_iadd 2 969 f189_968 rfl (by decide +kernel) ?_
  refine zw_iaload_f 2 6 0 970 f189_969 rfl rfl (by decide +kernel) (by decide +kernel) (by decide +kernel) q2 ?_
  refine zw_aload_f 971 f189_970 rfl rfl ?_
  refine zw_iload_n 972 f189_971 rfl rfl ?_
  refine zw_iconst 3 973 f189_972 rfl (by decide +kernel) ?_
  refine zw_iadd 3 974 f189_973 rfl (by decide +kernel) ?_
  refine zw_iaload_f 3 6 (xs 3) 975 f189_974 rfl rfl (by decide +kernel) (by decide +kernel) (by decide +kernel) rfl ?_
  refine zw_virtual_i 978 82 7398 [.ref 0, .int 5, .int 0, .int (xs 3)] [(0, .ref 0), (1, .int 5), (2, .int 0), (3, .int (xs 3))] f189_975 rfl n189_119 k189_119_11 rfl rfl (by decide +kernel) (Nat.le_of_ble_eq_true rfl) rfl rfl (by decide +kernel) (by decide +kernel) rfl (Nat.le_of_ble_eq_true rfl) rfl ?_
  refine zWp.mono (x_forge_w5z (zro 6 xs) (xs 3) h3 h4) ?_
  rintro r h1 ⟨rfl, hm⟩
  refine ⟨_, rfl, ?_⟩
  obtain ⟨x, rfl⟩ := zMF_ex hm
  refine zw_aload_n 979 f189_978 rfl rfl ?_
  refine zw_aload_f 980 f189_979 rfl rfl ?_
  refine zw_iload_n 981 f189_980 rfl rfl ?_
  refine zw_iconst 1 982 f189_981 rfl (by decide +kernel) ?_
  refine zw_iadd 1 983 f189_982 rfl (by decide +kernel) ?_
  refine zw_iaload_f 1 6 5 984 f189_983 rfl rfl (by decide +kernel) (by decide +kernel) (by decide +kernel) q1 ?_
  refine zw_aload_f 985 f189_984 rfl rfl ?_
  refine zw_iload_n 986 f189_985 rfl rfl ?_
  refine zw_iconst 2 987 f189_986 rfl (by decide +kernel) ?_
  refine zw_iadd 2 988 f189_987 rfl (by decide +kernel) ?_
  refine zw_iaload_f 2 6 0 989 f189_988 rfl rfl (by decide +kernel) (by decide +kernel) (by decide +kernel) q2 ?_
  refine zw_aload_f 990 f189_989 rfl rfl ?_
  refine zw_iload_n 991 f189_990 rfl rfl ?_
  refine zw_iconst 3 992 f189_991 rfl (by decide +kernel) ?_
  refine zw_iadd 3 993 f189_992 rfl (by decide +kernel) ?_
  refine zw_iaload_f 3 6 (xs 3) 994 f189_993 rfl rfl (by decide +kernel) (by decide +kernel) (by decide +kernel) rfl ?_
  refine zw_virtual_i 997 82 7398 [.ref 52, .int 5, .int 0, .int (xs 3)] [(0, .ref 52), (1, .int 5), (2, .int 0), (3, .int (xs 3))] f189_994 rfl n189_122 k189_122_12 rfl rfl (by decide +kernel) (Nat.le_of_ble_eq_true rfl) rfl rfl (by decide +kernel) (by decide +kernel) rfl (Nat.le_of_ble_eq_true rfl) rfl ?_
  refine zWp.mono (m_forge_w5z (zro 6 xs) x (xs 3) h3 h4) ?_
  rintro r h2 rfl
  refine ⟨_, rfl, ?_⟩
  refine zw_ic_eq_t 1015 f189_997 (by decide +kernel) (by decide +kernel) ?_
  refine zw_iinc 6 [(3, .int 6), (2, .ref 52), (1, .ref 0), (0, .float 0)] 1018 f189_1015 rfl rfl (by decide +kernel) (by decide +kernel) rfl ?_
  refine zw_goto 18 f189_1018 (by decide +kernel) ?_
  refine zw_iload_n 19 f189_18 rfl rfl ?_
  refine zw_aload_f 20 f189_19 rfl rfl ?_
  refine zw_arraylength 6 21 f189_20 rfl rfl ?_
  refine zw_bipush 6 23 f189_21 rfl (by decide +kernel) ?_
  refine zw_isub 0 24 f189_23 rfl (by decide +kernel) ?_
  refine zw_ic_gt_t 1021 f189_24 (by decide +kernel) (by decide +kernel) ?_
  refine zw_iconst 1 1022 f189_1021 rfl (by decide +kernel) ?_
  refine zw_zreturn f189_1022 r189 u189 (by decide +kernel) ?_
  exact rfl
set_option maxRecDepth 100000 in
set_option maxHeartbeats 0 in
theorem l_forge_w5 (xs : Nat → Int32) (e0 : xs 0 &&& 31 = 25) (q1 : xs 1 = 5) (h1 : ¬ (xs 2) < -100) (h2 : ¬ 100 < (xs 2)) (h3 : ¬ (xs 3) < -100) (h4 : ¬ 100 < (xs 3)) (h5 : ¬ (xs 2) = 0) : zWp (zro 6 xs) 189 18 [(3, .int 0), (2, .ref 52), (1, .ref 0), (0, .float 0)] [] hF 82 7398 (fun r _ => r = some (.int 1)) := by
  refine zw_iload_n 19 f189_18 rfl rfl ?_
  refine zw_aload_f 20 f189_19 rfl rfl ?_
  refine zw_arraylength 6 21 f189_20 rfl rfl ?_
  refine zw_bipush 6 23 f189_21 rfl (by decide +kernel) ?_
  refine zw_isub 0 24 f189_23 rfl (by decide +kernel) ?_
  refine zw_ic_gt_f 27 1021 f189_24 (by decide +kernel) rfl (by decide +kernel) ?_
  refine zw_aload_f 28 f189_27 rfl rfl ?_
  refine zw_iload_n 29 f189_28 rfl rfl ?_
  refine zw_iaload_f 0 6 (xs 0) 30 f189_29 rfl rfl (by decide +kernel) (by decide +kernel) (by decide +kernel) rfl ?_
  refine zw_bipush 31 32 f189_30 rfl (by decide +kernel) ?_
  refine zw_iand 25 33 f189_32 rfl e0 ?_
  refine zw_table_i (off := 926) 959 f189_33 (by decide +kernel) (by decide +kernel) (by decide +kernel) ?_
  refine zw_aload_n 960 f189_959 rfl rfl ?_
  refine zw_aload_f 961 f189_960 rfl rfl ?_
  refine zw_iload_n 962 f189_961 rfl rfl ?_
  refine zw_iconst 1 963 f189_962 rfl (by decide +kernel) ?_
  refine zw_iadd 1 964 f189_963 rfl (by decide +kernel) ?_
  refine zw_iaload_f 1 6 5 965 f189_964 rfl rfl (by decide +kernel) (by decide +kernel) (by decide +kernel) q1 ?_
  refine zw_aload_f 966 f189_965 rfl rfl ?_
  refine zw_iload_n 967 f189_966 rfl rfl ?_
  refine zw_iconst 2 968 f189_967 rfl (by decide +kernel) ?_
  refine zw_iadd 2 969 f189_968 rfl (by decide +kernel) ?_
  refine zw_iaload_f 2 6 (xs 2) 970 f189_969 rfl rfl (by decide +kernel) (by decide +kernel) (by decide +kernel) rfl ?_
  refine zw_aload_f 971 f189_970 rfl rfl ?_
  refine zw_iload_n 972 f189_971 rfl rfl ?_
  refine zw_iconst 3 973 f189_972 rfl (by decide +kernel) ?_
  refine zw_iadd 3 974 f189_973 rfl (by decide +kernel) ?_
  refine zw_iaload_f 3 6 (xs 3) 975 f189_974 rfl rfl (by decide +kernel) (by decide +kernel) (by decide +kernel) rfl ?_
  refine zw_virtual_i 978 82 7398 [.ref 0, .int 5, .int (xs 2), .int (xs 3)] [(0, .ref 0), (1, .int 5), (2, .int (xs 2)), (3, .int (xs 3))] f189_975 rfl n189_119 k189_119_11 rfl rfl (by decide +kernel) (Nat.le_of_ble_eq_true rfl) rfl rfl (by decide +kernel) (by decide +kernel) rfl (Nat.le_of_ble_eq_true rfl) rfl ?_
  refine zWp.mono (x_forge_w5 (zro 6 xs) (xs 2) (xs 3) h1 h2 h3 h4 h5) ?_
  rintro r h1 ⟨rfl, hm⟩
  refine ⟨_, rfl, ?_⟩
  obtain ⟨x, rfl⟩ := zMF_ex hm
  refine zw_aload_n 979 f189_978 rfl rfl ?_
  refine zw_aload_f 980 f189_979 rfl rfl ?_
  refine zw_iload_n 981 f189_980 rfl rfl ?_
  refine zw_iconst 1 982 f189_981 rfl (by decide +kernel) ?_
  refine zw_iadd 1 983 f189_982 rfl (by decide +kernel) ?_
  refine zw_iaload_f 1 6 5 984 f189_983 rfl rfl (by decide +kernel) (by decide +kernel) (by decide +kernel) q1 ?_
  refine zw_aload_f 985 f189_984 rfl rfl ?_
  refine zw_iload_n 986 f189_985 rfl rfl ?_
  refine zw_iconst 2 987 f189_986 rfl (by decide +kernel) ?_
  refine zw_iadd 2 988 f189_987 rfl (by decide +kernel) ?_
  refine zw_iaload_f 2 6 (xs 2) 989 f189_988 rfl rfl (by decide +kernel) (by decide +kernel) (by decide +kernel) rfl ?_
  refine zw_aload_f 990 f189_989 rfl rfl ?_
  refine zw_iload_n 991 f189_990 rfl rfl ?_
  refine zw_iconst 3 992 f189_991 rfl (by decide +kernel) ?_
  refine zw_iadd 3 993 f189_992 rfl (by decide +kernel) ?_
  refine zw_iaload_f 3 6 (xs 3) 994 f189_993 rfl rfl (by decide +kernel) (by decide +kernel) (by decide +kernel) rfl ?_
  refine zw_virtual_i 997 82 7398 [.ref 52, .int 5, .int (xs 2), .int (xs 3)] [(0, .ref 52), (1, .int 5), (2, .int (xs 2)), (3, .int (xs 3))] f189_994 rfl n189_122 k189_122_12 rfl rfl (by decide +kernel) (Nat.le_of_ble_eq_true rfl) rfl rfl (by decide +kernel) (by decide +kernel) rfl (Nat.le_of_ble_eq_true rfl) rfl ?_
  refine zWp.mono (m_forge_w5 (zro 6 xs) x (xs 2) (xs 3) h1 h2 h3 h4 h5) ?_
  rintro r h2 rfl
  refine ⟨_, rfl, ?_⟩
  refine zw_ic_eq_t 1015 f189_997 (by decide +kernel) rfl ?_
  refine zw_iinc 6 [(3, .int 6), (2, .ref 52), (1, .ref 0), (0, .float 0)] 1018 f189_1015 rfl rfl (by decide +kernel) (by decide +kernel) rfl ?_
  refine zw_goto 18 f189_1018 (by decide +kernel) ?_
  refine zw_iload_n 19 f189_18 rfl rfl ?_
  refine zw_aload_f 20 f189_19 rfl rfl ?_
  refine zw_arraylength 6 21 f189_20 rfl rfl ?_
  refine zw_bipush 6 23 f189_21 rfl (by decide +kernel) ?_
  refine zw_isub 0 24 f189_23 rfl (by decide +kernel) ?_
  refine zw_ic_gt_t 1021 f189_24 (by decide +kernel) (by decide +kernel) ?_
  refine zw_iconst 1 1022 f189_1021 rfl (by decide +kernel) ?_
  refine zw_zreturn f189_1022 r189 u189 (by decide +kernel) ?_
  exact rfl
set_option maxRecDepth 100000 in
set_option maxHeartbeats 0 in
theorem l_forge_w6e (xs : Nat → Int32) (e0 : xs 0 &&& 31 = 25) (q1 : xs 1 = 6) (h1 : ¬ (xs 2) < -100) (h2 : ¬ 100 < (xs 2)) (h3 : ¬ (xs 3) < -100) (h4 : ¬ 100 < (xs 3)) (h5 : (xs 2) - (xs 2) / 2 * 2 = 0) (h6 : (xs 2) &&& 1 = 0) : zWp (zro 6 xs) 189 18 [(3, .int 0), (2, .ref 52), (1, .ref 0), (0, .float 0)] [] hF 82 7398 (fun r _ => r = some (.int 1)) := by
  refine zw_iload_n 19 f189_18 rfl rfl ?_
  refine zw_aload_f 20 f189_19 rfl rfl ?_
  refine zw_arraylength 6 21 f189_20 rfl rfl ?_
  refine zw_bipush 6 23 f189_21 rfl (by decide +kernel) ?_
  refine zw_isub 0 24 f189_23 rfl (by decide +kernel) ?_
  refine zw_ic_gt_f 27 1021 f189_24 (by decide +kernel) rfl (by decide +kernel) ?_
  refine zw_aload_f 28 f189_27 rfl rfl ?_
  refine zw_iload_n 29 f189_28 rfl rfl ?_
  refine zw_iaload_f 0 6 (xs 0) 30 f189_29 rfl rfl (by decide +kernel) (by decide +kernel) (by decide +kernel) rfl ?_
  refine zw_bipush 31 32 f189_30 rfl (by decide +kernel) ?_
  refine zw_iand 25 33 f189_32 rfl e0 ?_
  refine zw_table_i (off := 926) 959 f189_33 (by decide +kernel) (by decide +kernel) (by decide +kernel) ?_
  refine zw_aload_n 960 f189_959 rfl rfl ?_
  refine zw_aload_f 961 f189_960 rfl rfl ?_
  refine zw_iload_n 962 f189_961 rfl rfl ?_
  refine zw_iconst 1 963 f189_962 rfl (by decide +kernel) ?_
  refine zw_iadd 1 964 f189_963 rfl (by decide +kernel) ?_
  refine zw_iaload_f 1 6 6 965 f189_964 rfl rfl (by decide +kernel) (by decide +kernel) (by decide +kernel) q1 ?_
  refine zw_aload_f 966 f189_965 rfl rfl ?_
  refine zw_iload_n 967 f189_966 rfl rfl ?_
  refine zw_iconst 2 968 f189_967 rfl (by decide +kernel) ?_
  refine zw_iadd 2 969 f189_968 rfl (by decide +kernel) ?_
  refine zw_iaload_f 2 6 (xs 2) 970 f189_969 rfl rfl (by decide +kernel) (by decide +kernel) (by decide +kernel) rfl ?_
  refine zw_aload_f 971 f189_970 rfl rfl ?_
  refine zw_iload_n 972 f189_971 rfl rfl ?_
  refine zw_iconst 3 973 f189_972 rfl (by decide +kernel) ?_
  refine zw_iadd 3 974 f189_973 rfl (by decide +kernel) ?_
  refine zw_iaload_f 3 6 (xs 3) 975 f189_974 rfl rfl (by decide +kernel) (by decide +kernel) (by decide +kernel) rfl ?_
  refine zw_virtual_i 978 82 7398 [.ref 0, .int 6, .int (xs 2), .int (xs 3)] [(0, .ref 0), (1, .int 6), (2, .int (xs 2)), (3, .int (xs 3))] f189_975 rfl n189_119 k189_119_11 rfl rfl (by decide +kernel) (Nat.le_of_ble_eq_true rfl) rfl rfl (by decide +kernel) (by decide +kernel) rfl (Nat.le_of_ble_eq_true rfl) rfl ?_
  refine zWp.mono (x_forge_w6e (zro 6 xs) (xs 2) (xs 3) h1 h2 h3 h4 h5 h6) ?_
  rintro r h1 ⟨rfl, hm⟩
  refine ⟨_, rfl, ?_⟩
  obtain ⟨x, rfl⟩ := zMF_ex hm
  refine zw_aload_n 979 f189_978 rfl rfl ?_
  refine zw_aload_f 980 f189_979 rfl rfl ?_
  refine zw_iload_n 981 f189_980 rfl rfl ?_
  refine zw_iconst 1 982 f189_981 rfl (by decide +kernel) ?_
  refine zw_iadd 1 983 f189_982 rfl (by decide +kernel) ?_
  refine zw_iaload_f 1 6 6 984 f189_983 rfl rfl (by decide +kernel) (by decide +kernel) (by decide +kernel) q1 ?_
  refine zw_aload_f 985 f189_984 rfl rfl ?_
  refine zw_iload_n 986 f189_985 rfl rfl ?_
  refine zw_iconst 2 987 f189_986 rfl (by decide +kernel) ?_
  refine zw_iadd 2 988 f189_987 rfl (by decide +kernel) ?_
  refine zw_iaload_f 2 6 (xs 2) 989 f189_988 rfl rfl (by decide +kernel) (by decide +kernel) (by decide +kernel) rfl ?_
  refine zw_aload_f 990 f189_989 rfl rfl ?_
  refine zw_iload_n 991 f189_990 rfl rfl ?_
  refine zw_iconst 3 992 f189_991 rfl (by decide +kernel) ?_
  refine zw_iadd 3 993 f189_992 rfl (by decide +kernel) ?_
  refine zw_iaload_f 3 6 (xs 3) 994 f189_993 rfl rfl (by decide +kernel) (by decide +kernel) (by decide +kernel) rfl ?_
  refine zw_virtual_i 997 82 7398 [.ref 52, .int 6, .int (xs 2), .int (xs 3)] [(0, .ref 52), (1, .int 6), (2, .int (xs 2)), (3, .int (xs 3))] f189_994 rfl n189_122 k189_122_12 rfl rfl (by decide +kernel) (Nat.le_of_ble_eq_true rfl) rfl rfl (by decide +kernel) (by decide +kernel) rfl (Nat.le_of_ble_eq_true rfl) rfl ?_
  refine zWp.mono (m_forge_w6e (zro 6 xs) x (xs 2) (xs 3) h1 h2 h3 h4 h5 h6) ?_
  rintro r h2 rfl
  refine ⟨_, rfl, ?_⟩
  refine zw_ic_eq_t 1015 f189_997 (by decide +kernel) (by decide +kernel) ?_
  refine zw_iinc 6 [(3, .int 6), (2, .ref 52), (1, .ref 0), (0, .float 0)] 1018 f189_1015 rfl rfl (by decide +kernel) (by decide +kernel) rfl ?_
  refine zw_goto 18 f189_1018 (by decide +kernel) ?_
  refine zw_iload_n 19 f189_18 rfl rfl ?_
  refine zw_aload_f 20 f189_19 rfl rfl ?_
  refine zw_arraylength 6 21 f189_20 rfl rfl ?_
  refine zw_bipush 6 23 f189_21 rfl (by decide +kernel) ?_
  refine zw_isub 0 24 f189_23 rfl (by decide +kernel) ?_
  refine zw_ic_gt_t 1021 f189_24 (by decide +kernel) (by decide +kernel) ?_
  refine zw_iconst 1 1022 f189_1021 rfl (by decide +kernel) ?_
  refine zw_zreturn f189_1022 r189 u189 (by decide +kernel) ?_
  exact rfl
set_option maxRecDepth 100000 in
set_option maxHeartbeats 0 in
theorem l_forge_w6p (xs : Nat → Int32) (e0 : xs 0 &&& 31 = 25) (q1 : xs 1 = 6) (h1 : ¬ (xs 2) < -100) (h2 : ¬ 100 < (xs 2)) (h3 : ¬ (xs 3) < -100) (h4 : ¬ 100 < (xs 3)) (h5 : (xs 2) - (xs 2) / 2 * 2 = 1) (h6 : (xs 2) &&& 1 = 1) : zWp (zro 6 xs) 189 18 [(3, .int 0), (2, .ref 52), (1, .ref 0), (0, .float 0)] [] hF 82 7398 (fun r _ => r = some (.int 1)) := by
  refine zw_iload_n 19 f189_18 rfl rfl ?_
  refine zw_aload_f 20 f189_19 rfl rfl ?_
  refine zw_arraylength 6 21 f189_20 rfl rfl ?_
  refine zw_bipush 6 23 f189_21 rfl (by decide +kernel) ?_
  refine zw_isub 0 24 f189_23 rfl (by decide +kernel) ?_
  refine zw_ic_gt_f 27 1021 f189_24 (by decide +kernel) rfl (by decide +kernel) ?_
  refine zw_aload_f 28 f189_27 rfl rfl ?_
  refine zw_iload_n 29 f189_28 rfl rfl ?_
  refine zw_iaload_f 0 6 (xs 0) 30 f189_29 rfl rfl (by decide +kernel) (by decide +kernel) (by decide +kernel) rfl ?_
  refine zw_bipush 31 32 f189_30 rfl (by decide +kernel) ?_
  refine zw_iand 25 33 f189_32 rfl e0 ?_
  refine zw_table_i (off := 926) 959 f189_33 (by decide +kernel) (by decide +kernel) (by decide +kernel) ?_
  refine zw_aload_n 960 f189_959 rfl rfl ?_
  refine zw_aload_f 961 f189_960 rfl rfl ?_
  refine zw_iload_n 962 f189_961 rfl rfl ?_
  refine zw_iconst 1 963 f189_962 rfl (by decide +kernel) ?_
  refine zw_iadd 1 964 f189_963 rfl (by decide +kernel) ?_
  refine zw_iaload_f 1 6 6 965 f189_964 rfl rfl (by decide +kernel) (by decide +kernel) (by decide +kernel) q1 ?_
  refine zw_aload_f 966 f189_965 rfl rfl ?_
  refine zw_iload_n 967 f189_966 rfl rfl ?_
  refine zw_iconst 2 968 f189_967 rfl (by decide +kernel) ?_
  refine zw_iadd 2 969 f189_968 rfl (by decide +kernel) ?_
  refine zw_iaload_f 2 6 (xs 2) 970 f189_969 rfl rfl (by decide +kernel) (by decide +kernel) (by decide +kernel) rfl ?_
  refine zw_aload_f 971 f189_970 rfl rfl ?_
  refine zw_iload_n 972 f189_971 rfl rfl ?_
  refine zw_iconst 3 973 f189_972 rfl (by decide +kernel) ?_
  refine zw_iadd 3 974 f189_973 rfl (by decide +kernel) ?_
  refine zw_iaload_f 3 6 (xs 3) 975 f189_974 rfl rfl (by decide +kernel) (by decide +kernel) (by decide +kernel) rfl ?_
  refine zw_virtual_i 978 82 7398 [.ref 0, .int 6, .int (xs 2), .int (xs 3)] [(0, .ref 0), (1, .int 6), (2, .int (xs 2)), (3, .int (xs 3))] f189_975 rfl n189_119 k189_119_11 rfl rfl (by decide +kernel) (Nat.le_of_ble_eq_true rfl) rfl rfl (by decide +kernel) (by decide +kernel) rfl (Nat.le_of_ble_eq_true rfl) rfl ?_
  refine zWp.mono (x_forge_w6p (zro 6 xs) (xs 2) (xs 3) h1 h2 h3 h4 h5 h6) ?_
  rintro r h1 ⟨rfl, hm⟩
  refine ⟨_, rfl, ?_⟩
  obtain ⟨x, rfl⟩ := zMF_ex hm
  refine zw_aload_n 979 f189_978 rfl rfl ?_
  refine zw_aload_f 980 f189_979 rfl rfl ?_
  refine zw_iload_n 981 f189_980 rfl rfl ?_
  refine zw_iconst 1 982 f189_981 rfl (by decide +kernel) ?_
  refine zw_iadd 1 983 f189_982 rfl (by decide +kernel) ?_
  refine zw_iaload_f 1 6 6 984 f189_983 rfl rfl (by decide +kernel) (by decide +kernel) (by decide +kernel) q1 ?_
  refine zw_aload_f 985 f189_984 rfl rfl ?_
  refine zw_iload_n 986 f189_985 rfl rfl ?_
  refine zw_iconst 2 987 f189_986 rfl (by decide +kernel) ?_
  refine zw_iadd 2 988 f189_987 rfl (by decide +kernel) ?_
  refine zw_iaload_f 2 6 (xs 2) 989 f189_988 rfl rfl (by decide +kernel) (by decide +kernel) (by decide +kernel) rfl ?_
  refine zw_aload_f 990 f189_989 rfl rfl ?_
  refine zw_iload_n 991 f189_990 rfl rfl ?_
  refine zw_iconst 3 992 f189_991 rfl (by decide +kernel) ?_
  refine zw_iadd 3 993 f189_992 rfl (by decide +kernel) ?_
  refine zw_iaload_f 3 6 (xs 3) 994 f189_993 rfl rfl (by decide +kernel) (by decide +kernel) (by decide +kernel) rfl ?_
  refine zw_virtual_i 997 82 7398 [.ref 52, .int 6, .int (xs 2), .int (xs 3)] [(0, .ref 52), (1, .int 6), (2, .int (xs 2)), (3, .int (xs 3))] f189_994 rfl n189_122 k189_122_12 rfl rfl (by decide +kernel) (Nat.le_of_ble_eq_true rfl) rfl rfl (by decide +kernel) (by decide +kernel) rfl (Nat.le_of_ble_eq_true rfl) rfl ?_
  refine zWp.mono (m_forge_w6p (zro 6 xs) x (xs 2) (xs 3) h1 h2 h3 h4 h5 h6) ?_
  rintro r h2 rfl
  refine ⟨_, rfl, ?_⟩
  refine zw_ic_eq_t 1015 f189_997 (by decide +kernel) (by decide +kernel) ?_
  refine zw_iinc 6 [(3, .int 6), (2, .ref 52), (1, .ref 0), (0, .float 0)] 1018 f189_1015 rfl rfl (by decide +kernel) (by decide +kernel) rfl ?_
  refine zw_goto 18 f189_1018 (by decide +kernel) ?_
  refine zw_iload_n 19 f189_18 rfl rfl ?_
  refine zw_aload_f 20 f189_19 rfl rfl ?_
  refine zw_arraylength 6 21 f189_20 rfl rfl ?_
  refine zw_bipush 6 23 f189_21 rfl (by decide +kernel) ?_
  refine zw_isub 0 24 f189_23 rfl (by decide +kernel) ?_
  refine zw_ic_gt_t 1021 f189_24 (by decide +kernel) (by decide +kernel) ?_
  refine zw_iconst 1 1022 f189_1021 rfl (by decide +kernel) ?_
  refine zw_zreturn f189_1022 r189 u189 (by decide +kernel) ?_
  exact rfl
set_option maxRecDepth 100000 in
set_option maxHeartbeats 0 in
theorem l_forge_w6m (xs : Nat → Int32) (e0 : xs 0 &&& 31 = 25) (q1 : xs 1 = 6) (h1 : ¬ (xs 2) < -100) (h2 : ¬ 100 < (xs 2)) (h3 : ¬ (xs 3) < -100) (h4 : ¬ 100 < (xs 3)) (h5 : (xs 2) - (xs 2) / 2 * 2 = -1) (h6 : (xs 2) &&& 1 = 1) : zWp (zro 6 xs) 189 18 [(3, .int 0), (2, .ref 52), (1, .ref 0), (0, .float 0)] [] hF 82 7398 (fun r _ => r = some (.int 1)) := by
  refine zw_iload_n 19 f189_18 rfl rfl ?_
  refine zw_aload_f 20 f189_19 rfl rfl ?_
  refine zw_arraylength 6 21 f189_20 rfl rfl ?_
  refine zw_bipush 6 23 f189_21 rfl (by decide +kernel) ?_
  refine zw_isub 0 24 f189_23 rfl (by decide +kernel) ?_
  refine zw_ic_gt_f 27 1021 f189_24 (by decide +kernel) rfl (by decide +kernel) ?_
  refine zw_aload_f 28 f189_27 rfl rfl ?_
  refine zw_iload_n 29 f189_28 rfl rfl ?_
  refine zw_iaload_f 0 6 (xs 0) 30 f189_29 rfl rfl (by decide +kernel) (by decide +kernel) (by decide +kernel) rfl ?_
  refine zw_bipush 31 32 f189_30 rfl (by decide +kernel) ?_
  refine zw_iand 25 33 f189_32 rfl e0 ?_
  refine zw_table_i (off := 926) 959 f189_33 (by decide +kernel) (by decide +kernel) (by decide +kernel) ?_
  refine zw_aload_n 960 f189_959 rfl rfl ?_
  refine zw_aload_f 961 f189_960 rfl rfl ?_
  refine zw_iload_n 962 f189_961 rfl rfl ?_
  refine zw_iconst 1 963 f189_962 rfl (by decide +kernel) ?_
  refine zw_iadd 1 964 f189_963 rfl (by decide +kernel) ?_
  refine zw_iaload_f 1 6 6 965 f189_964 rfl rfl (by decide +kernel) (by decide +kernel) (by decide +kernel) q1 ?_
  refine zw_aload_f 966 f189_965 rfl rfl ?_
  refine zw_iload_n 967 f189_966 rfl rfl ?_
  refine zw_iconst 2 968 f189_967 rfl (by decide +kernel) ?_
  refine zw_iadd 2 969 f189_968 rfl (by decide +kernel) ?_
  refine zw_iaload_f 2 6 (xs 2) 970 f189_969 rfl rfl (by decide +kernel) (by decide +kernel) (by decide +kernel) rfl ?_
  refine zw_aload_f 971 f189_970 rfl rfl ?_
  refine zw_iload_n 972 f189_971 rfl rfl ?_
  refine zw_iconst 3 973 f189_972 rfl (by decide +kernel) ?_
  refine zw_iadd 3 974 f189_973 rfl (by decide +kernel) ?_
  refine zw_iaload_f 3 6 (xs 3) 975 f189_974 rfl rfl (by decide +kernel) (by decide +kernel) (by decide +kernel) rfl ?_
  refine zw_virtual_i 978 82 7398 [.ref 0, .int 6, .int (xs 2), .int (xs 3)] [(0, .ref 0), (1, .int 6), (2, .int (xs 2)), (3, .int (xs 3))] f189_975 rfl n189_119 k189_119_11 rfl rfl (by decide +kernel) (Nat.le_of_ble_eq_true rfl) rfl rfl (by decide +kernel) (by decide +kernel) rfl (Nat.le_of_ble_eq_true rfl) rfl ?_
  refine zWp.mono (x_forge_w6m (zro 6 xs) (xs 2) (xs 3) h1 h2 h3 h4 h5 h6) ?_
  rintro r h1 ⟨rfl, hm⟩
  refine ⟨_, rfl, ?_⟩
  obtain ⟨x, rfl⟩ := zMF_ex hm
  refine zw_aload_n 979 f189_978 rfl rfl ?_
  refine zw_aload_f 980 f189_979 rfl rfl ?_
  refine zw_iload_n 981 f189_980 rfl rfl ?_
  refine zw_iconst 1 982 f189_981 rfl (by decide +kernel) ?_
  refine zw_iadd 1 983 f189_982 rfl (by decide +kernel) ?_
  refine zw_iaload_f 1 6 6 984 f189_983 rfl rfl (by decide +kernel) (by decide +kernel) (by decide +kernel) q1 ?_
  refine zw_aload_f 985 f189_984 rfl rfl ?_
  refine zw_iload_n 986 f189_985 rfl rfl ?_
  refine zw_iconst 2 987 f189_986 rfl (by decide +kernel) ?_
  refine zw_iadd 2 988 f189_987 rfl (by decide +kernel) ?_
  refine zw_iaload_f 2 6 (xs 2) 989 f189_988 rfl rfl (by decide +kernel) (by decide +kernel) (by decide +kernel) rfl ?_
  refine zw_aload_f 990 f189_989 rfl rfl ?_
  refine zw_iload_n 991 f189_990 rfl rfl ?_
  refine zw_iconst 3 992 f189_991 rfl (by decide +kernel) ?_
  refine zw_iadd 3 993 f189_992 rfl (by decide +kernel) ?_
  refine zw_iaload_f 3 6 (xs 3) 994 f189_993 rfl rfl (by decide +kernel) (by decide +kernel) (by decide +kernel) rfl ?_
  refine zw_virtual_i 997 82 7398 [.ref 52, .int 6, .int (xs 2), .int (xs 3)] [(0, .ref 52), (1, .int 6), (2, .int (xs 2)), (3, .int (xs 3))] f189_994 rfl n189_122 k189_122_12 rfl rfl (by decide +kernel) (Nat.le_of_ble_eq_true rfl) rfl rfl (by decide +kernel) (by decide +kernel) rfl (Nat.le_of_ble_eq_true rfl) rfl ?_
  refine zWp.mono (m_forge_w6m (zro 6 xs) x (xs 2) (xs 3) h1 h2 h3 h4 h5 h6) ?_
  rintro r h2 rfl
  refine ⟨_, rfl, ?_⟩
  refine zw_ic_eq_t 1015 f189_997 (by decide +kernel) (by decide +kernel) ?_
  refine zw_iinc 6 [(3, .int 6), (2, .ref 52), (1, .ref 0), (0, .float 0)] 1018 f189_1015 rfl rfl (by decide +kernel) (by decide +kernel) rfl ?_
  refine zw_goto 18 f189_1018 (by decide +kernel) ?_
  refine zw_iload_n 19 f189_18 rfl rfl ?_
  refine zw_aload_f 20 f189_19 rfl rfl ?_
  refine zw_arraylength 6 21 f189_20 rfl rfl ?_
  refine zw_bipush 6 23 f189_21 rfl (by decide +kernel) ?_
  refine zw_isub 0 24 f189_23 rfl (by decide +kernel) ?_
  refine zw_ic_gt_t 1021 f189_24 (by decide +kernel) (by decide +kernel) ?_
  refine zw_iconst 1 1022 f189_1021 rfl (by decide +kernel) ?_
  refine zw_zreturn f189_1022 r189 u189 (by decide +kernel) ?_
  exact rfl
set_option maxRecDepth 100000 in
set_option maxHeartbeats 0 in
theorem l_status_r (xs : Nat → Int32) (e0 : xs 0 &&& 31 = 26)   : zWp (zro 6 xs) 189 18 [(3, .int 0), (2, .ref 52), (1, .ref 0), (0, .float 0)] [] hF 82 7398 (fun r _ => r = some (.int 1)) := by
  refine zw_iload_n 19 f189_18 rfl rfl ?_
  refine zw_aload_f 20 f189_19 rfl rfl ?_
  refine zw_arraylength 6 21 f189_20 rfl rfl ?_
  refine zw_bipush 6 23 f189_21 rfl (by decide +kernel) ?_
  refine zw_isub 0 24 f189_23 rfl (by decide +kernel) ?_
  refine zw_ic_gt_f 27 1021 f189_24 (by decide +kernel) rfl (by decide +kernel) ?_
  refine zw_aload_f 28 f189_27 rfl rfl ?_
  refine zw_iload_n 29 f189_28 rfl rfl ?_
  refine zw_iaload_f 0 6 (xs 0) 30 f189_29 rfl rfl (by decide +kernel) (by decide +kernel) (by decide +kernel) rfl ?_
  refine zw_bipush 31 32 f189_30 rfl (by decide +kernel) ?_
  refine zw_iand 26 33 f189_32 rfl e0 ?_
  refine zw_table_i (off := 969) 1002 f189_33 (by decide +kernel) (by decide +kernel) (by decide +kernel) ?_
  refine zw_aload_n 1003 f189_1002 rfl rfl ?_
  refine zw_virtual_i 1006 82 7398 [.ref 0] [(0, .ref 0)] f189_1003 rfl n189_123 k189_123_11 rfl rfl (by decide +kernel) (Nat.le_of_ble_eq_true rfl) rfl rfl (by decide +kernel) (by decide +kernel) rfl (Nat.le_of_ble_eq_true rfl) rfl ?_
  refine zWp.mono (x_status_r (zro 6 xs) ) ?_
  rintro r h1 ⟨rfl, hm⟩
  refine ⟨_, rfl, ?_⟩
  obtain ⟨x, rfl⟩ := zMF_ex hm
  refine zw_aload_n 1007 f189_1006 rfl rfl ?_
  refine zw_virtual_i 1010 82 7398 [.ref 52] [(0, .ref 52)] f189_1007 rfl n189_127 k189_127_12 rfl rfl (by decide +kernel) (Nat.le_of_ble_eq_true rfl) rfl rfl (by decide +kernel) (by decide +kernel) rfl (Nat.le_of_ble_eq_true rfl) rfl ?_
  refine zWp.mono (m_status_r (zro 6 xs) x ) ?_
  rintro r h2 rfl
  refine ⟨_, rfl, ?_⟩
  refine zw_ic_eq_t 1015 f189_1010 (by decide +kernel) (by decide +kernel) ?_
  refine zw_iinc 6 [(3, .int 6), (2, .ref 52), (1, .ref 0), (0, .float 0)] 1018 f189_1015 rfl rfl (by decide +kernel) (by decide +kernel) rfl ?_
  refine zw_goto 18 f189_1018 (by decide +kernel) ?_
  refine zw_iload_n 19 f189_18 rfl rfl ?_
  refine zw_aload_f 20 f189_19 rfl rfl ?_
  refine zw_arraylength 6 21 f189_20 rfl rfl ?_
  refine zw_bipush 6 23 f189_21 rfl (by decide +kernel) ?_
  refine zw_isub 0 24 f189_23 rfl (by decide +kernel) ?_
  refine zw_ic_gt_t 1021 f189_24 (by decide +kernel) (by decide +kernel) ?_
  refine zw_iconst 1 1022 f189_1021 rfl (by decide +kernel) ?_
  refine zw_zreturn f189_1022 r189 u189 (by decide +kernel) ?_
  exact rfl
set_option maxRecDepth 100000 in
set_option maxHeartbeats 0 in
theorem l_default (xs : Nat → Int32) (h : ((xs 0) &&& 31).toInt < 0 ∨ (26 : Int) < ((xs 0) &&& 31).toInt) : zWp (zro 6 xs) 189 18 [(3, .int 0), (2, .ref 52), (1, .ref 0), (0, .float 0)] [] hF 82 7398 (fun r _ => r = some (.int 1)) := by
  refine zw_iload_n 19 f189_18 rfl rfl ?_
  refine zw_aload_f 20 f189_19 rfl rfl ?_
  refine zw_arraylength 6 21 f189_20 rfl rfl ?_
  refine zw_bipush 6 23 f189_21 rfl (by decide +kernel) ?_
  refine zw_isub 0 24 f189_23 rfl (by decide +kernel) ?_
  refine zw_ic_gt_f 27 1021 f189_24 (by decide +kernel) rfl (by decide +kernel) ?_
  refine zw_aload_f 28 f189_27 rfl rfl ?_
  refine zw_iload_n 29 f189_28 rfl rfl ?_
  refine zw_iaload_f 0 6 (xs 0) 30 f189_29 rfl rfl (by decide +kernel) (by decide +kernel) (by decide +kernel) rfl ?_
  refine zw_bipush 31 32 f189_30 rfl (by decide +kernel) ?_
  refine zw_iand ((xs 0) &&& 31) 33 f189_32 rfl rfl ?_
  refine zw_table_o 1015 f189_33 h (by decide +kernel) ?_
  refine zw_iinc 6 [(3, .int 6), (2, .ref 52), (1, .ref 0), (0, .float 0)] 1018 f189_1015 rfl rfl (by decide +kernel) (by decide +kernel) rfl ?_
  refine zw_goto 18 f189_1018 (by decide +kernel) ?_
  refine zw_iload_n 19 f189_18 rfl rfl ?_
  refine zw_aload_f 20 f189_19 rfl rfl ?_
  refine zw_arraylength 6 21 f189_20 rfl rfl ?_
  refine zw_bipush 6 23 f189_21 rfl (by decide +kernel) ?_
  refine zw_isub 0 24 f189_23 rfl (by decide +kernel) ?_
  refine zw_ic_gt_t 1021 f189_24 (by decide +kernel) (by decide +kernel) ?_
  refine zw_iconst 1 1022 f189_1021 rfl (by decide +kernel) ?_
  refine zw_zreturn f189_1022 r189 u189 (by decide +kernel) ?_
  exact rfl
