theorem nI_6 (k : Nat) : (nI (6 * k) : Int32) + 6 = nI (6 * (k + 1)) := by
  rw [show 6 * (k + 1) = 6 * k + 6 by omega]
  exact nI_add _ 6
theorem l_room {L k : Nat} (hL : L ≤ 3072) (hk : 6 * k ≤ L) (h : ¬ nI L - 6 < nI (6 * k)) : 6 * k + 6 ≤ L := by
  have e1 : (6 : Int32).toInt = 6 := by decide
  have e2 := nI_toInt (n := L) (by omega)
  have e4 := nI_toInt (n := 6 * k) (by omega)
  have e3 : (nI L - 6 : Int32).toInt = L - 6 := by rw [i32_sub, e2, e1] <;> rw [e2, e1] <;> omega
  rw [i32_lt, e3, e4] at h
  omega
theorem zLI.nx {k : Nat} {I : Nat → Nat → Int32} {G : Nat → Nat → Int64} {A : Nat → Nat → Int32} {B : Nat → Nat → Int64} (h : zLI k I G A B) : zLI (k + 1) I G A B := by
  obtain ⟨nv, np, W, L, a, b, c, d⟩ := h
  exact ⟨nv, np, W, L, a.mono (by omega), ⟨b.1, b.2.1, b.2.2.1.mo (by omega) (by omega), b.2.2.2.1, b.2.2.2.2.1, by have := b.2.2.2.2.2; omega⟩, c, d⟩
set_option maxRecDepth 100000 in
set_option maxHeartbeats 0 in
theorem l_op0 (L : Nat) (xs : Nat → Int32) (hL : L ≤ 3072) (n k : Nat) (ls : List (Nat × Value)) (I : Nat → Nat → Int32) (G : Nat → Nat → Int64) (A : Nat → Nat → Int32) (B : Nat → Nat → Int64) (hI : zLI k I G A B) (h0 : zld ls 0 = some (.float 0)) (h1 : zld ls 1 = some (.ref 0)) (h2 : zld ls 2 = some (.ref 52)) (h3 : zld ls 3 = some (.int (nI (6 * k)))) (hk : 6 * k ≤ L) (hn : k + (n + 1) = 513) (hk6 : 6 * k + 6 ≤ L) (se : (xs (6 * k) &&& 31) = nI 0) (ih : ∀ (k : Nat) (ls : List (Nat × Value)) (I : Nat → Nat → Int32) (G : Nat → Nat → Int64) (A : Nat → Nat → Int32) (B : Nat → Nat → Int64), zLI k I G A B → zld ls 0 = some (.float 0) → zld ls 1 = some (.ref 0) → zld ls 2 = some (.ref 52) → zld ls 3 = some (.int (nI (6 * k))) → 6 * k ≤ L → k + n = 513 → zWp (zro L xs) 189 18 ls [] (hS I G A B) 82 7398 (fun r _ => r = some (.int 1))) : zWp (zro L xs) 189 33 ls [.int (xs (6 * k) &&& 31)] (hS I G A B) 82 7398 (fun r _ => r = some (.int 1)) := by
  refine zw_table_k 123 156 f189_33 se (by decide +kernel) (by decide +kernel) (by decide +kernel) ?_
  refine zw_aload_n 157 f189_156 rfl h1 ?_
  refine zw_aload_f 158 f189_157 rfl h0 ?_
  refine zw_iload_n 159 f189_158 rfl h3 ?_
  refine zw_iconst 1 160 f189_159 rfl (by decide +kernel) ?_
  refine zw_iadd (nI ((6 * k) + 1)) 161 f189_160 rfl (nI_add _ 1) ?_
  refine zw_iaload_f (((6 * k) + 1)) L (xs (((6 * k) + 1))) 162 f189_161 rfl rfl (nI_clamp (by omega)) (nI_pos (by omega)) (by omega) rfl ?_
  refine zw_aload_f 163 f189_162 rfl h0 ?_
  refine zw_iload_n 164 f189_163 rfl h3 ?_
  refine zw_iconst 2 165 f189_164 rfl (by decide +kernel) ?_
  refine zw_iadd (nI ((6 * k) + 2)) 166 f189_165 rfl (nI_add _ 2) ?_
  refine zw_iaload_f (((6 * k) + 2)) L (xs (((6 * k) + 2))) 167 f189_166 rfl rfl (nI_clamp (by omega)) (nI_pos (by omega)) (by omega) rfl ?_
  refine zw_virtual_i 170 82 7398 [.ref 0, .int (xs (((6 * k) + 1))), .int (xs (((6 * k) + 2)))] [(0, .ref 0), (1, .int (xs (((6 * k) + 1)))), (2, .int (xs (((6 * k) + 2))))] f189_167 rfl n189_13 k189_13_11 rfl (hb_0 _ _ _ _) (by decide +kernel) (Nat.le_of_ble_eq_true rfl) rfl rfl (by decide +kernel) (by decide +kernel) rfl (Nat.le_of_ble_eq_true rfl) rfl ?_
  refine zWp.mono (pair_vessel (zro L xs) k I G A B hI (by omega) (xs (((6 * k) + 1))) (xs (((6 * k) + 2)))) ?_
  rintro r h1 ⟨I1, G1, A1, B1, v, rfl, rfl, hz⟩
  refine ⟨_, rfl, ?_⟩
  refine zw_pop 171 f189_170 rfl rfl ?_
  refine zw_aload_n 172 f189_171 rfl h2 ?_
  refine zw_aload_f 173 f189_172 rfl h0 ?_
  refine zw_iload_n 174 f189_173 rfl h3 ?_
  refine zw_iconst 1 175 f189_174 rfl (by decide +kernel) ?_
  refine zw_iadd (nI ((6 * k) + 1)) 176 f189_175 rfl (nI_add _ 1) ?_
  refine zw_iaload_f (((6 * k) + 1)) L (xs (((6 * k) + 1))) 177 f189_176 rfl rfl (nI_clamp (by omega)) (nI_pos (by omega)) (by omega) rfl ?_
  refine zw_aload_f 178 f189_177 rfl h0 ?_
  refine zw_iload_n 179 f189_178 rfl h3 ?_
  refine zw_iconst 2 180 f189_179 rfl (by decide +kernel) ?_
  refine zw_iadd (nI ((6 * k) + 2)) 181 f189_180 rfl (nI_add _ 2) ?_
  refine zw_iaload_f (((6 * k) + 2)) L (xs (((6 * k) + 2))) 182 f189_181 rfl rfl (nI_clamp (by omega)) (nI_pos (by omega)) (by omega) rfl ?_
  refine zw_virtual_i 185 82 7398 [.ref 52, .int (xs (((6 * k) + 1))), .int (xs (((6 * k) + 2)))] [(0, .ref 52), (1, .int (xs (((6 * k) + 1)))), (2, .int (xs (((6 * k) + 2))))] f189_182 rfl n189_17 k189_17_12 rfl (hb_52 _ _ _ _) (by decide +kernel) (Nat.le_of_ble_eq_true rfl) rfl rfl (by decide +kernel) (by decide +kernel) rfl (Nat.le_of_ble_eq_true rfl) rfl ?_
  refine zWp.mono hz ?_
  rintro r h1 ⟨I2, G2, A2, B2, w, rfl, rfl, hJ, hrel⟩
  refine ⟨_, rfl, ?_⟩
  refine zw_pop 186 f189_185 rfl rfl ?_
  refine zw_goto 1013 f189_186 (by decide +kernel) ?_
  refine zw_iinc ((nI (6 * k)) + 6) _ 1016 f189_1013 rfl h3 (by decide +kernel) (by rw [show Int32.ofInt 6 = 6 by decide]) rfl ?_
  refine zw_goto 18 f189_1016 (by decide +kernel) ?_
  exact ih (k + 1) _ _ _ _ _ hJ (zl1_ne rfl rfl h0) (zl1_ne rfl rfl h1) (zl1_ne rfl rfl h2) (by rw [← nI_6 k]; exact zl1_eq) (by omega) (by omega)
set_option maxRecDepth 100000 in
set_option maxHeartbeats 0 in
theorem l_op1 (L : Nat) (xs : Nat → Int32) (hL : L ≤ 3072) (n k : Nat) (ls : List (Nat × Value)) (I : Nat → Nat → Int32) (G : Nat → Nat → Int64) (A : Nat → Nat → Int32) (B : Nat → Nat → Int64) (hI : zLI k I G A B) (h0 : zld ls 0 = some (.float 0)) (h1 : zld ls 1 = some (.ref 0)) (h2 : zld ls 2 = some (.ref 52)) (h3 : zld ls 3 = some (.int (nI (6 * k)))) (hk : 6 * k ≤ L) (hn : k + (n + 1) = 513) (hk6 : 6 * k + 6 ≤ L) (se : (xs (6 * k) &&& 31) = nI 1) (ih : ∀ (k : Nat) (ls : List (Nat × Value)) (I : Nat → Nat → Int32) (G : Nat → Nat → Int64) (A : Nat → Nat → Int32) (B : Nat → Nat → Int64), zLI k I G A B → zld ls 0 = some (.float 0) → zld ls 1 = some (.ref 0) → zld ls 2 = some (.ref 52) → zld ls 3 = some (.int (nI (6 * k))) → 6 * k ≤ L → k + n = 513 → zWp (zro L xs) 189 18 ls [] (hS I G A B) 82 7398 (fun r _ => r = some (.int 1))) : zWp (zro L xs) 189 33 ls [.int (xs (6 * k) &&& 31)] (hS I G A B) 82 7398 (fun r _ => r = some (.int 1)) := by
  refine zw_table_k 156 189 f189_33 se (by decide +kernel) (by decide +kernel) (by decide +kernel) ?_
  refine zw_aload_n 190 f189_189 rfl h1 ?_
  refine zw_aload_f 191 f189_190 rfl h0 ?_
  refine zw_iload_n 192 f189_191 rfl h3 ?_
  refine zw_iconst 1 193 f189_192 rfl (by decide +kernel) ?_
  refine zw_iadd (nI ((6 * k) + 1)) 194 f189_193 rfl (nI_add _ 1) ?_
  refine zw_iaload_f (((6 * k) + 1)) L (xs (((6 * k) + 1))) 195 f189_194 rfl rfl (nI_clamp (by omega)) (nI_pos (by omega)) (by omega) rfl ?_
  refine zw_aload_f 196 f189_195 rfl h0 ?_
  refine zw_iload_n 197 f189_196 rfl h3 ?_
  refine zw_iconst 2 198 f189_197 rfl (by decide +kernel) ?_
  refine zw_iadd (nI ((6 * k) + 2)) 199 f189_198 rfl (nI_add _ 2) ?_
  refine zw_iaload_f (((6 * k) + 2)) L (xs (((6 * k) + 2))) 200 f189_199 rfl rfl (nI_clamp (by omega)) (nI_pos (by omega)) (by omega) rfl ?_
  refine zw_aload_f 201 f189_200 rfl h0 ?_
  refine zw_iload_n 202 f189_201 rfl h3 ?_
  refine zw_iconst 3 203 f189_202 rfl (by decide +kernel) ?_
  refine zw_iadd (nI ((6 * k) + 3)) 204 f189_203 rfl (nI_add _ 3) ?_
  refine zw_iaload_f (((6 * k) + 3)) L (xs (((6 * k) + 3))) 205 f189_204 rfl rfl (nI_clamp (by omega)) (nI_pos (by omega)) (by omega) rfl ?_
  refine zw_virtual_i 208 82 7398 [.ref 0, .int (xs (((6 * k) + 1))), .int (xs (((6 * k) + 2))), .int (xs (((6 * k) + 3)))] [(0, .ref 0), (1, .int (xs (((6 * k) + 1)))), (2, .int (xs (((6 * k) + 2)))), (3, .int (xs (((6 * k) + 3))))] f189_205 rfl n189_18 k189_18_11 rfl (hb_0 _ _ _ _) (by decide +kernel) (Nat.le_of_ble_eq_true rfl) rfl rfl (by decide +kernel) (by decide +kernel) rfl (Nat.le_of_ble_eq_true rfl) rfl ?_
  refine zWp.mono (pair_marks (zro L xs) k I G A B hI (by omega) (xs (((6 * k) + 1))) (xs (((6 * k) + 2))) (xs (((6 * k) + 3)))) ?_
  rintro r h1 ⟨I1, G1, A1, B1, v, rfl, rfl, hz⟩
  refine ⟨_, rfl, ?_⟩
  refine zw_pop 209 f189_208 rfl rfl ?_
  refine zw_aload_n 210 f189_209 rfl h2 ?_
  refine zw_aload_f 211 f189_210 rfl h0 ?_
  refine zw_iload_n 212 f189_211 rfl h3 ?_
  refine zw_iconst 1 213 f189_212 rfl (by decide +kernel) ?_
  refine zw_iadd (nI ((6 * k) + 1)) 214 f189_213 rfl (nI_add _ 1) ?_
  refine zw_iaload_f (((6 * k) + 1)) L (xs (((6 * k) + 1))) 215 f189_214 rfl rfl (nI_clamp (by omega)) (nI_pos (by omega)) (by omega) rfl ?_
  refine zw_aload_f 216 f189_215 rfl h0 ?_
  refine zw_iload_n 217 f189_216 rfl h3 ?_
  refine zw_iconst 2 218 f189_217 rfl (by decide +kernel) ?_
  refine zw_iadd (nI ((6 * k) + 2)) 219 f189_218 rfl (nI_add _ 2) ?_
  refine zw_iaload_f (((6 * k) + 2)) L (xs (((6 * k) + 2))) 220 f189_219 rfl rfl (nI_clamp (by omega)) (nI_pos (by omega)) (by omega) rfl ?_
  refine zw_aload_f 221 f189_220 rfl h0 ?_
  refine zw_iload_n 222 f189_221 rfl h3 ?_
  refine zw_iconst 3 223 f189_222 rfl (by decide +kernel) ?_
  refine zw_iadd (nI ((6 * k) + 3)) 224 f189_223 rfl (nI_add _ 3) ?_
  refine zw_iaload_f (((6 * k) + 3)) L (xs (((6 * k) + 3))) 225 f189_224 rfl rfl (nI_clamp (by omega)) (nI_pos (by omega)) (by omega) rfl ?_
  refine zw_virtual_i 228 82 7398 [.ref 52, .int (xs (((6 * k) + 1))), .int (xs (((6 * k) + 2))), .int (xs (((6 * k) + 3)))] [(0, .ref 52), (1, .int (xs (((6 * k) + 1)))), (2, .int (xs (((6 * k) + 2)))), (3, .int (xs (((6 * k) + 3))))] f189_225 rfl n189_22 k189_22_12 rfl (hb_52 _ _ _ _) (by decide +kernel) (Nat.le_of_ble_eq_true rfl) rfl rfl (by decide +kernel) (by decide +kernel) rfl (Nat.le_of_ble_eq_true rfl) rfl ?_
  refine zWp.mono hz ?_
  rintro r h1 ⟨I2, G2, A2, B2, w, rfl, rfl, hJ, hrel⟩
  refine ⟨_, rfl, ?_⟩
  refine zw_pop 229 f189_228 rfl rfl ?_
  refine zw_goto 1013 f189_229 (by decide +kernel) ?_
  refine zw_iinc ((nI (6 * k)) + 6) _ 1016 f189_1013 rfl h3 (by decide +kernel) (by rw [show Int32.ofInt 6 = 6 by decide]) rfl ?_
  refine zw_goto 18 f189_1016 (by decide +kernel) ?_
  exact ih (k + 1) _ _ _ _ _ hJ (zl1_ne rfl rfl h0) (zl1_ne rfl rfl h1) (zl1_ne rfl rfl h2) (by rw [← nI_6 k]; exact zl1_eq) (by omega) (by omega)
set_option maxRecDepth 100000 in
set_option maxHeartbeats 0 in
theorem l_op2 (L : Nat) (xs : Nat → Int32) (hL : L ≤ 3072) (n k : Nat) (ls : List (Nat × Value)) (I : Nat → Nat → Int32) (G : Nat → Nat → Int64) (A : Nat → Nat → Int32) (B : Nat → Nat → Int64) (hI : zLI k I G A B) (h0 : zld ls 0 = some (.float 0)) (h1 : zld ls 1 = some (.ref 0)) (h2 : zld ls 2 = some (.ref 52)) (h3 : zld ls 3 = some (.int (nI (6 * k)))) (hk : 6 * k ≤ L) (hn : k + (n + 1) = 513) (hk6 : 6 * k + 6 ≤ L) (se : (xs (6 * k) &&& 31) = nI 2) (ih : ∀ (k : Nat) (ls : List (Nat × Value)) (I : Nat → Nat → Int32) (G : Nat → Nat → Int64) (A : Nat → Nat → Int32) (B : Nat → Nat → Int64), zLI k I G A B → zld ls 0 = some (.float 0) → zld ls 1 = some (.ref 0) → zld ls 2 = some (.ref 52) → zld ls 3 = some (.int (nI (6 * k))) → 6 * k ≤ L → k + n = 513 → zWp (zro L xs) 189 18 ls [] (hS I G A B) 82 7398 (fun r _ => r = some (.int 1))) : zWp (zro L xs) 189 33 ls [.int (xs (6 * k) &&& 31)] (hS I G A B) 82 7398 (fun r _ => r = some (.int 1)) := by
  refine zw_table_k 199 232 f189_33 se (by decide +kernel) (by decide +kernel) (by decide +kernel) ?_
  refine zw_aload_n 233 f189_232 rfl h1 ?_
  refine zw_aload_f 234 f189_233 rfl h0 ?_
  refine zw_iload_n 235 f189_234 rfl h3 ?_
  refine zw_iconst 1 236 f189_235 rfl (by decide +kernel) ?_
  refine zw_iadd (nI ((6 * k) + 1)) 237 f189_236 rfl (nI_add _ 1) ?_
  refine zw_iaload_f (((6 * k) + 1)) L (xs (((6 * k) + 1))) 238 f189_237 rfl rfl (nI_clamp (by omega)) (nI_pos (by omega)) (by omega) rfl ?_
  refine zw_aload_f 239 f189_238 rfl h0 ?_
  refine zw_iload_n 240 f189_239 rfl h3 ?_
  refine zw_iconst 2 241 f189_240 rfl (by decide +kernel) ?_
  refine zw_iadd (nI ((6 * k) + 2)) 242 f189_241 rfl (nI_add _ 2) ?_
  refine zw_iaload_f (((6 * k) + 2)) L (xs (((6 * k) + 2))) 243 f189_242 rfl rfl (nI_clamp (by omega)) (nI_pos (by omega)) (by omega) rfl ?_
  refine zw_virtual_i 246 82 7398 [.ref 0, .int (xs (((6 * k) + 1))), .int (xs (((6 * k) + 2)))] [(0, .ref 0), (1, .int (xs (((6 * k) + 1)))), (2, .int (xs (((6 * k) + 2))))] f189_243 rfl n189_23 k189_23_11 rfl (hb_0 _ _ _ _) (by decide +kernel) (Nat.le_of_ble_eq_true rfl) rfl rfl (by decide +kernel) (by decide +kernel) rfl (Nat.le_of_ble_eq_true rfl) rfl ?_
  refine zWp.mono (pair_own (zro L xs) k I G A B hI (by omega) (xs (((6 * k) + 1))) (xs (((6 * k) + 2)))) ?_
  rintro r h1 ⟨I1, G1, A1, B1, v, rfl, rfl, hz⟩
  refine ⟨_, rfl, ?_⟩
  refine zw_pop 247 f189_246 rfl rfl ?_
  refine zw_aload_n 248 f189_247 rfl h2 ?_
  refine zw_aload_f 249 f189_248 rfl h0 ?_
  refine zw_iload_n 250 f189_249 rfl h3 ?_
  refine zw_iconst 1 251 f189_250 rfl (by decide +kernel) ?_
  refine zw_iadd (nI ((6 * k) + 1)) 252 f189_251 rfl (nI_add _ 1) ?_
  refine zw_iaload_f (((6 * k) + 1)) L (xs (((6 * k) + 1))) 253 f189_252 rfl rfl (nI_clamp (by omega)) (nI_pos (by omega)) (by omega) rfl ?_
  refine zw_aload_f 254 f189_253 rfl h0 ?_
  refine zw_iload_n 255 f189_254 rfl h3 ?_
  refine zw_iconst 2 256 f189_255 rfl (by decide +kernel) ?_
  refine zw_iadd (nI ((6 * k) + 2)) 257 f189_256 rfl (nI_add _ 2) ?_
  refine zw_iaload_f (((6 * k) + 2)) L (xs (((6 * k) + 2))) 258 f189_257 rfl rfl (nI_clamp (by omega)) (nI_pos (by omega)) (by omega) rfl ?_
  refine zw_virtual_i 261 82 7398 [.ref 52, .int (xs (((6 * k) + 1))), .int (xs (((6 * k) + 2)))] [(0, .ref 52), (1, .int (xs (((6 * k) + 1)))), (2, .int (xs (((6 * k) + 2))))] f189_258 rfl n189_26 k189_26_12 rfl (hb_52 _ _ _ _) (by decide +kernel) (Nat.le_of_ble_eq_true rfl) rfl rfl (by decide +kernel) (by decide +kernel) rfl (Nat.le_of_ble_eq_true rfl) rfl ?_
  refine zWp.mono hz ?_
  rintro r h1 ⟨I2, G2, A2, B2, w, rfl, rfl, hJ, hrel⟩
  refine ⟨_, rfl, ?_⟩
  refine zw_pop 262 f189_261 rfl rfl ?_
  refine zw_goto 1013 f189_262 (by decide +kernel) ?_
  refine zw_iinc ((nI (6 * k)) + 6) _ 1016 f189_1013 rfl h3 (by decide +kernel) (by rw [show Int32.ofInt 6 = 6 by decide]) rfl ?_
  refine zw_goto 18 f189_1016 (by decide +kernel) ?_
  exact ih (k + 1) _ _ _ _ _ hJ (zl1_ne rfl rfl h0) (zl1_ne rfl rfl h1) (zl1_ne rfl rfl h2) (by rw [← nI_6 k]; exact zl1_eq) (by omega) (by omega)
set_option maxRecDepth 100000 in
set_option maxHeartbeats 0 in
theorem l_op3 (L : Nat) (xs : Nat → Int32) (hL : L ≤ 3072) (n k : Nat) (ls : List (Nat × Value)) (I : Nat → Nat → Int32) (G : Nat → Nat → Int64) (A : Nat → Nat → Int32) (B : Nat → Nat → Int64) (hI : zLI k I G A B) (h0 : zld ls 0 = some (.float 0)) (h1 : zld ls 1 = some (.ref 0)) (h2 : zld ls 2 = some (.ref 52)) (h3 : zld ls 3 = some (.int (nI (6 * k)))) (hk : 6 * k ≤ L) (hn : k + (n + 1) = 513) (hk6 : 6 * k + 6 ≤ L) (se : (xs (6 * k) &&& 31) = nI 3) (ih : ∀ (k : Nat) (ls : List (Nat × Value)) (I : Nat → Nat → Int32) (G : Nat → Nat → Int64) (A : Nat → Nat → Int32) (B : Nat → Nat → Int64), zLI k I G A B → zld ls 0 = some (.float 0) → zld ls 1 = some (.ref 0) → zld ls 2 = some (.ref 52) → zld ls 3 = some (.int (nI (6 * k))) → 6 * k ≤ L → k + n = 513 → zWp (zro L xs) 189 18 ls [] (hS I G A B) 82 7398 (fun r _ => r = some (.int 1))) : zWp (zro L xs) 189 33 ls [.int (xs (6 * k) &&& 31)] (hS I G A B) 82 7398 (fun r _ => r = some (.int 1)) := by
  refine zw_table_k 232 265 f189_33 se (by decide +kernel) (by decide +kernel) (by decide +kernel) ?_
  refine zw_aload_n 266 f189_265 rfl h1 ?_
  refine zw_aload_f 267 f189_266 rfl h0 ?_
  refine zw_iload_n 268 f189_267 rfl h3 ?_
  refine zw_iconst 1 269 f189_268 rfl (by decide +kernel) ?_
  refine zw_iadd (nI ((6 * k) + 1)) 270 f189_269 rfl (nI_add _ 1) ?_
  refine zw_iaload_f (((6 * k) + 1)) L (xs (((6 * k) + 1))) 271 f189_270 rfl rfl (nI_clamp (by omega)) (nI_pos (by omega)) (by omega) rfl ?_
  refine zw_aload_f 272 f189_271 rfl h0 ?_
  refine zw_iload_n 273 f189_272 rfl h3 ?_
  refine zw_iconst 2 274 f189_273 rfl (by decide +kernel) ?_
  refine zw_iadd (nI ((6 * k) + 2)) 275 f189_274 rfl (nI_add _ 2) ?_
  refine zw_iaload_f (((6 * k) + 2)) L (xs (((6 * k) + 2))) 276 f189_275 rfl rfl (nI_clamp (by omega)) (nI_pos (by omega)) (by omega) rfl ?_
  refine zw_virtual_i 279 82 7398 [.ref 0, .int (xs (((6 * k) + 1))), .int (xs (((6 * k) + 2)))] [(0, .ref 0), (1, .int (xs (((6 * k) + 1)))), (2, .int (xs (((6 * k) + 2))))] f189_276 rfl n189_27 k189_27_11 rfl (hb_0 _ _ _ _) (by decide +kernel) (Nat.le_of_ble_eq_true rfl) rfl rfl (by decide +kernel) (by decide +kernel) rfl (Nat.le_of_ble_eq_true rfl) rfl ?_
  refine zWp.mono (pair_tips (zro L xs) k I G A B hI (by omega) (xs (((6 * k) + 1))) (xs (((6 * k) + 2)))) ?_
  rintro r h1 ⟨I1, G1, A1, B1, v, rfl, rfl, hz⟩
  refine ⟨_, rfl, ?_⟩
  refine zw_pop 280 f189_279 rfl rfl ?_
  refine zw_aload_n 281 f189_280 rfl h2 ?_
  refine zw_aload_f 282 f189_281 rfl h0 ?_
  refine zw_iload_n 283 f189_282 rfl h3 ?_
  refine zw_iconst 1 284 f189_283 rfl (by decide +kernel) ?_
  refine zw_iadd (nI ((6 * k) + 1)) 285 f189_284 rfl (nI_add _ 1) ?_
  refine zw_iaload_f (((6 * k) + 1)) L (xs (((6 * k) + 1))) 286 f189_285 rfl rfl (nI_clamp (by omega)) (nI_pos (by omega)) (by omega) rfl ?_
  refine zw_aload_f 287 f189_286 rfl h0 ?_
  refine zw_iload_n 288 f189_287 rfl h3 ?_
  refine zw_iconst 2 289 f189_288 rfl (by decide +kernel) ?_
  refine zw_iadd (nI ((6 * k) + 2)) 290 f189_289 rfl (nI_add _ 2) ?_
  refine zw_iaload_f (((6 * k) + 2)) L (xs (((6 * k) + 2))) 291 f189_290 rfl rfl (nI_clamp (by omega)) (nI_pos (by omega)) (by omega) rfl ?_
  refine zw_virtual_i 294 82 7398 [.ref 52, .int (xs (((6 * k) + 1))), .int (xs (((6 * k) + 2)))] [(0, .ref 52), (1, .int (xs (((6 * k) + 1)))), (2, .int (xs (((6 * k) + 2))))] f189_291 rfl n189_30 k189_30_12 rfl (hb_52 _ _ _ _) (by decide +kernel) (Nat.le_of_ble_eq_true rfl) rfl rfl (by decide +kernel) (by decide +kernel) rfl (Nat.le_of_ble_eq_true rfl) rfl ?_
  refine zWp.mono hz ?_
  rintro r h1 ⟨I2, G2, A2, B2, w, rfl, rfl, hJ, hrel⟩
  refine ⟨_, rfl, ?_⟩
  refine zw_pop 295 f189_294 rfl rfl ?_
  refine zw_goto 1013 f189_295 (by decide +kernel) ?_
  refine zw_iinc ((nI (6 * k)) + 6) _ 1016 f189_1013 rfl h3 (by decide +kernel) (by rw [show Int32.ofInt 6 = 6 by decide]) rfl ?_
  refine zw_goto 18 f189_1016 (by decide +kernel) ?_
  exact ih (k + 1) _ _ _ _ _ hJ (zl1_ne rfl rfl h0) (zl1_ne rfl rfl h1) (zl1_ne rfl rfl h2) (by rw [← nI_6 k]; exact zl1_eq) (by omega) (by omega)
set_option maxRecDepth 100000 in
set_option maxHeartbeats 0 in
theorem l_op4 (L : Nat) (xs : Nat → Int32) (hL : L ≤ 3072) (n k : Nat) (ls : List (Nat × Value)) (I : Nat → Nat → Int32) (G : Nat → Nat → Int64) (A : Nat → Nat → Int32) (B : Nat → Nat → Int64) (hI : zLI k I G A B) (h0 : zld ls 0 = some (.float 0)) (h1 : zld ls 1 = some (.ref 0)) (h2 : zld ls 2 = some (.ref 52)) (h3 : zld ls 3 = some (.int (nI (6 * k)))) (hk : 6 * k ≤ L) (hn : k + (n + 1) = 513) (hk6 : 6 * k + 6 ≤ L) (se : (xs (6 * k) &&& 31) = nI 4) (ih : ∀ (k : Nat) (ls : List (Nat × Value)) (I : Nat → Nat → Int32) (G : Nat → Nat → Int64) (A : Nat → Nat → Int32) (B : Nat → Nat → Int64), zLI k I G A B → zld ls 0 = some (.float 0) → zld ls 1 = some (.ref 0) → zld ls 2 = some (.ref 52) → zld ls 3 = some (.int (nI (6 * k))) → 6 * k ≤ L → k + n = 513 → zWp (zro L xs) 189 18 ls [] (hS I G A B) 82 7398 (fun r _ => r = some (.int 1))) : zWp (zro L xs) 189 33 ls [.int (xs (6 * k) &&& 31)] (hS I G A B) 82 7398 (fun r _ => r = some (.int 1)) := by
  refine zw_table_k 265 298 f189_33 se (by decide +kernel) (by decide +kernel) (by decide +kernel) ?_
  refine zw_aload_n 299 f189_298 rfl h1 ?_
  refine zw_aload_f 300 f189_299 rfl h0 ?_
  refine zw_iload_n 301 f189_300 rfl h3 ?_
  refine zw_iconst 1 302 f189_301 rfl (by decide +kernel) ?_
  refine zw_iadd (nI ((6 * k) + 1)) 303 f189_302 rfl (nI_add _ 1) ?_
  refine zw_iaload_f (((6 * k) + 1)) L (xs (((6 * k) + 1))) 304 f189_303 rfl rfl (nI_clamp (by omega)) (nI_pos (by omega)) (by omega) rfl ?_
  refine zw_aload_f 305 f189_304 rfl h0 ?_
  refine zw_iload_n 306 f189_305 rfl h3 ?_
  refine zw_iconst 2 307 f189_306 rfl (by decide +kernel) ?_
  refine zw_iadd (nI ((6 * k) + 2)) 308 f189_307 rfl (nI_add _ 2) ?_
  refine zw_iaload_f (((6 * k) + 2)) L (xs (((6 * k) + 2))) 309 f189_308 rfl rfl (nI_clamp (by omega)) (nI_pos (by omega)) (by omega) rfl ?_
  refine zw_virtual_i 312 82 7398 [.ref 0, .int (xs (((6 * k) + 1))), .int (xs (((6 * k) + 2)))] [(0, .ref 0), (1, .int (xs (((6 * k) + 1)))), (2, .int (xs (((6 * k) + 2))))] f189_309 rfl n189_31 k189_31_11 rfl (hb_0 _ _ _ _) (by decide +kernel) (Nat.le_of_ble_eq_true rfl) rfl rfl (by decide +kernel) (by decide +kernel) rfl (Nat.le_of_ble_eq_true rfl) rfl ?_
  refine zWp.mono (pair_over (zro L xs) k I G A B hI (by omega) (xs (((6 * k) + 1))) (xs (((6 * k) + 2)))) ?_
  rintro r h1 ⟨I1, G1, A1, B1, v, rfl, rfl, hz⟩
  refine ⟨_, rfl, ?_⟩
  refine zw_pop 313 f189_312 rfl rfl ?_
  refine zw_aload_n 314 f189_313 rfl h2 ?_
  refine zw_aload_f 315 f189_314 rfl h0 ?_
  refine zw_iload_n 316 f189_315 rfl h3 ?_
  refine zw_iconst 1 317 f189_316 rfl (by decide +kernel) ?_
  refine zw_iadd (nI ((6 * k) + 1)) 318 f189_317 rfl (nI_add _ 1) ?_
  refine zw_iaload_f (((6 * k) + 1)) L (xs (((6 * k) + 1))) 319 f189_318 rfl rfl (nI_clamp (by omega)) (nI_pos (by omega)) (by omega) rfl ?_
  refine zw_aload_f 320 f189_319 rfl h0 ?_
  refine zw_iload_n 321 f189_320 rfl h3 ?_
  refine zw_iconst 2 322 f189_321 rfl (by decide +kernel) ?_
  refine zw_iadd (nI ((6 * k) + 2)) 323 f189_322 rfl (nI_add _ 2) ?_
  refine zw_iaload_f (((6 * k) + 2)) L (xs (((6 * k) + 2))) 324 f189_323 rfl rfl (nI_clamp (by omega)) (nI_pos (by omega)) (by omega) rfl ?_
  refine zw_virtual_i 327 82 7398 [.ref 52, .int (xs (((6 * k) + 1))), .int (xs (((6 * k) + 2)))] [(0, .ref 52), (1, .int (xs (((6 * k) + 1)))), (2, .int (xs (((6 * k) + 2))))] f189_324 rfl n189_34 k189_34_12 rfl (hb_52 _ _ _ _) (by decide +kernel) (Nat.le_of_ble_eq_true rfl) rfl rfl (by decide +kernel) (by decide +kernel) rfl (Nat.le_of_ble_eq_true rfl) rfl ?_
  refine zWp.mono hz ?_
  rintro r h1 ⟨I2, G2, A2, B2, w, rfl, rfl, hJ, hrel⟩
  refine ⟨_, rfl, ?_⟩
  refine zw_pop 328 f189_327 rfl rfl ?_
  refine zw_goto 1013 f189_328 (by decide +kernel) ?_
  refine zw_iinc ((nI (6 * k)) + 6) _ 1016 f189_1013 rfl h3 (by decide +kernel) (by rw [show Int32.ofInt 6 = 6 by decide]) rfl ?_
  refine zw_goto 18 f189_1016 (by decide +kernel) ?_
  exact ih (k + 1) _ _ _ _ _ hJ (zl1_ne rfl rfl h0) (zl1_ne rfl rfl h1) (zl1_ne rfl rfl h2) (by rw [← nI_6 k]; exact zl1_eq) (by omega) (by omega)
set_option maxRecDepth 100000 in
set_option maxHeartbeats 0 in
theorem l_op5 (L : Nat) (xs : Nat → Int32) (hL : L ≤ 3072) (n k : Nat) (ls : List (Nat × Value)) (I : Nat → Nat → Int32) (G : Nat → Nat → Int64) (A : Nat → Nat → Int32) (B : Nat → Nat → Int64) (hI : zLI k I G A B) (h0 : zld ls 0 = some (.float 0)) (h1 : zld ls 1 = some (.ref 0)) (h2 : zld ls 2 = some (.ref 52)) (h3 : zld ls 3 = some (.int (nI (6 * k)))) (hk : 6 * k ≤ L) (hn : k + (n + 1) = 513) (hk6 : 6 * k + 6 ≤ L) (se : (xs (6 * k) &&& 31) = nI 5) (ih : ∀ (k : Nat) (ls : List (Nat × Value)) (I : Nat → Nat → Int32) (G : Nat → Nat → Int64) (A : Nat → Nat → Int32) (B : Nat → Nat → Int64), zLI k I G A B → zld ls 0 = some (.float 0) → zld ls 1 = some (.ref 0) → zld ls 2 = some (.ref 52) → zld ls 3 = some (.int (nI (6 * k))) → 6 * k ≤ L → k + n = 513 → zWp (zro L xs) 189 18 ls [] (hS I G A B) 82 7398 (fun r _ => r = some (.int 1))) : zWp (zro L xs) 189 33 ls [.int (xs (6 * k) &&& 31)] (hS I G A B) 82 7398 (fun r _ => r = some (.int 1)) := by
  refine zw_table_k 298 331 f189_33 se (by decide +kernel) (by decide +kernel) (by decide +kernel) ?_
  refine zw_aload_n 332 f189_331 rfl h1 ?_
  refine zw_aload_f 333 f189_332 rfl h0 ?_
  refine zw_iload_n 334 f189_333 rfl h3 ?_
  refine zw_iconst 1 335 f189_334 rfl (by decide +kernel) ?_
  refine zw_iadd (nI ((6 * k) + 1)) 336 f189_335 rfl (nI_add _ 1) ?_
  refine zw_iaload_f (((6 * k) + 1)) L (xs (((6 * k) + 1))) 337 f189_336 rfl rfl (nI_clamp (by omega)) (nI_pos (by omega)) (by omega) rfl ?_
  refine zw_aload_f 338 f189_337 rfl h0 ?_
  refine zw_iload_n 339 f189_338 rfl h3 ?_
  refine zw_iconst 2 340 f189_339 rfl (by decide +kernel) ?_
  refine zw_iadd (nI ((6 * k) + 2)) 341 f189_340 rfl (nI_add _ 2) ?_
  refine zw_iaload_f (((6 * k) + 2)) L (xs (((6 * k) + 2))) 342 f189_341 rfl rfl (nI_clamp (by omega)) (nI_pos (by omega)) (by omega) rfl ?_
  refine zw_aload_f 343 f189_342 rfl h0 ?_
  refine zw_iload_n 344 f189_343 rfl h3 ?_
  refine zw_iconst 3 345 f189_344 rfl (by decide +kernel) ?_
  refine zw_iadd (nI ((6 * k) + 3)) 346 f189_345 rfl (nI_add _ 3) ?_
  refine zw_iaload_f (((6 * k) + 3)) L (xs (((6 * k) + 3))) 347 f189_346 rfl rfl (nI_clamp (by omega)) (nI_pos (by omega)) (by omega) rfl ?_
  refine zw_virtual_i 350 82 7398 [.ref 0, .int (xs (((6 * k) + 1))), .int (xs (((6 * k) + 2))), .int (xs (((6 * k) + 3)))] [(0, .ref 0), (1, .int (xs (((6 * k) + 1)))), (2, .int (xs (((6 * k) + 2)))), (3, .int (xs (((6 * k) + 3))))] f189_347 rfl n189_35 k189_35_11 rfl (hb_0 _ _ _ _) (by decide +kernel) (Nat.le_of_ble_eq_true rfl) rfl rfl (by decide +kernel) (by decide +kernel) rfl (Nat.le_of_ble_eq_true rfl) rfl ?_
  refine zWp.mono (pair_pipe (zro L xs) k I G A B hI (by omega) (xs (((6 * k) + 1))) (xs (((6 * k) + 2))) (xs (((6 * k) + 3)))) ?_
  rintro r h1 ⟨I1, G1, A1, B1, v, rfl, rfl, hz⟩
  refine ⟨_, rfl, ?_⟩
  refine zw_aload_n 351 f189_350 rfl h2 ?_
  refine zw_aload_f 352 f189_351 rfl h0 ?_
  refine zw_iload_n 353 f189_352 rfl h3 ?_
  refine zw_iconst 1 354 f189_353 rfl (by decide +kernel) ?_
  refine zw_iadd (nI ((6 * k) + 1)) 355 f189_354 rfl (nI_add _ 1) ?_
  refine zw_iaload_f (((6 * k) + 1)) L (xs (((6 * k) + 1))) 356 f189_355 rfl rfl (nI_clamp (by omega)) (nI_pos (by omega)) (by omega) rfl ?_
  refine zw_aload_f 357 f189_356 rfl h0 ?_
  refine zw_iload_n 358 f189_357 rfl h3 ?_
  refine zw_iconst 2 359 f189_358 rfl (by decide +kernel) ?_
  refine zw_iadd (nI ((6 * k) + 2)) 360 f189_359 rfl (nI_add _ 2) ?_
  refine zw_iaload_f (((6 * k) + 2)) L (xs (((6 * k) + 2))) 361 f189_360 rfl rfl (nI_clamp (by omega)) (nI_pos (by omega)) (by omega) rfl ?_
  refine zw_aload_f 362 f189_361 rfl h0 ?_
  refine zw_iload_n 363 f189_362 rfl h3 ?_
  refine zw_iconst 3 364 f189_363 rfl (by decide +kernel) ?_
  refine zw_iadd (nI ((6 * k) + 3)) 365 f189_364 rfl (nI_add _ 3) ?_
  refine zw_iaload_f (((6 * k) + 3)) L (xs (((6 * k) + 3))) 366 f189_365 rfl rfl (nI_clamp (by omega)) (nI_pos (by omega)) (by omega) rfl ?_
  refine zw_virtual_i 369 82 7398 [.ref 52, .int (xs (((6 * k) + 1))), .int (xs (((6 * k) + 2))), .int (xs (((6 * k) + 3)))] [(0, .ref 52), (1, .int (xs (((6 * k) + 1)))), (2, .int (xs (((6 * k) + 2)))), (3, .int (xs (((6 * k) + 3))))] f189_366 rfl n189_38 k189_38_12 rfl (hb_52 _ _ _ _) (by decide +kernel) (Nat.le_of_ble_eq_true rfl) rfl rfl (by decide +kernel) (by decide +kernel) rfl (Nat.le_of_ble_eq_true rfl) rfl ?_
  refine zWp.mono hz ?_
  rintro r h1 ⟨I2, G2, A2, B2, w, rfl, rfl, hJ, hrel⟩
  refine ⟨_, rfl, ?_⟩
  refine zw_ic_eq_t 1013 f189_369 (by decide +kernel) hrel ?_
  refine zw_iinc ((nI (6 * k)) + 6) _ 1016 f189_1013 rfl h3 (by decide +kernel) (by rw [show Int32.ofInt 6 = 6 by decide]) rfl ?_
  refine zw_goto 18 f189_1016 (by decide +kernel) ?_
  exact ih (k + 1) _ _ _ _ _ hJ (zl1_ne rfl rfl h0) (zl1_ne rfl rfl h1) (zl1_ne rfl rfl h2) (by rw [← nI_6 k]; exact zl1_eq) (by omega) (by omega)
set_option maxRecDepth 100000 in
set_option maxHeartbeats 0 in
theorem l_op6 (L : Nat) (xs : Nat → Int32) (hL : L ≤ 3072) (n k : Nat) (ls : List (Nat × Value)) (I : Nat → Nat → Int32) (G : Nat → Nat → Int64) (A : Nat → Nat → Int32) (B : Nat → Nat → Int64) (hI : zLI k I G A B) (h0 : zld ls 0 = some (.float 0)) (h1 : zld ls 1 = some (.ref 0)) (h2 : zld ls 2 = some (.ref 52)) (h3 : zld ls 3 = some (.int (nI (6 * k)))) (hk : 6 * k ≤ L) (hn : k + (n + 1) = 513) (hk6 : 6 * k + 6 ≤ L) (se : (xs (6 * k) &&& 31) = nI 6) (ih : ∀ (k : Nat) (ls : List (Nat × Value)) (I : Nat → Nat → Int32) (G : Nat → Nat → Int64) (A : Nat → Nat → Int32) (B : Nat → Nat → Int64), zLI k I G A B → zld ls 0 = some (.float 0) → zld ls 1 = some (.ref 0) → zld ls 2 = some (.ref 52) → zld ls 3 = some (.int (nI (6 * k))) → 6 * k ≤ L → k + n = 513 → zWp (zro L xs) 189 18 ls [] (hS I G A B) 82 7398 (fun r _ => r = some (.int 1))) : zWp (zro L xs) 189 33 ls [.int (xs (6 * k) &&& 31)] (hS I G A B) 82 7398 (fun r _ => r = some (.int 1)) := by
  refine zw_table_k 341 374 f189_33 se (by decide +kernel) (by decide +kernel) (by decide +kernel) ?_
  refine zw_aload_n 375 f189_374 rfl h1 ?_
  refine zw_aload_f 376 f189_375 rfl h0 ?_
  refine zw_iload_n 377 f189_376 rfl h3 ?_
  refine zw_iconst 1 378 f189_377 rfl (by decide +kernel) ?_
  refine zw_iadd (nI ((6 * k) + 1)) 379 f189_378 rfl (nI_add _ 1) ?_
  refine zw_iaload_f (((6 * k) + 1)) L (xs (((6 * k) + 1))) 380 f189_379 rfl rfl (nI_clamp (by omega)) (nI_pos (by omega)) (by omega) rfl ?_
  refine zw_aload_f 381 f189_380 rfl h0 ?_
  refine zw_iload_n 382 f189_381 rfl h3 ?_
  refine zw_iconst 2 383 f189_382 rfl (by decide +kernel) ?_
  refine zw_iadd (nI ((6 * k) + 2)) 384 f189_383 rfl (nI_add _ 2) ?_
  refine zw_iaload_f (((6 * k) + 2)) L (xs (((6 * k) + 2))) 385 f189_384 rfl rfl (nI_clamp (by omega)) (nI_pos (by omega)) (by omega) rfl ?_
  refine zw_virtual_i 388 82 7398 [.ref 0, .int (xs (((6 * k) + 1))), .int (xs (((6 * k) + 2)))] [(0, .ref 0), (1, .int (xs (((6 * k) + 1)))), (2, .int (xs (((6 * k) + 2))))] f189_385 rfl n189_39 k189_39_11 rfl (hb_0 _ _ _ _) (by decide +kernel) (Nat.le_of_ble_eq_true rfl) rfl rfl (by decide +kernel) (by decide +kernel) rfl (Nat.le_of_ble_eq_true rfl) rfl ?_
  refine zWp.mono (pair_fillx (zro L xs) k I G A B hI (by omega) (xs (((6 * k) + 1))) (xs (((6 * k) + 2)))) ?_
  rintro r h1 ⟨I1, G1, A1, B1, v, rfl, rfl, hz⟩
  refine ⟨_, rfl, ?_⟩
  refine zw_pop 389 f189_388 rfl rfl ?_
  refine zw_aload_n 390 f189_389 rfl h2 ?_
  refine zw_aload_f 391 f189_390 rfl h0 ?_
  refine zw_iload_n 392 f189_391 rfl h3 ?_
  refine zw_iconst 1 393 f189_392 rfl (by decide +kernel) ?_
  refine zw_iadd (nI ((6 * k) + 1)) 394 f189_393 rfl (nI_add _ 1) ?_
  refine zw_iaload_f (((6 * k) + 1)) L (xs (((6 * k) + 1))) 395 f189_394 rfl rfl (nI_clamp (by omega)) (nI_pos (by omega)) (by omega) rfl ?_
  refine zw_aload_f 396 f189_395 rfl h0 ?_
  refine zw_iload_n 397 f189_396 rfl h3 ?_
  refine zw_iconst 2 398 f189_397 rfl (by decide +kernel) ?_
  refine zw_iadd (nI ((6 * k) + 2)) 399 f189_398 rfl (nI_add _ 2) ?_
  refine zw_iaload_f (((6 * k) + 2)) L (xs (((6 * k) + 2))) 400 f189_399 rfl rfl (nI_clamp (by omega)) (nI_pos (by omega)) (by omega) rfl ?_
  refine zw_virtual_i 403 82 7398 [.ref 52, .int (xs (((6 * k) + 1))), .int (xs (((6 * k) + 2)))] [(0, .ref 52), (1, .int (xs (((6 * k) + 1)))), (2, .int (xs (((6 * k) + 2))))] f189_400 rfl n189_42 k189_42_12 rfl (hb_52 _ _ _ _) (by decide +kernel) (Nat.le_of_ble_eq_true rfl) rfl rfl (by decide +kernel) (by decide +kernel) rfl (Nat.le_of_ble_eq_true rfl) rfl ?_
  refine zWp.mono hz ?_
  rintro r h1 ⟨I2, G2, A2, B2, w, rfl, rfl, hJ, hrel⟩
  refine ⟨_, rfl, ?_⟩
  refine zw_pop 404 f189_403 rfl rfl ?_
  refine zw_goto 1013 f189_404 (by decide +kernel) ?_
  refine zw_iinc ((nI (6 * k)) + 6) _ 1016 f189_1013 rfl h3 (by decide +kernel) (by rw [show Int32.ofInt 6 = 6 by decide]) rfl ?_
  refine zw_goto 18 f189_1016 (by decide +kernel) ?_
  exact ih (k + 1) _ _ _ _ _ hJ (zl1_ne rfl rfl h0) (zl1_ne rfl rfl h1) (zl1_ne rfl rfl h2) (by rw [← nI_6 k]; exact zl1_eq) (by omega) (by omega)
set_option maxRecDepth 100000 in
set_option maxHeartbeats 0 in
theorem l_op7 (L : Nat) (xs : Nat → Int32) (hL : L ≤ 3072) (n k : Nat) (ls : List (Nat × Value)) (I : Nat → Nat → Int32) (G : Nat → Nat → Int64) (A : Nat → Nat → Int32) (B : Nat → Nat → Int64) (hI : zLI k I G A B) (h0 : zld ls 0 = some (.float 0)) (h1 : zld ls 1 = some (.ref 0)) (h2 : zld ls 2 = some (.ref 52)) (h3 : zld ls 3 = some (.int (nI (6 * k)))) (hk : 6 * k ≤ L) (hn : k + (n + 1) = 513) (hk6 : 6 * k + 6 ≤ L) (se : (xs (6 * k) &&& 31) = nI 7) (ih : ∀ (k : Nat) (ls : List (Nat × Value)) (I : Nat → Nat → Int32) (G : Nat → Nat → Int64) (A : Nat → Nat → Int32) (B : Nat → Nat → Int64), zLI k I G A B → zld ls 0 = some (.float 0) → zld ls 1 = some (.ref 0) → zld ls 2 = some (.ref 52) → zld ls 3 = some (.int (nI (6 * k))) → 6 * k ≤ L → k + n = 513 → zWp (zro L xs) 189 18 ls [] (hS I G A B) 82 7398 (fun r _ => r = some (.int 1))) : zWp (zro L xs) 189 33 ls [.int (xs (6 * k) &&& 31)] (hS I G A B) 82 7398 (fun r _ => r = some (.int 1)) := by
  refine zw_table_k 374 407 f189_33 se (by decide +kernel) (by decide +kernel) (by decide +kernel) ?_
  refine zw_aload_n 408 f189_407 rfl h1 ?_
  refine zw_aload_f 409 f189_408 rfl h0 ?_
  refine zw_iload_n 410 f189_409 rfl h3 ?_
  refine zw_iconst 1 411 f189_410 rfl (by decide +kernel) ?_
  refine zw_iadd (nI ((6 * k) + 1)) 412 f189_411 rfl (nI_add _ 1) ?_
  refine zw_iaload_f (((6 * k) + 1)) L (xs (((6 * k) + 1))) 413 f189_412 rfl rfl (nI_clamp (by omega)) (nI_pos (by omega)) (by omega) rfl ?_
  refine zw_aload_f 414 f189_413 rfl h0 ?_
  refine zw_iload_n 415 f189_414 rfl h3 ?_
  refine zw_iconst 2 416 f189_415 rfl (by decide +kernel) ?_
  refine zw_iadd (nI ((6 * k) + 2)) 417 f189_416 rfl (nI_add _ 2) ?_
  refine zw_iaload_f (((6 * k) + 2)) L (xs (((6 * k) + 2))) 418 f189_417 rfl rfl (nI_clamp (by omega)) (nI_pos (by omega)) (by omega) rfl ?_
  refine zw_if_eq 421 425 f189_418 (by decide +kernel) rfl (fun hc1 => ?_) (fun hc1 => ?_)
  · refine zw_iconst 0 426 f189_425 rfl (by decide +kernel) ?_
    refine zw_virtual_i 429 82 7398 [.ref 0, .int (xs (((6 * k) + 1))), .int 0] [(0, .ref 0), (1, .int (xs (((6 * k) + 1)))), (2, .int 0)] f189_426 rfl n189_43 k189_43_11 rfl (hb_0 _ _ _ _) (by decide +kernel) (Nat.le_of_ble_eq_true rfl) rfl rfl (by decide +kernel) (by decide +kernel) rfl (Nat.le_of_ble_eq_true rfl) rfl ?_
    refine zWp.mono (pair_shut (zro L xs) k I G A B hI (by omega) (xs (((6 * k) + 1))) 0 (by decide)) ?_
    rintro r h1 ⟨I1, G1, A1, B1, v, rfl, rfl, hz⟩
    refine ⟨_, rfl, ?_⟩
    refine zw_pop 430 f189_429 rfl rfl ?_
    refine zw_aload_n 431 f189_430 rfl h2 ?_
    refine zw_aload_f 432 f189_431 rfl h0 ?_
    refine zw_iload_n 433 f189_432 rfl h3 ?_
    refine zw_iconst 1 434 f189_433 rfl (by decide +kernel) ?_
    refine zw_iadd (nI ((6 * k) + 1)) 435 f189_434 rfl (nI_add _ 1) ?_
    refine zw_iaload_f (((6 * k) + 1)) L (xs (((6 * k) + 1))) 436 f189_435 rfl rfl (nI_clamp (by omega)) (nI_pos (by omega)) (by omega) rfl ?_
    refine zw_aload_f 437 f189_436 rfl h0 ?_
    refine zw_iload_n 438 f189_437 rfl h3 ?_
    refine zw_iconst 2 439 f189_438 rfl (by decide +kernel) ?_
    refine zw_iadd (nI ((6 * k) + 2)) 440 f189_439 rfl (nI_add _ 2) ?_
    refine zw_iaload_f (((6 * k) + 2)) L (xs (((6 * k) + 2))) 441 f189_440 rfl rfl (nI_clamp (by omega)) (nI_pos (by omega)) (by omega) rfl ?_
    refine zw_if_eq_t 448 f189_441 (by decide +kernel) hc1 ?_
    refine zw_iconst 0 449 f189_448 rfl (by decide +kernel) ?_
    refine zw_virtual_i 452 82 7398 [.ref 52, .int (xs (((6 * k) + 1))), .int 0] [(0, .ref 52), (1, .int (xs (((6 * k) + 1)))), (2, .int 0)] f189_449 rfl n189_47 k189_47_12 rfl (hb_52 _ _ _ _) (by decide +kernel) (Nat.le_of_ble_eq_true rfl) rfl rfl (by decide +kernel) (by decide +kernel) rfl (Nat.le_of_ble_eq_true rfl) rfl ?_
    refine zWp.mono hz ?_
    rintro r h1 ⟨I2, G2, A2, B2, w, rfl, rfl, hJ, hrel⟩
    refine ⟨_, rfl, ?_⟩
    refine zw_pop 453 f189_452 rfl rfl ?_
    refine zw_goto 1013 f189_453 (by decide +kernel) ?_
    refine zw_iinc ((nI (6 * k)) + 6) _ 1016 f189_1013 rfl h3 (by decide +kernel) (by rw [show Int32.ofInt 6 = 6 by decide]) rfl ?_
    refine zw_goto 18 f189_1016 (by decide +kernel) ?_
    exact ih (k + 1) _ _ _ _ _ hJ (zl1_ne rfl rfl h0) (zl1_ne rfl rfl h1) (zl1_ne rfl rfl h2) (by rw [← nI_6 k]; exact zl1_eq) (by omega) (by omega)
  · refine zw_iconst 1 422 f189_421 rfl (by decide +kernel) ?_
    refine zw_goto 426 f189_422 (by decide +kernel) ?_
    refine zw_virtual_i 429 82 7398 [.ref 0, .int (xs (((6 * k) + 1))), .int 1] [(0, .ref 0), (1, .int (xs (((6 * k) + 1)))), (2, .int 1)] f189_426 rfl n189_43 k189_43_11 rfl (hb_0 _ _ _ _) (by decide +kernel) (Nat.le_of_ble_eq_true rfl) rfl rfl (by decide +kernel) (by decide +kernel) rfl (Nat.le_of_ble_eq_true rfl) rfl ?_
    refine zWp.mono (pair_shut (zro L xs) k I G A B hI (by omega) (xs (((6 * k) + 1))) 1 (by decide)) ?_
    rintro r h1 ⟨I1, G1, A1, B1, v, rfl, rfl, hz⟩
    refine ⟨_, rfl, ?_⟩
    refine zw_pop 430 f189_429 rfl rfl ?_
    refine zw_aload_n 431 f189_430 rfl h2 ?_
    refine zw_aload_f 432 f189_431 rfl h0 ?_
    refine zw_iload_n 433 f189_432 rfl h3 ?_
    refine zw_iconst 1 434 f189_433 rfl (by decide +kernel) ?_
    refine zw_iadd (nI ((6 * k) + 1)) 435 f189_434 rfl (nI_add _ 1) ?_
    refine zw_iaload_f (((6 * k) + 1)) L (xs (((6 * k) + 1))) 436 f189_435 rfl rfl (nI_clamp (by omega)) (nI_pos (by omega)) (by omega) rfl ?_
    refine zw_aload_f 437 f189_436 rfl h0 ?_
    refine zw_iload_n 438 f189_437 rfl h3 ?_
    refine zw_iconst 2 439 f189_438 rfl (by decide +kernel) ?_
    refine zw_iadd (nI ((6 * k) + 2)) 440 f189_439 rfl (nI_add _ 2) ?_
    refine zw_iaload_f (((6 * k) + 2)) L (xs (((6 * k) + 2))) 441 f189_440 rfl rfl (nI_clamp (by omega)) (nI_pos (by omega)) (by omega) rfl ?_
    refine zw_if_eq_f 444 448 f189_441 (by decide +kernel) rfl hc1 ?_
    refine zw_iconst 1 445 f189_444 rfl (by decide +kernel) ?_
    refine zw_goto 449 f189_445 (by decide +kernel) ?_
    refine zw_virtual_i 452 82 7398 [.ref 52, .int (xs (((6 * k) + 1))), .int 1] [(0, .ref 52), (1, .int (xs (((6 * k) + 1)))), (2, .int 1)] f189_449 rfl n189_47 k189_47_12 rfl (hb_52 _ _ _ _) (by decide +kernel) (Nat.le_of_ble_eq_true rfl) rfl rfl (by decide +kernel) (by decide +kernel) rfl (Nat.le_of_ble_eq_true rfl) rfl ?_
    refine zWp.mono hz ?_
    rintro r h1 ⟨I2, G2, A2, B2, w, rfl, rfl, hJ, hrel⟩
    refine ⟨_, rfl, ?_⟩
    refine zw_pop 453 f189_452 rfl rfl ?_
    refine zw_goto 1013 f189_453 (by decide +kernel) ?_
    refine zw_iinc ((nI (6 * k)) + 6) _ 1016 f189_1013 rfl h3 (by decide +kernel) (by rw [show Int32.ofInt 6 = 6 by decide]) rfl ?_
    refine zw_goto 18 f189_1016 (by decide +kernel) ?_
    exact ih (k + 1) _ _ _ _ _ hJ (zl1_ne rfl rfl h0) (zl1_ne rfl rfl h1) (zl1_ne rfl rfl h2) (by rw [← nI_6 k]; exact zl1_eq) (by omega) (by omega)
set_option maxRecDepth 100000 in
set_option maxHeartbeats 0 in
theorem l_op8 (L : Nat) (xs : Nat → Int32) (hL : L ≤ 3072) (n k : Nat) (ls : List (Nat × Value)) (I : Nat → Nat → Int32) (G : Nat → Nat → Int64) (A : Nat → Nat → Int32) (B : Nat → Nat → Int64) (hI : zLI k I G A B) (h0 : zld ls 0 = some (.float 0)) (h1 : zld ls 1 = some (.ref 0)) (h2 : zld ls 2 = some (.ref 52)) (h3 : zld ls 3 = some (.int (nI (6 * k)))) (hk : 6 * k ≤ L) (hn : k + (n + 1) = 513) (hk6 : 6 * k + 6 ≤ L) (se : (xs (6 * k) &&& 31) = nI 8) (ih : ∀ (k : Nat) (ls : List (Nat × Value)) (I : Nat → Nat → Int32) (G : Nat → Nat → Int64) (A : Nat → Nat → Int32) (B : Nat → Nat → Int64), zLI k I G A B → zld ls 0 = some (.float 0) → zld ls 1 = some (.ref 0) → zld ls 2 = some (.ref 52) → zld ls 3 = some (.int (nI (6 * k))) → 6 * k ≤ L → k + n = 513 → zWp (zro L xs) 189 18 ls [] (hS I G A B) 82 7398 (fun r _ => r = some (.int 1))) : zWp (zro L xs) 189 33 ls [.int (xs (6 * k) &&& 31)] (hS I G A B) 82 7398 (fun r _ => r = some (.int 1)) := by
  refine zw_table_k 423 456 f189_33 se (by decide +kernel) (by decide +kernel) (by decide +kernel) ?_
  refine zw_aload_n 457 f189_456 rfl h1 ?_
  refine zw_aload_f 458 f189_457 rfl h0 ?_
  refine zw_iload_n 459 f189_458 rfl h3 ?_
  refine zw_iconst 1 460 f189_459 rfl (by decide +kernel) ?_
  refine zw_iadd (nI ((6 * k) + 1)) 461 f189_460 rfl (nI_add _ 1) ?_
  refine zw_iaload_f (((6 * k) + 1)) L (xs (((6 * k) + 1))) 462 f189_461 rfl rfl (nI_clamp (by omega)) (nI_pos (by omega)) (by omega) rfl ?_
  refine zw_aload_f 463 f189_462 rfl h0 ?_
  refine zw_iload_n 464 f189_463 rfl h3 ?_
  refine zw_iconst 2 465 f189_464 rfl (by decide +kernel) ?_
  refine zw_iadd (nI ((6 * k) + 2)) 466 f189_465 rfl (nI_add _ 2) ?_
  refine zw_iaload_f (((6 * k) + 2)) L (xs (((6 * k) + 2))) 467 f189_466 rfl rfl (nI_clamp (by omega)) (nI_pos (by omega)) (by omega) rfl ?_
  refine zw_virtual_i 470 82 7398 [.ref 0, .int (xs (((6 * k) + 1))), .int (xs (((6 * k) + 2)))] [(0, .ref 0), (1, .int (xs (((6 * k) + 1)))), (2, .int (xs (((6 * k) + 2))))] f189_467 rfl n189_48 k189_48_11 rfl (hb_0 _ _ _ _) (by decide +kernel) (Nat.le_of_ble_eq_true rfl) rfl rfl (by decide +kernel) (by decide +kernel) rfl (Nat.le_of_ble_eq_true rfl) rfl ?_
  refine zWp.mono (pair_amount (zro L xs) k I G A B hI (by omega) (xs (((6 * k) + 1))) (xs (((6 * k) + 2)))) ?_
  rintro r h1 ⟨I1, G1, A1, B1, v, rfl, rfl, hz⟩
  refine ⟨_, rfl, ?_⟩
  refine zw_pop 471 f189_470 rfl rfl ?_
  refine zw_aload_n 472 f189_471 rfl h2 ?_
  refine zw_aload_f 473 f189_472 rfl h0 ?_
  refine zw_iload_n 474 f189_473 rfl h3 ?_
  refine zw_iconst 1 475 f189_474 rfl (by decide +kernel) ?_
  refine zw_iadd (nI ((6 * k) + 1)) 476 f189_475 rfl (nI_add _ 1) ?_
  refine zw_iaload_f (((6 * k) + 1)) L (xs (((6 * k) + 1))) 477 f189_476 rfl rfl (nI_clamp (by omega)) (nI_pos (by omega)) (by omega) rfl ?_
  refine zw_aload_f 478 f189_477 rfl h0 ?_
  refine zw_iload_n 479 f189_478 rfl h3 ?_
  refine zw_iconst 2 480 f189_479 rfl (by decide +kernel) ?_
  refine zw_iadd (nI ((6 * k) + 2)) 481 f189_480 rfl (nI_add _ 2) ?_
  refine zw_iaload_f (((6 * k) + 2)) L (xs (((6 * k) + 2))) 482 f189_481 rfl rfl (nI_clamp (by omega)) (nI_pos (by omega)) (by omega) rfl ?_
  refine zw_virtual_i 485 82 7398 [.ref 52, .int (xs (((6 * k) + 1))), .int (xs (((6 * k) + 2)))] [(0, .ref 52), (1, .int (xs (((6 * k) + 1)))), (2, .int (xs (((6 * k) + 2))))] f189_482 rfl n189_51 k189_51_12 rfl (hb_52 _ _ _ _) (by decide +kernel) (Nat.le_of_ble_eq_true rfl) rfl rfl (by decide +kernel) (by decide +kernel) rfl (Nat.le_of_ble_eq_true rfl) rfl ?_
  refine zWp.mono hz ?_
  rintro r h1 ⟨I2, G2, A2, B2, w, rfl, rfl, hJ, hrel⟩
  refine ⟨_, rfl, ?_⟩
  refine zw_pop 486 f189_485 rfl rfl ?_
  refine zw_goto 1013 f189_486 (by decide +kernel) ?_
  refine zw_iinc ((nI (6 * k)) + 6) _ 1016 f189_1013 rfl h3 (by decide +kernel) (by rw [show Int32.ofInt 6 = 6 by decide]) rfl ?_
  refine zw_goto 18 f189_1016 (by decide +kernel) ?_
  exact ih (k + 1) _ _ _ _ _ hJ (zl1_ne rfl rfl h0) (zl1_ne rfl rfl h1) (zl1_ne rfl rfl h2) (by rw [← nI_6 k]; exact zl1_eq) (by omega) (by omega)
set_option maxRecDepth 100000 in
set_option maxHeartbeats 0 in
theorem l_op9 (L : Nat) (xs : Nat → Int32) (hL : L ≤ 3072) (n k : Nat) (ls : List (Nat × Value)) (I : Nat → Nat → Int32) (G : Nat → Nat → Int64) (A : Nat → Nat → Int32) (B : Nat → Nat → Int64) (hI : zLI k I G A B) (h0 : zld ls 0 = some (.float 0)) (h1 : zld ls 1 = some (.ref 0)) (h2 : zld ls 2 = some (.ref 52)) (h3 : zld ls 3 = some (.int (nI (6 * k)))) (hk : 6 * k ≤ L) (hn : k + (n + 1) = 513) (hk6 : 6 * k + 6 ≤ L) (se : (xs (6 * k) &&& 31) = nI 9) (ih : ∀ (k : Nat) (ls : List (Nat × Value)) (I : Nat → Nat → Int32) (G : Nat → Nat → Int64) (A : Nat → Nat → Int32) (B : Nat → Nat → Int64), zLI k I G A B → zld ls 0 = some (.float 0) → zld ls 1 = some (.ref 0) → zld ls 2 = some (.ref 52) → zld ls 3 = some (.int (nI (6 * k))) → 6 * k ≤ L → k + n = 513 → zWp (zro L xs) 189 18 ls [] (hS I G A B) 82 7398 (fun r _ => r = some (.int 1))) : zWp (zro L xs) 189 33 ls [.int (xs (6 * k) &&& 31)] (hS I G A B) 82 7398 (fun r _ => r = some (.int 1)) := by
  refine zw_table_k 456 489 f189_33 se (by decide +kernel) (by decide +kernel) (by decide +kernel) ?_
  refine zw_aload_n 490 f189_489 rfl h1 ?_
  refine zw_aload_f 491 f189_490 rfl h0 ?_
  refine zw_iload_n 492 f189_491 rfl h3 ?_
  refine zw_iconst 1 493 f189_492 rfl (by decide +kernel) ?_
  refine zw_iadd (nI ((6 * k) + 1)) 494 f189_493 rfl (nI_add _ 1) ?_
  refine zw_iaload_f (((6 * k) + 1)) L (xs (((6 * k) + 1))) 495 f189_494 rfl rfl (nI_clamp (by omega)) (nI_pos (by omega)) (by omega) rfl ?_
  refine zw_virtual_i 498 82 7398 [.ref 0, .int (xs (((6 * k) + 1)))] [(0, .ref 0), (1, .int (xs (((6 * k) + 1))))] f189_495 rfl n189_52 k189_52_11 rfl (hb_0 _ _ _ _) (by decide +kernel) (Nat.le_of_ble_eq_true rfl) rfl rfl (by decide +kernel) (by decide +kernel) rfl (Nat.le_of_ble_eq_true rfl) rfl ?_
  refine zWp.mono (pair_go (zro L xs) k I G A B hI (by omega) (xs (((6 * k) + 1)))) ?_
  rintro r h1 ⟨I1, G1, A1, B1, v, rfl, rfl, hz⟩
  refine ⟨_, rfl, ?_⟩
  refine zw_pop 499 f189_498 rfl rfl ?_
  refine zw_aload_n 500 f189_499 rfl h2 ?_
  refine zw_aload_f 501 f189_500 rfl h0 ?_
  refine zw_iload_n 502 f189_501 rfl h3 ?_
  refine zw_iconst 1 503 f189_502 rfl (by decide +kernel) ?_
  refine zw_iadd (nI ((6 * k) + 1)) 504 f189_503 rfl (nI_add _ 1) ?_
  refine zw_iaload_f (((6 * k) + 1)) L (xs (((6 * k) + 1))) 505 f189_504 rfl rfl (nI_clamp (by omega)) (nI_pos (by omega)) (by omega) rfl ?_
  refine zw_virtual_i 508 82 7398 [.ref 52, .int (xs (((6 * k) + 1)))] [(0, .ref 52), (1, .int (xs (((6 * k) + 1))))] f189_505 rfl n189_56 k189_56_12 rfl (hb_52 _ _ _ _) (by decide +kernel) (Nat.le_of_ble_eq_true rfl) rfl rfl (by decide +kernel) (by decide +kernel) rfl (Nat.le_of_ble_eq_true rfl) rfl ?_
  refine zWp.mono hz ?_
  rintro r h1 ⟨I2, G2, A2, B2, w, rfl, rfl, hJ, hrel⟩
  refine ⟨_, rfl, ?_⟩
  refine zw_pop 509 f189_508 rfl rfl ?_
  refine zw_goto 1013 f189_509 (by decide +kernel) ?_
  refine zw_iinc ((nI (6 * k)) + 6) _ 1016 f189_1013 rfl h3 (by decide +kernel) (by rw [show Int32.ofInt 6 = 6 by decide]) rfl ?_
  refine zw_goto 18 f189_1016 (by decide +kernel) ?_
  exact ih (k + 1) _ _ _ _ _ hJ (zl1_ne rfl rfl h0) (zl1_ne rfl rfl h1) (zl1_ne rfl rfl h2) (by rw [← nI_6 k]; exact zl1_eq) (by omega) (by omega)
set_option maxRecDepth 100000 in
set_option maxHeartbeats 0 in
theorem l_op10 (L : Nat) (xs : Nat → Int32) (hL : L ≤ 3072) (n k : Nat) (ls : List (Nat × Value)) (I : Nat → Nat → Int32) (G : Nat → Nat → Int64) (A : Nat → Nat → Int32) (B : Nat → Nat → Int64) (hI : zLI k I G A B) (h0 : zld ls 0 = some (.float 0)) (h1 : zld ls 1 = some (.ref 0)) (h2 : zld ls 2 = some (.ref 52)) (h3 : zld ls 3 = some (.int (nI (6 * k)))) (hk : 6 * k ≤ L) (hn : k + (n + 1) = 513) (hk6 : 6 * k + 6 ≤ L) (se : (xs (6 * k) &&& 31) = nI 10) (ih : ∀ (k : Nat) (ls : List (Nat × Value)) (I : Nat → Nat → Int32) (G : Nat → Nat → Int64) (A : Nat → Nat → Int32) (B : Nat → Nat → Int64), zLI k I G A B → zld ls 0 = some (.float 0) → zld ls 1 = some (.ref 0) → zld ls 2 = some (.ref 52) → zld ls 3 = some (.int (nI (6 * k))) → 6 * k ≤ L → k + n = 513 → zWp (zro L xs) 189 18 ls [] (hS I G A B) 82 7398 (fun r _ => r = some (.int 1))) : zWp (zro L xs) 189 33 ls [.int (xs (6 * k) &&& 31)] (hS I G A B) 82 7398 (fun r _ => r = some (.int 1)) := by
  refine zw_table_k 479 512 f189_33 se (by decide +kernel) (by decide +kernel) (by decide +kernel) ?_
  refine zw_aload_n 513 f189_512 rfl h1 ?_
  refine zw_aload_f 514 f189_513 rfl h0 ?_
  refine zw_iload_n 515 f189_514 rfl h3 ?_
  refine zw_iconst 1 516 f189_515 rfl (by decide +kernel) ?_
  refine zw_iadd (nI ((6 * k) + 1)) 517 f189_516 rfl (nI_add _ 1) ?_
  refine zw_iaload_f (((6 * k) + 1)) L (xs (((6 * k) + 1))) 518 f189_517 rfl rfl (nI_clamp (by omega)) (nI_pos (by omega)) (by omega) rfl ?_
  refine zw_virtual_i 521 82 7398 [.ref 0, .int (xs (((6 * k) + 1)))] [(0, .ref 0), (1, .int (xs (((6 * k) + 1))))] f189_518 rfl n189_57 k189_57_11 rfl (hb_0 _ _ _ _) (by decide +kernel) (Nat.le_of_ble_eq_true rfl) rfl rfl (by decide +kernel) (by decide +kernel) rfl (Nat.le_of_ble_eq_true rfl) rfl ?_
  refine zWp.mono (pair_now (zro L xs) k I G A B hI (by omega) (xs (((6 * k) + 1)))) ?_
  rintro r h1 ⟨I1, G1, A1, B1, v, rfl, rfl, hz⟩
  refine ⟨_, rfl, ?_⟩
  refine zw_pop 522 f189_521 rfl rfl ?_
  refine zw_aload_n 523 f189_522 rfl h2 ?_
  refine zw_aload_f 524 f189_523 rfl h0 ?_
  refine zw_iload_n 525 f189_524 rfl h3 ?_
  refine zw_iconst 1 526 f189_525 rfl (by decide +kernel) ?_
  refine zw_iadd (nI ((6 * k) + 1)) 527 f189_526 rfl (nI_add _ 1) ?_
  refine zw_iaload_f (((6 * k) + 1)) L (xs (((6 * k) + 1))) 528 f189_527 rfl rfl (nI_clamp (by omega)) (nI_pos (by omega)) (by omega) rfl ?_
  refine zw_virtual_i 531 82 7398 [.ref 52, .int (xs (((6 * k) + 1)))] [(0, .ref 52), (1, .int (xs (((6 * k) + 1))))] f189_528 rfl n189_60 k189_60_12 rfl (hb_52 _ _ _ _) (by decide +kernel) (Nat.le_of_ble_eq_true rfl) rfl rfl (by decide +kernel) (by decide +kernel) rfl (Nat.le_of_ble_eq_true rfl) rfl ?_
  refine zWp.mono hz ?_
  rintro r h1 ⟨I2, G2, A2, B2, w, rfl, rfl, hJ, hrel⟩
  refine ⟨_, rfl, ?_⟩
  refine zw_pop 532 f189_531 rfl rfl ?_
  refine zw_goto 1013 f189_532 (by decide +kernel) ?_
  refine zw_iinc ((nI (6 * k)) + 6) _ 1016 f189_1013 rfl h3 (by decide +kernel) (by rw [show Int32.ofInt 6 = 6 by decide]) rfl ?_
  refine zw_goto 18 f189_1016 (by decide +kernel) ?_
  exact ih (k + 1) _ _ _ _ _ hJ (zl1_ne rfl rfl h0) (zl1_ne rfl rfl h1) (zl1_ne rfl rfl h2) (by rw [← nI_6 k]; exact zl1_eq) (by omega) (by omega)
set_option maxRecDepth 100000 in
set_option maxHeartbeats 0 in
theorem l_op11 (L : Nat) (xs : Nat → Int32) (hL : L ≤ 3072) (n k : Nat) (ls : List (Nat × Value)) (I : Nat → Nat → Int32) (G : Nat → Nat → Int64) (A : Nat → Nat → Int32) (B : Nat → Nat → Int64) (hI : zLI k I G A B) (h0 : zld ls 0 = some (.float 0)) (h1 : zld ls 1 = some (.ref 0)) (h2 : zld ls 2 = some (.ref 52)) (h3 : zld ls 3 = some (.int (nI (6 * k)))) (hk : 6 * k ≤ L) (hn : k + (n + 1) = 513) (hk6 : 6 * k + 6 ≤ L) (se : (xs (6 * k) &&& 31) = nI 11) (ih : ∀ (k : Nat) (ls : List (Nat × Value)) (I : Nat → Nat → Int32) (G : Nat → Nat → Int64) (A : Nat → Nat → Int32) (B : Nat → Nat → Int64), zLI k I G A B → zld ls 0 = some (.float 0) → zld ls 1 = some (.ref 0) → zld ls 2 = some (.ref 52) → zld ls 3 = some (.int (nI (6 * k))) → 6 * k ≤ L → k + n = 513 → zWp (zro L xs) 189 18 ls [] (hS I G A B) 82 7398 (fun r _ => r = some (.int 1))) : zWp (zro L xs) 189 33 ls [.int (xs (6 * k) &&& 31)] (hS I G A B) 82 7398 (fun r _ => r = some (.int 1)) := by
  refine zw_table_k 502 535 f189_33 se (by decide +kernel) (by decide +kernel) (by decide +kernel) ?_
  refine zw_aload_n 536 f189_535 rfl h1 ?_
  refine zw_aload_f 537 f189_536 rfl h0 ?_
  refine zw_iload_n 538 f189_537 rfl h3 ?_
  refine zw_iconst 1 539 f189_538 rfl (by decide +kernel) ?_
  refine zw_iadd (nI ((6 * k) + 1)) 540 f189_539 rfl (nI_add _ 1) ?_
  refine zw_iaload_f (((6 * k) + 1)) L (xs (((6 * k) + 1))) 541 f189_540 rfl rfl (nI_clamp (by omega)) (nI_pos (by omega)) (by omega) rfl ?_
  refine zw_virtual_l 544 82 7398 [.ref 0, .int (xs (((6 * k) + 1)))] [(0, .ref 0), (1, .int (xs (((6 * k) + 1))))] f189_541 rfl n189_61 k189_61_11 rfl (hb_0 _ _ _ _) (by decide +kernel) (Nat.le_of_ble_eq_true rfl) rfl rfl (by decide +kernel) (by decide +kernel) rfl (Nat.le_of_ble_eq_true rfl) rfl ?_
  refine zWp.mono (pair_next (zro L xs) k I G A B hI (by omega) (xs (((6 * k) + 1)))) ?_
  rintro r h1 ⟨I1, G1, A1, B1, v, rfl, rfl, hz⟩
  refine ⟨_, rfl, ?_⟩
  refine zw_pop2 545 f189_544 rfl rfl ?_
  refine zw_aload_n 546 f189_545 rfl h2 ?_
  refine zw_aload_f 547 f189_546 rfl h0 ?_
  refine zw_iload_n 548 f189_547 rfl h3 ?_
  refine zw_iconst 1 549 f189_548 rfl (by decide +kernel) ?_
  refine zw_iadd (nI ((6 * k) + 1)) 550 f189_549 rfl (nI_add _ 1) ?_
  refine zw_iaload_f (((6 * k) + 1)) L (xs (((6 * k) + 1))) 551 f189_550 rfl rfl (nI_clamp (by omega)) (nI_pos (by omega)) (by omega) rfl ?_
  refine zw_virtual_l 554 82 7398 [.ref 52, .int (xs (((6 * k) + 1)))] [(0, .ref 52), (1, .int (xs (((6 * k) + 1))))] f189_551 rfl n189_65 k189_65_12 rfl (hb_52 _ _ _ _) (by decide +kernel) (Nat.le_of_ble_eq_true rfl) rfl rfl (by decide +kernel) (by decide +kernel) rfl (Nat.le_of_ble_eq_true rfl) rfl ?_
  refine zWp.mono hz ?_
  rintro r h1 ⟨I2, G2, A2, B2, w, rfl, rfl, hJ, hrel⟩
  refine ⟨_, rfl, ?_⟩
  refine zw_pop2 555 f189_554 rfl rfl ?_
  refine zw_goto 1013 f189_555 (by decide +kernel) ?_
  refine zw_iinc ((nI (6 * k)) + 6) _ 1016 f189_1013 rfl h3 (by decide +kernel) (by rw [show Int32.ofInt 6 = 6 by decide]) rfl ?_
  refine zw_goto 18 f189_1016 (by decide +kernel) ?_
  exact ih (k + 1) _ _ _ _ _ hJ (zl1_ne rfl rfl h0) (zl1_ne rfl rfl h1) (zl1_ne rfl rfl h2) (by rw [← nI_6 k]; exact zl1_eq) (by omega) (by omega)
set_option maxRecDepth 100000 in
set_option maxHeartbeats 0 in
theorem l_op12 (L : Nat) (xs : Nat → Int32) (hL : L ≤ 3072) (n k : Nat) (ls : List (Nat × Value)) (I : Nat → Nat → Int32) (G : Nat → Nat → Int64) (A : Nat → Nat → Int32) (B : Nat → Nat → Int64) (hI : zLI k I G A B) (h0 : zld ls 0 = some (.float 0)) (h1 : zld ls 1 = some (.ref 0)) (h2 : zld ls 2 = some (.ref 52)) (h3 : zld ls 3 = some (.int (nI (6 * k)))) (hk : 6 * k ≤ L) (hn : k + (n + 1) = 513) (hk6 : 6 * k + 6 ≤ L) (se : (xs (6 * k) &&& 31) = nI 12) (ih : ∀ (k : Nat) (ls : List (Nat × Value)) (I : Nat → Nat → Int32) (G : Nat → Nat → Int64) (A : Nat → Nat → Int32) (B : Nat → Nat → Int64), zLI k I G A B → zld ls 0 = some (.float 0) → zld ls 1 = some (.ref 0) → zld ls 2 = some (.ref 52) → zld ls 3 = some (.int (nI (6 * k))) → 6 * k ≤ L → k + n = 513 → zWp (zro L xs) 189 18 ls [] (hS I G A B) 82 7398 (fun r _ => r = some (.int 1))) : zWp (zro L xs) 189 33 ls [.int (xs (6 * k) &&& 31)] (hS I G A B) 82 7398 (fun r _ => r = some (.int 1)) := by
  refine zw_table_k 525 558 f189_33 se (by decide +kernel) (by decide +kernel) (by decide +kernel) ?_
  refine zw_aload_n 559 f189_558 rfl h1 ?_
  refine zw_aload_f 560 f189_559 rfl h0 ?_
  refine zw_iload_n 561 f189_560 rfl h3 ?_
  refine zw_iconst 1 562 f189_561 rfl (by decide +kernel) ?_
  refine zw_iadd (nI ((6 * k) + 1)) 563 f189_562 rfl (nI_add _ 1) ?_
  refine zw_iaload_f (((6 * k) + 1)) L (xs (((6 * k) + 1))) 564 f189_563 rfl rfl (nI_clamp (by omega)) (nI_pos (by omega)) (by omega) rfl ?_
  refine zw_aload_f 565 f189_564 rfl h0 ?_
  refine zw_iload_n 566 f189_565 rfl h3 ?_
  refine zw_iconst 2 567 f189_566 rfl (by decide +kernel) ?_
  refine zw_iadd (nI ((6 * k) + 2)) 568 f189_567 rfl (nI_add _ 2) ?_
  refine zw_iaload_f (((6 * k) + 2)) L (xs (((6 * k) + 2))) 569 f189_568 rfl rfl (nI_clamp (by omega)) (nI_pos (by omega)) (by omega) rfl ?_
  refine zw_virtual_i 572 82 7398 [.ref 0, .int (xs (((6 * k) + 1))), .int (xs (((6 * k) + 2)))] [(0, .ref 0), (1, .int (xs (((6 * k) + 1)))), (2, .int (xs (((6 * k) + 2))))] f189_569 rfl n189_66 k189_66_11 rfl (hb_0 _ _ _ _) (by decide +kernel) (Nat.le_of_ble_eq_true rfl) rfl rfl (by decide +kernel) (by decide +kernel) rfl (Nat.le_of_ble_eq_true rfl) rfl ?_
  refine zWp.mono (pair_level (zro L xs) k I G A B hI (by omega) (xs (((6 * k) + 1))) (xs (((6 * k) + 2)))) ?_
  rintro r h1 ⟨I1, G1, A1, B1, v, rfl, rfl, hz⟩
  refine ⟨_, rfl, ?_⟩
  refine zw_pop 573 f189_572 rfl rfl ?_
  refine zw_aload_n 574 f189_573 rfl h2 ?_
  refine zw_aload_f 575 f189_574 rfl h0 ?_
  refine zw_iload_n 576 f189_575 rfl h3 ?_
  refine zw_iconst 1 577 f189_576 rfl (by decide +kernel) ?_
  refine zw_iadd (nI ((6 * k) + 1)) 578 f189_577 rfl (nI_add _ 1) ?_
  refine zw_iaload_f (((6 * k) + 1)) L (xs (((6 * k) + 1))) 579 f189_578 rfl rfl (nI_clamp (by omega)) (nI_pos (by omega)) (by omega) rfl ?_
  refine zw_aload_f 580 f189_579 rfl h0 ?_
  refine zw_iload_n 581 f189_580 rfl h3 ?_
  refine zw_iconst 2 582 f189_581 rfl (by decide +kernel) ?_
  refine zw_iadd (nI ((6 * k) + 2)) 583 f189_582 rfl (nI_add _ 2) ?_
  refine zw_iaload_f (((6 * k) + 2)) L (xs (((6 * k) + 2))) 584 f189_583 rfl rfl (nI_clamp (by omega)) (nI_pos (by omega)) (by omega) rfl ?_
  refine zw_virtual_i 587 82 7398 [.ref 52, .int (xs (((6 * k) + 1))), .int (xs (((6 * k) + 2)))] [(0, .ref 52), (1, .int (xs (((6 * k) + 1)))), (2, .int (xs (((6 * k) + 2))))] f189_584 rfl n189_69 k189_69_12 rfl (hb_52 _ _ _ _) (by decide +kernel) (Nat.le_of_ble_eq_true rfl) rfl rfl (by decide +kernel) (by decide +kernel) rfl (Nat.le_of_ble_eq_true rfl) rfl ?_
  refine zWp.mono hz ?_
  rintro r h1 ⟨I2, G2, A2, B2, w, rfl, rfl, hJ, hrel⟩
  refine ⟨_, rfl, ?_⟩
  refine zw_pop 588 f189_587 rfl rfl ?_
  refine zw_goto 1013 f189_588 (by decide +kernel) ?_
  refine zw_iinc ((nI (6 * k)) + 6) _ 1016 f189_1013 rfl h3 (by decide +kernel) (by rw [show Int32.ofInt 6 = 6 by decide]) rfl ?_
  refine zw_goto 18 f189_1016 (by decide +kernel) ?_
  exact ih (k + 1) _ _ _ _ _ hJ (zl1_ne rfl rfl h0) (zl1_ne rfl rfl h1) (zl1_ne rfl rfl h2) (by rw [← nI_6 k]; exact zl1_eq) (by omega) (by omega)
set_option maxRecDepth 100000 in
set_option maxHeartbeats 0 in
theorem l_op13 (L : Nat) (xs : Nat → Int32) (hL : L ≤ 3072) (n k : Nat) (ls : List (Nat × Value)) (I : Nat → Nat → Int32) (G : Nat → Nat → Int64) (A : Nat → Nat → Int32) (B : Nat → Nat → Int64) (hI : zLI k I G A B) (h0 : zld ls 0 = some (.float 0)) (h1 : zld ls 1 = some (.ref 0)) (h2 : zld ls 2 = some (.ref 52)) (h3 : zld ls 3 = some (.int (nI (6 * k)))) (hk : 6 * k ≤ L) (hn : k + (n + 1) = 513) (hk6 : 6 * k + 6 ≤ L) (se : (xs (6 * k) &&& 31) = nI 13) (ih : ∀ (k : Nat) (ls : List (Nat × Value)) (I : Nat → Nat → Int32) (G : Nat → Nat → Int64) (A : Nat → Nat → Int32) (B : Nat → Nat → Int64), zLI k I G A B → zld ls 0 = some (.float 0) → zld ls 1 = some (.ref 0) → zld ls 2 = some (.ref 52) → zld ls 3 = some (.int (nI (6 * k))) → 6 * k ≤ L → k + n = 513 → zWp (zro L xs) 189 18 ls [] (hS I G A B) 82 7398 (fun r _ => r = some (.int 1))) : zWp (zro L xs) 189 33 ls [.int (xs (6 * k) &&& 31)] (hS I G A B) 82 7398 (fun r _ => r = some (.int 1)) := by
  refine zw_table_k 558 591 f189_33 se (by decide +kernel) (by decide +kernel) (by decide +kernel) ?_
  refine zw_aload_n 592 f189_591 rfl h1 ?_
  refine zw_aload_f 593 f189_592 rfl h0 ?_
  refine zw_iload_n 594 f189_593 rfl h3 ?_
  refine zw_iconst 1 595 f189_594 rfl (by decide +kernel) ?_
  refine zw_iadd (nI ((6 * k) + 1)) 596 f189_595 rfl (nI_add _ 1) ?_
  refine zw_iaload_f (((6 * k) + 1)) L (xs (((6 * k) + 1))) 597 f189_596 rfl rfl (nI_clamp (by omega)) (nI_pos (by omega)) (by omega) rfl ?_
  refine zw_virtual_i 600 82 7398 [.ref 0, .int (xs (((6 * k) + 1)))] [(0, .ref 0), (1, .int (xs (((6 * k) + 1))))] f189_597 rfl n189_70 k189_70_11 rfl (hb_0 _ _ _ _) (by decide +kernel) (Nat.le_of_ble_eq_true rfl) rfl rfl (by decide +kernel) (by decide +kernel) rfl (Nat.le_of_ble_eq_true rfl) rfl ?_
  refine zWp.mono (pair_rate (zro L xs) k I G A B hI (by omega) (xs (((6 * k) + 1)))) ?_
  rintro r h1 ⟨I1, G1, A1, B1, v, rfl, rfl, hz⟩
  refine ⟨_, rfl, ?_⟩
  refine zw_pop 601 f189_600 rfl rfl ?_
  refine zw_aload_n 602 f189_601 rfl h2 ?_
  refine zw_aload_f 603 f189_602 rfl h0 ?_
  refine zw_iload_n 604 f189_603 rfl h3 ?_
  refine zw_iconst 1 605 f189_604 rfl (by decide +kernel) ?_
  refine zw_iadd (nI ((6 * k) + 1)) 606 f189_605 rfl (nI_add _ 1) ?_
  refine zw_iaload_f (((6 * k) + 1)) L (xs (((6 * k) + 1))) 607 f189_606 rfl rfl (nI_clamp (by omega)) (nI_pos (by omega)) (by omega) rfl ?_
  refine zw_virtual_i 610 82 7398 [.ref 52, .int (xs (((6 * k) + 1)))] [(0, .ref 52), (1, .int (xs (((6 * k) + 1))))] f189_607 rfl n189_73 k189_73_12 rfl (hb_52 _ _ _ _) (by decide +kernel) (Nat.le_of_ble_eq_true rfl) rfl rfl (by decide +kernel) (by decide +kernel) rfl (Nat.le_of_ble_eq_true rfl) rfl ?_
  refine zWp.mono hz ?_
  rintro r h1 ⟨I2, G2, A2, B2, w, rfl, rfl, hJ, hrel⟩
  refine ⟨_, rfl, ?_⟩
  refine zw_pop 611 f189_610 rfl rfl ?_
  refine zw_goto 1013 f189_611 (by decide +kernel) ?_
  refine zw_iinc ((nI (6 * k)) + 6) _ 1016 f189_1013 rfl h3 (by decide +kernel) (by rw [show Int32.ofInt 6 = 6 by decide]) rfl ?_
  refine zw_goto 18 f189_1016 (by decide +kernel) ?_
  exact ih (k + 1) _ _ _ _ _ hJ (zl1_ne rfl rfl h0) (zl1_ne rfl rfl h1) (zl1_ne rfl rfl h2) (by rw [← nI_6 k]; exact zl1_eq) (by omega) (by omega)
set_option maxRecDepth 100000 in
set_option maxHeartbeats 0 in
theorem l_op14 (L : Nat) (xs : Nat → Int32) (hL : L ≤ 3072) (n k : Nat) (ls : List (Nat × Value)) (I : Nat → Nat → Int32) (G : Nat → Nat → Int64) (A : Nat → Nat → Int32) (B : Nat → Nat → Int64) (hI : zLI k I G A B) (h0 : zld ls 0 = some (.float 0)) (h1 : zld ls 1 = some (.ref 0)) (h2 : zld ls 2 = some (.ref 52)) (h3 : zld ls 3 = some (.int (nI (6 * k)))) (hk : 6 * k ≤ L) (hn : k + (n + 1) = 513) (hk6 : 6 * k + 6 ≤ L) (se : (xs (6 * k) &&& 31) = nI 14) (ih : ∀ (k : Nat) (ls : List (Nat × Value)) (I : Nat → Nat → Int32) (G : Nat → Nat → Int64) (A : Nat → Nat → Int32) (B : Nat → Nat → Int64), zLI k I G A B → zld ls 0 = some (.float 0) → zld ls 1 = some (.ref 0) → zld ls 2 = some (.ref 52) → zld ls 3 = some (.int (nI (6 * k))) → 6 * k ≤ L → k + n = 513 → zWp (zro L xs) 189 18 ls [] (hS I G A B) 82 7398 (fun r _ => r = some (.int 1))) : zWp (zro L xs) 189 33 ls [.int (xs (6 * k) &&& 31)] (hS I G A B) 82 7398 (fun r _ => r = some (.int 1)) := by
  refine zw_table_k 581 614 f189_33 se (by decide +kernel) (by decide +kernel) (by decide +kernel) ?_
  refine zw_aload_n 615 f189_614 rfl h1 ?_
  refine zw_aload_f 616 f189_615 rfl h0 ?_
  refine zw_iload_n 617 f189_616 rfl h3 ?_
  refine zw_iconst 1 618 f189_617 rfl (by decide +kernel) ?_
  refine zw_iadd (nI ((6 * k) + 1)) 619 f189_618 rfl (nI_add _ 1) ?_
  refine zw_iaload_f (((6 * k) + 1)) L (xs (((6 * k) + 1))) 620 f189_619 rfl rfl (nI_clamp (by omega)) (nI_pos (by omega)) (by omega) rfl ?_
  refine zw_virtual_i 623 82 7398 [.ref 0, .int (xs (((6 * k) + 1)))] [(0, .ref 0), (1, .int (xs (((6 * k) + 1))))] f189_620 rfl n189_74 k189_74_11 rfl (hb_0 _ _ _ _) (by decide +kernel) (Nat.le_of_ble_eq_true rfl) rfl rfl (by decide +kernel) (by decide +kernel) rfl (Nat.le_of_ble_eq_true rfl) rfl ?_
  refine zWp.mono (pair_flow (zro L xs) k I G A B hI (by omega) (xs (((6 * k) + 1)))) ?_
  rintro r h1 ⟨I1, G1, A1, B1, v, rfl, rfl, hz⟩
  refine ⟨_, rfl, ?_⟩
  refine zw_pop 624 f189_623 rfl rfl ?_
  refine zw_aload_n 625 f189_624 rfl h2 ?_
  refine zw_aload_f 626 f189_625 rfl h0 ?_
  refine zw_iload_n 627 f189_626 rfl h3 ?_
  refine zw_iconst 1 628 f189_627 rfl (by decide +kernel) ?_
  refine zw_iadd (nI ((6 * k) + 1)) 629 f189_628 rfl (nI_add _ 1) ?_
  refine zw_iaload_f (((6 * k) + 1)) L (xs (((6 * k) + 1))) 630 f189_629 rfl rfl (nI_clamp (by omega)) (nI_pos (by omega)) (by omega) rfl ?_
  refine zw_virtual_i 633 82 7398 [.ref 52, .int (xs (((6 * k) + 1)))] [(0, .ref 52), (1, .int (xs (((6 * k) + 1))))] f189_630 rfl n189_77 k189_77_12 rfl (hb_52 _ _ _ _) (by decide +kernel) (Nat.le_of_ble_eq_true rfl) rfl rfl (by decide +kernel) (by decide +kernel) rfl (Nat.le_of_ble_eq_true rfl) rfl ?_
  refine zWp.mono hz ?_
  rintro r h1 ⟨I2, G2, A2, B2, w, rfl, rfl, hJ, hrel⟩
  refine ⟨_, rfl, ?_⟩
  refine zw_pop 634 f189_633 rfl rfl ?_
  refine zw_goto 1013 f189_634 (by decide +kernel) ?_
  refine zw_iinc ((nI (6 * k)) + 6) _ 1016 f189_1013 rfl h3 (by decide +kernel) (by rw [show Int32.ofInt 6 = 6 by decide]) rfl ?_
  refine zw_goto 18 f189_1016 (by decide +kernel) ?_
  exact ih (k + 1) _ _ _ _ _ hJ (zl1_ne rfl rfl h0) (zl1_ne rfl rfl h1) (zl1_ne rfl rfl h2) (by rw [← nI_6 k]; exact zl1_eq) (by omega) (by omega)
set_option maxRecDepth 100000 in
set_option maxHeartbeats 0 in
theorem l_op15 (L : Nat) (xs : Nat → Int32) (hL : L ≤ 3072) (n k : Nat) (ls : List (Nat × Value)) (I : Nat → Nat → Int32) (G : Nat → Nat → Int64) (A : Nat → Nat → Int32) (B : Nat → Nat → Int64) (hI : zLI k I G A B) (h0 : zld ls 0 = some (.float 0)) (h1 : zld ls 1 = some (.ref 0)) (h2 : zld ls 2 = some (.ref 52)) (h3 : zld ls 3 = some (.int (nI (6 * k)))) (hk : 6 * k ≤ L) (hn : k + (n + 1) = 513) (hk6 : 6 * k + 6 ≤ L) (se : (xs (6 * k) &&& 31) = nI 15) (ih : ∀ (k : Nat) (ls : List (Nat × Value)) (I : Nat → Nat → Int32) (G : Nat → Nat → Int64) (A : Nat → Nat → Int32) (B : Nat → Nat → Int64), zLI k I G A B → zld ls 0 = some (.float 0) → zld ls 1 = some (.ref 0) → zld ls 2 = some (.ref 52) → zld ls 3 = some (.int (nI (6 * k))) → 6 * k ≤ L → k + n = 513 → zWp (zro L xs) 189 18 ls [] (hS I G A B) 82 7398 (fun r _ => r = some (.int 1))) : zWp (zro L xs) 189 33 ls [.int (xs (6 * k) &&& 31)] (hS I G A B) 82 7398 (fun r _ => r = some (.int 1)) := by
  refine zw_table_k 604 637 f189_33 se (by decide +kernel) (by decide +kernel) (by decide +kernel) ?_
  refine zw_aload_n 638 f189_637 rfl h1 ?_
  refine zw_aload_f 639 f189_638 rfl h0 ?_
  refine zw_iload_n 640 f189_639 rfl h3 ?_
  refine zw_iconst 1 641 f189_640 rfl (by decide +kernel) ?_
  refine zw_iadd (nI ((6 * k) + 1)) 642 f189_641 rfl (nI_add _ 1) ?_
  refine zw_iaload_f (((6 * k) + 1)) L (xs (((6 * k) + 1))) 643 f189_642 rfl rfl (nI_clamp (by omega)) (nI_pos (by omega)) (by omega) rfl ?_
  refine zw_virtual_i 646 82 7398 [.ref 0, .int (xs (((6 * k) + 1)))] [(0, .ref 0), (1, .int (xs (((6 * k) + 1))))] f189_643 rfl n189_78 k189_78_11 rfl (hb_0 _ _ _ _) (by decide +kernel) (Nat.le_of_ble_eq_true rfl) rfl rfl (by decide +kernel) (by decide +kernel) rfl (Nat.le_of_ble_eq_true rfl) rfl ?_
  refine zWp.mono (pair_flood (zro L xs) k I G A B hI (by omega) (xs (((6 * k) + 1)))) ?_
  rintro r h1 ⟨I1, G1, A1, B1, v, rfl, rfl, hz⟩
  refine ⟨_, rfl, ?_⟩
  refine zw_pop 647 f189_646 rfl rfl ?_
  refine zw_aload_n 648 f189_647 rfl h2 ?_
  refine zw_aload_f 649 f189_648 rfl h0 ?_
  refine zw_iload_n 650 f189_649 rfl h3 ?_
  refine zw_iconst 1 651 f189_650 rfl (by decide +kernel) ?_
  refine zw_iadd (nI ((6 * k) + 1)) 652 f189_651 rfl (nI_add _ 1) ?_
  refine zw_iaload_f (((6 * k) + 1)) L (xs (((6 * k) + 1))) 653 f189_652 rfl rfl (nI_clamp (by omega)) (nI_pos (by omega)) (by omega) rfl ?_
  refine zw_virtual_i 656 82 7398 [.ref 52, .int (xs (((6 * k) + 1)))] [(0, .ref 52), (1, .int (xs (((6 * k) + 1))))] f189_653 rfl n189_81 k189_81_12 rfl (hb_52 _ _ _ _) (by decide +kernel) (Nat.le_of_ble_eq_true rfl) rfl rfl (by decide +kernel) (by decide +kernel) rfl (Nat.le_of_ble_eq_true rfl) rfl ?_
  refine zWp.mono hz ?_
  rintro r h1 ⟨I2, G2, A2, B2, w, rfl, rfl, hJ, hrel⟩
  refine ⟨_, rfl, ?_⟩
  refine zw_pop 657 f189_656 rfl rfl ?_
  refine zw_goto 1013 f189_657 (by decide +kernel) ?_
  refine zw_iinc ((nI (6 * k)) + 6) _ 1016 f189_1013 rfl h3 (by decide +kernel) (by rw [show Int32.ofInt 6 = 6 by decide]) rfl ?_
  refine zw_goto 18 f189_1016 (by decide +kernel) ?_
  exact ih (k + 1) _ _ _ _ _ hJ (zl1_ne rfl rfl h0) (zl1_ne rfl rfl h1) (zl1_ne rfl rfl h2) (by rw [← nI_6 k]; exact zl1_eq) (by omega) (by omega)
set_option maxRecDepth 100000 in
set_option maxHeartbeats 0 in
theorem l_op16 (L : Nat) (xs : Nat → Int32) (hL : L ≤ 3072) (n k : Nat) (ls : List (Nat × Value)) (I : Nat → Nat → Int32) (G : Nat → Nat → Int64) (A : Nat → Nat → Int32) (B : Nat → Nat → Int64) (hI : zLI k I G A B) (h0 : zld ls 0 = some (.float 0)) (h1 : zld ls 1 = some (.ref 0)) (h2 : zld ls 2 = some (.ref 52)) (h3 : zld ls 3 = some (.int (nI (6 * k)))) (hk : 6 * k ≤ L) (hn : k + (n + 1) = 513) (hk6 : 6 * k + 6 ≤ L) (se : (xs (6 * k) &&& 31) = nI 16) (ih : ∀ (k : Nat) (ls : List (Nat × Value)) (I : Nat → Nat → Int32) (G : Nat → Nat → Int64) (A : Nat → Nat → Int32) (B : Nat → Nat → Int64), zLI k I G A B → zld ls 0 = some (.float 0) → zld ls 1 = some (.ref 0) → zld ls 2 = some (.ref 52) → zld ls 3 = some (.int (nI (6 * k))) → 6 * k ≤ L → k + n = 513 → zWp (zro L xs) 189 18 ls [] (hS I G A B) 82 7398 (fun r _ => r = some (.int 1))) : zWp (zro L xs) 189 33 ls [.int (xs (6 * k) &&& 31)] (hS I G A B) 82 7398 (fun r _ => r = some (.int 1)) := by
  refine zw_table_k 627 660 f189_33 se (by decide +kernel) (by decide +kernel) (by decide +kernel) ?_
  refine zw_aload_n 661 f189_660 rfl h1 ?_
  refine zw_aload_f 662 f189_661 rfl h0 ?_
  refine zw_iload_n 663 f189_662 rfl h3 ?_
  refine zw_iconst 1 664 f189_663 rfl (by decide +kernel) ?_
  refine zw_iadd (nI ((6 * k) + 1)) 665 f189_664 rfl (nI_add _ 1) ?_
  refine zw_iaload_f (((6 * k) + 1)) L (xs (((6 * k) + 1))) 666 f189_665 rfl rfl (nI_clamp (by omega)) (nI_pos (by omega)) (by omega) rfl ?_
  refine zw_aload_f 667 f189_666 rfl h0 ?_
  refine zw_iload_n 668 f189_667 rfl h3 ?_
  refine zw_iconst 2 669 f189_668 rfl (by decide +kernel) ?_
  refine zw_iadd (nI ((6 * k) + 2)) 670 f189_669 rfl (nI_add _ 2) ?_
  refine zw_iaload_f (((6 * k) + 2)) L (xs (((6 * k) + 2))) 671 f189_670 rfl rfl (nI_clamp (by omega)) (nI_pos (by omega)) (by omega) rfl ?_
  refine zw_virtual_i 674 82 7398 [.ref 0, .int (xs (((6 * k) + 1))), .int (xs (((6 * k) + 2)))] [(0, .ref 0), (1, .int (xs (((6 * k) + 1)))), (2, .int (xs (((6 * k) + 2))))] f189_671 rfl n189_82 k189_82_11 rfl (hb_0 _ _ _ _) (by decide +kernel) (Nat.le_of_ble_eq_true rfl) rfl rfl (by decide +kernel) (by decide +kernel) rfl (Nat.le_of_ble_eq_true rfl) rfl ?_
  refine zWp.mono (pair_told (zro L xs) k I G A B hI (by omega) (xs (((6 * k) + 1))) (xs (((6 * k) + 2)))) ?_
  rintro r h1 ⟨I1, G1, A1, B1, v, rfl, rfl, hz⟩
  refine ⟨_, rfl, ?_⟩
  refine zw_pop 675 f189_674 rfl rfl ?_
  refine zw_aload_n 676 f189_675 rfl h2 ?_
  refine zw_aload_f 677 f189_676 rfl h0 ?_
  refine zw_iload_n 678 f189_677 rfl h3 ?_
  refine zw_iconst 1 679 f189_678 rfl (by decide +kernel) ?_
  refine zw_iadd (nI ((6 * k) + 1)) 680 f189_679 rfl (nI_add _ 1) ?_
  refine zw_iaload_f (((6 * k) + 1)) L (xs (((6 * k) + 1))) 681 f189_680 rfl rfl (nI_clamp (by omega)) (nI_pos (by omega)) (by omega) rfl ?_
  refine zw_aload_f 682 f189_681 rfl h0 ?_
  refine zw_iload_n 683 f189_682 rfl h3 ?_
  refine zw_iconst 2 684 f189_683 rfl (by decide +kernel) ?_
  refine zw_iadd (nI ((6 * k) + 2)) 685 f189_684 rfl (nI_add _ 2) ?_
  refine zw_iaload_f (((6 * k) + 2)) L (xs (((6 * k) + 2))) 686 f189_685 rfl rfl (nI_clamp (by omega)) (nI_pos (by omega)) (by omega) rfl ?_
  refine zw_virtual_i 689 82 7398 [.ref 52, .int (xs (((6 * k) + 1))), .int (xs (((6 * k) + 2)))] [(0, .ref 52), (1, .int (xs (((6 * k) + 1)))), (2, .int (xs (((6 * k) + 2))))] f189_686 rfl n189_85 k189_85_12 rfl (hb_52 _ _ _ _) (by decide +kernel) (Nat.le_of_ble_eq_true rfl) rfl rfl (by decide +kernel) (by decide +kernel) rfl (Nat.le_of_ble_eq_true rfl) rfl ?_
  refine zWp.mono hz ?_
  rintro r h1 ⟨I2, G2, A2, B2, w, rfl, rfl, hJ, hrel⟩
  refine ⟨_, rfl, ?_⟩
  refine zw_pop 690 f189_689 rfl rfl ?_
  refine zw_goto 1013 f189_690 (by decide +kernel) ?_
  refine zw_iinc ((nI (6 * k)) + 6) _ 1016 f189_1013 rfl h3 (by decide +kernel) (by rw [show Int32.ofInt 6 = 6 by decide]) rfl ?_
  refine zw_goto 18 f189_1016 (by decide +kernel) ?_
  exact ih (k + 1) _ _ _ _ _ hJ (zl1_ne rfl rfl h0) (zl1_ne rfl rfl h1) (zl1_ne rfl rfl h2) (by rw [← nI_6 k]; exact zl1_eq) (by omega) (by omega)
set_option maxRecDepth 100000 in
set_option maxHeartbeats 0 in
theorem l_op17 (L : Nat) (xs : Nat → Int32) (hL : L ≤ 3072) (n k : Nat) (ls : List (Nat × Value)) (I : Nat → Nat → Int32) (G : Nat → Nat → Int64) (A : Nat → Nat → Int32) (B : Nat → Nat → Int64) (hI : zLI k I G A B) (h0 : zld ls 0 = some (.float 0)) (h1 : zld ls 1 = some (.ref 0)) (h2 : zld ls 2 = some (.ref 52)) (h3 : zld ls 3 = some (.int (nI (6 * k)))) (hk : 6 * k ≤ L) (hn : k + (n + 1) = 513) (hk6 : 6 * k + 6 ≤ L) (se : (xs (6 * k) &&& 31) = nI 17) (ih : ∀ (k : Nat) (ls : List (Nat × Value)) (I : Nat → Nat → Int32) (G : Nat → Nat → Int64) (A : Nat → Nat → Int32) (B : Nat → Nat → Int64), zLI k I G A B → zld ls 0 = some (.float 0) → zld ls 1 = some (.ref 0) → zld ls 2 = some (.ref 52) → zld ls 3 = some (.int (nI (6 * k))) → 6 * k ≤ L → k + n = 513 → zWp (zro L xs) 189 18 ls [] (hS I G A B) 82 7398 (fun r _ => r = some (.int 1))) : zWp (zro L xs) 189 33 ls [.int (xs (6 * k) &&& 31)] (hS I G A B) 82 7398 (fun r _ => r = some (.int 1)) := by
  refine zw_table_k 660 693 f189_33 se (by decide +kernel) (by decide +kernel) (by decide +kernel) ?_
  refine zw_aload_n 694 f189_693 rfl h1 ?_
  refine zw_aload_f 695 f189_694 rfl h0 ?_
  refine zw_iload_n 696 f189_695 rfl h3 ?_
  refine zw_iconst 1 697 f189_696 rfl (by decide +kernel) ?_
  refine zw_iadd (nI ((6 * k) + 1)) 698 f189_697 rfl (nI_add _ 1) ?_
  refine zw_iaload_f (((6 * k) + 1)) L (xs (((6 * k) + 1))) 699 f189_698 rfl rfl (nI_clamp (by omega)) (nI_pos (by omega)) (by omega) rfl ?_
  refine zw_aload_f 700 f189_699 rfl h0 ?_
  refine zw_iload_n 701 f189_700 rfl h3 ?_
  refine zw_iconst 2 702 f189_701 rfl (by decide +kernel) ?_
  refine zw_iadd (nI ((6 * k) + 2)) 703 f189_702 rfl (nI_add _ 2) ?_
  refine zw_iaload_f (((6 * k) + 2)) L (xs (((6 * k) + 2))) 704 f189_703 rfl rfl (nI_clamp (by omega)) (nI_pos (by omega)) (by omega) rfl ?_
  refine zw_virtual_i 707 82 7398 [.ref 0, .int (xs (((6 * k) + 1))), .int (xs (((6 * k) + 2)))] [(0, .ref 0), (1, .int (xs (((6 * k) + 1)))), (2, .int (xs (((6 * k) + 2))))] f189_704 rfl n189_86 k189_86_11 rfl (hb_0 _ _ _ _) (by decide +kernel) (Nat.le_of_ble_eq_true rfl) rfl rfl (by decide +kernel) (by decide +kernel) rfl (Nat.le_of_ble_eq_true rfl) rfl ?_
  refine zWp.mono (pair_pipeTold (zro L xs) k I G A B hI (by omega) (xs (((6 * k) + 1))) (xs (((6 * k) + 2)))) ?_
  rintro r h1 ⟨I1, G1, A1, B1, v, rfl, rfl, hz⟩
  refine ⟨_, rfl, ?_⟩
  refine zw_pop 708 f189_707 rfl rfl ?_
  refine zw_aload_n 709 f189_708 rfl h2 ?_
  refine zw_aload_f 710 f189_709 rfl h0 ?_
  refine zw_iload_n 711 f189_710 rfl h3 ?_
  refine zw_iconst 1 712 f189_711 rfl (by decide +kernel) ?_
  refine zw_iadd (nI ((6 * k) + 1)) 713 f189_712 rfl (nI_add _ 1) ?_
  refine zw_iaload_f (((6 * k) + 1)) L (xs (((6 * k) + 1))) 714 f189_713 rfl rfl (nI_clamp (by omega)) (nI_pos (by omega)) (by omega) rfl ?_
  refine zw_aload_f 715 f189_714 rfl h0 ?_
  refine zw_iload_n 716 f189_715 rfl h3 ?_
  refine zw_iconst 2 717 f189_716 rfl (by decide +kernel) ?_
  refine zw_iadd (nI ((6 * k) + 2)) 718 f189_717 rfl (nI_add _ 2) ?_
  refine zw_iaload_f (((6 * k) + 2)) L (xs (((6 * k) + 2))) 719 f189_718 rfl rfl (nI_clamp (by omega)) (nI_pos (by omega)) (by omega) rfl ?_
  refine zw_virtual_i 722 82 7398 [.ref 52, .int (xs (((6 * k) + 1))), .int (xs (((6 * k) + 2)))] [(0, .ref 52), (1, .int (xs (((6 * k) + 1)))), (2, .int (xs (((6 * k) + 2))))] f189_719 rfl n189_89 k189_89_12 rfl (hb_52 _ _ _ _) (by decide +kernel) (Nat.le_of_ble_eq_true rfl) rfl rfl (by decide +kernel) (by decide +kernel) rfl (Nat.le_of_ble_eq_true rfl) rfl ?_
  refine zWp.mono hz ?_
  rintro r h1 ⟨I2, G2, A2, B2, w, rfl, rfl, hJ, hrel⟩
  refine ⟨_, rfl, ?_⟩
  refine zw_pop 723 f189_722 rfl rfl ?_
  refine zw_goto 1013 f189_723 (by decide +kernel) ?_
  refine zw_iinc ((nI (6 * k)) + 6) _ 1016 f189_1013 rfl h3 (by decide +kernel) (by rw [show Int32.ofInt 6 = 6 by decide]) rfl ?_
  refine zw_goto 18 f189_1016 (by decide +kernel) ?_
  exact ih (k + 1) _ _ _ _ _ hJ (zl1_ne rfl rfl h0) (zl1_ne rfl rfl h1) (zl1_ne rfl rfl h2) (by rw [← nI_6 k]; exact zl1_eq) (by omega) (by omega)
set_option maxRecDepth 100000 in
set_option maxHeartbeats 0 in
theorem l_op18 (L : Nat) (xs : Nat → Int32) (hL : L ≤ 3072) (n k : Nat) (ls : List (Nat × Value)) (I : Nat → Nat → Int32) (G : Nat → Nat → Int64) (A : Nat → Nat → Int32) (B : Nat → Nat → Int64) (hI : zLI k I G A B) (h0 : zld ls 0 = some (.float 0)) (h1 : zld ls 1 = some (.ref 0)) (h2 : zld ls 2 = some (.ref 52)) (h3 : zld ls 3 = some (.int (nI (6 * k)))) (hk : 6 * k ≤ L) (hn : k + (n + 1) = 513) (hk6 : 6 * k + 6 ≤ L) (se : (xs (6 * k) &&& 31) = nI 18) (ih : ∀ (k : Nat) (ls : List (Nat × Value)) (I : Nat → Nat → Int32) (G : Nat → Nat → Int64) (A : Nat → Nat → Int32) (B : Nat → Nat → Int64), zLI k I G A B → zld ls 0 = some (.float 0) → zld ls 1 = some (.ref 0) → zld ls 2 = some (.ref 52) → zld ls 3 = some (.int (nI (6 * k))) → 6 * k ≤ L → k + n = 513 → zWp (zro L xs) 189 18 ls [] (hS I G A B) 82 7398 (fun r _ => r = some (.int 1))) : zWp (zro L xs) 189 33 ls [.int (xs (6 * k) &&& 31)] (hS I G A B) 82 7398 (fun r _ => r = some (.int 1)) := by
  refine zw_table_k 693 726 f189_33 se (by decide +kernel) (by decide +kernel) (by decide +kernel) ?_
  refine zw_aload_n 727 f189_726 rfl h1 ?_
  refine zw_aload_f 728 f189_727 rfl h0 ?_
  refine zw_iload_n 729 f189_728 rfl h3 ?_
  refine zw_iconst 1 730 f189_729 rfl (by decide +kernel) ?_
  refine zw_iadd (nI ((6 * k) + 1)) 731 f189_730 rfl (nI_add _ 1) ?_
  refine zw_iaload_f (((6 * k) + 1)) L (xs (((6 * k) + 1))) 732 f189_731 rfl rfl (nI_clamp (by omega)) (nI_pos (by omega)) (by omega) rfl ?_
  refine zw_virtual_i 735 82 7398 [.ref 0, .int (xs (((6 * k) + 1)))] [(0, .ref 0), (1, .int (xs (((6 * k) + 1))))] f189_732 rfl n189_90 k189_90_11 rfl (hb_0 _ _ _ _) (by decide +kernel) (Nat.le_of_ble_eq_true rfl) rfl rfl (by decide +kernel) (by decide +kernel) rfl (Nat.le_of_ble_eq_true rfl) rfl ?_
  refine zWp.mono (pair_count (zro L xs) k I G A B hI (by omega) (xs (((6 * k) + 1)))) ?_
  rintro r h1 ⟨I1, G1, A1, B1, v, rfl, rfl, hz⟩
  refine ⟨_, rfl, ?_⟩
  refine zw_pop 736 f189_735 rfl rfl ?_
  refine zw_aload_n 737 f189_736 rfl h2 ?_
  refine zw_aload_f 738 f189_737 rfl h0 ?_
  refine zw_iload_n 739 f189_738 rfl h3 ?_
  refine zw_iconst 1 740 f189_739 rfl (by decide +kernel) ?_
  refine zw_iadd (nI ((6 * k) + 1)) 741 f189_740 rfl (nI_add _ 1) ?_
  refine zw_iaload_f (((6 * k) + 1)) L (xs (((6 * k) + 1))) 742 f189_741 rfl rfl (nI_clamp (by omega)) (nI_pos (by omega)) (by omega) rfl ?_
  refine zw_virtual_i 745 82 7398 [.ref 52, .int (xs (((6 * k) + 1)))] [(0, .ref 52), (1, .int (xs (((6 * k) + 1))))] f189_742 rfl n189_93 k189_93_12 rfl (hb_52 _ _ _ _) (by decide +kernel) (Nat.le_of_ble_eq_true rfl) rfl rfl (by decide +kernel) (by decide +kernel) rfl (Nat.le_of_ble_eq_true rfl) rfl ?_
  refine zWp.mono hz ?_
  rintro r h1 ⟨I2, G2, A2, B2, w, rfl, rfl, hJ, hrel⟩
  refine ⟨_, rfl, ?_⟩
  refine zw_pop 746 f189_745 rfl rfl ?_
  refine zw_goto 1013 f189_746 (by decide +kernel) ?_
  refine zw_iinc ((nI (6 * k)) + 6) _ 1016 f189_1013 rfl h3 (by decide +kernel) (by rw [show Int32.ofInt 6 = 6 by decide]) rfl ?_
  refine zw_goto 18 f189_1016 (by decide +kernel) ?_
  exact ih (k + 1) _ _ _ _ _ hJ (zl1_ne rfl rfl h0) (zl1_ne rfl rfl h1) (zl1_ne rfl rfl h2) (by rw [← nI_6 k]; exact zl1_eq) (by omega) (by omega)
set_option maxRecDepth 100000 in
set_option maxHeartbeats 0 in
theorem l_op19 (L : Nat) (xs : Nat → Int32) (hL : L ≤ 3072) (n k : Nat) (ls : List (Nat × Value)) (I : Nat → Nat → Int32) (G : Nat → Nat → Int64) (A : Nat → Nat → Int32) (B : Nat → Nat → Int64) (hI : zLI k I G A B) (h0 : zld ls 0 = some (.float 0)) (h1 : zld ls 1 = some (.ref 0)) (h2 : zld ls 2 = some (.ref 52)) (h3 : zld ls 3 = some (.int (nI (6 * k)))) (hk : 6 * k ≤ L) (hn : k + (n + 1) = 513) (hk6 : 6 * k + 6 ≤ L) (se : (xs (6 * k) &&& 31) = nI 19) (ih : ∀ (k : Nat) (ls : List (Nat × Value)) (I : Nat → Nat → Int32) (G : Nat → Nat → Int64) (A : Nat → Nat → Int32) (B : Nat → Nat → Int64), zLI k I G A B → zld ls 0 = some (.float 0) → zld ls 1 = some (.ref 0) → zld ls 2 = some (.ref 52) → zld ls 3 = some (.int (nI (6 * k))) → 6 * k ≤ L → k + n = 513 → zWp (zro L xs) 189 18 ls [] (hS I G A B) 82 7398 (fun r _ => r = some (.int 1))) : zWp (zro L xs) 189 33 ls [.int (xs (6 * k) &&& 31)] (hS I G A B) 82 7398 (fun r _ => r = some (.int 1)) := by
  refine zw_table_k 716 749 f189_33 se (by decide +kernel) (by decide +kernel) (by decide +kernel) ?_
  refine zw_aload_n 750 f189_749 rfl h1 ?_
  refine zw_aload_f 751 f189_750 rfl h0 ?_
  refine zw_iload_n 752 f189_751 rfl h3 ?_
  refine zw_iconst 1 753 f189_752 rfl (by decide +kernel) ?_
  refine zw_iadd (nI ((6 * k) + 1)) 754 f189_753 rfl (nI_add _ 1) ?_
  refine zw_iaload_f (((6 * k) + 1)) L (xs (((6 * k) + 1))) 755 f189_754 rfl rfl (nI_clamp (by omega)) (nI_pos (by omega)) (by omega) rfl ?_
  refine zw_aload_f 756 f189_755 rfl h0 ?_
  refine zw_iload_n 757 f189_756 rfl h3 ?_
  refine zw_iconst 2 758 f189_757 rfl (by decide +kernel) ?_
  refine zw_iadd (nI ((6 * k) + 2)) 759 f189_758 rfl (nI_add _ 2) ?_
  refine zw_iaload_f (((6 * k) + 2)) L (xs (((6 * k) + 2))) 760 f189_759 rfl rfl (nI_clamp (by omega)) (nI_pos (by omega)) (by omega) rfl ?_
  refine zw_virtual_i 763 82 7398 [.ref 0, .int (xs (((6 * k) + 1))), .int (xs (((6 * k) + 2)))] [(0, .ref 0), (1, .int (xs (((6 * k) + 1)))), (2, .int (xs (((6 * k) + 2))))] f189_760 rfl n189_94 k189_94_11 rfl (hb_0 _ _ _ _) (by decide +kernel) (Nat.le_of_ble_eq_true rfl) rfl rfl (by decide +kernel) (by decide +kernel) rfl (Nat.le_of_ble_eq_true rfl) rfl ?_
  refine zWp.mono (pair_event (zro L xs) k I G A B hI (by omega) (xs (((6 * k) + 1))) (xs (((6 * k) + 2)))) ?_
  rintro r h1 ⟨I1, G1, A1, B1, v, rfl, rfl, hz⟩
  refine ⟨_, rfl, ?_⟩
  refine zw_pop 764 f189_763 rfl rfl ?_
  refine zw_aload_n 765 f189_764 rfl h2 ?_
  refine zw_aload_f 766 f189_765 rfl h0 ?_
  refine zw_iload_n 767 f189_766 rfl h3 ?_
  refine zw_iconst 1 768 f189_767 rfl (by decide +kernel) ?_
  refine zw_iadd (nI ((6 * k) + 1)) 769 f189_768 rfl (nI_add _ 1) ?_
  refine zw_iaload_f (((6 * k) + 1)) L (xs (((6 * k) + 1))) 770 f189_769 rfl rfl (nI_clamp (by omega)) (nI_pos (by omega)) (by omega) rfl ?_
  refine zw_aload_f 771 f189_770 rfl h0 ?_
  refine zw_iload_n 772 f189_771 rfl h3 ?_
  refine zw_iconst 2 773 f189_772 rfl (by decide +kernel) ?_
  refine zw_iadd (nI ((6 * k) + 2)) 774 f189_773 rfl (nI_add _ 2) ?_
  refine zw_iaload_f (((6 * k) + 2)) L (xs (((6 * k) + 2))) 775 f189_774 rfl rfl (nI_clamp (by omega)) (nI_pos (by omega)) (by omega) rfl ?_
  refine zw_virtual_i 778 82 7398 [.ref 52, .int (xs (((6 * k) + 1))), .int (xs (((6 * k) + 2)))] [(0, .ref 52), (1, .int (xs (((6 * k) + 1)))), (2, .int (xs (((6 * k) + 2))))] f189_775 rfl n189_97 k189_97_12 rfl (hb_52 _ _ _ _) (by decide +kernel) (Nat.le_of_ble_eq_true rfl) rfl rfl (by decide +kernel) (by decide +kernel) rfl (Nat.le_of_ble_eq_true rfl) rfl ?_
  refine zWp.mono hz ?_
  rintro r h1 ⟨I2, G2, A2, B2, w, rfl, rfl, hJ, hrel⟩
  refine ⟨_, rfl, ?_⟩
  refine zw_pop 779 f189_778 rfl rfl ?_
  refine zw_goto 1013 f189_779 (by decide +kernel) ?_
  refine zw_iinc ((nI (6 * k)) + 6) _ 1016 f189_1013 rfl h3 (by decide +kernel) (by rw [show Int32.ofInt 6 = 6 by decide]) rfl ?_
  refine zw_goto 18 f189_1016 (by decide +kernel) ?_
  exact ih (k + 1) _ _ _ _ _ hJ (zl1_ne rfl rfl h0) (zl1_ne rfl rfl h1) (zl1_ne rfl rfl h2) (by rw [← nI_6 k]; exact zl1_eq) (by omega) (by omega)
set_option maxRecDepth 100000 in
set_option maxHeartbeats 0 in
theorem l_op20 (L : Nat) (xs : Nat → Int32) (hL : L ≤ 3072) (n k : Nat) (ls : List (Nat × Value)) (I : Nat → Nat → Int32) (G : Nat → Nat → Int64) (A : Nat → Nat → Int32) (B : Nat → Nat → Int64) (hI : zLI k I G A B) (h0 : zld ls 0 = some (.float 0)) (h1 : zld ls 1 = some (.ref 0)) (h2 : zld ls 2 = some (.ref 52)) (h3 : zld ls 3 = some (.int (nI (6 * k)))) (hk : 6 * k ≤ L) (hn : k + (n + 1) = 513) (hk6 : 6 * k + 6 ≤ L) (se : (xs (6 * k) &&& 31) = nI 20) (ih : ∀ (k : Nat) (ls : List (Nat × Value)) (I : Nat → Nat → Int32) (G : Nat → Nat → Int64) (A : Nat → Nat → Int32) (B : Nat → Nat → Int64), zLI k I G A B → zld ls 0 = some (.float 0) → zld ls 1 = some (.ref 0) → zld ls 2 = some (.ref 52) → zld ls 3 = some (.int (nI (6 * k))) → 6 * k ≤ L → k + n = 513 → zWp (zro L xs) 189 18 ls [] (hS I G A B) 82 7398 (fun r _ => r = some (.int 1))) : zWp (zro L xs) 189 33 ls [.int (xs (6 * k) &&& 31)] (hS I G A B) 82 7398 (fun r _ => r = some (.int 1)) := by
  refine zw_table_k 749 782 f189_33 se (by decide +kernel) (by decide +kernel) (by decide +kernel) ?_
  refine zw_aload_n 783 f189_782 rfl h1 ?_
  refine zw_aload_f 784 f189_783 rfl h0 ?_
  refine zw_iload_n 785 f189_784 rfl h3 ?_
  refine zw_iconst 1 786 f189_785 rfl (by decide +kernel) ?_
  refine zw_iadd (nI ((6 * k) + 1)) 787 f189_786 rfl (nI_add _ 1) ?_
  refine zw_iaload_f (((6 * k) + 1)) L (xs (((6 * k) + 1))) 788 f189_787 rfl rfl (nI_clamp (by omega)) (nI_pos (by omega)) (by omega) rfl ?_
  refine zw_virtual_l 791 82 7398 [.ref 0, .int (xs (((6 * k) + 1)))] [(0, .ref 0), (1, .int (xs (((6 * k) + 1))))] f189_788 rfl n189_98 k189_98_11 rfl (hb_0 _ _ _ _) (by decide +kernel) (Nat.le_of_ble_eq_true rfl) rfl rfl (by decide +kernel) (by decide +kernel) rfl (Nat.le_of_ble_eq_true rfl) rfl ?_
  refine zWp.mono (pair_sum (zro L xs) k I G A B hI (by omega) (xs (((6 * k) + 1)))) ?_
  rintro r h1 ⟨I1, G1, A1, B1, v, rfl, rfl, hz⟩
  refine ⟨_, rfl, ?_⟩
  refine zw_pop2 792 f189_791 rfl rfl ?_
  refine zw_aload_n 793 f189_792 rfl h2 ?_
  refine zw_aload_f 794 f189_793 rfl h0 ?_
  refine zw_iload_n 795 f189_794 rfl h3 ?_
  refine zw_iconst 1 796 f189_795 rfl (by decide +kernel) ?_
  refine zw_iadd (nI ((6 * k) + 1)) 797 f189_796 rfl (nI_add _ 1) ?_
  refine zw_iaload_f (((6 * k) + 1)) L (xs (((6 * k) + 1))) 798 f189_797 rfl rfl (nI_clamp (by omega)) (nI_pos (by omega)) (by omega) rfl ?_
  refine zw_virtual_l 801 82 7398 [.ref 52, .int (xs (((6 * k) + 1)))] [(0, .ref 52), (1, .int (xs (((6 * k) + 1))))] f189_798 rfl n189_101 k189_101_12 rfl (hb_52 _ _ _ _) (by decide +kernel) (Nat.le_of_ble_eq_true rfl) rfl rfl (by decide +kernel) (by decide +kernel) rfl (Nat.le_of_ble_eq_true rfl) rfl ?_
  refine zWp.mono hz ?_
  rintro r h1 ⟨I2, G2, A2, B2, w, rfl, rfl, hJ, hrel⟩
  refine ⟨_, rfl, ?_⟩
  refine zw_pop2 802 f189_801 rfl rfl ?_
  refine zw_goto 1013 f189_802 (by decide +kernel) ?_
  refine zw_iinc ((nI (6 * k)) + 6) _ 1016 f189_1013 rfl h3 (by decide +kernel) (by rw [show Int32.ofInt 6 = 6 by decide]) rfl ?_
  refine zw_goto 18 f189_1016 (by decide +kernel) ?_
  exact ih (k + 1) _ _ _ _ _ hJ (zl1_ne rfl rfl h0) (zl1_ne rfl rfl h1) (zl1_ne rfl rfl h2) (by rw [← nI_6 k]; exact zl1_eq) (by omega) (by omega)
set_option maxRecDepth 100000 in
set_option maxHeartbeats 0 in
theorem l_op21 (L : Nat) (xs : Nat → Int32) (hL : L ≤ 3072) (n k : Nat) (ls : List (Nat × Value)) (I : Nat → Nat → Int32) (G : Nat → Nat → Int64) (A : Nat → Nat → Int32) (B : Nat → Nat → Int64) (hI : zLI k I G A B) (h0 : zld ls 0 = some (.float 0)) (h1 : zld ls 1 = some (.ref 0)) (h2 : zld ls 2 = some (.ref 52)) (h3 : zld ls 3 = some (.int (nI (6 * k)))) (hk : 6 * k ≤ L) (hn : k + (n + 1) = 513) (hk6 : 6 * k + 6 ≤ L) (se : (xs (6 * k) &&& 31) = nI 21) (ih : ∀ (k : Nat) (ls : List (Nat × Value)) (I : Nat → Nat → Int32) (G : Nat → Nat → Int64) (A : Nat → Nat → Int32) (B : Nat → Nat → Int64), zLI k I G A B → zld ls 0 = some (.float 0) → zld ls 1 = some (.ref 0) → zld ls 2 = some (.ref 52) → zld ls 3 = some (.int (nI (6 * k))) → 6 * k ≤ L → k + n = 513 → zWp (zro L xs) 189 18 ls [] (hS I G A B) 82 7398 (fun r _ => r = some (.int 1))) : zWp (zro L xs) 189 33 ls [.int (xs (6 * k) &&& 31)] (hS I G A B) 82 7398 (fun r _ => r = some (.int 1)) := by
  refine zw_table_k 772 805 f189_33 se (by decide +kernel) (by decide +kernel) (by decide +kernel) ?_
  refine zw_aload_n 806 f189_805 rfl h1 ?_
  refine zw_aload_f 807 f189_806 rfl h0 ?_
  refine zw_iload_n 808 f189_807 rfl h3 ?_
  refine zw_iconst 1 809 f189_808 rfl (by decide +kernel) ?_
  refine zw_iadd (nI ((6 * k) + 1)) 810 f189_809 rfl (nI_add _ 1) ?_
  refine zw_iaload_f (((6 * k) + 1)) L (xs (((6 * k) + 1))) 811 f189_810 rfl rfl (nI_clamp (by omega)) (nI_pos (by omega)) (by omega) rfl ?_
  refine zw_virtual_i 814 82 7398 [.ref 0, .int (xs (((6 * k) + 1)))] [(0, .ref 0), (1, .int (xs (((6 * k) + 1))))] f189_811 rfl n189_102 k189_102_11 rfl (hb_0 _ _ _ _) (by decide +kernel) (Nat.le_of_ble_eq_true rfl) rfl rfl (by decide +kernel) (by decide +kernel) rfl (Nat.le_of_ble_eq_true rfl) rfl ?_
  refine zWp.mono (pair_round (zro L xs) k I G A B hI (by omega) (xs (((6 * k) + 1)))) ?_
  rintro r h1 ⟨I1, G1, A1, B1, v, rfl, rfl, hz⟩
  refine ⟨_, rfl, ?_⟩
  refine zw_pop 815 f189_814 rfl rfl ?_
  refine zw_aload_n 816 f189_815 rfl h2 ?_
  refine zw_aload_f 817 f189_816 rfl h0 ?_
  refine zw_iload_n 818 f189_817 rfl h3 ?_
  refine zw_iconst 1 819 f189_818 rfl (by decide +kernel) ?_
  refine zw_iadd (nI ((6 * k) + 1)) 820 f189_819 rfl (nI_add _ 1) ?_
  refine zw_iaload_f (((6 * k) + 1)) L (xs (((6 * k) + 1))) 821 f189_820 rfl rfl (nI_clamp (by omega)) (nI_pos (by omega)) (by omega) rfl ?_
  refine zw_virtual_i 824 82 7398 [.ref 52, .int (xs (((6 * k) + 1)))] [(0, .ref 52), (1, .int (xs (((6 * k) + 1))))] f189_821 rfl n189_105 k189_105_12 rfl (hb_52 _ _ _ _) (by decide +kernel) (Nat.le_of_ble_eq_true rfl) rfl rfl (by decide +kernel) (by decide +kernel) rfl (Nat.le_of_ble_eq_true rfl) rfl ?_
  refine zWp.mono hz ?_
  rintro r h1 ⟨I2, G2, A2, B2, w, rfl, rfl, hJ, hrel⟩
  refine ⟨_, rfl, ?_⟩
  refine zw_pop 825 f189_824 rfl rfl ?_
  refine zw_goto 1013 f189_825 (by decide +kernel) ?_
  refine zw_iinc ((nI (6 * k)) + 6) _ 1016 f189_1013 rfl h3 (by decide +kernel) (by rw [show Int32.ofInt 6 = 6 by decide]) rfl ?_
  refine zw_goto 18 f189_1016 (by decide +kernel) ?_
  exact ih (k + 1) _ _ _ _ _ hJ (zl1_ne rfl rfl h0) (zl1_ne rfl rfl h1) (zl1_ne rfl rfl h2) (by rw [← nI_6 k]; exact zl1_eq) (by omega) (by omega)
set_option maxRecDepth 100000 in
set_option maxHeartbeats 0 in
theorem l_op22 (L : Nat) (xs : Nat → Int32) (hL : L ≤ 3072) (n k : Nat) (ls : List (Nat × Value)) (I : Nat → Nat → Int32) (G : Nat → Nat → Int64) (A : Nat → Nat → Int32) (B : Nat → Nat → Int64) (hI : zLI k I G A B) (h0 : zld ls 0 = some (.float 0)) (h1 : zld ls 1 = some (.ref 0)) (h2 : zld ls 2 = some (.ref 52)) (h3 : zld ls 3 = some (.int (nI (6 * k)))) (hk : 6 * k ≤ L) (hn : k + (n + 1) = 513) (hk6 : 6 * k + 6 ≤ L) (se : (xs (6 * k) &&& 31) = nI 22) (ih : ∀ (k : Nat) (ls : List (Nat × Value)) (I : Nat → Nat → Int32) (G : Nat → Nat → Int64) (A : Nat → Nat → Int32) (B : Nat → Nat → Int64), zLI k I G A B → zld ls 0 = some (.float 0) → zld ls 1 = some (.ref 0) → zld ls 2 = some (.ref 52) → zld ls 3 = some (.int (nI (6 * k))) → 6 * k ≤ L → k + n = 513 → zWp (zro L xs) 189 18 ls [] (hS I G A B) 82 7398 (fun r _ => r = some (.int 1))) : zWp (zro L xs) 189 33 ls [.int (xs (6 * k) &&& 31)] (hS I G A B) 82 7398 (fun r _ => r = some (.int 1)) := by
  refine zw_table_k 795 828 f189_33 se (by decide +kernel) (by decide +kernel) (by decide +kernel) ?_
  refine zw_aload_n 829 f189_828 rfl h1 ?_
  refine zw_aload_f 830 f189_829 rfl h0 ?_
  refine zw_iload_n 831 f189_830 rfl h3 ?_
  refine zw_iconst 1 832 f189_831 rfl (by decide +kernel) ?_
  refine zw_iadd (nI ((6 * k) + 1)) 833 f189_832 rfl (nI_add _ 1) ?_
  refine zw_iaload_f (((6 * k) + 1)) L (xs (((6 * k) + 1))) 834 f189_833 rfl rfl (nI_clamp (by omega)) (nI_pos (by omega)) (by omega) rfl ?_
  refine zw_aload_f 835 f189_834 rfl h0 ?_
  refine zw_iload_n 836 f189_835 rfl h3 ?_
  refine zw_iconst 2 837 f189_836 rfl (by decide +kernel) ?_
  refine zw_iadd (nI ((6 * k) + 2)) 838 f189_837 rfl (nI_add _ 2) ?_
  refine zw_iaload_f (((6 * k) + 2)) L (xs (((6 * k) + 2))) 839 f189_838 rfl rfl (nI_clamp (by omega)) (nI_pos (by omega)) (by omega) rfl ?_
  refine zw_aload_f 840 f189_839 rfl h0 ?_
  refine zw_iload_n 841 f189_840 rfl h3 ?_
  refine zw_iconst 3 842 f189_841 rfl (by decide +kernel) ?_
  refine zw_iadd (nI ((6 * k) + 3)) 843 f189_842 rfl (nI_add _ 3) ?_
  refine zw_iaload_f (((6 * k) + 3)) L (xs (((6 * k) + 3))) 844 f189_843 rfl rfl (nI_clamp (by omega)) (nI_pos (by omega)) (by omega) rfl ?_
  refine zw_aload_f 845 f189_844 rfl h0 ?_
  refine zw_iload_n 846 f189_845 rfl h3 ?_
  refine zw_iconst 4 847 f189_846 rfl (by decide +kernel) ?_
  refine zw_iadd (nI ((6 * k) + 4)) 848 f189_847 rfl (nI_add _ 4) ?_
  refine zw_iaload_f (((6 * k) + 4)) L (xs (((6 * k) + 4))) 849 f189_848 rfl rfl (nI_clamp (by omega)) (nI_pos (by omega)) (by omega) rfl ?_
  refine zw_aload_f 850 f189_849 rfl h0 ?_
  refine zw_iload_n 851 f189_850 rfl h3 ?_
  refine zw_iconst 5 852 f189_851 rfl (by decide +kernel) ?_
  refine zw_iadd (nI ((6 * k) + 5)) 853 f189_852 rfl (nI_add _ 5) ?_
  refine zw_iaload_f (((6 * k) + 5)) L (xs (((6 * k) + 5))) 854 f189_853 rfl rfl (nI_clamp (by omega)) (nI_pos (by omega)) (by omega) rfl ?_
  refine zw_virtual_i 857 82 7398 [.ref 0, .int (xs (((6 * k) + 1))), .int (xs (((6 * k) + 2))), .int (xs (((6 * k) + 3))), .int (xs (((6 * k) + 4))), .int (xs (((6 * k) + 5)))] [(0, .ref 0), (1, .int (xs (((6 * k) + 1)))), (2, .int (xs (((6 * k) + 2)))), (3, .int (xs (((6 * k) + 3)))), (4, .int (xs (((6 * k) + 4)))), (5, .int (xs (((6 * k) + 5))))] f189_854 rfl n189_106 k189_106_11 rfl (hb_0 _ _ _ _) (by decide +kernel) (Nat.le_of_ble_eq_true rfl) rfl rfl (by decide +kernel) (by decide +kernel) rfl (Nat.le_of_ble_eq_true rfl) rfl ?_
  refine zWp.mono (pair_tune (zro L xs) k I G A B hI (by omega) (xs (((6 * k) + 1))) (xs (((6 * k) + 2))) (xs (((6 * k) + 3))) (xs (((6 * k) + 4))) (xs (((6 * k) + 5)))) ?_
  rintro r h1 ⟨I1, G1, A1, B1, v, rfl, rfl, hz⟩
  refine ⟨_, rfl, ?_⟩
  refine zw_pop 858 f189_857 rfl rfl ?_
  refine zw_aload_n 859 f189_858 rfl h2 ?_
  refine zw_aload_f 860 f189_859 rfl h0 ?_
  refine zw_iload_n 861 f189_860 rfl h3 ?_
  refine zw_iconst 1 862 f189_861 rfl (by decide +kernel) ?_
  refine zw_iadd (nI ((6 * k) + 1)) 863 f189_862 rfl (nI_add _ 1) ?_
  refine zw_iaload_f (((6 * k) + 1)) L (xs (((6 * k) + 1))) 864 f189_863 rfl rfl (nI_clamp (by omega)) (nI_pos (by omega)) (by omega) rfl ?_
  refine zw_aload_f 865 f189_864 rfl h0 ?_
  refine zw_iload_n 866 f189_865 rfl h3 ?_
  refine zw_iconst 2 867 f189_866 rfl (by decide +kernel) ?_
  refine zw_iadd (nI ((6 * k) + 2)) 868 f189_867 rfl (nI_add _ 2) ?_
  refine zw_iaload_f (((6 * k) + 2)) L (xs (((6 * k) + 2))) 869 f189_868 rfl rfl (nI_clamp (by omega)) (nI_pos (by omega)) (by omega) rfl ?_
  refine zw_aload_f 870 f189_869 rfl h0 ?_
  refine zw_iload_n 871 f189_870 rfl h3 ?_
  refine zw_iconst 3 872 f189_871 rfl (by decide +kernel) ?_
  refine zw_iadd (nI ((6 * k) + 3)) 873 f189_872 rfl (nI_add _ 3) ?_
  refine zw_iaload_f (((6 * k) + 3)) L (xs (((6 * k) + 3))) 874 f189_873 rfl rfl (nI_clamp (by omega)) (nI_pos (by omega)) (by omega) rfl ?_
  refine zw_aload_f 875 f189_874 rfl h0 ?_
  refine zw_iload_n 876 f189_875 rfl h3 ?_
  refine zw_iconst 4 877 f189_876 rfl (by decide +kernel) ?_
  refine zw_iadd (nI ((6 * k) + 4)) 878 f189_877 rfl (nI_add _ 4) ?_
  refine zw_iaload_f (((6 * k) + 4)) L (xs (((6 * k) + 4))) 879 f189_878 rfl rfl (nI_clamp (by omega)) (nI_pos (by omega)) (by omega) rfl ?_
  refine zw_aload_f 880 f189_879 rfl h0 ?_
  refine zw_iload_n 881 f189_880 rfl h3 ?_
  refine zw_iconst 5 882 f189_881 rfl (by decide +kernel) ?_
  refine zw_iadd (nI ((6 * k) + 5)) 883 f189_882 rfl (nI_add _ 5) ?_
  refine zw_iaload_f (((6 * k) + 5)) L (xs (((6 * k) + 5))) 884 f189_883 rfl rfl (nI_clamp (by omega)) (nI_pos (by omega)) (by omega) rfl ?_
  refine zw_virtual_i 887 82 7398 [.ref 52, .int (xs (((6 * k) + 1))), .int (xs (((6 * k) + 2))), .int (xs (((6 * k) + 3))), .int (xs (((6 * k) + 4))), .int (xs (((6 * k) + 5)))] [(0, .ref 52), (1, .int (xs (((6 * k) + 1)))), (2, .int (xs (((6 * k) + 2)))), (3, .int (xs (((6 * k) + 3)))), (4, .int (xs (((6 * k) + 4)))), (5, .int (xs (((6 * k) + 5))))] f189_884 rfl n189_110 k189_110_12 rfl (hb_52 _ _ _ _) (by decide +kernel) (Nat.le_of_ble_eq_true rfl) rfl rfl (by decide +kernel) (by decide +kernel) rfl (Nat.le_of_ble_eq_true rfl) rfl ?_
  refine zWp.mono hz ?_
  rintro r h1 ⟨I2, G2, A2, B2, w, rfl, rfl, hJ, hrel⟩
  refine ⟨_, rfl, ?_⟩
  refine zw_pop 888 f189_887 rfl rfl ?_
  refine zw_goto 1013 f189_888 (by decide +kernel) ?_
  refine zw_iinc ((nI (6 * k)) + 6) _ 1016 f189_1013 rfl h3 (by decide +kernel) (by rw [show Int32.ofInt 6 = 6 by decide]) rfl ?_
  refine zw_goto 18 f189_1016 (by decide +kernel) ?_
  exact ih (k + 1) _ _ _ _ _ hJ (zl1_ne rfl rfl h0) (zl1_ne rfl rfl h1) (zl1_ne rfl rfl h2) (by rw [← nI_6 k]; exact zl1_eq) (by omega) (by omega)
set_option maxRecDepth 100000 in
set_option maxHeartbeats 0 in
theorem l_op23 (L : Nat) (xs : Nat → Int32) (hL : L ≤ 3072) (n k : Nat) (ls : List (Nat × Value)) (I : Nat → Nat → Int32) (G : Nat → Nat → Int64) (A : Nat → Nat → Int32) (B : Nat → Nat → Int64) (hI : zLI k I G A B) (h0 : zld ls 0 = some (.float 0)) (h1 : zld ls 1 = some (.ref 0)) (h2 : zld ls 2 = some (.ref 52)) (h3 : zld ls 3 = some (.int (nI (6 * k)))) (hk : 6 * k ≤ L) (hn : k + (n + 1) = 513) (hk6 : 6 * k + 6 ≤ L) (se : (xs (6 * k) &&& 31) = nI 23) (ih : ∀ (k : Nat) (ls : List (Nat × Value)) (I : Nat → Nat → Int32) (G : Nat → Nat → Int64) (A : Nat → Nat → Int32) (B : Nat → Nat → Int64), zLI k I G A B → zld ls 0 = some (.float 0) → zld ls 1 = some (.ref 0) → zld ls 2 = some (.ref 52) → zld ls 3 = some (.int (nI (6 * k))) → 6 * k ≤ L → k + n = 513 → zWp (zro L xs) 189 18 ls [] (hS I G A B) 82 7398 (fun r _ => r = some (.int 1))) : zWp (zro L xs) 189 33 ls [.int (xs (6 * k) &&& 31)] (hS I G A B) 82 7398 (fun r _ => r = some (.int 1)) := by
  refine zw_table_k 858 891 f189_33 se (by decide +kernel) (by decide +kernel) (by decide +kernel) ?_
  refine zw_aload_n 892 f189_891 rfl h1 ?_
  refine zw_aload_f 893 f189_892 rfl h0 ?_
  refine zw_iload_n 894 f189_893 rfl h3 ?_
  refine zw_iconst 1 895 f189_894 rfl (by decide +kernel) ?_
  refine zw_iadd (nI ((6 * k) + 1)) 896 f189_895 rfl (nI_add _ 1) ?_
  refine zw_iaload_f (((6 * k) + 1)) L (xs (((6 * k) + 1))) 897 f189_896 rfl rfl (nI_clamp (by omega)) (nI_pos (by omega)) (by omega) rfl ?_
  refine zw_aload_f 898 f189_897 rfl h0 ?_
  refine zw_iload_n 899 f189_898 rfl h3 ?_
  refine zw_iconst 2 900 f189_899 rfl (by decide +kernel) ?_
  refine zw_iadd (nI ((6 * k) + 2)) 901 f189_900 rfl (nI_add _ 2) ?_
  refine zw_iaload_f (((6 * k) + 2)) L (xs (((6 * k) + 2))) 902 f189_901 rfl rfl (nI_clamp (by omega)) (nI_pos (by omega)) (by omega) rfl ?_
  refine zw_aload_f 903 f189_902 rfl h0 ?_
  refine zw_iload_n 904 f189_903 rfl h3 ?_
  refine zw_iconst 3 905 f189_904 rfl (by decide +kernel) ?_
  refine zw_iadd (nI ((6 * k) + 3)) 906 f189_905 rfl (nI_add _ 3) ?_
  refine zw_iaload_f (((6 * k) + 3)) L (xs (((6 * k) + 3))) 907 f189_906 rfl rfl (nI_clamp (by omega)) (nI_pos (by omega)) (by omega) rfl ?_
  refine zw_virtual_i 910 82 7398 [.ref 0, .int (xs (((6 * k) + 1))), .int (xs (((6 * k) + 2))), .int (xs (((6 * k) + 3)))] [(0, .ref 0), (1, .int (xs (((6 * k) + 1)))), (2, .int (xs (((6 * k) + 2)))), (3, .int (xs (((6 * k) + 3))))] f189_907 rfl n189_111 k189_111_11 rfl (hb_0 _ _ _ _) (by decide +kernel) (Nat.le_of_ble_eq_true rfl) rfl rfl (by decide +kernel) (by decide +kernel) rfl (Nat.le_of_ble_eq_true rfl) rfl ?_
  refine zWp.mono (pair_act (zro L xs) k I G A B hI (by omega) ⟨rfl, rfl⟩ (xs (((6 * k) + 1))) (xs (((6 * k) + 2))) (xs (((6 * k) + 3)))) ?_
  rintro r h1 ⟨I1, G1, A1, B1, v, rfl, rfl, hz⟩
  refine ⟨_, rfl, ?_⟩
  refine zw_pop 911 f189_910 rfl rfl ?_
  refine zw_aload_n 912 f189_911 rfl h2 ?_
  refine zw_aload_f 913 f189_912 rfl h0 ?_
  refine zw_iload_n 914 f189_913 rfl h3 ?_
  refine zw_iconst 1 915 f189_914 rfl (by decide +kernel) ?_
  refine zw_iadd (nI ((6 * k) + 1)) 916 f189_915 rfl (nI_add _ 1) ?_
  refine zw_iaload_f (((6 * k) + 1)) L (xs (((6 * k) + 1))) 917 f189_916 rfl rfl (nI_clamp (by omega)) (nI_pos (by omega)) (by omega) rfl ?_
  refine zw_aload_f 918 f189_917 rfl h0 ?_
  refine zw_iload_n 919 f189_918 rfl h3 ?_
  refine zw_iconst 2 920 f189_919 rfl (by decide +kernel) ?_
  refine zw_iadd (nI ((6 * k) + 2)) 921 f189_920 rfl (nI_add _ 2) ?_
  refine zw_iaload_f (((6 * k) + 2)) L (xs (((6 * k) + 2))) 922 f189_921 rfl rfl (nI_clamp (by omega)) (nI_pos (by omega)) (by omega) rfl ?_
  refine zw_aload_f 923 f189_922 rfl h0 ?_
  refine zw_iload_n 924 f189_923 rfl h3 ?_
  refine zw_iconst 3 925 f189_924 rfl (by decide +kernel) ?_
  refine zw_iadd (nI ((6 * k) + 3)) 926 f189_925 rfl (nI_add _ 3) ?_
  refine zw_iaload_f (((6 * k) + 3)) L (xs (((6 * k) + 3))) 927 f189_926 rfl rfl (nI_clamp (by omega)) (nI_pos (by omega)) (by omega) rfl ?_
  refine zw_virtual_i 930 82 7398 [.ref 52, .int (xs (((6 * k) + 1))), .int (xs (((6 * k) + 2))), .int (xs (((6 * k) + 3)))] [(0, .ref 52), (1, .int (xs (((6 * k) + 1)))), (2, .int (xs (((6 * k) + 2)))), (3, .int (xs (((6 * k) + 3))))] f189_927 rfl n189_114 k189_114_12 rfl (hb_52 _ _ _ _) (by decide +kernel) (Nat.le_of_ble_eq_true rfl) rfl rfl (by decide +kernel) (by decide +kernel) rfl (Nat.le_of_ble_eq_true rfl) rfl ?_
  refine zWp.mono hz ?_
  rintro r h1 ⟨I2, G2, A2, B2, w, rfl, rfl, hJ, hrel⟩
  refine ⟨_, rfl, ?_⟩
  refine zw_pop 931 f189_930 rfl rfl ?_
  refine zw_goto 1013 f189_931 (by decide +kernel) ?_
  refine zw_iinc ((nI (6 * k)) + 6) _ 1016 f189_1013 rfl h3 (by decide +kernel) (by rw [show Int32.ofInt 6 = 6 by decide]) rfl ?_
  refine zw_goto 18 f189_1016 (by decide +kernel) ?_
  exact ih (k + 1) _ _ _ _ _ hJ (zl1_ne rfl rfl h0) (zl1_ne rfl rfl h1) (zl1_ne rfl rfl h2) (by rw [← nI_6 k]; exact zl1_eq) (by omega) (by omega)
set_option maxRecDepth 100000 in
set_option maxHeartbeats 0 in
theorem l_op24 (L : Nat) (xs : Nat → Int32) (hL : L ≤ 3072) (n k : Nat) (ls : List (Nat × Value)) (I : Nat → Nat → Int32) (G : Nat → Nat → Int64) (A : Nat → Nat → Int32) (B : Nat → Nat → Int64) (hI : zLI k I G A B) (h0 : zld ls 0 = some (.float 0)) (h1 : zld ls 1 = some (.ref 0)) (h2 : zld ls 2 = some (.ref 52)) (h3 : zld ls 3 = some (.int (nI (6 * k)))) (hk : 6 * k ≤ L) (hn : k + (n + 1) = 513) (hk6 : 6 * k + 6 ≤ L) (se : (xs (6 * k) &&& 31) = nI 24) (ih : ∀ (k : Nat) (ls : List (Nat × Value)) (I : Nat → Nat → Int32) (G : Nat → Nat → Int64) (A : Nat → Nat → Int32) (B : Nat → Nat → Int64), zLI k I G A B → zld ls 0 = some (.float 0) → zld ls 1 = some (.ref 0) → zld ls 2 = some (.ref 52) → zld ls 3 = some (.int (nI (6 * k))) → 6 * k ≤ L → k + n = 513 → zWp (zro L xs) 189 18 ls [] (hS I G A B) 82 7398 (fun r _ => r = some (.int 1))) : zWp (zro L xs) 189 33 ls [.int (xs (6 * k) &&& 31)] (hS I G A B) 82 7398 (fun r _ => r = some (.int 1)) := by
  refine zw_table_k 901 934 f189_33 se (by decide +kernel) (by decide +kernel) (by decide +kernel) ?_
  refine zw_aload_n 935 f189_934 rfl h1 ?_
  refine zw_aload_f 936 f189_935 rfl h0 ?_
  refine zw_iload_n 937 f189_936 rfl h3 ?_
  refine zw_iconst 1 938 f189_937 rfl (by decide +kernel) ?_
  refine zw_iadd (nI ((6 * k) + 1)) 939 f189_938 rfl (nI_add _ 1) ?_
  refine zw_iaload_f (((6 * k) + 1)) L (xs (((6 * k) + 1))) 940 f189_939 rfl rfl (nI_clamp (by omega)) (nI_pos (by omega)) (by omega) rfl ?_
  refine zw_virtual_i 943 82 7398 [.ref 0, .int (xs (((6 * k) + 1)))] [(0, .ref 0), (1, .int (xs (((6 * k) + 1))))] f189_940 rfl n189_115 k189_115_11 rfl (hb_0 _ _ _ _) (by decide +kernel) (Nat.le_of_ble_eq_true rfl) rfl rfl (by decide +kernel) (by decide +kernel) rfl (Nat.le_of_ble_eq_true rfl) rfl ?_
  refine zWp.mono (pair_trace (zro L xs) k I G A B hI (by omega) (xs (((6 * k) + 1)))) ?_
  rintro r h1 ⟨I1, G1, A1, B1, v, rfl, rfl, hz⟩
  refine ⟨_, rfl, ?_⟩
  refine zw_pop 944 f189_943 rfl rfl ?_
  refine zw_aload_n 945 f189_944 rfl h2 ?_
  refine zw_aload_f 946 f189_945 rfl h0 ?_
  refine zw_iload_n 947 f189_946 rfl h3 ?_
  refine zw_iconst 1 948 f189_947 rfl (by decide +kernel) ?_
  refine zw_iadd (nI ((6 * k) + 1)) 949 f189_948 rfl (nI_add _ 1) ?_
  refine zw_iaload_f (((6 * k) + 1)) L (xs (((6 * k) + 1))) 950 f189_949 rfl rfl (nI_clamp (by omega)) (nI_pos (by omega)) (by omega) rfl ?_
  refine zw_virtual_i 953 82 7398 [.ref 52, .int (xs (((6 * k) + 1)))] [(0, .ref 52), (1, .int (xs (((6 * k) + 1))))] f189_950 rfl n189_118 k189_118_12 rfl (hb_52 _ _ _ _) (by decide +kernel) (Nat.le_of_ble_eq_true rfl) rfl rfl (by decide +kernel) (by decide +kernel) rfl (Nat.le_of_ble_eq_true rfl) rfl ?_
  refine zWp.mono hz ?_
  rintro r h1 ⟨I2, G2, A2, B2, w, rfl, rfl, hJ, hrel⟩
  refine ⟨_, rfl, ?_⟩
  refine zw_pop 954 f189_953 rfl rfl ?_
  refine zw_goto 1013 f189_954 (by decide +kernel) ?_
  refine zw_iinc ((nI (6 * k)) + 6) _ 1016 f189_1013 rfl h3 (by decide +kernel) (by rw [show Int32.ofInt 6 = 6 by decide]) rfl ?_
  refine zw_goto 18 f189_1016 (by decide +kernel) ?_
  exact ih (k + 1) _ _ _ _ _ hJ (zl1_ne rfl rfl h0) (zl1_ne rfl rfl h1) (zl1_ne rfl rfl h2) (by rw [← nI_6 k]; exact zl1_eq) (by omega) (by omega)
set_option maxRecDepth 100000 in
set_option maxHeartbeats 0 in
theorem l_op25 (L : Nat) (xs : Nat → Int32) (hL : L ≤ 3072) (n k : Nat) (ls : List (Nat × Value)) (I : Nat → Nat → Int32) (G : Nat → Nat → Int64) (A : Nat → Nat → Int32) (B : Nat → Nat → Int64) (hI : zLI k I G A B) (h0 : zld ls 0 = some (.float 0)) (h1 : zld ls 1 = some (.ref 0)) (h2 : zld ls 2 = some (.ref 52)) (h3 : zld ls 3 = some (.int (nI (6 * k)))) (hk : 6 * k ≤ L) (hn : k + (n + 1) = 513) (hk6 : 6 * k + 6 ≤ L) (se : (xs (6 * k) &&& 31) = nI 25) (ih : ∀ (k : Nat) (ls : List (Nat × Value)) (I : Nat → Nat → Int32) (G : Nat → Nat → Int64) (A : Nat → Nat → Int32) (B : Nat → Nat → Int64), zLI k I G A B → zld ls 0 = some (.float 0) → zld ls 1 = some (.ref 0) → zld ls 2 = some (.ref 52) → zld ls 3 = some (.int (nI (6 * k))) → 6 * k ≤ L → k + n = 513 → zWp (zro L xs) 189 18 ls [] (hS I G A B) 82 7398 (fun r _ => r = some (.int 1))) : zWp (zro L xs) 189 33 ls [.int (xs (6 * k) &&& 31)] (hS I G A B) 82 7398 (fun r _ => r = some (.int 1)) := by
  refine zw_table_k 924 957 f189_33 se (by decide +kernel) (by decide +kernel) (by decide +kernel) ?_
  refine zw_aload_n 958 f189_957 rfl h1 ?_
  refine zw_aload_f 959 f189_958 rfl h0 ?_
  refine zw_iload_n 960 f189_959 rfl h3 ?_
  refine zw_iconst 1 961 f189_960 rfl (by decide +kernel) ?_
  refine zw_iadd (nI ((6 * k) + 1)) 962 f189_961 rfl (nI_add _ 1) ?_
  refine zw_iaload_f (((6 * k) + 1)) L (xs (((6 * k) + 1))) 963 f189_962 rfl rfl (nI_clamp (by omega)) (nI_pos (by omega)) (by omega) rfl ?_
  refine zw_aload_f 964 f189_963 rfl h0 ?_
  refine zw_iload_n 965 f189_964 rfl h3 ?_
  refine zw_iconst 2 966 f189_965 rfl (by decide +kernel) ?_
  refine zw_iadd (nI ((6 * k) + 2)) 967 f189_966 rfl (nI_add _ 2) ?_
  refine zw_iaload_f (((6 * k) + 2)) L (xs (((6 * k) + 2))) 968 f189_967 rfl rfl (nI_clamp (by omega)) (nI_pos (by omega)) (by omega) rfl ?_
  refine zw_aload_f 969 f189_968 rfl h0 ?_
  refine zw_iload_n 970 f189_969 rfl h3 ?_
  refine zw_iconst 3 971 f189_970 rfl (by decide +kernel) ?_
  refine zw_iadd (nI ((6 * k) + 3)) 972 f189_971 rfl (nI_add _ 3) ?_
  refine zw_iaload_f (((6 * k) + 3)) L (xs (((6 * k) + 3))) 973 f189_972 rfl rfl (nI_clamp (by omega)) (nI_pos (by omega)) (by omega) rfl ?_
  refine zw_virtual_i 976 82 7398 [.ref 0, .int (xs (((6 * k) + 1))), .int (xs (((6 * k) + 2))), .int (xs (((6 * k) + 3)))] [(0, .ref 0), (1, .int (xs (((6 * k) + 1)))), (2, .int (xs (((6 * k) + 2)))), (3, .int (xs (((6 * k) + 3))))] f189_973 rfl n189_119 k189_119_11 rfl (hb_0 _ _ _ _) (by decide +kernel) (Nat.le_of_ble_eq_true rfl) rfl rfl (by decide +kernel) (by decide +kernel) rfl (Nat.le_of_ble_eq_true rfl) rfl ?_
  refine zWp.mono (pair_forge (zro L xs) k I G A B hI (by omega) ⟨rfl, rfl⟩ (xs (((6 * k) + 1))) (xs (((6 * k) + 2))) (xs (((6 * k) + 3)))) ?_
  rintro r h1 ⟨I1, G1, A1, B1, v, rfl, rfl, hz⟩
  refine ⟨_, rfl, ?_⟩
  refine zw_pop 977 f189_976 rfl rfl ?_
  refine zw_aload_n 978 f189_977 rfl h2 ?_
  refine zw_aload_f 979 f189_978 rfl h0 ?_
  refine zw_iload_n 980 f189_979 rfl h3 ?_
  refine zw_iconst 1 981 f189_980 rfl (by decide +kernel) ?_
  refine zw_iadd (nI ((6 * k) + 1)) 982 f189_981 rfl (nI_add _ 1) ?_
  refine zw_iaload_f (((6 * k) + 1)) L (xs (((6 * k) + 1))) 983 f189_982 rfl rfl (nI_clamp (by omega)) (nI_pos (by omega)) (by omega) rfl ?_
  refine zw_aload_f 984 f189_983 rfl h0 ?_
  refine zw_iload_n 985 f189_984 rfl h3 ?_
  refine zw_iconst 2 986 f189_985 rfl (by decide +kernel) ?_
  refine zw_iadd (nI ((6 * k) + 2)) 987 f189_986 rfl (nI_add _ 2) ?_
  refine zw_iaload_f (((6 * k) + 2)) L (xs (((6 * k) + 2))) 988 f189_987 rfl rfl (nI_clamp (by omega)) (nI_pos (by omega)) (by omega) rfl ?_
  refine zw_aload_f 989 f189_988 rfl h0 ?_
  refine zw_iload_n 990 f189_989 rfl h3 ?_
  refine zw_iconst 3 991 f189_990 rfl (by decide +kernel) ?_
  refine zw_iadd (nI ((6 * k) + 3)) 992 f189_991 rfl (nI_add _ 3) ?_
  refine zw_iaload_f (((6 * k) + 3)) L (xs (((6 * k) + 3))) 993 f189_992 rfl rfl (nI_clamp (by omega)) (nI_pos (by omega)) (by omega) rfl ?_
  refine zw_virtual_i 996 82 7398 [.ref 52, .int (xs (((6 * k) + 1))), .int (xs (((6 * k) + 2))), .int (xs (((6 * k) + 3)))] [(0, .ref 52), (1, .int (xs (((6 * k) + 1)))), (2, .int (xs (((6 * k) + 2)))), (3, .int (xs (((6 * k) + 3))))] f189_993 rfl n189_122 k189_122_12 rfl (hb_52 _ _ _ _) (by decide +kernel) (Nat.le_of_ble_eq_true rfl) rfl rfl (by decide +kernel) (by decide +kernel) rfl (Nat.le_of_ble_eq_true rfl) rfl ?_
  refine zWp.mono hz ?_
  rintro r h1 ⟨I2, G2, A2, B2, w, rfl, rfl, hJ, hrel⟩
  refine ⟨_, rfl, ?_⟩
  refine zw_pop 997 f189_996 rfl rfl ?_
  refine zw_goto 1013 f189_997 (by decide +kernel) ?_
  refine zw_iinc ((nI (6 * k)) + 6) _ 1016 f189_1013 rfl h3 (by decide +kernel) (by rw [show Int32.ofInt 6 = 6 by decide]) rfl ?_
  refine zw_goto 18 f189_1016 (by decide +kernel) ?_
  exact ih (k + 1) _ _ _ _ _ hJ (zl1_ne rfl rfl h0) (zl1_ne rfl rfl h1) (zl1_ne rfl rfl h2) (by rw [← nI_6 k]; exact zl1_eq) (by omega) (by omega)
set_option maxRecDepth 100000 in
set_option maxHeartbeats 0 in
theorem l_op26 (L : Nat) (xs : Nat → Int32) (hL : L ≤ 3072) (n k : Nat) (ls : List (Nat × Value)) (I : Nat → Nat → Int32) (G : Nat → Nat → Int64) (A : Nat → Nat → Int32) (B : Nat → Nat → Int64) (hI : zLI k I G A B) (h0 : zld ls 0 = some (.float 0)) (h1 : zld ls 1 = some (.ref 0)) (h2 : zld ls 2 = some (.ref 52)) (h3 : zld ls 3 = some (.int (nI (6 * k)))) (hk : 6 * k ≤ L) (hn : k + (n + 1) = 513) (hk6 : 6 * k + 6 ≤ L) (se : (xs (6 * k) &&& 31) = nI 26) (ih : ∀ (k : Nat) (ls : List (Nat × Value)) (I : Nat → Nat → Int32) (G : Nat → Nat → Int64) (A : Nat → Nat → Int32) (B : Nat → Nat → Int64), zLI k I G A B → zld ls 0 = some (.float 0) → zld ls 1 = some (.ref 0) → zld ls 2 = some (.ref 52) → zld ls 3 = some (.int (nI (6 * k))) → 6 * k ≤ L → k + n = 513 → zWp (zro L xs) 189 18 ls [] (hS I G A B) 82 7398 (fun r _ => r = some (.int 1))) : zWp (zro L xs) 189 33 ls [.int (xs (6 * k) &&& 31)] (hS I G A B) 82 7398 (fun r _ => r = some (.int 1)) := by
  refine zw_table_k 967 1000 f189_33 se (by decide +kernel) (by decide +kernel) (by decide +kernel) ?_
  refine zw_aload_n 1001 f189_1000 rfl h1 ?_
  refine zw_virtual_i 1004 82 7398 [.ref 0] [(0, .ref 0)] f189_1001 rfl n189_123 k189_123_11 rfl (hb_0 _ _ _ _) (by decide +kernel) (Nat.le_of_ble_eq_true rfl) rfl rfl (by decide +kernel) (by decide +kernel) rfl (Nat.le_of_ble_eq_true rfl) rfl ?_
  refine zWp.mono (pair_status (zro L xs) k I G A B hI (by omega) ) ?_
  rintro r h1 ⟨I1, G1, A1, B1, v, rfl, rfl, hz⟩
  refine ⟨_, rfl, ?_⟩
  refine zw_pop 1005 f189_1004 rfl rfl ?_
  refine zw_aload_n 1006 f189_1005 rfl h2 ?_
  refine zw_virtual_i 1009 82 7398 [.ref 52] [(0, .ref 52)] f189_1006 rfl n189_127 k189_127_12 rfl (hb_52 _ _ _ _) (by decide +kernel) (Nat.le_of_ble_eq_true rfl) rfl rfl (by decide +kernel) (by decide +kernel) rfl (Nat.le_of_ble_eq_true rfl) rfl ?_
  refine zWp.mono hz ?_
  rintro r h1 ⟨I2, G2, A2, B2, w, rfl, rfl, hJ, hrel⟩
  refine ⟨_, rfl, ?_⟩
  refine zw_pop 1010 f189_1009 rfl rfl ?_
  refine zw_goto 1013 f189_1010 (by decide +kernel) ?_
  refine zw_iinc ((nI (6 * k)) + 6) _ 1016 f189_1013 rfl h3 (by decide +kernel) (by rw [show Int32.ofInt 6 = 6 by decide]) rfl ?_
  refine zw_goto 18 f189_1016 (by decide +kernel) ?_
  exact ih (k + 1) _ _ _ _ _ hJ (zl1_ne rfl rfl h0) (zl1_ne rfl rfl h1) (zl1_ne rfl rfl h2) (by rw [← nI_6 k]; exact zl1_eq) (by omega) (by omega)
set_option maxRecDepth 100000 in
set_option maxHeartbeats 0 in
theorem l_loop (L : Nat) (xs : Nat → Int32) (hL : L ≤ 3072) : ∀ (n : Nat), ∀ (k : Nat) (ls : List (Nat × Value)) (I : Nat → Nat → Int32) (G : Nat → Nat → Int64) (A : Nat → Nat → Int32) (B : Nat → Nat → Int64), zLI k I G A B → zld ls 0 = some (.float 0) → zld ls 1 = some (.ref 0) → zld ls 2 = some (.ref 52) → zld ls 3 = some (.int (nI (6 * k))) → 6 * k ≤ L → k + n = 513 → zWp (zro L xs) 189 18 ls [] (hS I G A B) 82 7398 (fun r _ => r = some (.int 1)) := by
  intro n
  induction n with
  | zero =>
    intro k ls I G A B _ _ _ _ _ hk hn
    exact absurd hk (by omega)
  | succ n ih =>
    intro k ls I G A B hI h0 h1 h2 h3 hk hn
    refine zw_iload_n 19 f189_18 rfl h3 ?_
    refine zw_aload_f 20 f189_19 rfl h0 ?_
    refine zw_arraylength (nI L) 21 f189_20 rfl rfl ?_
    refine zw_bipush 6 23 f189_21 rfl (by decide +kernel) ?_
    refine zw_isub ((nI L) - 6) 24 f189_23 rfl rfl ?_
    refine zw_ic_gt 27 1019 f189_24 (by decide +kernel) rfl (fun hc => ?_) (fun hc => ?_)
    · refine zw_iconst 1 1020 f189_1019 rfl (by decide +kernel) ?_
      refine zw_zreturn f189_1020 r189 u189 (by decide +kernel) ?_
      exact rfl
    · have hk6 : 6 * k + 6 ≤ L := l_room hL hk hc
      refine zw_aload_f 28 f189_27 rfl h0 ?_
      refine zw_iload_n 29 f189_28 rfl h3 ?_
      refine zw_iaload_f ((6 * k)) L (xs ((6 * k))) 30 f189_29 rfl rfl (nI_clamp (by omega)) (nI_pos (by omega)) (by omega) rfl ?_
      refine zw_bipush 31 32 f189_30 rfl (by decide +kernel) ?_
      refine zw_iand ((xs ((6 * k))) &&& 31) 33 f189_32 rfl rfl ?_
      rcases zl_sw 26 (by decide) ((xs ((6 * k))) &&& 31) with hs | ⟨sk, hl, se⟩
      · refine zw_table_o 1013 f189_33 hs (by decide +kernel) ?_
        refine zw_iinc ((nI (6 * k)) + 6) _ 1016 f189_1013 rfl h3 (by decide +kernel) (by rw [show Int32.ofInt 6 = 6 by decide]) rfl ?_
        refine zw_goto 18 f189_1016 (by decide +kernel) ?_
        exact ih (k + 1) _ _ _ _ _ (zLI.nx hI) (zl1_ne rfl rfl h0) (zl1_ne rfl rfl h1) (zl1_ne rfl rfl h2) (by rw [← nI_6 k]; exact zl1_eq) (by omega) (by omega)
      · rcases (show sk = 0 ∨ sk = 1 ∨ sk = 2 ∨ sk = 3 ∨ sk = 4 ∨ sk = 5 ∨ sk = 6 ∨ sk = 7 ∨ sk = 8 ∨ sk = 9 ∨ sk = 10 ∨ sk = 11 ∨ sk = 12 ∨ sk = 13 ∨ sk = 14 ∨ sk = 15 ∨ sk = 16 ∨ sk = 17 ∨ sk = 18 ∨ sk = 19 ∨ sk = 20 ∨ sk = 21 ∨ sk = 22 ∨ sk = 23 ∨ sk = 24 ∨ sk = 25 ∨ sk = 26 by omega) with rfl | rfl | rfl | rfl | rfl | rfl | rfl | rfl | rfl | rfl | rfl | rfl | rfl | rfl | rfl | rfl | rfl | rfl | rfl | rfl | rfl | rfl | rfl | rfl | rfl | rfl | rfl
        · exact l_op0 L xs hL n k ls I G A B hI h0 h1 h2 h3 hk hn hk6 se ih
        · exact l_op1 L xs hL n k ls I G A B hI h0 h1 h2 h3 hk hn hk6 se ih
        · exact l_op2 L xs hL n k ls I G A B hI h0 h1 h2 h3 hk hn hk6 se ih
        · exact l_op3 L xs hL n k ls I G A B hI h0 h1 h2 h3 hk hn hk6 se ih
        · exact l_op4 L xs hL n k ls I G A B hI h0 h1 h2 h3 hk hn hk6 se ih
        · exact l_op5 L xs hL n k ls I G A B hI h0 h1 h2 h3 hk hn hk6 se ih
        · exact l_op6 L xs hL n k ls I G A B hI h0 h1 h2 h3 hk hn hk6 se ih
        · exact l_op7 L xs hL n k ls I G A B hI h0 h1 h2 h3 hk hn hk6 se ih
        · exact l_op8 L xs hL n k ls I G A B hI h0 h1 h2 h3 hk hn hk6 se ih
        · exact l_op9 L xs hL n k ls I G A B hI h0 h1 h2 h3 hk hn hk6 se ih
        · exact l_op10 L xs hL n k ls I G A B hI h0 h1 h2 h3 hk hn hk6 se ih
        · exact l_op11 L xs hL n k ls I G A B hI h0 h1 h2 h3 hk hn hk6 se ih
        · exact l_op12 L xs hL n k ls I G A B hI h0 h1 h2 h3 hk hn hk6 se ih
        · exact l_op13 L xs hL n k ls I G A B hI h0 h1 h2 h3 hk hn hk6 se ih
        · exact l_op14 L xs hL n k ls I G A B hI h0 h1 h2 h3 hk hn hk6 se ih
        · exact l_op15 L xs hL n k ls I G A B hI h0 h1 h2 h3 hk hn hk6 se ih
        · exact l_op16 L xs hL n k ls I G A B hI h0 h1 h2 h3 hk hn hk6 se ih
        · exact l_op17 L xs hL n k ls I G A B hI h0 h1 h2 h3 hk hn hk6 se ih
        · exact l_op18 L xs hL n k ls I G A B hI h0 h1 h2 h3 hk hn hk6 se ih
        · exact l_op19 L xs hL n k ls I G A B hI h0 h1 h2 h3 hk hn hk6 se ih
        · exact l_op20 L xs hL n k ls I G A B hI h0 h1 h2 h3 hk hn hk6 se ih
        · exact l_op21 L xs hL n k ls I G A B hI h0 h1 h2 h3 hk hn hk6 se ih
        · exact l_op22 L xs hL n k ls I G A B hI h0 h1 h2 h3 hk hn hk6 se ih
        · exact l_op23 L xs hL n k ls I G A B hI h0 h1 h2 h3 hk hn hk6 se ih
        · exact l_op24 L xs hL n k ls I G A B hI h0 h1 h2 h3 hk hn hk6 se ih
        · exact l_op25 L xs hL n k ls I G A B hI h0 h1 h2 h3 hk hn hk6 se ih
        · exact l_op26 L xs hL n k ls I G A B hI h0 h1 h2 h3 hk hn hk6 se ih
