def fC (k j : Nat) : Bool := decide (k = 52 ∧ j = 39)
def pT (k : Nat) : Bool := decide (k = 76)
def fP (k j : Nat) : Bool := decide (k = 52 ∧ (j = 39 ∨ (12 ≤ j ∧ j ≤ 15)))
def pP (k : Nat) : Bool := decide (k = 76 ∨ k = 63)
def p63 (k : Nat) : Bool := decide (k = 63)
theorem fC_P : ∀ k j, fP k j = false → fC k j = false := by
  intro k j h
  simp only [fP, fC, decide_eq_false_iff_not] at h ⊢
  omega
theorem pT_P : ∀ k, pP k = false → pT k = false := by
  intro k h
  simp only [pP, pT, decide_eq_false_iff_not] at h ⊢
  omega
def mThen (g had rate ab be al : Int64) : Int64 := had * (al / g) + rate * ab * (al / be)
def mTh (I : Nat → Nat → Int32) (G : Nat → Nat → Int64) (A : Nat → Nat → Int32) (B : Nat → Nat → Int64) (ab be al : Int64) (j : Nat) : Int64 := if j < 8 then mThen (G 52 12) (B 63 j) (Int32.toInt64 (A 73 j)) ab be al else if j = 8 then mThen (G 52 12) (G 52 13) 1 ab be al else if j = 9 then mThen (G 52 12) (G 52 14) (Int32.toInt64 (I 52 34)) ab be al else mThen (G 52 12) (G 52 15) (Int32.toInt64 (I 52 35)) ab be al
def mCm (I : Nat → Nat → Int32) (G : Nat → Nat → Int64) (A : Nat → Nat → Int32) (B : Nat → Nat → Int64) (ab be al : Int64) : Nat → Int64
  | 0 => al
  | k + 1 => mD (mTh I G A B ab be al k) (mCm I G A B ab be al k)
theorem mCm_ne0 {I : Nat → Nat → Int32} {G : Nat → Nat → Int64} {A : Nat → Nat → Int32} {B : Nat → Nat → Int64} {ab be al : Int64} (h : ¬ al = 0) : ∀ k, ¬ mCm I G A B ab be al k = 0
  | 0 => h
  | k + 1 => mD_ne0 (mCm_ne0 h k)
theorem mCm_s {I : Nat → Nat → Int32} {G : Nat → Nat → Int64} {A : Nat → Nat → Int32} {B : Nat → Nat → Int64} {ab be al : Int64} {k : Nat} : mCm I G A B ab be al (k + 1) = mD (mTh I G A B ab be al k) (mCm I G A B ab be al k) := rfl
theorem mTh_8 {I : Nat → Nat → Int32} {G : Nat → Nat → Int64} {A : Nat → Nat → Int32} {B : Nat → Nat → Int64} {ab be al : Int64} : mTh I G A B ab be al 8 = G 52 13 * (al / G 52 12) + 1 * ab * (al / be) := by
  unfold mTh
  rw [if_neg (by decide), if_pos rfl, mThen]
theorem mTh_9 {I : Nat → Nat → Int32} {G : Nat → Nat → Int64} {A : Nat → Nat → Int32} {B : Nat → Nat → Int64} {ab be al : Int64} : mTh I G A B ab be al 9 = G 52 14 * (al / G 52 12) + Int32.toInt64 (I 52 34) * ab * (al / be) := by
  unfold mTh
  rw [if_neg (by decide), if_neg (by decide), if_pos rfl, mThen]
theorem mTh_10 {I : Nat → Nat → Int32} {G : Nat → Nat → Int64} {A : Nat → Nat → Int32} {B : Nat → Nat → Int64} {ab be al : Int64} : mTh I G A B ab be al 10 = G 52 15 * (al / G 52 12) + Int32.toInt64 (I 52 35) * ab * (al / be) := by
  unfold mTh
  rw [if_neg (by decide), if_neg (by decide), if_neg (by decide), mThen]
theorem mTh_k {I : Nat → Nat → Int32} {G : Nat → Nat → Int64} {A : Nat → Nat → Int32} {B : Nat → Nat → Int64} {ab be al : Int64} {k : Nat} (h : k < 8) : mTh I G A B ab be al k = B 63 k * (al / G 52 12) + Int32.toInt64 (A 73 k) * ab * (al / be) := by
  unfold mTh
  rw [if_pos h, mThen]
def mFail (I : Nat → Nat → Int32) (G : Nat → Nat → Int64) (A : Nat → Nat → Int32) (B : Nat → Nat → Int64) (ab be al : Int64) : Prop := 10000 < al / mCm I G A B ab be al 11
def mPass (I : Nat → Nat → Int32) (G : Nat → Nat → Int64) (A : Nat → Nat → Int32) (B : Nat → Nat → Int64) (ab be al : Int64) (G2 : Nat → Nat → Int64) (B2 : Nat → Nat → Int64) : Prop := ¬ 10000 < al / mCm I G A B ab be al 11 ∧ (∀ j, j < 8 → B2 63 j = mTh I G A B ab be al j / mCm I G A B ab be al 11) ∧ G2 52 13 = mTh I G A B ab be al 8 / mCm I G A B ab be al 11 ∧ G2 52 14 = mTh I G A B ab be al 9 / mCm I G A B ab be al 11 ∧ G2 52 15 = mTh I G A B ab be al 10 / mCm I G A B ab be al 11 ∧ G2 52 12 = al / mCm I G A B ab be al 11 ∧ ∀ j, 8 ≤ j → B2 63 j = B 63 j
theorem m11 {f T : Nat → Int64} {x y z : Int64} (h : ∀ j, j < 8 → f j = T j) (h8 : x = T 8) (h9 : y = T 9) (h10 : z = T 10) : ∀ j, j < 11 → vp_updL (vp_updL (vp_updL f 8 x) 9 y) 10 z j = T j := by
  intro j hj
  unfold vp_updL
  by_cases e : j = 10
  · rw [if_pos e, e]; exact h10
  · rw [if_neg e]
    by_cases e : j = 9
    · rw [if_pos e, e]; exact h9
    · rw [if_neg e]
      by_cases e : j = 8
      · rw [if_pos e, e]; exact h8
      · rw [if_neg e]; exact h j (by omega)
theorem mL_u {f T : Nat → Int64} {x : Int64} {k : Nat} (h : ∀ j, j < k → f j = T j) (hx : x = T k) : ∀ j, j < k + 1 → vp_updL f k x j = T j := by
  intro j hj
  unfold vp_updL
  by_cases e : j = k
  · rw [if_pos e, e]; exact hx
  · rw [if_neg e]; exact h j (by omega)
theorem mL_o {f T : Nat → Int64} {x : Int64} {k : Nat} (h : ∀ j, k ≤ j → f j = T j) : ∀ j, k + 1 ≤ j → vp_updL f k x j = T j := by
  intro j hj
  unfold vp_updL
  rw [if_neg (by omega)]; exact h j (by omega)
def mLc (G B : Nat → Nat → Int64) : Nat → Int64
  | 0 => mD (G 52 13) (mD (G 52 14) (mD (G 52 15) (G 52 12)))
  | k + 1 => mD (B 63 k) (mLc G B k)
theorem mLc_s {G B : Nat → Nat → Int64} {k : Nat} : mLc G B (k + 1) = mD (B 63 k) (mLc G B k) := rfl
theorem mLc_0 {G B : Nat → Nat → Int64} : mLc G B 0 = mD (G 52 13) (mD (G 52 14) (mD (G 52 15) (G 52 12))) := rfl
theorem mLc_ne0 {G B : Nat → Nat → Int64} (h : ¬ G 52 12 = 0) : ∀ k, ¬ mLc G B k = 0
  | 0 => mD_ne0 (mD_ne0 (mD_ne0 h))
  | k + 1 => mD_ne0 (mLc_ne0 h k)
set_option maxRecDepth 100000 in
set_option maxHeartbeats 0 in
theorem lmm_passes_185 (ro : UInt32 → Nat × (Nat → Int32)) (I : Nat → Nat → Int32) (G : Nat → Nat → Int64) (A : Nat → Nat → Int32) (B : Nat → Nat → Int64) (ab be al : Int64) (hg : ¬ G 52 12 = 0) (hbe : ¬ be = 0) (hal : ¬ al = 0) (hgr : ¬ 10000 < al / mCm I G A B ab be al 11) : ∀ (n k : Nat) (ls : List (Nat × Value)) (I1 : Nat → Nat → Int32) (G1 : Nat → Nat → Int64) (A1 : Nat → Nat → Int32) (B1 : Nat → Nat → Int64), KQ fP pP I G A B I1 G1 A1 B1 → (G1 52 39 = (mCm I G A B ab be al 11) ∧ (∀ j, j < 11 → B1 76 j = mTh I G A B ab be al j) ∧ (∀ j, j < k → B1 63 j = mTh I G A B ab be al j / (mCm I G A B ab be al 11)) ∧ ∀ j, k ≤ j → B1 63 j = B 63 j) → zld ls 0 = some (.ref 52) → zld ls 11 = some (.long al) → zld ls 13 = some (.int (nI k)) → k ≤ 8 → 8 + 1 ≤ k + n → zWp ro 134 185 ls [] (hS I1 G1 A1 B1) 0 0 (fun r h1 => ∃ I2 G2 A2 B2, h1 = hS I2 G2 A2 B2 ∧ KQ fP pP I G A B I2 G2 A2 B2 ∧ ((r = some (.int 0) ∧ KQ fC pT I G A B I2 G2 A2 B2 ∧ mFail I G A B ab be al) ∨ (r = some (.int 1) ∧ mPass I G A B ab be al G2 B2))) := by
  intro n
  induction n with
  | zero =>
    intro k ls I1 G1 A1 B1 _ _ _ _ _ a b
    exact absurd b (by omega)
  | succ n ih =>
    intro k ls I1 G1 A1 B1 K hr h0 h11 h13 hk1 hk2
    refine zw_iload 187 f134_185 rfl h13 ?_
    refine zw_bipush 8 189 f134_187 rfl (by decide +kernel) ?_
    refine zw_ic_ge 192 217 f134_189 (by decide +kernel) rfl (fun hc1 => ?_) (fun hc1 => ?_)
    · have hn_hc1 : 8 ≤ k := zn_ge (by omega) (by omega) hc1
      refine zw_aload_n 218 f134_217 rfl h0 ?_
      refine zw_aload_n 219 f134_218 rfl h0 ?_
      refine zw_getfield 222 f134_219 rfl g134_89_12 (hb_52 _ _ _ _) rfl ?_
      refine zw_bipush 8 224 f134_222 rfl (by decide +kernel) ?_
      refine zw_laload 8 (mTh I G A B ab be al 8) 225 f134_224 rfl (hb_76 _ _ _ _) (by decide +kernel) (by decide +kernel) (by decide +kernel) (hr.2.1 8 (by omega)) ?_
      refine zw_aload_n 226 f134_225 rfl h0 ?_
      refine zw_getG (mCm I G A B ab be al 11) 229 f134_226 rfl g134_161_12 (hb_52 _ _ _ _) rfl hr.1 ?_
      refine zw_ldiv ((mTh I G A B ab be al 8) / (mCm I G A B ab be al 11)) 230 f134_229 rfl (mCm_ne0 hal 11) rfl ?_
      refine zw_put _ 233 f134_230 rfl g134_172_12 (hb_52 _ _ _ _) rfl (Nat.le_of_ble_eq_true rfl) (by decide +kernel) (hg_52_13 _ _ _ _ _) ?_
      refine zw_aload_n 234 f134_233 rfl h0 ?_
      refine zw_aload_n 235 f134_234 rfl h0 ?_
      refine zw_getfield 238 f134_235 rfl g134_89_12 (hb_52 _ _ _ _) rfl ?_
      refine zw_bipush 9 240 f134_238 rfl (by decide +kernel) ?_
      refine zw_laload 9 (mTh I G A B ab be al 9) 241 f134_240 rfl (hb_76 _ _ _ _) (by decide +kernel) (by decide +kernel) (by decide +kernel) (hr.2.1 9 (by omega)) ?_
      refine zw_aload_n 242 f134_241 rfl h0 ?_
      refine zw_getG (mCm I G A B ab be al 11) 245 f134_242 rfl g134_161_12 (hb_52 _ _ _ _) rfl hr.1 ?_
      refine zw_ldiv ((mTh I G A B ab be al 9) / (mCm I G A B ab be al 11)) 246 f134_245 rfl (mCm_ne0 hal 11) rfl ?_
      refine zw_put _ 249 f134_246 rfl g134_175_12 (hb_52 _ _ _ _) rfl (Nat.le_of_ble_eq_true rfl) (by decide +kernel) (hg_52_14 _ _ _ _ _) ?_
      refine zw_aload_n 250 f134_249 rfl h0 ?_
      refine zw_aload_n 251 f134_250 rfl h0 ?_
      refine zw_getfield 254 f134_251 rfl g134_89_12 (hb_52 _ _ _ _) rfl ?_
      refine zw_bipush 10 256 f134_254 rfl (by decide +kernel) ?_
      refine zw_laload 10 (mTh I G A B ab be al 10) 257 f134_256 rfl (hb_76 _ _ _ _) (by decide +kernel) (by decide +kernel) (by decide +kernel) (hr.2.1 10 (by omega)) ?_
      refine zw_aload_n 258 f134_257 rfl h0 ?_
      refine zw_getG (mCm I G A B ab be al 11) 261 f134_258 rfl g134_161_12 (hb_52 _ _ _ _) rfl hr.1 ?_
      refine zw_ldiv ((mTh I G A B ab be al 10) / (mCm I G A B ab be al 11)) 262 f134_261 rfl (mCm_ne0 hal 11) rfl ?_
      refine zw_put _ 265 f134_262 rfl g134_178_12 (hb_52 _ _ _ _) rfl (Nat.le_of_ble_eq_true rfl) (by decide +kernel) (hg_52_15 _ _ _ _ _) ?_
      refine zw_aload_n 266 f134_265 rfl h0 ?_
      refine zw_lload 268 f134_266 rfl h11 ?_
      refine zw_aload_n 269 f134_268 rfl h0 ?_
      refine zw_getG (mCm I G A B ab be al 11) 272 f134_269 rfl g134_161_12 (hb_52 _ _ _ _) rfl hr.1 ?_
      refine zw_ldiv (al / (mCm I G A B ab be al 11)) 273 f134_272 rfl (mCm_ne0 hal 11) rfl ?_
      refine zw_put _ 276 f134_273 rfl g134_40_12 (hb_52 _ _ _ _) rfl (Nat.le_of_ble_eq_true rfl) (by decide +kernel) (hg_52_12 _ _ _ _ _) ?_
      refine zw_iconst 1 277 f134_276 rfl (by decide +kernel) ?_
      refine zw_zreturn f134_277 r134 u134 (by decide +kernel) ?_
      have hk : k = 8 := by omega
      rw [hk] at hr
      exact ⟨_, _, _, _, rfl, (KQ.g rfl (KQ.g rfl (KQ.g rfl (KQ.g rfl K)))), Or.inr ⟨rfl, hgr, hr.2.2.1, rfl, rfl, rfl, rfl, hr.2.2.2⟩⟩
    · have hn_hc1 : k < 8 := zn_lt (by omega) (by omega) hc1
      refine zw_aload_n 193 f134_192 rfl h0 ?_
      refine zw_getfield 196 f134_193 rfl g134_44_12 (hb_52 _ _ _ _) rfl ?_
      refine zw_iload 198 f134_196 rfl h13 ?_
      refine zw_aload_n 199 f134_198 rfl h0 ?_
      refine zw_getfield 202 f134_199 rfl g134_89_12 (hb_52 _ _ _ _) rfl ?_
      refine zw_iload 204 f134_202 rfl h13 ?_
      refine zw_laload k (mTh I G A B ab be al k) 205 f134_204 rfl (hb_76 _ _ _ _) (nI_clamp (by omega)) (nI_pos (by omega)) (by omega) (hr.2.1 k (by omega)) ?_
      refine zw_aload_n 206 f134_205 rfl h0 ?_
      refine zw_getG (mCm I G A B ab be al 11) 209 f134_206 rfl g134_161_12 (hb_52 _ _ _ _) rfl hr.1 ?_
      refine zw_ldiv ((mTh I G A B ab be al k) / (mCm I G A B ab be al 11)) 210 f134_209 rfl (mCm_ne0 hal 11) rfl ?_
      refine zw_lst k _ 211 f134_210 rfl (hb_63 _ _ _ _) (nI_clamp (by omega)) (nI_pos (by omega)) (by omega) (ha_63 _ _ _ _ _) ?_
      refine zw_iinc (nI (k + 1)) _ 214 f134_211 rfl h13 (by decide +kernel) (nI_1 _) rfl ?_
      refine zw_goto 185 f134_214 (by decide +kernel) ?_
      exact ih (k + 1) _ _ _ _ _ (KQ.b rfl K) ⟨hr.1, hr.2.1, mL_u hr.2.2.1 (show ((mTh I G A B ab be al k) / (mCm I G A B ab be al 11)) = (mTh I G A B ab be al k) / (mCm I G A B ab be al 11) from rfl), mL_o hr.2.2.2⟩ (zl1_ne rfl rfl h0) (zl1_ne rfl rfl h11) zl1_eq (by omega) (by omega)
set_option maxRecDepth 100000 in
set_option maxHeartbeats 0 in
theorem lmm_passes_47 (ro : UInt32 → Nat × (Nat → Int32)) (I : Nat → Nat → Int32) (G : Nat → Nat → Int64) (A : Nat → Nat → Int32) (B : Nat → Nat → Int64) (ab be al : Int64) (hg : ¬ G 52 12 = 0) (hbe : ¬ be = 0) (hal : ¬ al = 0) : ∀ (n k : Nat) (ls : List (Nat × Value)) (I1 : Nat → Nat → Int32) (G1 : Nat → Nat → Int64) (A1 : Nat → Nat → Int32) (B1 : Nat → Nat → Int64), KQ fC pT I G A B I1 G1 A1 B1 → (G1 52 39 = (mCm I G A B ab be al k) ∧ ∀ j, j < k → B1 76 j = mTh I G A B ab be al j) → zld ls 0 = some (.ref 52) → zld ls 7 = some (.long ab) → zld ls 9 = some (.long be) → zld ls 11 = some (.long al) → zld ls 13 = some (.int (nI k)) → k ≤ 8 → 8 + 1 ≤ k + n → zWp ro 134 47 ls [] (hS I1 G1 A1 B1) 0 0 (fun r h1 => ∃ I2 G2 A2 B2, h1 = hS I2 G2 A2 B2 ∧ KQ fP pP I G A B I2 G2 A2 B2 ∧ ((r = some (.int 0) ∧ KQ fC pT I G A B I2 G2 A2 B2 ∧ mFail I G A B ab be al) ∨ (r = some (.int 1) ∧ mPass I G A B ab be al G2 B2))) := by
  intro n
  induction n with
  | zero =>
    intro k ls I1 G1 A1 B1 _ _ _ _ _ _ _ a b
    exact absurd b (by omega)
  | succ n ih =>
    intro k ls I1 G1 A1 B1 K hr h0 h7 h9 h11 h13 hk1 hk2
    refine zw_iload 49 f134_47 rfl h13 ?_
    refine zw_bipush 8 51 f134_49 rfl (by decide +kernel) ?_
    refine zw_ic_ge 54 92 f134_51 (by decide +kernel) rfl (fun hc1 => ?_) (fun hc1 => ?_)
    · have hn_hc1 : 8 ≤ k := zn_ge (by omega) (by omega) hc1
      have hk : k = 8 := by omega
      refine zw_aload_n 93 f134_92 rfl h0 ?_
      refine zw_getfield 96 f134_93 rfl g134_89_12 (hb_52 _ _ _ _) rfl ?_
      refine zw_bipush 8 98 f134_96 rfl (by decide +kernel) ?_
      refine zw_aload_n 99 f134_98 rfl h0 ?_
      refine zw_aload_n 100 f134_99 rfl h0 ?_
      refine zw_getG (G 52 13) 103 f134_100 rfl g134_172_12 (hb_52 _ _ _ _) rfl (K.2.1 52 13 rfl) ?_
      refine zw_lconst 1 104 f134_103 rfl (by decide +kernel) ?_
      refine zw_lload 106 f134_104 rfl h7 ?_
      refine zw_lload 108 f134_106 rfl h9 ?_
      refine zw_lload 110 f134_108 rfl h11 ?_
      refine zw_virtual_l 113 0 0 [.ref 52, .long (G 52 13), .long 1, .long ab, .long be, .long al] [(0, .ref 52), (1, .long (G 52 13)), (3, .long 1), (5, .long ab), (7, .long be), (9, .long al)] f134_110 rfl n134_168 k134_168_12 rfl (hb_52 _ _ _ _) (by decide +kernel) (Nat.le_of_ble_eq_true rfl) rfl rfl (by decide +kernel) (by decide +kernel) rfl (Nat.le_of_ble_eq_true rfl) rfl ?_
      refine zw_lload_n 1 f133_0 rfl rfl ?_
      refine zw_lload 3 f133_1 rfl rfl ?_
      refine zw_aload_n 4 f133_3 rfl rfl ?_
      refine zw_getG (G 52 12) 7 f133_4 rfl g133_40_12 (hb_52 _ _ _ _) rfl (K.2.1 52 12 rfl) ?_
      refine zw_ldiv (al / (G 52 12)) 8 f133_7 rfl hg rfl ?_
      refine zw_lmul ((G 52 13) * (al / (G 52 12))) 9 f133_8 rfl rfl ?_
      refine zw_lload_n 10 f133_9 rfl rfl ?_
      refine zw_lload 12 f133_10 rfl rfl ?_
      refine zw_lmul (1 * ab) 13 f133_12 rfl rfl ?_
      refine zw_lload 15 f133_13 rfl rfl ?_
      refine zw_lload 17 f133_15 rfl rfl ?_
      refine zw_ldiv (al / be) 18 f133_17 rfl hbe rfl ?_
      refine zw_lmul ((1 * ab) * (al / be)) 19 f133_18 rfl rfl ?_
      refine zw_ladd (((G 52 13) * (al / (G 52 12))) + ((1 * ab) * (al / be))) 20 f133_19 rfl rfl ?_
      refine zw_lstore _ 22 f133_20 rfl (by decide +kernel) rfl ?_
      refine zw_aload_n 23 f133_22 rfl (zl2_ne rfl rfl rfl) ?_
      refine zw_lload 25 f133_23 rfl zl2_eq ?_
      refine zw_aload_n 26 f133_25 rfl (zl2_ne rfl rfl rfl) ?_
      refine zw_getG (mCm I G A B ab be al k) 29 f133_26 rfl g133_161_12 (hb_52 _ _ _ _) rfl hr.1 ?_
      refine zw_static_l 32 0 0 [.long (((G 52 13) * (al / (G 52 12))) + ((1 * ab) * (al / be))), .long (mCm I G A B ab be al k)] [.ref 52] [(0, .long (((G 52 13) * (al / (G 52 12))) + ((1 * ab) * (al / be)))), (2, .long (mCm I G A B ab be al k))] f133_29 rfl k133_164_99 rfl (by decide +kernel) (Nat.le_of_ble_eq_true rfl) (Nat.le_of_ble_eq_true rfl) rfl rfl (by decide +kernel) (by decide +kernel) rfl (Nat.le_of_ble_eq_true rfl) rfl ?_
      refine zWp.mono (mm_divisor ro _ (((G 52 13) * (al / (G 52 12))) + ((1 * ab) * (al / be))) (mCm I G A B ab be al k)) ?_
      rintro r h1 ⟨rfl, rfl⟩
      refine ⟨_, rfl, ?_⟩
      refine zw_put _ 35 f133_32 rfl g133_161_12 (hb_52 _ _ _ _) rfl (Nat.le_of_ble_eq_true rfl) (by decide +kernel) (hg_52_39 _ _ _ _ _) ?_
      refine zw_lload 37 f133_35 rfl zl2_eq ?_
      refine zw_lreturn f133_37 r133 u133 ⟨_, rfl, ?_⟩
      refine zw_lst 8 _ 114 f134_113 rfl (hb_76 _ _ _ _) (by decide +kernel) (by decide +kernel) (by decide +kernel) (ha_76 _ _ _ _ _) ?_
      refine zw_aload_n 115 f134_114 rfl h0 ?_
      refine zw_getfield 118 f134_115 rfl g134_89_12 (hb_52 _ _ _ _) rfl ?_
      refine zw_bipush 9 120 f134_118 rfl (by decide +kernel) ?_
      refine zw_aload_n 121 f134_120 rfl h0 ?_
      refine zw_aload_n 122 f134_121 rfl h0 ?_
      refine zw_getG (G 52 14) 125 f134_122 rfl g134_175_12 (hb_52 _ _ _ _) rfl (K.2.1 52 14 rfl) ?_
      refine zw_aload_n 126 f134_125 rfl h0 ?_
      refine zw_getI (I 52 34) 129 f134_126 rfl g134_127_12 (hb_52 _ _ _ _) rfl (K.1 52 34 rfl) ?_
      refine zw_i2l (Int32.toInt64 (I 52 34)) 130 f134_129 rfl rfl ?_
      refine zw_lload 132 f134_130 rfl h7 ?_
      refine zw_lload 134 f134_132 rfl h9 ?_
      refine zw_lload 136 f134_134 rfl h11 ?_
      refine zw_virtual_l 139 0 0 [.ref 52, .long (G 52 14), .long (Int32.toInt64 (I 52 34)), .long ab, .long be, .long al] [(0, .ref 52), (1, .long (G 52 14)), (3, .long (Int32.toInt64 (I 52 34))), (5, .long ab), (7, .long be), (9, .long al)] f134_136 rfl n134_168 k134_168_12 rfl (hb_52 _ _ _ _) (by decide +kernel) (Nat.le_of_ble_eq_true rfl) rfl rfl (by decide +kernel) (by decide +kernel) rfl (Nat.le_of_ble_eq_true rfl) rfl ?_
      refine zw_lload_n 1 f133_0 rfl rfl ?_
      refine zw_lload 3 f133_1 rfl rfl ?_
      refine zw_aload_n 4 f133_3 rfl rfl ?_
      refine zw_getG (G 52 12) 7 f133_4 rfl g133_40_12 (hb_52 _ _ _ _) rfl (K.2.1 52 12 rfl) ?_
      refine zw_ldiv (al / (G 52 12)) 8 f133_7 rfl hg rfl ?_
      refine zw_lmul ((G 52 14) * (al / (G 52 12))) 9 f133_8 rfl rfl ?_
      refine zw_lload_n 10 f133_9 rfl rfl ?_
      refine zw_lload 12 f133_10 rfl rfl ?_
      refine zw_lmul ((Int32.toInt64 (I 52 34)) * ab) 13 f133_12 rfl rfl ?_
      refine zw_lload 15 f133_13 rfl rfl ?_
      refine zw_lload 17 f133_15 rfl rfl ?_
      refine zw_ldiv (al / be) 18 f133_17 rfl hbe rfl ?_
      refine zw_lmul (((Int32.toInt64 (I 52 34)) * ab) * (al / be)) 19 f133_18 rfl rfl ?_
      refine zw_ladd (((G 52 14) * (al / (G 52 12))) + (((Int32.toInt64 (I 52 34)) * ab) * (al / be))) 20 f133_19 rfl rfl ?_
      refine zw_lstore _ 22 f133_20 rfl (by decide +kernel) rfl ?_
      refine zw_aload_n 23 f133_22 rfl (zl2_ne rfl rfl rfl) ?_
      refine zw_lload 25 f133_23 rfl zl2_eq ?_
      refine zw_aload_n 26 f133_25 rfl (zl2_ne rfl rfl rfl) ?_
      refine zw_getG (mD (((G 52 13) * (al / (G 52 12))) + ((1 * ab) * (al / be))) (mCm I G A B ab be al k)) 29 f133_26 rfl g133_161_12 (hb_52 _ _ _ _) rfl rfl ?_
      refine zw_static_l 32 0 0 [.long (((G 52 14) * (al / (G 52 12))) + (((Int32.toInt64 (I 52 34)) * ab) * (al / be))), .long (mD (((G 52 13) * (al / (G 52 12))) + ((1 * ab) * (al / be))) (mCm I G A B ab be al k))] [.ref 52] [(0, .long (((G 52 14) * (al / (G 52 12))) + (((Int32.toInt64 (I 52 34)) * ab) * (al / be)))), (2, .long (mD (((G 52 13) * (al / (G 52 12))) + ((1 * ab) * (al / be))) (mCm I G A B ab be al k)))] f133_29 rfl k133_164_99 rfl (by decide +kernel) (Nat.le_of_ble_eq_true rfl) (Nat.le_of_ble_eq_true rfl) rfl rfl (by decide +kernel) (by decide +kernel) rfl (Nat.le_of_ble_eq_true rfl) rfl ?_
      refine zWp.mono (mm_divisor ro _ (((G 52 14) * (al / (G 52 12))) + (((Int32.toInt64 (I 52 34)) * ab) * (al / be))) (mD (((G 52 13) * (al / (G 52 12))) + ((1 * ab) * (al / be))) (mCm I G A B ab be al k))) ?_
      rintro r h1 ⟨rfl, rfl⟩
      refine ⟨_, rfl, ?_⟩
      refine zw_put _ 35 f133_32 rfl g133_161_12 (hb_52 _ _ _ _) rfl (Nat.le_of_ble_eq_true rfl) (by decide +kernel) (hg_52_39 _ _ _ _ _) ?_
      refine zw_lload 37 f133_35 rfl zl2_eq ?_
      refine zw_lreturn f133_37 r133 u133 ⟨_, rfl, ?_⟩
      refine zw_lst 9 _ 140 f134_139 rfl (hb_76 _ _ _ _) (by decide +kernel) (by decide +kernel) (by decide +kernel) (ha_76 _ _ _ _ _) ?_
      refine zw_aload_n 141 f134_140 rfl h0 ?_
      refine zw_getfield 144 f134_141 rfl g134_89_12 (hb_52 _ _ _ _) rfl ?_
      refine zw_bipush 10 146 f134_144 rfl (by decide +kernel) ?_
      refine zw_aload_n 147 f134_146 rfl h0 ?_
      refine zw_aload_n 148 f134_147 rfl h0 ?_
      refine zw_getG (G 52 15) 151 f134_148 rfl g134_178_12 (hb_52 _ _ _ _) rfl (K.2.1 52 15 rfl) ?_
      refine zw_aload_n 152 f134_151 rfl h0 ?_
      refine zw_getI (I 52 35) 155 f134_152 rfl g134_124_12 (hb_52 _ _ _ _) rfl (K.1 52 35 rfl) ?_
      refine zw_i2l (Int32.toInt64 (I 52 35)) 156 f134_155 rfl rfl ?_
      refine zw_lload 158 f134_156 rfl h7 ?_
      refine zw_lload 160 f134_158 rfl h9 ?_
      refine zw_lload 162 f134_160 rfl h11 ?_
      refine zw_virtual_l 165 0 0 [.ref 52, .long (G 52 15), .long (Int32.toInt64 (I 52 35)), .long ab, .long be, .long al] [(0, .ref 52), (1, .long (G 52 15)), (3, .long (Int32.toInt64 (I 52 35))), (5, .long ab), (7, .long be), (9, .long al)] f134_162 rfl n134_168 k134_168_12 rfl (hb_52 _ _ _ _) (by decide +kernel) (Nat.le_of_ble_eq_true rfl) rfl rfl (by decide +kernel) (by decide +kernel) rfl (Nat.le_of_ble_eq_true rfl) rfl ?_
      refine zw_lload_n 1 f133_0 rfl rfl ?_
      refine zw_lload 3 f133_1 rfl rfl ?_
      refine zw_aload_n 4 f133_3 rfl rfl ?_
      refine zw_getG (G 52 12) 7 f133_4 rfl g133_40_12 (hb_52 _ _ _ _) rfl (K.2.1 52 12 rfl) ?_
      refine zw_ldiv (al / (G 52 12)) 8 f133_7 rfl hg rfl ?_
      refine zw_lmul ((G 52 15) * (al / (G 52 12))) 9 f133_8 rfl rfl ?_
      refine zw_lload_n 10 f133_9 rfl rfl ?_
      refine zw_lload 12 f133_10 rfl rfl ?_
      refine zw_lmul ((Int32.toInt64 (I 52 35)) * ab) 13 f133_12 rfl rfl ?_
      refine zw_lload 15 f133_13 rfl rfl ?_
      refine zw_lload 17 f133_15 rfl rfl ?_
      refine zw_ldiv (al / be) 18 f133_17 rfl hbe rfl ?_
      refine zw_lmul (((Int32.toInt64 (I 52 35)) * ab) * (al / be)) 19 f133_18 rfl rfl ?_
      refine zw_ladd (((G 52 15) * (al / (G 52 12))) + (((Int32.toInt64 (I 52 35)) * ab) * (al / be))) 20 f133_19 rfl rfl ?_
      refine zw_lstore _ 22 f133_20 rfl (by decide +kernel) rfl ?_
      refine zw_aload_n 23 f133_22 rfl (zl2_ne rfl rfl rfl) ?_
      refine zw_lload 25 f133_23 rfl zl2_eq ?_
      refine zw_aload_n 26 f133_25 rfl (zl2_ne rfl rfl rfl) ?_
      refine zw_getG (mD (((G 52 14) * (al / (G 52 12))) + (((Int32.toInt64 (I 52 34)) * ab) * (al / be))) (mD (((G 52 13) * (al / (G 52 12))) + ((1 * ab) * (al / be))) (mCm I G A B ab be al k))) 29 f133_26 rfl g133_161_12 (hb_52 _ _ _ _) rfl rfl ?_
      refine zw_static_l 32 0 0 [.long (((G 52 15) * (al / (G 52 12))) + (((Int32.toInt64 (I 52 35)) * ab) * (al / be))), .long (mD (((G 52 14) * (al / (G 52 12))) + (((Int32.toInt64 (I 52 34)) * ab) * (al / be))) (mD (((G 52 13) * (al / (G 52 12))) + ((1 * ab) * (al / be))) (mCm I G A B ab be al k)))] [.ref 52] [(0, .long (((G 52 15) * (al / (G 52 12))) + (((Int32.toInt64 (I 52 35)) * ab) * (al / be)))), (2, .long (mD (((G 52 14) * (al / (G 52 12))) + (((Int32.toInt64 (I 52 34)) * ab) * (al / be))) (mD (((G 52 13) * (al / (G 52 12))) + ((1 * ab) * (al / be))) (mCm I G A B ab be al k))))] f133_29 rfl k133_164_99 rfl (by decide +kernel) (Nat.le_of_ble_eq_true rfl) (Nat.le_of_ble_eq_true rfl) rfl rfl (by decide +kernel) (by decide +kernel) rfl (Nat.le_of_ble_eq_true rfl) rfl ?_
      refine zWp.mono (mm_divisor ro _ (((G 52 15) * (al / (G 52 12))) + (((Int32.toInt64 (I 52 35)) * ab) * (al / be))) (mD (((G 52 14) * (al / (G 52 12))) + (((Int32.toInt64 (I 52 34)) * ab) * (al / be))) (mD (((G 52 13) * (al / (G 52 12))) + ((1 * ab) * (al / be))) (mCm I G A B ab be al k)))) ?_
      rintro r h1 ⟨rfl, rfl⟩
      refine ⟨_, rfl, ?_⟩
      refine zw_put _ 35 f133_32 rfl g133_161_12 (hb_52 _ _ _ _) rfl (Nat.le_of_ble_eq_true rfl) (by decide +kernel) (hg_52_39 _ _ _ _ _) ?_
      refine zw_lload 37 f133_35 rfl zl2_eq ?_
      refine zw_lreturn f133_37 r133 u133 ⟨_, rfl, ?_⟩
      refine zw_lst 10 _ 166 f134_165 rfl (hb_76 _ _ _ _) (by decide +kernel) (by decide +kernel) (by decide +kernel) (ha_76 _ _ _ _ _) ?_
      refine zw_lload 168 f134_166 rfl h11 ?_
      refine zw_aload_n 169 f134_168 rfl h0 ?_
      refine zw_getG (mD (((G 52 15) * (al / (G 52 12))) + (((Int32.toInt64 (I 52 35)) * ab) * (al / be))) (mD (((G 52 14) * (al / (G 52 12))) + (((Int32.toInt64 (I 52 34)) * ab) * (al / be))) (mD (((G 52 13) * (al / (G 52 12))) + ((1 * ab) * (al / be))) (mCm I G A B ab be al k)))) 172 f134_169 rfl g134_161_12 (hb_52 _ _ _ _) rfl rfl ?_
      refine zw_ldiv (al / (mD (((G 52 15) * (al / (G 52 12))) + (((Int32.toInt64 (I 52 35)) * ab) * (al / be))) (mD (((G 52 14) * (al / (G 52 12))) + (((Int32.toInt64 (I 52 34)) * ab) * (al / be))) (mD (((G 52 13) * (al / (G 52 12))) + ((1 * ab) * (al / be))) (mCm I G A B ab be al k))))) 173 f134_172 rfl (mD_ne0 (mD_ne0 (mD_ne0 (mCm_ne0 hal k)))) rfl ?_
      refine zw_ldc2_w 10000 176 f134_173 rfl (by decide +kernel) ?_
      refine zw_lcmp (lg_cmp (al / (mD (((G 52 15) * (al / (G 52 12))) + (((Int32.toInt64 (I 52 35)) * ab) * (al / be))) (mD (((G 52 14) * (al / (G 52 12))) + (((Int32.toInt64 (I 52 34)) * ab) * (al / be))) (mD (((G 52 13) * (al / (G 52 12))) + ((1 * ab) * (al / be))) (mCm I G A B ab be al k))))) 10000) 177 f134_176 rfl rfl ?_
      refine zw_if_le 180 182 f134_177 (by decide +kernel) rfl (fun hc2 => ?_) (fun hc2 => ?_)
      · have EC : (mD (((G 52 15) * (al / (G 52 12))) + (((Int32.toInt64 (I 52 35)) * ab) * (al / be))) (mD (((G 52 14) * (al / (G 52 12))) + (((Int32.toInt64 (I 52 34)) * ab) * (al / be))) (mD (((G 52 13) * (al / (G 52 12))) + ((1 * ab) * (al / be))) (mCm I G A B ab be al k)))) = mCm I G A B ab be al 11 := by rw [mCm_s, mCm_s, mCm_s, mTh_8, mTh_9, mTh_10, hk]
        have hgr : ¬ 10000 < al / mCm I G A B ab be al 11 := by
          rw [← EC]
          exact Int64.not_lt.mpr ((lg_cmp_le _ _).mp hc2)
        refine zw_iconst 0 183 f134_182 rfl (by decide +kernel) ?_
        refine zw_istore _ 185 f134_183 rfl (by decide +kernel) rfl ?_
        exact lmm_passes_185 ro I G A B ab be al hg hbe hal hgr 9 0 _ _ _ _ _ (KQ.wk (pf := fC) (pa := pT) (KQ.b rfl (KQ.g rfl (KQ.b rfl (KQ.g rfl (KQ.b rfl (KQ.g rfl K)))))) fC_P pT_P) ⟨EC, m11 (by rw [hk] at hr; exact hr.2) mTh_8.symm mTh_9.symm mTh_10.symm, fun j hj => absurd hj (by omega), fun j _ => congrFun (K.2.2.2 63 rfl) j⟩ (zl1_ne rfl rfl h0) (zl1_ne rfl rfl h11) zl1_eq (by omega) (by omega)
      · refine zw_iconst 0 181 f134_180 rfl (by decide +kernel) ?_
        refine zw_zreturn f134_181 r134 u134 (by decide +kernel) ?_
        have EC : (mD (((G 52 15) * (al / (G 52 12))) + (((Int32.toInt64 (I 52 35)) * ab) * (al / be))) (mD (((G 52 14) * (al / (G 52 12))) + (((Int32.toInt64 (I 52 34)) * ab) * (al / be))) (mD (((G 52 13) * (al / (G 52 12))) + ((1 * ab) * (al / be))) (mCm I G A B ab be al k)))) = mCm I G A B ab be al 11 := by rw [mCm_s, mCm_s, mCm_s, mTh_8, mTh_9, mTh_10, hk]
        have hgr : mFail I G A B ab be al := by
          unfold mFail
          rw [← EC]
          exact (Int64.not_le.mp (fun q => hc2 ((lg_cmp_le _ _).mpr q)))
        exact ⟨_, _, _, _, rfl, KQ.wk (pf := fC) (pa := pT) (KQ.b rfl (KQ.g rfl (KQ.b rfl (KQ.g rfl (KQ.b rfl (KQ.g rfl K)))))) fC_P pT_P, Or.inl ⟨rfl, (KQ.b rfl (KQ.g rfl (KQ.b rfl (KQ.g rfl (KQ.b rfl (KQ.g rfl K)))))), hgr⟩⟩
    · have hn_hc1 : k < 8 := zn_lt (by omega) (by omega) hc1
      refine zw_aload_n 55 f134_54 rfl h0 ?_
      refine zw_getfield 58 f134_55 rfl g134_89_12 (hb_52 _ _ _ _) rfl ?_
      refine zw_iload 60 f134_58 rfl h13 ?_
      refine zw_aload_n 61 f134_60 rfl h0 ?_
      refine zw_aload_n 62 f134_61 rfl h0 ?_
      refine zw_getfield 65 f134_62 rfl g134_44_12 (hb_52 _ _ _ _) rfl ?_
      refine zw_iload 67 f134_65 rfl h13 ?_
      refine zw_laload k (B 63 k) 68 f134_67 rfl (hb_63 _ _ _ _) (nI_clamp (by omega)) (nI_pos (by omega)) (by omega) (congrFun ((K.2.2.2 63 rfl)) k) ?_
      refine zw_aload_n 69 f134_68 rfl h0 ?_
      refine zw_getfield 72 f134_69 rfl g134_80_12 (hb_52 _ _ _ _) rfl ?_
      refine zw_iload 74 f134_72 rfl h13 ?_
      refine zw_iaload k (A 73 k) 75 f134_74 rfl (hb_73 _ _ _ _) (nI_clamp (by omega)) (nI_pos (by omega)) (by omega) (congrFun ((K.2.2.1 73 rfl)) k) ?_
      refine zw_i2l (Int32.toInt64 (A 73 k)) 76 f134_75 rfl rfl ?_
      refine zw_lload 78 f134_76 rfl h7 ?_
      refine zw_lload 80 f134_78 rfl h9 ?_
      refine zw_lload 82 f134_80 rfl h11 ?_
      refine zw_virtual_l 85 0 0 [.ref 52, .long (B 63 k), .long (Int32.toInt64 (A 73 k)), .long ab, .long be, .long al] [(0, .ref 52), (1, .long (B 63 k)), (3, .long (Int32.toInt64 (A 73 k))), (5, .long ab), (7, .long be), (9, .long al)] f134_82 rfl n134_168 k134_168_12 rfl (hb_52 _ _ _ _) (by decide +kernel) (Nat.le_of_ble_eq_true rfl) rfl rfl (by decide +kernel) (by decide +kernel) rfl (Nat.le_of_ble_eq_true rfl) rfl ?_
      refine zw_lload_n 1 f133_0 rfl rfl ?_
      refine zw_lload 3 f133_1 rfl rfl ?_
      refine zw_aload_n 4 f133_3 rfl rfl ?_
      refine zw_getG (G 52 12) 7 f133_4 rfl g133_40_12 (hb_52 _ _ _ _) rfl (K.2.1 52 12 rfl) ?_
      refine zw_ldiv (al / (G 52 12)) 8 f133_7 rfl hg rfl ?_
      refine zw_lmul ((B 63 k) * (al / (G 52 12))) 9 f133_8 rfl rfl ?_
      refine zw_lload_n 10 f133_9 rfl rfl ?_
      refine zw_lload 12 f133_10 rfl rfl ?_
      refine zw_lmul ((Int32.toInt64 (A 73 k)) * ab) 13 f133_12 rfl rfl ?_
      refine zw_lload 15 f133_13 rfl rfl ?_
      refine zw_lload 17 f133_15 rfl rfl ?_
      refine zw_ldiv (al / be) 18 f133_17 rfl hbe rfl ?_
      refine zw_lmul (((Int32.toInt64 (A 73 k)) * ab) * (al / be)) 19 f133_18 rfl rfl ?_
      refine zw_ladd (((B 63 k) * (al / (G 52 12))) + (((Int32.toInt64 (A 73 k)) * ab) * (al / be))) 20 f133_19 rfl rfl ?_
      refine zw_lstore _ 22 f133_20 rfl (by decide +kernel) rfl ?_
      refine zw_aload_n 23 f133_22 rfl (zl2_ne rfl rfl rfl) ?_
      refine zw_lload 25 f133_23 rfl zl2_eq ?_
      refine zw_aload_n 26 f133_25 rfl (zl2_ne rfl rfl rfl) ?_
      refine zw_getG (mCm I G A B ab be al k) 29 f133_26 rfl g133_161_12 (hb_52 _ _ _ _) rfl hr.1 ?_
      refine zw_static_l 32 0 0 [.long (((B 63 k) * (al / (G 52 12))) + (((Int32.toInt64 (A 73 k)) * ab) * (al / be))), .long (mCm I G A B ab be al k)] [.ref 52] [(0, .long (((B 63 k) * (al / (G 52 12))) + (((Int32.toInt64 (A 73 k)) * ab) * (al / be)))), (2, .long (mCm I G A B ab be al k))] f133_29 rfl k133_164_99 rfl (by decide +kernel) (Nat.le_of_ble_eq_true rfl) (Nat.le_of_ble_eq_true rfl) rfl rfl (by decide +kernel) (by decide +kernel) rfl (Nat.le_of_ble_eq_true rfl) rfl ?_
      refine zWp.mono (mm_divisor ro _ (((B 63 k) * (al / (G 52 12))) + (((Int32.toInt64 (A 73 k)) * ab) * (al / be))) (mCm I G A B ab be al k)) ?_
      rintro r h1 ⟨rfl, rfl⟩
      refine ⟨_, rfl, ?_⟩
      refine zw_put _ 35 f133_32 rfl g133_161_12 (hb_52 _ _ _ _) rfl (Nat.le_of_ble_eq_true rfl) (by decide +kernel) (hg_52_39 _ _ _ _ _) ?_
      refine zw_lload 37 f133_35 rfl zl2_eq ?_
      refine zw_lreturn f133_37 r133 u133 ⟨_, rfl, ?_⟩
      refine zw_lst k _ 86 f134_85 rfl (hb_76 _ _ _ _) (nI_clamp (by omega)) (nI_pos (by omega)) (by omega) (ha_76 _ _ _ _ _) ?_
      refine zw_iinc (nI (k + 1)) _ 89 f134_86 rfl h13 (by decide +kernel) (nI_1 _) rfl ?_
      refine zw_goto 47 f134_89 (by decide +kernel) ?_
      have E : (((B 63 k) * (al / (G 52 12))) + (((Int32.toInt64 (A 73 k)) * ab) * (al / be))) = (mTh I G A B ab be al k) := (mTh_k (show k < 8 by omega)).symm
      have E2 : mD (((B 63 k) * (al / (G 52 12))) + (((Int32.toInt64 (A 73 k)) * ab) * (al / be))) (mCm I G A B ab be al k) = (mCm I G A B ab be al (k + 1)) := by rw [mCm_s, E]
      exact ih (k + 1) _ _ _ _ _ (KQ.b rfl (KQ.g rfl K)) ⟨E2, mL_u hr.2 E⟩ (zl1_ne rfl rfl h0) (zl1_ne rfl rfl h7) (zl1_ne rfl rfl h9) (zl1_ne rfl rfl h11) zl1_eq (by omega) (by omega)
set_option maxRecDepth 100000 in
set_option maxHeartbeats 0 in
theorem mm_passes (ro : UInt32 → Nat × (Nat → Int32)) (I : Nat → Nat → Int32) (G : Nat → Nat → Int64) (A : Nat → Nat → Int32) (B : Nat → Nat → Int64) (tA tB : Int64) (hg : ¬ G 52 12 = 0) (hb : ¬ tB = 0) (hbe : ¬ (tB / (mD tA tB)) = 0) (hal : ¬ (((G 52 12) / (mD (G 52 12) (tB / (mD tA tB)))) * (tB / (mD tA tB))) = 0) : zWp ro 134 0 [(0, .ref 52), (1, .long tA), (3, .long tB)] [] (hS I G A B) 0 0 (fun r h1 => ∃ I2 G2 A2 B2, h1 = hS I2 G2 A2 B2 ∧ KQ fP pP I G A B I2 G2 A2 B2 ∧ ((r = some (.int 0) ∧ KQ fC pT I G A B I2 G2 A2 B2 ∧ mFail I G A B (tA / (mD tA tB)) (tB / (mD tA tB)) (((G 52 12) / (mD (G 52 12) (tB / (mD tA tB)))) * (tB / (mD tA tB)))) ∨ (r = some (.int 1) ∧ mPass I G A B (tA / (mD tA tB)) (tB / (mD tA tB)) (((G 52 12) / (mD (G 52 12) (tB / (mD tA tB)))) * (tB / (mD tA tB))) G2 B2))) := by
  refine zw_lload_n 1 f134_0 rfl rfl ?_
  refine zw_lload_n 2 f134_1 rfl rfl ?_
  refine zw_static_l 5 0 0 [.long tA, .long tB] [] [(0, .long tA), (2, .long tB)] f134_2 rfl k134_164_99 rfl (by decide +kernel) (Nat.le_of_ble_eq_true rfl) (Nat.le_of_ble_eq_true rfl) rfl rfl (by decide +kernel) (by decide +kernel) rfl (Nat.le_of_ble_eq_true rfl) rfl ?_
  refine zWp.mono (mm_divisor ro _ tA tB) ?_
  rintro r h1 ⟨rfl, rfl⟩
  refine ⟨_, rfl, ?_⟩
  refine zw_lstore _ 7 f134_5 rfl (by decide +kernel) rfl ?_
  refine zw_lload_n 8 f134_7 rfl (zl2_ne rfl rfl rfl) ?_
  refine zw_lload 10 f134_8 rfl zl2_eq ?_
  refine zw_ldiv (tA / (mD tA tB)) 11 f134_10 rfl (mD_ne0 hb) rfl ?_
  refine zw_lstore _ 13 f134_11 rfl (by decide +kernel) rfl ?_
  refine zw_lload_n 14 f134_13 rfl (zl2_ne rfl rfl (zl2_ne rfl rfl rfl)) ?_
  refine zw_lload 16 f134_14 rfl (zl2_ne rfl rfl zl2_eq) ?_
  refine zw_ldiv (tB / (mD tA tB)) 17 f134_16 rfl (mD_ne0 hb) rfl ?_
  refine zw_lstore _ 19 f134_17 rfl (by decide +kernel) rfl ?_
  refine zw_aload_n 20 f134_19 rfl (zl2_ne rfl rfl (zl2_ne rfl rfl (zl2_ne rfl rfl rfl))) ?_
  refine zw_getG (G 52 12) 23 f134_20 rfl g134_40_12 (hb_52 _ _ _ _) rfl rfl ?_
  refine zw_aload_n 24 f134_23 rfl (zl2_ne rfl rfl (zl2_ne rfl rfl (zl2_ne rfl rfl rfl))) ?_
  refine zw_getG (G 52 12) 27 f134_24 rfl g134_40_12 (hb_52 _ _ _ _) rfl rfl ?_
  refine zw_lload 29 f134_27 rfl zl2_eq ?_
  refine zw_static_l 32 0 0 [.long (G 52 12), .long (tB / (mD tA tB))] [.long (G 52 12)] [(0, .long (G 52 12)), (2, .long (tB / (mD tA tB)))] f134_29 rfl k134_164_99 rfl (by decide +kernel) (Nat.le_of_ble_eq_true rfl) (Nat.le_of_ble_eq_true rfl) rfl rfl (by decide +kernel) (by decide +kernel) rfl (Nat.le_of_ble_eq_true rfl) rfl ?_
  refine zWp.mono (mm_divisor ro _ (G 52 12) (tB / (mD tA tB))) ?_
  rintro r h1 ⟨rfl, rfl⟩
  refine ⟨_, rfl, ?_⟩
  refine zw_ldiv ((G 52 12) / (mD (G 52 12) (tB / (mD tA tB)))) 33 f134_32 rfl (mD_ne0 hbe) rfl ?_
  refine zw_lload 35 f134_33 rfl zl2_eq ?_
  refine zw_lmul (((G 52 12) / (mD (G 52 12) (tB / (mD tA tB)))) * (tB / (mD tA tB))) 36 f134_35 rfl rfl ?_
  refine zw_lstore _ 38 f134_36 rfl (by decide +kernel) rfl ?_
  refine zw_aload_n 39 f134_38 rfl (zl2_ne rfl rfl (zl2_ne rfl rfl (zl2_ne rfl rfl (zl2_ne rfl rfl rfl)))) ?_
  refine zw_lload 41 f134_39 rfl zl2_eq ?_
  refine zw_put _ 44 f134_41 rfl g134_161_12 (hb_52 _ _ _ _) rfl (Nat.le_of_ble_eq_true rfl) (by decide +kernel) (hg_52_39 _ _ _ _ _) ?_
  refine zw_iconst 0 45 f134_44 rfl (by decide +kernel) ?_
  refine zw_istore _ 47 f134_45 rfl (by decide +kernel) rfl ?_
  exact lmm_passes_47 ro I G A B (tA / (mD tA tB)) (tB / (mD tA tB)) (((G 52 12) / (mD (G 52 12) (tB / (mD tA tB)))) * (tB / (mD tA tB))) hg hbe hal 9 0 _ _ _ _ _ (KQ.g rfl KQ.rf) ⟨rfl, fun j hj => absurd hj (by omega)⟩ (zl1_ne rfl rfl (zl2_ne rfl rfl (zl2_ne rfl rfl (zl2_ne rfl rfl (zl2_ne rfl rfl rfl))))) (zl1_ne rfl rfl (zl2_ne rfl rfl (zl2_ne rfl rfl zl2_eq))) (zl1_ne rfl rfl (zl2_ne rfl rfl zl2_eq)) (zl1_ne rfl rfl zl2_eq) zl1_eq (by omega) (by omega)
set_option maxRecDepth 100000 in
set_option maxHeartbeats 0 in
theorem lmm_lowest_101 (ro : UInt32 → Nat × (Nat → Int32)) (I : Nat → Nat → Int32) (G : Nat → Nat → Int64) (A : Nat → Nat → Int32) (B : Nat → Nat → Int64) (hg : ¬ G 52 12 = 0) : ∀ (n k : Nat) (ls : List (Nat × Value)) (I1 : Nat → Nat → Int32) (G1 : Nat → Nat → Int64) (A1 : Nat → Nat → Int32) (B1 : Nat → Nat → Int64), KQ fP p63 I G A B I1 G1 A1 B1 → (G1 52 39 = mLc G B 8 ∧ G1 52 13 = G 52 13 / mLc G B 8 ∧ G1 52 14 = G 52 14 / mLc G B 8 ∧ G1 52 15 = G 52 15 / mLc G B 8 ∧ (∀ j, j < k → B1 63 j = B 63 j / mLc G B 8) ∧ ∀ j, k ≤ j → B1 63 j = B 63 j) → G1 52 12 = G 52 12 → zld ls 0 = some (.ref 52) → zld ls 1 = some (.int (nI k)) → k ≤ 8 → 8 + 1 ≤ k + n → zWp ro 135 101 ls [] (hS I1 G1 A1 B1) 0 0 (fun r h1 => ∃ I2 G2 A2 B2, h1 = hS I2 G2 A2 B2 ∧ KQ fP p63 I G A B I2 G2 A2 B2 ∧ ((∀ j, j < 8 → B2 63 j = B 63 j / mLc G B 8) ∧ G2 52 13 = G 52 13 / mLc G B 8 ∧ G2 52 14 = G 52 14 / mLc G B 8 ∧ G2 52 15 = G 52 15 / mLc G B 8 ∧ G2 52 12 = G 52 12 / mLc G B 8 ∧ ∀ j, 8 ≤ j → B2 63 j = B 63 j) ∧ r = none) := by
  intro n
  induction n with
  | zero =>
    intro k ls I1 G1 A1 B1 _ _ _ _ _ a b
    exact absurd b (by omega)
  | succ n ih =>
    intro k ls I1 G1 A1 B1 K hr hgr h0 h1 hk1 hk2
    refine zw_iload_n 102 f135_101 rfl h1 ?_
    refine zw_bipush 8 104 f135_102 rfl (by decide +kernel) ?_
    refine zw_ic_ge 107 126 f135_104 (by decide +kernel) rfl (fun hc1 => ?_) (fun hc1 => ?_)
    · have hn_hc1 : 8 ≤ k := zn_ge (by omega) (by omega) hc1
      refine zw_aload_n 127 f135_126 rfl h0 ?_
      refine zw_dup 128 f135_127 rfl rfl ?_
      refine zw_getG (G 52 12) 131 f135_128 rfl g135_40_12 (hb_52 _ _ _ _) rfl hgr ?_
      refine zw_aload_n 132 f135_131 rfl h0 ?_
      refine zw_getG (mLc G B 8) 135 f135_132 rfl g135_161_12 (hb_52 _ _ _ _) rfl hr.1 ?_
      refine zw_ldiv ((G 52 12) / (mLc G B 8)) 136 f135_135 rfl (mLc_ne0 hg 8) rfl ?_
      refine zw_put _ 139 f135_136 rfl g135_40_12 (hb_52 _ _ _ _) rfl (Nat.le_of_ble_eq_true rfl) (by decide +kernel) (hg_52_12 _ _ _ _ _) ?_
      refine zw_vreturn f135_139 r135 u135 ?_
      have hk : k = 8 := by omega
      rw [hk] at hr
      exact ⟨_, _, _, _, rfl, (KQ.g rfl K), ⟨hr.2.2.2.2.1, hr.2.1, hr.2.2.1, hr.2.2.2.1, rfl, hr.2.2.2.2.2⟩, rfl⟩
    · have hn_hc1 : k < 8 := zn_lt (by omega) (by omega) hc1
      refine zw_aload_n 108 f135_107 rfl h0 ?_
      refine zw_getfield 111 f135_108 rfl g135_44_12 (hb_52 _ _ _ _) rfl ?_
      refine zw_iload_n 112 f135_111 rfl h1 ?_
      refine zw_dup2 113 f135_112 rfl rfl rfl ?_
      refine zw_laload k (B 63 k) 114 f135_113 rfl (hb_63 _ _ _ _) (nI_clamp (by omega)) (nI_pos (by omega)) (by omega) (hr.2.2.2.2.2 k (Nat.le_refl _)) ?_
      refine zw_aload_n 115 f135_114 rfl h0 ?_
      refine zw_getG (mLc G B 8) 118 f135_115 rfl g135_161_12 (hb_52 _ _ _ _) rfl hr.1 ?_
      refine zw_ldiv ((B 63 k) / (mLc G B 8)) 119 f135_118 rfl (mLc_ne0 hg 8) rfl ?_
      refine zw_lst k _ 120 f135_119 rfl (hb_63 _ _ _ _) (nI_clamp (by omega)) (nI_pos (by omega)) (by omega) (ha_63 _ _ _ _ _) ?_
      refine zw_iinc (nI (k + 1)) _ 123 f135_120 rfl h1 (by decide +kernel) (nI_1 _) rfl ?_
      refine zw_goto 101 f135_123 (by decide +kernel) ?_
      exact ih (k + 1) _ _ _ _ _ (KQ.b rfl K) ⟨hr.1, hr.2.1, hr.2.2.1, hr.2.2.2.1, mL_u (T := fun j => B 63 j / mLc G B 8) hr.2.2.2.2.1 rfl, mL_o hr.2.2.2.2.2⟩ hgr (zl1_ne rfl rfl h0) zl1_eq (by omega) (by omega)
set_option maxRecDepth 100000 in
set_option maxHeartbeats 0 in
theorem lmm_lowest_31 (ro : UInt32 → Nat × (Nat → Int32)) (I : Nat → Nat → Int32) (G : Nat → Nat → Int64) (A : Nat → Nat → Int32) (B : Nat → Nat → Int64) (hg : ¬ G 52 12 = 0) : ∀ (n k : Nat) (ls : List (Nat × Value)) (I1 : Nat → Nat → Int32) (G1 : Nat → Nat → Int64) (A1 : Nat → Nat → Int32) (B1 : Nat → Nat → Int64), KQ fC p0 I G A B I1 G1 A1 B1 → G1 52 39 = mLc G B k → zld ls 0 = some (.ref 52) → zld ls 1 = some (.int (nI k)) → k ≤ 8 → 8 + 1 ≤ k + n → zWp ro 135 31 ls [] (hS I1 G1 A1 B1) 0 0 (fun r h1 => ∃ I2 G2 A2 B2, h1 = hS I2 G2 A2 B2 ∧ KQ fP p63 I G A B I2 G2 A2 B2 ∧ ((∀ j, j < 8 → B2 63 j = B 63 j / mLc G B 8) ∧ G2 52 13 = G 52 13 / mLc G B 8 ∧ G2 52 14 = G 52 14 / mLc G B 8 ∧ G2 52 15 = G 52 15 / mLc G B 8 ∧ G2 52 12 = G 52 12 / mLc G B 8 ∧ ∀ j, 8 ≤ j → B2 63 j = B 63 j) ∧ r = none) := by
  intro n
  induction n with
  | zero =>
    intro k ls I1 G1 A1 B1 _ _ _ _ a b
    exact absurd b (by omega)
  | succ n ih =>
    intro k ls I1 G1 A1 B1 K hr h0 h1 hk1 hk2
    refine zw_iload_n 32 f135_31 rfl h1 ?_
    refine zw_bipush 8 34 f135_32 rfl (by decide +kernel) ?_
    refine zw_ic_ge 37 60 f135_34 (by decide +kernel) rfl (fun hc1 => ?_) (fun hc1 => ?_)
    · have hn_hc1 : 8 ≤ k := zn_ge (by omega) (by omega) hc1
      refine zw_aload_n 61 f135_60 rfl h0 ?_
      refine zw_dup 62 f135_61 rfl rfl ?_
      refine zw_getG (G 52 13) 65 f135_62 rfl g135_172_12 (hb_52 _ _ _ _) rfl (K.2.1 52 13 rfl) ?_
      refine zw_aload_n 66 f135_65 rfl h0 ?_
      refine zw_getG (mLc G B k) 69 f135_66 rfl g135_161_12 (hb_52 _ _ _ _) rfl hr ?_
      refine zw_ldiv ((G 52 13) / (mLc G B k)) 70 f135_69 rfl (mLc_ne0 hg k) rfl ?_
      refine zw_put _ 73 f135_70 rfl g135_172_12 (hb_52 _ _ _ _) rfl (Nat.le_of_ble_eq_true rfl) (by decide +kernel) (hg_52_13 _ _ _ _ _) ?_
      refine zw_aload_n 74 f135_73 rfl h0 ?_
      refine zw_dup 75 f135_74 rfl rfl ?_
      refine zw_getG (G 52 14) 78 f135_75 rfl g135_175_12 (hb_52 _ _ _ _) rfl (K.2.1 52 14 rfl) ?_
      refine zw_aload_n 79 f135_78 rfl h0 ?_
      refine zw_getG (mLc G B k) 82 f135_79 rfl g135_161_12 (hb_52 _ _ _ _) rfl hr ?_
      refine zw_ldiv ((G 52 14) / (mLc G B k)) 83 f135_82 rfl (mLc_ne0 hg k) rfl ?_
      refine zw_put _ 86 f135_83 rfl g135_175_12 (hb_52 _ _ _ _) rfl (Nat.le_of_ble_eq_true rfl) (by decide +kernel) (hg_52_14 _ _ _ _ _) ?_
      refine zw_aload_n 87 f135_86 rfl h0 ?_
      refine zw_dup 88 f135_87 rfl rfl ?_
      refine zw_getG (G 52 15) 91 f135_88 rfl g135_178_12 (hb_52 _ _ _ _) rfl (K.2.1 52 15 rfl) ?_
      refine zw_aload_n 92 f135_91 rfl h0 ?_
      refine zw_getG (mLc G B k) 95 f135_92 rfl g135_161_12 (hb_52 _ _ _ _) rfl hr ?_
      refine zw_ldiv ((G 52 15) / (mLc G B k)) 96 f135_95 rfl (mLc_ne0 hg k) rfl ?_
      refine zw_put _ 99 f135_96 rfl g135_178_12 (hb_52 _ _ _ _) rfl (Nat.le_of_ble_eq_true rfl) (by decide +kernel) (hg_52_15 _ _ _ _ _) ?_
      refine zw_iconst 0 100 f135_99 rfl (by decide +kernel) ?_
      refine zw_istore_n _ 101 f135_100 rfl (by decide +kernel) rfl ?_
      have hk : k = 8 := by omega
      subst hk
      exact lmm_lowest_101 ro I G A B hg 9 0 _ _ _ _ _ (KQ.g rfl (KQ.g rfl (KQ.g rfl (KQ.wk K fC_P p0_x)))) ⟨hr, rfl, rfl, rfl, fun j hj => absurd hj (by omega), fun j _ => congrFun (K.2.2.2 63 rfl) j⟩ (K.2.1 52 12 rfl) (zl1_ne rfl rfl h0) zl1_eq (by omega) (by omega)
    · have hn_hc1 : k < 8 := zn_lt (by omega) (by omega) hc1
      refine zw_aload_n 38 f135_37 rfl h0 ?_
      refine zw_aload_n 39 f135_38 rfl h0 ?_
      refine zw_getfield 42 f135_39 rfl g135_44_12 (hb_52 _ _ _ _) rfl ?_
      refine zw_iload_n 43 f135_42 rfl h1 ?_
      refine zw_laload k (B 63 k) 44 f135_43 rfl (hb_63 _ _ _ _) (nI_clamp (by omega)) (nI_pos (by omega)) (by omega) (congrFun ((K.2.2.2 63 rfl)) k) ?_
      refine zw_aload_n 45 f135_44 rfl h0 ?_
      refine zw_getG (mLc G B k) 48 f135_45 rfl g135_161_12 (hb_52 _ _ _ _) rfl hr ?_
      refine zw_static_l 51 0 0 [.long (B 63 k), .long (mLc G B k)] [.ref 52] [(0, .long (B 63 k)), (2, .long (mLc G B k))] f135_48 rfl k135_164_99 rfl (by decide +kernel) (Nat.le_of_ble_eq_true rfl) (Nat.le_of_ble_eq_true rfl) rfl rfl (by decide +kernel) (by decide +kernel) rfl (Nat.le_of_ble_eq_true rfl) rfl ?_
      refine zWp.mono (mm_divisor ro _ (B 63 k) (mLc G B k)) ?_
      rintro r h1 ⟨rfl, rfl⟩
      refine ⟨_, rfl, ?_⟩
      refine zw_put _ 54 f135_51 rfl g135_161_12 (hb_52 _ _ _ _) rfl (Nat.le_of_ble_eq_true rfl) (by decide +kernel) (hg_52_39 _ _ _ _ _) ?_
      refine zw_iinc (nI (k + 1)) _ 57 f135_54 rfl h1 (by decide +kernel) (nI_1 _) rfl ?_
      refine zw_goto 31 f135_57 (by decide +kernel) ?_
      exact ih (k + 1) _ _ _ _ _ (KQ.g rfl K) mLc_s.symm (zl1_ne rfl rfl h0) zl1_eq (by omega) (by omega)
set_option maxRecDepth 100000 in
set_option maxHeartbeats 0 in
theorem mm_lowest (ro : UInt32 → Nat × (Nat → Int32)) (I : Nat → Nat → Int32) (G : Nat → Nat → Int64) (A : Nat → Nat → Int32) (B : Nat → Nat → Int64) (hg : ¬ G 52 12 = 0) : zWp ro 135 0 [(0, .ref 52)] [] (hS I G A B) 0 0 (fun r h1 => ∃ I2 G2 A2 B2, h1 = hS I2 G2 A2 B2 ∧ KQ fP p63 I G A B I2 G2 A2 B2 ∧ ((∀ j, j < 8 → B2 63 j = B 63 j / mLc G B 8) ∧ G2 52 13 = G 52 13 / mLc G B 8 ∧ G2 52 14 = G 52 14 / mLc G B 8 ∧ G2 52 15 = G 52 15 / mLc G B 8 ∧ G2 52 12 = G 52 12 / mLc G B 8 ∧ ∀ j, 8 ≤ j → B2 63 j = B 63 j) ∧ r = none) := by
  refine zw_aload_n 1 f135_0 rfl rfl ?_
  refine zw_aload_n 2 f135_1 rfl rfl ?_
  refine zw_getG (G 52 13) 5 f135_2 rfl g135_172_12 (hb_52 _ _ _ _) rfl rfl ?_
  refine zw_aload_n 6 f135_5 rfl rfl ?_
  refine zw_getG (G 52 14) 9 f135_6 rfl g135_175_12 (hb_52 _ _ _ _) rfl rfl ?_
  refine zw_aload_n 10 f135_9 rfl rfl ?_
  refine zw_getG (G 52 15) 13 f135_10 rfl g135_178_12 (hb_52 _ _ _ _) rfl rfl ?_
  refine zw_aload_n 14 f135_13 rfl rfl ?_
  refine zw_getG (G 52 12) 17 f135_14 rfl g135_40_12 (hb_52 _ _ _ _) rfl rfl ?_
  refine zw_static_l 20 0 0 [.long (G 52 15), .long (G 52 12)] [.long (G 52 14), .long (G 52 13), .ref 52] [(0, .long (G 52 15)), (2, .long (G 52 12))] f135_17 rfl k135_164_99 rfl (by decide +kernel) (Nat.le_of_ble_eq_true rfl) (Nat.le_of_ble_eq_true rfl) rfl rfl (by decide +kernel) (by decide +kernel) rfl (Nat.le_of_ble_eq_true rfl) rfl ?_
  refine zWp.mono (mm_divisor ro _ (G 52 15) (G 52 12)) ?_
  rintro r h1 ⟨rfl, rfl⟩
  refine ⟨_, rfl, ?_⟩
  refine zw_static_l 23 0 0 [.long (G 52 14), .long (mD (G 52 15) (G 52 12))] [.long (G 52 13), .ref 52] [(0, .long (G 52 14)), (2, .long (mD (G 52 15) (G 52 12)))] f135_20 rfl k135_164_99 rfl (by decide +kernel) (Nat.le_of_ble_eq_true rfl) (Nat.le_of_ble_eq_true rfl) rfl rfl (by decide +kernel) (by decide +kernel) rfl (Nat.le_of_ble_eq_true rfl) rfl ?_
  refine zWp.mono (mm_divisor ro _ (G 52 14) (mD (G 52 15) (G 52 12))) ?_
  rintro r h1 ⟨rfl, rfl⟩
  refine ⟨_, rfl, ?_⟩
  refine zw_static_l 26 0 0 [.long (G 52 13), .long (mD (G 52 14) (mD (G 52 15) (G 52 12)))] [.ref 52] [(0, .long (G 52 13)), (2, .long (mD (G 52 14) (mD (G 52 15) (G 52 12))))] f135_23 rfl k135_164_99 rfl (by decide +kernel) (Nat.le_of_ble_eq_true rfl) (Nat.le_of_ble_eq_true rfl) rfl rfl (by decide +kernel) (by decide +kernel) rfl (Nat.le_of_ble_eq_true rfl) rfl ?_
  refine zWp.mono (mm_divisor ro _ (G 52 13) (mD (G 52 14) (mD (G 52 15) (G 52 12)))) ?_
  rintro r h1 ⟨rfl, rfl⟩
  refine ⟨_, rfl, ?_⟩
  refine zw_put _ 29 f135_26 rfl g135_161_12 (hb_52 _ _ _ _) rfl (Nat.le_of_ble_eq_true rfl) (by decide +kernel) (hg_52_39 _ _ _ _ _) ?_
  refine zw_iconst 0 30 f135_29 rfl (by decide +kernel) ?_
  refine zw_istore_n _ 31 f135_30 rfl (by decide +kernel) rfl ?_
  exact lmm_lowest_31 ro I G A B hg 9 0 _ _ _ _ _ (KQ.g rfl KQ.rf) mLc_0.symm (zl1_ne rfl rfl rfl) zl1_eq (by omega) (by omega)
