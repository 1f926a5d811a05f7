/-! ===== the class's way to let a time pass ===== -/
theorem cGn_ne0 {n : Nat} {a b : Int64} : ¬ cGn n a b = 0 := by
  unfold cGn
  by_cases c : mDv n a b = 0
  · rw [if_pos c]; decide
  · rw [if_neg c]; exact c
theorem cGc_ne0 {a b : Int64} : ¬ cGc a b = 0 := cGn_ne0 (n := 200)
def cC2 (W : qW) (sr dr : Int32) (sc wy : Int64) : Int64 := cGc (W.2.2.2.1 * sc + Int32.toInt64 dr * wy) (cGc (W.2.2.1 * sc + Int32.toInt64 sr * wy) (cGc (W.2.1 * sc + wy) (W.1 * sc)))
def cCm (W : qW) (ch : Nat → Int32) (sr dr : Int32) (sc wy : Int64) : Nat → Int64
  | 0 => cC2 W sr dr sc wy
  | k + 1 => if 1 < cCm W ch sr dr sc wy k then cGc (W.2.2.2.2.1 k * sc + Int32.toInt64 (ch k) * wy) (cCm W ch sr dr sc wy k) else cCm W ch sr dr sc wy k
theorem cCm_ne0 {W : qW} {ch : Nat → Int32} {sr dr : Int32} {sc wy : Int64} : ∀ k, ¬ cCm W ch sr dr sc wy k = 0
  | 0 => by
    rw [cCm, cC2]
    exact cGc_ne0
  | k + 1 => by
    rw [cCm]
    by_cases c : 1 < cCm W ch sr dr sc wy k
    · rw [if_pos c]; exact cGc_ne0
    · rw [if_neg c]; exact cCm_ne0 k
theorem cCm_st {W : qW} {ch : Nat → Int32} {sr dr : Int32} {sc wy : Int64} {k : Nat} (h : ¬ 1 < cCm W ch sr dr sc wy k) : ∀ m, k ≤ m → cCm W ch sr dr sc wy m = cCm W ch sr dr sc wy k
  | 0, hm => by rw [show k = 0 by omega]
  | m + 1, hm => by
    by_cases e : k = m + 1
    · rw [e]
    · have ih := cCm_st h m (by omega)
      rw [cCm, if_neg (by rw [ih]; exact h), ih]
theorem cCm_y {W : qW} {ch : Nat → Int32} {sr dr : Int32} {sc wy : Int64} {k : Nat} (h : 1 < cCm W ch sr dr sc wy k) : cCm W ch sr dr sc wy (k + 1) = cGc (W.2.2.2.2.1 k * sc + Int32.toInt64 (ch k) * wy) (cCm W ch sr dr sc wy k) := by
  rw [cCm, if_pos h]
def cAdvd (W : qW) (ch : Nat → Int32) (sr dr : Int32) (nv : Nat) (sc wy c : Int64) : qW := (W.1 * sc / c, (W.2.1 * sc + wy) / c, (W.2.2.1 * sc + Int32.toInt64 sr * wy) / c, (W.2.2.2.1 * sc + Int32.toInt64 dr * wy) / c, fun j => if j < nv then (W.2.2.2.2.1 j * sc + Int32.toInt64 (ch j) * wy) / c else W.2.2.2.2.1 j, W.2.2.2.2.2)
def cAdv (W : qW) (ch : Nat → Int32) (sr dr : Int32) (nv : Nat) (sc wy : Int64) : Option qW := if 10000 < W.1 * sc / cCm W ch sr dr sc wy nv then none else some (cAdvd W ch sr dr nv sc wy (cCm W ch sr dr sc wy nv))
def fCa (b k j : Nat) : Bool := decide (k = b + 1 ∧ j ≤ 3)
def pCa (b k : Nat) : Bool := decide (k = b + 2)
theorem mLv_u {f T0 T : Nat → Int64} {x : Int64} {k : Nat} (h : ∀ j, j < k → f j = T j) (h2 : ∀ j, k ≤ j → f j = T0 j) (hx : x = T k) : (∀ j, j < k + 1 → vp_updL f k x j = T j) ∧ ∀ j, k + 1 ≤ j → vp_updL f k x j = T0 j := ⟨mL_u h hx, fun j hj => (vpL_o (by omega)).trans (h2 j (by omega))⟩
theorem nI_n200 {k : Nat} (h : k < 200) : ¬ 200 ≤ nI k := by
  intro q
  rw [Int32.le_iff_toInt_le, nI_toInt (by omega)] at q
  have e : (200 : Int32).toInt = 200 := by decide
  omega
set_option maxRecDepth 100000 in
set_option maxHeartbeats 0 in
theorem lcx_gcd (ro : UInt32 → Nat × (Nat → Int32)) (h : List va_E) : ∀ (n k : Nat) (ls : List (Nat × Value)) (x y : Int64), zld ls 4 = some (.long x) → zld ls 6 = some (.long y) → zld ls 8 = some (.int (nI k)) → k + n = 200 → zWp ro 115 9 ls [] h 0 0 (fun r h1 => h1 = h ∧ r = some (.long (cGn n x y))) := by
  intro n
  induction n with
  | zero =>
    intro k ls x y h4 h6 h8 hk
    have hk0 : k = 200 := by omega
    subst hk0
    replace h8 : zld ls 8 = some (.int 200) := h8
    refine zw_iload 11 f115_9 rfl h8 ?_
    refine zw_sipush 200 14 f115_11 rfl (by decide +kernel) ?_
    refine zw_ic_ge_t 45 f115_14 (by decide +kernel) (by decide +kernel) ?_
    refine zw_lload 47 f115_45 rfl h4 ?_
    refine zw_lconst 0 48 f115_47 rfl (by decide +kernel) ?_
    refine zw_lcmp (lg_cmp x 0) 49 f115_48 rfl rfl ?_
    refine zw_if_ne 52 56 f115_49 (by decide +kernel) rfl (fun hc1 => ?_) (fun hc1 => ?_)
    · refine zw_lload 58 f115_56 rfl h4 ?_
      refine zw_lreturn f115_58 r115 u115 ?_
      have em : mDv 0 x y = x := rfl
      exact ⟨rfl, by unfold cGn; rw [em]; exact congrArg (fun z => some (Value.long z)) (if_neg (fun q => hc1 ((lg_cmp_eq _ _).mpr q))).symm⟩
    · refine zw_lconst 1 53 f115_52 rfl (by decide +kernel) ?_
      refine zw_goto 58 f115_53 (by decide +kernel) ?_
      refine zw_lreturn f115_58 r115 u115 ?_
      have em : mDv 0 x y = x := rfl
      exact ⟨rfl, by unfold cGn; rw [em]; exact congrArg (fun z => some (Value.long z)) (if_pos ((lg_cmp_eq _ _).mp (Decidable.of_not_not hc1))).symm⟩
  | succ n ih =>
    intro k ls x y h4 h6 h8 hk
    refine zw_iload 11 f115_9 rfl h8 ?_
    refine zw_sipush 200 14 f115_11 rfl (by decide +kernel) ?_
    refine zw_ic_ge_f 17 45 f115_14 (by decide +kernel) rfl (nI_n200 (by omega)) ?_
    refine zw_lload 19 f115_17 rfl h6 ?_
    refine zw_lconst 0 20 f115_19 rfl (by decide +kernel) ?_
    refine zw_lcmp (lg_cmp y 0) 21 f115_20 rfl rfl ?_
    refine zw_if_eq 24 45 f115_21 (by decide +kernel) rfl (fun hc1 => ?_) (fun hc1 => ?_)
    · refine zw_lload 47 f115_45 rfl h4 ?_
      refine zw_lconst 0 48 f115_47 rfl (by decide +kernel) ?_
      refine zw_lcmp (lg_cmp x 0) 49 f115_48 rfl rfl ?_
      refine zw_if_ne 52 56 f115_49 (by decide +kernel) rfl (fun hc2 => ?_) (fun hc2 => ?_)
      · refine zw_lload 58 f115_56 rfl h4 ?_
        refine zw_lreturn f115_58 r115 u115 ?_
        have em : mDv (n + 1) x y = x := if_pos ((lg_cmp_eq _ _).mp hc1)
        exact ⟨rfl, by unfold cGn; rw [em]; exact congrArg (fun z => some (Value.long z)) (if_neg (fun q => hc2 ((lg_cmp_eq _ _).mpr q))).symm⟩
      · refine zw_lconst 1 53 f115_52 rfl (by decide +kernel) ?_
        refine zw_goto 58 f115_53 (by decide +kernel) ?_
        refine zw_lreturn f115_58 r115 u115 ?_
        have em : mDv (n + 1) x y = x := if_pos ((lg_cmp_eq _ _).mp hc1)
        exact ⟨rfl, by unfold cGn; rw [em]; exact congrArg (fun z => some (Value.long z)) (if_pos ((lg_cmp_eq _ _).mp (Decidable.of_not_not hc2))).symm⟩
    · refine zw_lload 26 f115_24 rfl h4 ?_
      refine zw_lload 28 f115_26 rfl h6 ?_
      refine zw_lrem (x - x / y * y) 29 f115_28 rfl (fun q => hc1 ((lg_cmp_eq _ _).mpr q)) rfl ?_
      refine zw_lstore _ 31 f115_29 rfl (by decide +kernel) rfl ?_
      refine zw_lload 33 f115_31 rfl (zl2_ne rfl rfl h6) ?_
      refine zw_lstore _ 35 f115_33 rfl (by decide +kernel) rfl ?_
      refine zw_lload 37 f115_35 rfl (zl2_ne rfl rfl zl2_eq) ?_
      refine zw_lstore _ 39 f115_37 rfl (by decide +kernel) rfl ?_
      refine zw_iinc (nI (k + 1)) _ 42 f115_39 rfl (zl2_ne rfl rfl (zl2_ne rfl rfl (zl2_ne rfl rfl h8))) (by decide +kernel) (nI_1 _) rfl ?_
      refine zw_goto 9 f115_42 (by decide +kernel) ?_
      rw [show cGn (n + 1) x y = cGn n y (x - x / y * y) from by unfold cGn; rw [show mDv (n + 1) x y = mDv n y (x - x / y * y) from if_neg (fun q => hc1 ((lg_cmp_eq _ _).mpr q))]]
      exact ih (k + 1) _ _ _ (zl1_ne rfl rfl (zl2_ne rfl rfl zl2_eq)) (zl1_ne rfl rfl zl2_eq) zl1_eq (by omega)
set_option maxRecDepth 100000 in
set_option maxHeartbeats 0 in
theorem cx_gcd (ro : UInt32 → Nat × (Nat → Int32)) (h : List va_E) (a b : Int64) : zWp ro 115 0 [(0, .long a), (2, .long b)] [] h 0 0 (fun r h1 => h1 = h ∧ r = some (.long (cGc a b))) := by
  refine zw_lload_n 1 f115_0 rfl rfl ?_
  refine zw_lstore _ 3 f115_1 rfl (by decide +kernel) rfl ?_
  refine zw_lload_n 4 f115_3 rfl (zl2_ne rfl rfl rfl) ?_
  refine zw_lstore _ 6 f115_4 rfl (by decide +kernel) rfl ?_
  refine zw_iconst 0 7 f115_6 rfl (by decide +kernel) ?_
  refine zw_istore _ 9 f115_7 rfl (by decide +kernel) rfl ?_
  exact lcx_gcd ro h 200 0 _ a b (zl1_ne rfl rfl (zl2_ne rfl rfl zl2_eq)) (zl1_ne rfl rfl zl2_eq) zl1_eq rfl
set_option maxRecDepth 100000 in
set_option maxHeartbeats 0 in
theorem lcx_cb11 (ro : UInt32 → Nat × (Nat → Int32)) (nv np : Nat) (P : Nat → Nat → Int32) (W : qW) (I : Nat → Nat → Int32) (G : Nat → Nat → Int64) (A : Nat → Nat → Int32) (B : Nat → Nat → Int64) (hR : cRS 11 nv np P W I G A B) (hp : MPa nv np P) (ch : Nat → Int32) (sr dr : Int32) (hc : ∀ j, j < nv → A 17 j = ch j) (hs : I 11 6 = sr) (hd : I 11 7 = dr) (sc wy : Int64) : ∀ (n k : Nat) (ls : List (Nat × Value)), zld ls 0 = some (.ref 11) → zld ls 1 = some (.long sc) → zld ls 3 = some (.long wy) → zld ls 7 = some (.long (cCm W ch sr dr sc wy k)) → zld ls 9 = some (.int (nI k)) → k ≤ nv → nv + 1 ≤ k + n → zWp ro 69 69 ls [] (hS I G A B) 0 0 (fun r h1 => h1 = hS I G A B ∧ r = some (.long (cCm W ch sr dr sc wy nv))) := by
  have h8 := hp.1
  intro n
  induction n with
  | zero =>
    intro k ls _ _ _ _ _ a c
    exact absurd c (by omega)
  | succ n ih =>
    intro k ls h0 h1 h3 h7 h9 hk1 hk2
    refine zw_iload 71 f69_69 rfl h9 ?_
    refine zw_aload_n 72 f69_71 rfl h0 ?_
    refine zw_getfield 75 f69_72 rfl g69_37_10 (hb_11 _ _ _ _) rfl ?_
    refine zw_getI (nI nv) 78 f69_75 rfl g69_80_4 (hb_1 _ _ _ _) rfl hR.1.1 ?_
    refine zw_ic_ge 81 124 f69_78 (by decide +kernel) rfl (fun hc1 => ?_) (fun hc1 => ?_)
    · have hn_hc1 : nv ≤ k := zn_ge (by omega) (by omega) hc1
      refine zw_lload 126 f69_124 rfl h7 ?_
      refine zw_lreturn f69_126 r69 u69 ?_
      have hk : k = nv := by omega
      rw [hk]
      exact ⟨rfl, rfl⟩
    · have hn_hc1 : k < nv := zn_lt (by omega) (by omega) hc1
      refine zw_lload 83 f69_81 rfl h7 ?_
      refine zw_lconst 1 84 f69_83 rfl (by decide +kernel) ?_
      refine zw_lcmp (lg_cmp (cCm W ch sr dr sc wy k) 1) 85 f69_84 rfl rfl ?_
      refine zw_if_le 88 124 f69_85 (by decide +kernel) rfl (fun hc2 => ?_) (fun hc2 => ?_)
      · refine zw_lload 126 f69_124 rfl h7 ?_
        refine zw_lreturn f69_126 r69 u69 ?_
        exact ⟨rfl, by rw [cCm_st (Int64.not_lt.mpr ((lg_cmp_le _ _).mp hc2)) nv (by omega)]⟩
      · refine zw_aload_n 89 f69_88 rfl h0 ?_
        refine zw_getfield 92 f69_89 rfl g69_12_10 (hb_11 _ _ _ _) rfl ?_
        refine zw_getfield 95 f69_92 rfl g69_87_9 (hb_12 _ _ _ _) rfl ?_
        refine zw_iload 97 f69_95 rfl h9 ?_
        refine zw_laload k ((W.2.2.2.2.1) k) 98 f69_97 rfl (hb_13 _ _ _ _) (nI_clamp (by omega)) (nI_pos (by omega)) (by omega) (congrFun (hR.2.2.2.1) k) ?_
        refine zw_lload_n 99 f69_98 rfl h1 ?_
        refine zw_lmul (((W.2.2.2.2.1) k) * sc) 100 f69_99 rfl rfl ?_
        refine zw_aload_n 101 f69_100 rfl h0 ?_
        refine zw_getfield 104 f69_101 rfl g69_22_10 (hb_11 _ _ _ _) rfl ?_
        refine zw_iload 106 f69_104 rfl h9 ?_
        refine zw_iaload k (ch k) 107 f69_106 rfl (hb_17 _ _ _ _) (nI_clamp (by omega)) (nI_pos (by omega)) (by omega) (hc k (by omega)) ?_
        refine zw_i2l (Int32.toInt64 (ch k)) 108 f69_107 rfl rfl ?_
        refine zw_lload_n 109 f69_108 rfl h3 ?_
        refine zw_lmul ((Int32.toInt64 (ch k)) * wy) 110 f69_109 rfl rfl ?_
        refine zw_ladd ((((W.2.2.2.2.1) k) * sc) + ((Int32.toInt64 (ch k)) * wy)) 111 f69_110 rfl rfl ?_
        refine zw_lload 113 f69_111 rfl h7 ?_
        refine zw_static_l 116 0 0 [.long ((((W.2.2.2.2.1) k) * sc) + ((Int32.toInt64 (ch k)) * wy)), .long (cCm W ch sr dr sc wy k)] [] [(0, .long ((((W.2.2.2.2.1) k) * sc) + ((Int32.toInt64 (ch k)) * wy))), (2, .long (cCm W ch sr dr sc wy k))] f69_113 rfl k69_183_99 rfl (by decide +kernel) (Nat.le_of_ble_eq_true rfl) (Nat.le_of_ble_eq_true rfl) rfl rfl (by decide +kernel) (by decide +kernel) rfl (Nat.le_of_ble_eq_true rfl) rfl ?_
        refine zWp.mono (cx_gcd ro _ ((((W.2.2.2.2.1) k) * sc) + ((Int32.toInt64 (ch k)) * wy)) (cCm W ch sr dr sc wy k)) ?_
        rintro r h1 ⟨rfl, rfl⟩
        refine ⟨_, rfl, ?_⟩
        refine zw_lstore _ 118 f69_116 rfl (by decide +kernel) rfl ?_
        refine zw_iinc (nI (k + 1)) _ 121 f69_118 rfl (zl2_ne rfl rfl h9) (by decide +kernel) (nI_1 _) rfl ?_
        refine zw_goto 69 f69_121 (by decide +kernel) ?_
        exact ih (k + 1) _ (zl1_ne rfl rfl (zl2_ne rfl rfl h0)) (zl1_ne rfl rfl (zl2_ne rfl rfl h1)) (zl1_ne rfl rfl (zl2_ne rfl rfl h3)) (by rw [cCm_y (Int64.not_le.mp (fun q => hc2 ((lg_cmp_le _ _).mpr q)))]; exact (zl1_ne rfl rfl zl2_eq)) zl1_eq (by omega) (by omega)
set_option maxRecDepth 100000 in
set_option maxHeartbeats 0 in
theorem cx_cb_11 (ro : UInt32 → Nat × (Nat → Int32)) (nv np : Nat) (P : Nat → Nat → Int32) (W : qW) (I : Nat → Nat → Int32) (G : Nat → Nat → Int64) (A : Nat → Nat → Int32) (B : Nat → Nat → Int64) (hR : cRS 11 nv np P W I G A B) (hp : MPa nv np P) (ch : Nat → Int32) (sr dr : Int32) (hc : ∀ j, j < nv → A 17 j = ch j) (hs : I 11 6 = sr) (hd : I 11 7 = dr) (sc wy : Int64) : zWp ro 69 0 [(0, .ref 11), (1, .long sc), (3, .long wy), (5, .long (W.1 * sc))] [] (hS I G A B) 0 0 (fun r h1 => h1 = hS I G A B ∧ r = some (.long (cCm W ch sr dr sc wy nv))) := by
  have h8 := hp.1
  refine zw_aload_n 1 f69_0 rfl rfl ?_
  refine zw_getfield 4 f69_1 rfl g69_12_10 (hb_11 _ _ _ _) rfl ?_
  refine zw_getG W.2.1 7 f69_4 rfl g69_151_9 (hb_12 _ _ _ _) rfl hR.2.2.1.2.1 ?_
  refine zw_lload_n 8 f69_7 rfl rfl ?_
  refine zw_lmul (W.2.1 * sc) 9 f69_8 rfl rfl ?_
  refine zw_lload_n 10 f69_9 rfl rfl ?_
  refine zw_ladd ((W.2.1 * sc) + wy) 11 f69_10 rfl rfl ?_
  refine zw_lload 13 f69_11 rfl rfl ?_
  refine zw_static_l 16 0 0 [.long ((W.2.1 * sc) + wy), .long (W.1 * sc)] [] [(0, .long ((W.2.1 * sc) + wy)), (2, .long (W.1 * sc))] f69_13 rfl k69_183_99 rfl (by decide +kernel) (Nat.le_of_ble_eq_true rfl) (Nat.le_of_ble_eq_true rfl) rfl rfl (by decide +kernel) (by decide +kernel) rfl (Nat.le_of_ble_eq_true rfl) rfl ?_
  refine zWp.mono (cx_gcd ro _ ((W.2.1 * sc) + wy) (W.1 * sc)) ?_
  rintro r h1 ⟨rfl, rfl⟩
  refine ⟨_, rfl, ?_⟩
  refine zw_lstore _ 18 f69_16 rfl (by decide +kernel) rfl ?_
  refine zw_aload_n 19 f69_18 rfl (zl2_ne rfl rfl rfl) ?_
  refine zw_getfield 22 f69_19 rfl g69_12_10 (hb_11 _ _ _ _) rfl ?_
  refine zw_getG W.2.2.1 25 f69_22 rfl g69_177_9 (hb_12 _ _ _ _) rfl hR.2.2.1.2.2.1 ?_
  refine zw_lload_n 26 f69_25 rfl (zl2_ne rfl rfl rfl) ?_
  refine zw_lmul (W.2.2.1 * sc) 27 f69_26 rfl rfl ?_
  refine zw_aload_n 28 f69_27 rfl (zl2_ne rfl rfl rfl) ?_
  refine zw_getI sr 31 f69_28 rfl g69_54_10 (hb_11 _ _ _ _) rfl hs ?_
  refine zw_i2l (Int32.toInt64 sr) 32 f69_31 rfl rfl ?_
  refine zw_lload_n 33 f69_32 rfl (zl2_ne rfl rfl rfl) ?_
  refine zw_lmul ((Int32.toInt64 sr) * wy) 34 f69_33 rfl rfl ?_
  refine zw_ladd ((W.2.2.1 * sc) + ((Int32.toInt64 sr) * wy)) 35 f69_34 rfl rfl ?_
  refine zw_lload 37 f69_35 rfl zl2_eq ?_
  refine zw_static_l 40 0 0 [.long ((W.2.2.1 * sc) + ((Int32.toInt64 sr) * wy)), .long (cGc ((W.2.1 * sc) + wy) (W.1 * sc))] [] [(0, .long ((W.2.2.1 * sc) + ((Int32.toInt64 sr) * wy))), (2, .long (cGc ((W.2.1 * sc) + wy) (W.1 * sc)))] f69_37 rfl k69_183_99 rfl (by decide +kernel) (Nat.le_of_ble_eq_true rfl) (Nat.le_of_ble_eq_true rfl) rfl rfl (by decide +kernel) (by decide +kernel) rfl (Nat.le_of_ble_eq_true rfl) rfl ?_
  refine zWp.mono (cx_gcd ro _ ((W.2.2.1 * sc) + ((Int32.toInt64 sr) * wy)) (cGc ((W.2.1 * sc) + wy) (W.1 * sc))) ?_
  rintro r h1 ⟨rfl, rfl⟩
  refine ⟨_, rfl, ?_⟩
  refine zw_lstore _ 42 f69_40 rfl (by decide +kernel) rfl ?_
  refine zw_aload_n 43 f69_42 rfl (zl2_ne rfl rfl (zl2_ne rfl rfl rfl)) ?_
  refine zw_getfield 46 f69_43 rfl g69_12_10 (hb_11 _ _ _ _) rfl ?_
  refine zw_getG W.2.2.2.1 49 f69_46 rfl g69_180_9 (hb_12 _ _ _ _) rfl hR.2.2.1.2.2.2 ?_
  refine zw_lload_n 50 f69_49 rfl (zl2_ne rfl rfl (zl2_ne rfl rfl rfl)) ?_
  refine zw_lmul (W.2.2.2.1 * sc) 51 f69_50 rfl rfl ?_
  refine zw_aload_n 52 f69_51 rfl (zl2_ne rfl rfl (zl2_ne rfl rfl rfl)) ?_
  refine zw_getI dr 55 f69_52 rfl g69_58_10 (hb_11 _ _ _ _) rfl hd ?_
  refine zw_i2l (Int32.toInt64 dr) 56 f69_55 rfl rfl ?_
  refine zw_lload_n 57 f69_56 rfl (zl2_ne rfl rfl (zl2_ne rfl rfl rfl)) ?_
  refine zw_lmul ((Int32.toInt64 dr) * wy) 58 f69_57 rfl rfl ?_
  refine zw_ladd ((W.2.2.2.1 * sc) + ((Int32.toInt64 dr) * wy)) 59 f69_58 rfl rfl ?_
  refine zw_lload 61 f69_59 rfl zl2_eq ?_
  refine zw_static_l 64 0 0 [.long ((W.2.2.2.1 * sc) + ((Int32.toInt64 dr) * wy)), .long (cGc ((W.2.2.1 * sc) + ((Int32.toInt64 sr) * wy)) (cGc ((W.2.1 * sc) + wy) (W.1 * sc)))] [] [(0, .long ((W.2.2.2.1 * sc) + ((Int32.toInt64 dr) * wy))), (2, .long (cGc ((W.2.2.1 * sc) + ((Int32.toInt64 sr) * wy)) (cGc ((W.2.1 * sc) + wy) (W.1 * sc))))] f69_61 rfl k69_183_99 rfl (by decide +kernel) (Nat.le_of_ble_eq_true rfl) (Nat.le_of_ble_eq_true rfl) rfl rfl (by decide +kernel) (by decide +kernel) rfl (Nat.le_of_ble_eq_true rfl) rfl ?_
  refine zWp.mono (cx_gcd ro _ ((W.2.2.2.1 * sc) + ((Int32.toInt64 dr) * wy)) (cGc ((W.2.2.1 * sc) + ((Int32.toInt64 sr) * wy)) (cGc ((W.2.1 * sc) + wy) (W.1 * sc)))) ?_
  rintro r h1 ⟨rfl, rfl⟩
  refine ⟨_, rfl, ?_⟩
  refine zw_lstore _ 66 f69_64 rfl (by decide +kernel) rfl ?_
  refine zw_iconst 0 67 f69_66 rfl (by decide +kernel) ?_
  refine zw_istore _ 69 f69_67 rfl (by decide +kernel) rfl ?_
  exact lcx_cb11 ro nv np P W I G A B hR hp ch sr dr hc hs hd sc wy (nv + 1) 0 _ (zl1_ne rfl rfl (zl2_ne rfl rfl (zl2_ne rfl rfl (zl2_ne rfl rfl rfl)))) (zl1_ne rfl rfl (zl2_ne rfl rfl (zl2_ne rfl rfl (zl2_ne rfl rfl rfl)))) (zl1_ne rfl rfl (zl2_ne rfl rfl (zl2_ne rfl rfl (zl2_ne rfl rfl rfl)))) (zl1_ne rfl rfl zl2_eq) zl1_eq (by omega) (by omega)
set_option maxRecDepth 100000 in
set_option maxHeartbeats 0 in
theorem lcx_ad11 (ro : UInt32 → Nat × (Nat → Int32)) (nv np : Nat) (P : Nat → Nat → Int32) (W : qW) (I : Nat → Nat → Int32) (G : Nat → Nat → Int64) (A : Nat → Nat → Int32) (B : Nat → Nat → Int64) (hR : cRS 11 nv np P W I G A B) (hp : MPa nv np P) (ch : Nat → Int32) (sr dr : Int32) (hc : ∀ j, j < nv → A 17 j = ch j) (hs : I 11 6 = sr) (hd : I 11 7 = dr) (sc wy : Int64) (hgr : ¬ 10000 < W.1 * sc / (cCm W ch sr dr sc wy nv)) : ∀ (n k : Nat) (ls : List (Nat × Value)) (I1 : Nat → Nat → Int32) (G1 : Nat → Nat → Int64) (A1 : Nat → Nat → Int32) (B1 : Nat → Nat → Int64), KQ (fCa 11) (pCa 11) I G A B I1 G1 A1 B1 → ((G1 12 0 = W.1 * sc / (cCm W ch sr dr sc wy nv) ∧ G1 12 1 = (W.2.1 * sc + wy) / (cCm W ch sr dr sc wy nv) ∧ G1 12 2 = (W.2.2.1 * sc + Int32.toInt64 sr * wy) / (cCm W ch sr dr sc wy nv) ∧ G1 12 3 = (W.2.2.2.1 * sc + Int32.toInt64 dr * wy) / (cCm W ch sr dr sc wy nv)) ∧ (∀ j, j < k → B1 13 j = ((W.2.2.2.2.1 j * sc + Int32.toInt64 (ch j) * wy) / (cCm W ch sr dr sc wy nv))) ∧ ∀ j, k ≤ j → B1 13 j = W.2.2.2.2.1 j) → zld ls 0 = some (.ref 11) → zld ls 1 = some (.long sc) → zld ls 3 = some (.long wy) → zld ls 7 = some (.long (cCm W ch sr dr sc wy nv)) → zld ls 9 = some (.int (nI k)) → k ≤ nv → nv + 1 ≤ k + n → zWp ro 68 132 ls [] (hS I1 G1 A1 B1) 0 0 (fun r h1 => ∃ I2 G2 A2 B2, h1 = hS I2 G2 A2 B2 ∧ KQ (fCa 11) (pCa 11) I G A B I2 G2 A2 B2 ∧ ((r = some (.int 0) ∧ cAdv W ch sr dr nv sc wy = none ∧ cRS 11 nv np P W I2 G2 A2 B2) ∨ (r = some (.int 1) ∧ cAdv W ch sr dr nv sc wy = some (cAdvd W ch sr dr nv sc wy (cCm W ch sr dr sc wy nv)) ∧ cRS 11 nv np P (cAdvd W ch sr dr nv sc wy (cCm W ch sr dr sc wy nv)) I2 G2 A2 B2))) := by
  have h8 := hp.1
  intro n
  induction n with
  | zero =>
    intro k ls I1 G1 A1 B1 _ _ _ _ _ _ _ a c
    exact absurd c (by omega)
  | succ n ih =>
    intro k ls I1 G1 A1 B1 K0 hr h0 h1 h3 h7 h9 hk1 hk2
    refine zw_iload 134 f68_132 rfl h9 ?_
    refine zw_aload_n 135 f68_134 rfl h0 ?_
    refine zw_getfield 138 f68_135 rfl g68_37_10 (hb_11 _ _ _ _) rfl ?_
    refine zw_getI (nI nv) 141 f68_138 rfl g68_80_4 (hb_1 _ _ _ _) rfl ((K0.1 1 0 rfl).trans hR.1.1) ?_
    refine zw_ic_ge 144 186 f68_141 (by decide +kernel) rfl (fun hc1 => ?_) (fun hc1 => ?_)
    · have hn_hc1 : nv ≤ k := zn_ge (by omega) (by omega) hc1
      refine zw_iconst 1 187 f68_186 rfl (by decide +kernel) ?_
      refine zw_zreturn f68_187 r68 u68 (by decide +kernel) ?_
      have hk : k = nv := by omega
      rw [hk] at hr
      have eB : B1 13 = fun j => if j < nv then ((W.2.2.2.2.1 j * sc + Int32.toInt64 (ch j) * wy) / (cCm W ch sr dr sc wy nv)) else W.2.2.2.2.1 j := by
        funext j
        by_cases c : j < nv
        · rw [if_pos c]; exact hr.2.1 j c
        · rw [if_neg c]; exact hr.2.2 j (by omega)
      refine ⟨_, _, _, _, rfl, K0, Or.inr ⟨rfl, if_neg hgr, ⟨⟨(K0.1 1 0 rfl).trans hR.1.1, (K0.1 1 1 rfl).trans hR.1.2⟩, ?_, hr.1, eB, ?_, ?_, fun v hv => ?_⟩⟩⟩
      · rw [cPb_c (A := A) (fun k k1 k2 => K0.2.2.1 k (by simp only [pCa, decide_eq_false_iff_not]; omega))]; exact hR.2.1
      · rw [K0.1 _ 6 rfl]; exact hR.2.2.2.2.1
      · rw [K0.1 _ 5 rfl]; exact hR.2.2.2.2.2.1
      · rw [K0.2.2.1 _ rfl]; exact hR.2.2.2.2.2.2 v hv
    · have hn_hc1 : k < nv := zn_lt (by omega) (by omega) hc1
      refine zw_aload_n 145 f68_144 rfl h0 ?_
      refine zw_getfield 148 f68_145 rfl g68_12_10 (hb_11 _ _ _ _) rfl ?_
      refine zw_getfield 151 f68_148 rfl g68_87_9 (hb_12 _ _ _ _) rfl ?_
      refine zw_iload 153 f68_151 rfl h9 ?_
      refine zw_aload_n 154 f68_153 rfl h0 ?_
      refine zw_getfield 157 f68_154 rfl g68_12_10 (hb_11 _ _ _ _) rfl ?_
      refine zw_getfield 160 f68_157 rfl g68_87_9 (hb_12 _ _ _ _) rfl ?_
      refine zw_iload 162 f68_160 rfl h9 ?_
      refine zw_laload k (W.2.2.2.2.1 k) 163 f68_162 rfl (hb_13 _ _ _ _) (nI_clamp (by omega)) (nI_pos (by omega)) (by omega) (hr.2.2 k (Nat.le_refl _)) ?_
      refine zw_lload_n 164 f68_163 rfl h1 ?_
      refine zw_lmul ((W.2.2.2.2.1 k) * sc) 165 f68_164 rfl rfl ?_
      refine zw_aload_n 166 f68_165 rfl h0 ?_
      refine zw_getfield 169 f68_166 rfl g68_22_10 (hb_11 _ _ _ _) rfl ?_
      refine zw_iload 171 f68_169 rfl h9 ?_
      refine zw_iaload k (ch k) 172 f68_171 rfl (hb_17 _ _ _ _) (nI_clamp (by omega)) (nI_pos (by omega)) (by omega) ((congrFun (K0.2.2.1 17 rfl) k).trans (hc k (by omega))) ?_
      refine zw_i2l (Int32.toInt64 (ch k)) 173 f68_172 rfl rfl ?_
      refine zw_lload_n 174 f68_173 rfl h3 ?_
      refine zw_lmul ((Int32.toInt64 (ch k)) * wy) 175 f68_174 rfl rfl ?_
      refine zw_ladd (((W.2.2.2.2.1 k) * sc) + ((Int32.toInt64 (ch k)) * wy)) 176 f68_175 rfl rfl ?_
      refine zw_lload 178 f68_176 rfl h7 ?_
      refine zw_ldiv ((((W.2.2.2.2.1 k) * sc) + ((Int32.toInt64 (ch k)) * wy)) / (cCm W ch sr dr sc wy nv)) 179 f68_178 rfl (cCm_ne0 nv) rfl ?_
      refine zw_lst k _ 180 f68_179 rfl (hb_13 _ _ _ _) (nI_clamp (by omega)) (nI_pos (by omega)) (by omega) (ha_13 _ _ _ _ _) ?_
      refine zw_iinc (nI (k + 1)) _ 183 f68_180 rfl h9 (by decide +kernel) (nI_1 _) rfl ?_
      refine zw_goto 132 f68_183 (by decide +kernel) ?_
      have z := mLv_u (T := fun j => ((W.2.2.2.2.1 j * sc + Int32.toInt64 (ch j) * wy) / (cCm W ch sr dr sc wy nv))) hr.2.1 hr.2.2 (show _ = ((W.2.2.2.2.1 k * sc + Int32.toInt64 (ch k) * wy) / (cCm W ch sr dr sc wy nv)) from rfl)
      exact ih (k + 1) _ _ _ _ _ (KQ.b rfl K0) ⟨hr.1, z⟩ (zl1_ne rfl rfl h0) (zl1_ne rfl rfl h1) (zl1_ne rfl rfl h3) (zl1_ne rfl rfl h7) zl1_eq (by omega) (by omega)
set_option maxRecDepth 100000 in
set_option maxHeartbeats 0 in
theorem cx_adv_11 (ro : UInt32 → Nat × (Nat → Int32)) (nv np : Nat) (P : Nat → Nat → Int32) (W : qW) (I : Nat → Nat → Int32) (G : Nat → Nat → Int64) (A : Nat → Nat → Int32) (B : Nat → Nat → Int64) (hR : cRS 11 nv np P W I G A B) (hp : MPa nv np P) (ch : Nat → Int32) (sr dr : Int32) (hc : ∀ j, j < nv → A 17 j = ch j) (hs : I 11 6 = sr) (hd : I 11 7 = dr) (sc wy : Int64) : zWp ro 68 0 [(0, .ref 11), (1, .long sc), (3, .long wy)] [] (hS I G A B) 0 0 (fun r h1 => ∃ I2 G2 A2 B2, h1 = hS I2 G2 A2 B2 ∧ KQ (fCa 11) (pCa 11) I G A B I2 G2 A2 B2 ∧ ((r = some (.int 0) ∧ cAdv W ch sr dr nv sc wy = none ∧ cRS 11 nv np P W I2 G2 A2 B2) ∨ (r = some (.int 1) ∧ cAdv W ch sr dr nv sc wy = some (cAdvd W ch sr dr nv sc wy (cCm W ch sr dr sc wy nv)) ∧ cRS 11 nv np P (cAdvd W ch sr dr nv sc wy (cCm W ch sr dr sc wy nv)) I2 G2 A2 B2))) := by
  have h8 := hp.1
  refine zw_aload_n 1 f68_0 rfl rfl ?_
  refine zw_getfield 4 f68_1 rfl g68_12_10 (hb_11 _ _ _ _) rfl ?_
  refine zw_getG W.1 7 f68_4 rfl g68_109_9 (hb_12 _ _ _ _) rfl hR.2.2.1.1 ?_
  refine zw_lload_n 8 f68_7 rfl rfl ?_
  refine zw_lmul (W.1 * sc) 9 f68_8 rfl rfl ?_
  refine zw_lstore _ 11 f68_9 rfl (by decide +kernel) rfl ?_
  refine zw_aload_n 12 f68_11 rfl (zl2_ne rfl rfl rfl) ?_
  refine zw_lload_n 13 f68_12 rfl (zl2_ne rfl rfl rfl) ?_
  refine zw_lload_n 14 f68_13 rfl (zl2_ne rfl rfl rfl) ?_
  refine zw_lload 16 f68_14 rfl zl2_eq ?_
  refine zw_virtual_l 19 0 0 [.ref 11, .long sc, .long wy, .long (W.1 * sc)] [(0, .ref 11), (1, .long sc), (3, .long wy), (5, .long (W.1 * sc))] f68_16 rfl n68_171 k68_171_10 rfl (hb_11 _ _ _ _) (by decide +kernel) (Nat.le_of_ble_eq_true rfl) rfl rfl (by decide +kernel) (by decide +kernel) rfl (Nat.le_of_ble_eq_true rfl) rfl ?_
  refine zWp.mono (cx_cb_11 ro nv np P W I G A B hR hp ch sr dr hc hs hd sc wy) ?_
  rintro r h1 ⟨rfl, rfl⟩
  refine ⟨_, rfl, ?_⟩
  refine zw_lstore _ 21 f68_19 rfl (by decide +kernel) rfl ?_
  refine zw_lload 23 f68_21 rfl zl2_eq ?_
  refine zw_lconst 0 24 f68_23 rfl (by decide +kernel) ?_
  refine zw_lcmp (lg_cmp (cCm W ch sr dr sc wy nv) 0) 25 f68_24 rfl rfl ?_
  refine zw_if_eq_f 28 40 f68_25 (by decide +kernel) rfl (fun q => (cCm_ne0 nv) ((lg_cmp_eq _ _).mp q)) ?_
  refine zw_lload 30 f68_28 rfl (zl2_ne rfl rfl zl2_eq) ?_
  refine zw_lload 32 f68_30 rfl zl2_eq ?_
  refine zw_ldiv ((W.1 * sc) / (cCm W ch sr dr sc wy nv)) 33 f68_32 rfl (cCm_ne0 nv) rfl ?_
  refine zw_ldc2_w 10000 36 f68_33 rfl (by decide +kernel) ?_
  refine zw_lcmp (lg_cmp ((W.1 * sc) / (cCm W ch sr dr sc wy nv)) 10000) 37 f68_36 rfl rfl ?_
  refine zw_if_le 40 42 f68_37 (by decide +kernel) rfl (fun hc1 => ?_) (fun hc1 => ?_)
  · refine zw_aload_n 43 f68_42 rfl (zl2_ne rfl rfl (zl2_ne rfl rfl rfl)) ?_
    refine zw_getfield 46 f68_43 rfl g68_12_10 (hb_11 _ _ _ _) rfl ?_
    refine zw_lload 48 f68_46 rfl (zl2_ne rfl rfl zl2_eq) ?_
    refine zw_lload 50 f68_48 rfl zl2_eq ?_
    refine zw_ldiv ((W.1 * sc) / (cCm W ch sr dr sc wy nv)) 51 f68_50 rfl (cCm_ne0 nv) rfl ?_
    refine zw_put _ 54 f68_51 rfl g68_109_9 (hb_12 _ _ _ _) rfl (Nat.le_of_ble_eq_true rfl) (by decide +kernel) (hg_12_0 _ _ _ _ _) ?_
    refine zw_aload_n 55 f68_54 rfl (zl2_ne rfl rfl (zl2_ne rfl rfl rfl)) ?_
    refine zw_getfield 58 f68_55 rfl g68_12_10 (hb_11 _ _ _ _) rfl ?_
    refine zw_aload_n 59 f68_58 rfl (zl2_ne rfl rfl (zl2_ne rfl rfl rfl)) ?_
    refine zw_getfield 62 f68_59 rfl g68_12_10 (hb_11 _ _ _ _) rfl ?_
    refine zw_getG W.2.1 65 f68_62 rfl g68_151_9 (hb_12 _ _ _ _) rfl hR.2.2.1.2.1 ?_
    refine zw_lload_n 66 f68_65 rfl (zl2_ne rfl rfl (zl2_ne rfl rfl rfl)) ?_
    refine zw_lmul (W.2.1 * sc) 67 f68_66 rfl rfl ?_
    refine zw_lload_n 68 f68_67 rfl (zl2_ne rfl rfl (zl2_ne rfl rfl rfl)) ?_
    refine zw_ladd ((W.2.1 * sc) + wy) 69 f68_68 rfl rfl ?_
    refine zw_lload 71 f68_69 rfl zl2_eq ?_
    refine zw_ldiv (((W.2.1 * sc) + wy) / (cCm W ch sr dr sc wy nv)) 72 f68_71 rfl (cCm_ne0 nv) rfl ?_
    refine zw_put _ 75 f68_72 rfl g68_151_9 (hb_12 _ _ _ _) rfl (Nat.le_of_ble_eq_true rfl) (by decide +kernel) (hg_12_1 _ _ _ _ _) ?_
    refine zw_aload_n 76 f68_75 rfl (zl2_ne rfl rfl (zl2_ne rfl rfl rfl)) ?_
    refine zw_getfield 79 f68_76 rfl g68_12_10 (hb_11 _ _ _ _) rfl ?_
    refine zw_aload_n 80 f68_79 rfl (zl2_ne rfl rfl (zl2_ne rfl rfl rfl)) ?_
    refine zw_getfield 83 f68_80 rfl g68_12_10 (hb_11 _ _ _ _) rfl ?_
    refine zw_getG W.2.2.1 86 f68_83 rfl g68_177_9 (hb_12 _ _ _ _) rfl hR.2.2.1.2.2.1 ?_
    refine zw_lload_n 87 f68_86 rfl (zl2_ne rfl rfl (zl2_ne rfl rfl rfl)) ?_
    refine zw_lmul (W.2.2.1 * sc) 88 f68_87 rfl rfl ?_
    refine zw_aload_n 89 f68_88 rfl (zl2_ne rfl rfl (zl2_ne rfl rfl rfl)) ?_
    refine zw_getI sr 92 f68_89 rfl g68_54_10 (hb_11 _ _ _ _) rfl hs ?_
    refine zw_i2l (Int32.toInt64 sr) 93 f68_92 rfl rfl ?_
    refine zw_lload_n 94 f68_93 rfl (zl2_ne rfl rfl (zl2_ne rfl rfl rfl)) ?_
    refine zw_lmul ((Int32.toInt64 sr) * wy) 95 f68_94 rfl rfl ?_
    refine zw_ladd ((W.2.2.1 * sc) + ((Int32.toInt64 sr) * wy)) 96 f68_95 rfl rfl ?_
    refine zw_lload 98 f68_96 rfl zl2_eq ?_
    refine zw_ldiv (((W.2.2.1 * sc) + ((Int32.toInt64 sr) * wy)) / (cCm W ch sr dr sc wy nv)) 99 f68_98 rfl (cCm_ne0 nv) rfl ?_
    refine zw_put _ 102 f68_99 rfl g68_177_9 (hb_12 _ _ _ _) rfl (Nat.le_of_ble_eq_true rfl) (by decide +kernel) (hg_12_2 _ _ _ _ _) ?_
    refine zw_aload_n 103 f68_102 rfl (zl2_ne rfl rfl (zl2_ne rfl rfl rfl)) ?_
    refine zw_getfield 106 f68_103 rfl g68_12_10 (hb_11 _ _ _ _) rfl ?_
    refine zw_aload_n 107 f68_106 rfl (zl2_ne rfl rfl (zl2_ne rfl rfl rfl)) ?_
    refine zw_getfield 110 f68_107 rfl g68_12_10 (hb_11 _ _ _ _) rfl ?_
    refine zw_getG W.2.2.2.1 113 f68_110 rfl g68_180_9 (hb_12 _ _ _ _) rfl hR.2.2.1.2.2.2 ?_
    refine zw_lload_n 114 f68_113 rfl (zl2_ne rfl rfl (zl2_ne rfl rfl rfl)) ?_
    refine zw_lmul (W.2.2.2.1 * sc) 115 f68_114 rfl rfl ?_
    refine zw_aload_n 116 f68_115 rfl (zl2_ne rfl rfl (zl2_ne rfl rfl rfl)) ?_
    refine zw_getI dr 119 f68_116 rfl g68_58_10 (hb_11 _ _ _ _) rfl hd ?_
    refine zw_i2l (Int32.toInt64 dr) 120 f68_119 rfl rfl ?_
    refine zw_lload_n 121 f68_120 rfl (zl2_ne rfl rfl (zl2_ne rfl rfl rfl)) ?_
    refine zw_lmul ((Int32.toInt64 dr) * wy) 122 f68_121 rfl rfl ?_
    refine zw_ladd ((W.2.2.2.1 * sc) + ((Int32.toInt64 dr) * wy)) 123 f68_122 rfl rfl ?_
    refine zw_lload 125 f68_123 rfl zl2_eq ?_
    refine zw_ldiv (((W.2.2.2.1 * sc) + ((Int32.toInt64 dr) * wy)) / (cCm W ch sr dr sc wy nv)) 126 f68_125 rfl (cCm_ne0 nv) rfl ?_
    refine zw_put _ 129 f68_126 rfl g68_180_9 (hb_12 _ _ _ _) rfl (Nat.le_of_ble_eq_true rfl) (by decide +kernel) (hg_12_3 _ _ _ _ _) ?_
    refine zw_iconst 0 130 f68_129 rfl (by decide +kernel) ?_
    refine zw_istore _ 132 f68_130 rfl (by decide +kernel) rfl ?_
    exact lcx_ad11 ro nv np P W I G A B hR hp ch sr dr hc hs hd sc wy (Int64.not_lt.mpr ((lg_cmp_le _ _).mp hc1)) (nv + 1) 0 _ _ _ _ _ (KQ.g rfl (KQ.g rfl (KQ.g rfl (KQ.g rfl KQ.rf)))) ⟨⟨rfl, rfl, rfl, rfl⟩, fun j hj => absurd hj (by omega), fun j _ => congrFun hR.2.2.2.1 j⟩ (zl1_ne rfl rfl (zl2_ne rfl rfl (zl2_ne rfl rfl rfl))) (zl1_ne rfl rfl (zl2_ne rfl rfl (zl2_ne rfl rfl rfl))) (zl1_ne rfl rfl (zl2_ne rfl rfl (zl2_ne rfl rfl rfl))) (zl1_ne rfl rfl zl2_eq) zl1_eq (by omega) (by omega)
  · refine zw_iconst 0 41 f68_40 rfl (by decide +kernel) ?_
    refine zw_zreturn f68_41 r68 u68 (by decide +kernel) ?_
    exact ⟨_, _, _, _, rfl, KQ.rf, Or.inl ⟨rfl, if_pos (Int64.not_le.mp (fun q => hc1 ((lg_cmp_le _ _).mpr q))), hR⟩⟩
