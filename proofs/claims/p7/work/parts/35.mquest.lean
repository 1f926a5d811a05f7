/-! ===== questions to the reference, act, forge ===== -/
def fQu (k j : Nat) : Bool := decide (k = 52 ∧ (j = 27 ∨ j = 29 ∨ (34 ≤ j ∧ j ≤ 39)))
def pQu (k : Nat) : Bool := decide (71 ≤ k ∧ k ≤ 76)
theorem fQu_R : ∀ j, (j = 0 ∨ j = 8 ∨ (12 ≤ j ∧ j ≤ 15) ∨ j = 20 ∨ j = 42) → fQu 52 j = false := by
  intro j h
  simp only [fQu, decide_eq_false_iff_not]
  omega
theorem pQu_R : ∀ k, 53 ≤ k → k ≤ 70 → pQu k = false := by
  intro k h1 h2
  simp only [pQu, decide_eq_false_iff_not]
  omega
theorem fS_Qu : ∀ k j, fQu k j = false → fS k j = false := by
  intro k j h
  simp only [fS, fQu, decide_eq_false_iff_not] at h ⊢
  omega
theorem pS_Qu : ∀ k, pQu k = false → pS k = false := by
  intro k h
  simp only [pS, pQu, decide_eq_false_iff_not] at h ⊢
  omega
theorem fR_Qu : ∀ k j, fQu k j = false → fR k j = false := by
  intro k j h
  simp only [fR, fQu, decide_eq_false_iff_not] at h ⊢
  omega
theorem pR_Qu : ∀ k, pQu k = false → pR k = false := by
  intro k h
  simp only [pR, pQu, decide_eq_false_iff_not] at h ⊢
  omega

/-- every kept event has a line -/
def qLG (L : qLog) : Prop := ∀ i, i < L.1 → i < 400 → 1 ≤ (L.2.2.2.2.1 i).toInt
/-- the reference at rest: records, nothing sought, the trace's length -/
def mId (I : Nat → Nat → Int32) : Prop := I 52 22 = 1 ∧ I 52 41 = -1 ∧ ∃ t, t ≤ 50 ∧ I 52 29 = nI t
theorem ev_ix {n : Nat} {i : Int32} (hn : n < 2 ^ 30) (h0 : ¬ i < 0) (h : (¬ nI n - 1 < i ∧ nI n < 400) ∨ (¬ 399 < i ∧ ¬ nI n < 400)) : ¬ 400 ≤ i ∧ i.toNatClampNeg < n ∧ i.toNatClampNeg < 400 := by
  have e1 : (1 : Int32).toInt = 1 := by decide
  have e2 := nI_toInt (n := n) (by omega)
  have e3 : (nI n - 1 : Int32).toInt = n - 1 := by rw [i32_sub, e2, e1] <;> rw [e2, e1] <;> omega
  have e4 : (400 : Int32).toInt = 400 := by decide
  have e5 : (399 : Int32).toInt = 399 := by decide
  have e6 : i.toNatClampNeg = i.toInt.toNat := rfl
  rw [i32_lt, i32_0] at h0
  rw [i32_lt, i32_lt, i32_lt, e2, e3, e4, e5] at h
  rw [Int32.le_iff_toInt_le, e4]
  omega
theorem tr_ix {n : Nat} {i : Int32} (hn : n ≤ 50) (h0 : ¬ i < 0) (h : ¬ nI n - 1 < i ∨ ¬ 49 < i) : ¬ 50 ≤ i := by
  have e1 : (1 : Int32).toInt = 1 := by decide
  have e2 := nI_toInt (n := n) (by omega)
  have e3 : (nI n - 1 : Int32).toInt = n - 1 := by rw [i32_sub, e2, e1] <;> rw [e2, e1] <;> omega
  have e4 : (50 : Int32).toInt = 50 := by decide
  have e5 : (49 : Int32).toInt = 49 := by decide
  rw [i32_lt, i32_0] at h0
  rw [i32_lt, i32_lt, e3, e5] at h
  rw [Int32.le_iff_toInt_le, e4]
  omega
theorem nx_al {nv np : Nat} {T K : Int} {PA : Nat → Nat → Int32} {W : qW} {na nb : Int64} (h : MPa nv np PA) (hW : wOk nv T K PA W) (hN : wNx nv np PA W = (0, na, nb)) : ¬ nb = 0 ∧ ¬ W.1 / mD W.1 nb * nb = 0 := by
  obtain ⟨o, ⟨q, q1, q2, e⟩, -⟩ := wNext_ph h hW hN
  have hg : 1 ≤ W.1.toInt ∧ W.1.toInt ≤ 10000 := hW.1.1
  have hgq := mul_bd (a := W.1.toInt) (b := q) (A := 10000) (B := 71400) (by omega) hg.2 (by omega) q2
  have gq := Int.mul_pos (a := W.1.toInt) (b := q) (by omega) (by omega)
  have d := mD_dvd (a := W.1) (b := nb) (by omega) (by omega)
  obtain ⟨y, hy, ey⟩ := div_ex (x := W.1) (c := mD W.1 nb) (by omega) d.1 d.2.1
  have y0 : 0 < y := by
    rcases Int.lt_or_le 0 y with z | z
    · exact z
    · have := Int.mul_nonpos_of_nonneg_of_nonpos (show 0 ≤ (mD W.1 nb).toInt by omega) z
      omega
  have y1 : y ≤ 10000 := by
    have : 1 * y ≤ (mD W.1 nb).toInt * y := Int.mul_le_mul_of_nonneg_right (by omega) (by omega)
    omega
  have m := mul_bd (a := y) (b := nb.toInt) (A := 10000) (B := 714000000) (by omega) y1 (by omega) (by omega)
  have e2 : (W.1 / mD W.1 nb * nb).toInt = y * nb.toInt := by
    rw [i64_mul, hy] <;> rw [hy] <;> omega
  refine ⟨i64_ne0 (by omega), i64_ne0 ?_⟩
  rw [e2]
  have := Int.mul_pos (a := y) (b := nb.toInt) y0 (by omega)
  omega
def mMod (n m : Int32) : Int32 := (n - n / m * m + m) - (n - n / m * m + m) / m * m
set_option maxRecDepth 100000 in
set_option maxHeartbeats 0 in
theorem mm_modulo (ro : UInt32 → Nat × (Nat → Int32)) (h : List va_E) (n m : Int32) (hm : ¬ m = 0) : zWp ro 182 0 [(0, .int n), (1, .int m)] [] h 0 0 (fun r h1 => h1 = h ∧ r = some (.int (mMod n m))) := by
  refine zw_iload_n 1 f182_0 rfl rfl ?_
  refine zw_iload_n 2 f182_1 rfl rfl ?_
  refine zw_irem (n - n / m * m) 3 f182_2 rfl hm rfl ?_
  refine zw_iload_n 4 f182_3 rfl rfl ?_
  refine zw_iadd ((n - n / m * m) + m) 5 f182_4 rfl rfl ?_
  refine zw_iload_n 6 f182_5 rfl rfl ?_
  refine zw_irem (((n - n / m * m) + m) - ((n - n / m * m) + m) / m * m) 7 f182_6 rfl hm rfl ?_
  refine zw_ireturn f182_7 r182 u182 ?_
  exact ⟨rfl, rfl⟩
def mSm (brim : Nat → Int32) (k : Nat) : Nat → Int32
  | 0 => 0
  | i + 1 => mSm brim k i + brim (k + i)
theorem sm_rng {nv : Nat} {k n : Int32} (h8 : nv ≤ 8) (k0 : ¬ k < 0) (k1 : ¬ 100 < k) (n0 : ¬ n < 0) (n1 : ¬ 100 < n) (h : ¬ nI nv < k + n) : k = nI k.toNatClampNeg ∧ n = nI n.toNatClampNeg ∧ k.toNatClampNeg + n.toNatClampNeg ≤ nv := by
  have e1 : (100 : Int32).toInt = 100 := by decide
  rw [i32_lt] at k0 k1 n0 n1 h
  rw [i32_0] at k0 n0
  rw [e1] at k1 n1
  rw [nI_toInt (by omega), i32_add (by omega) (by omega)] at h
  have e4 : k.toNatClampNeg = k.toInt.toNat := rfl
  have e5 : n.toNatClampNeg = n.toInt.toNat := rfl
  refine ⟨?_, ?_, by omega⟩
  · apply Int32.toInt_inj.mp
    rw [nI_toInt (by omega)]; omega
  · apply Int32.toInt_inj.mp
    rw [nI_toInt (by omega)]; omega
set_option maxRecDepth 100000 in
set_option maxHeartbeats 0 in
theorem lmm_sumOf (ro : UInt32 → Nat × (Nat → Int32)) (I : Nat → Nat → Int32) (G : Nat → Nat → Int64) (A : Nat → Nat → Int32) (B : Nat → Nat → Int64) (k n : Nat) (hk : k + n ≤ 8) : ∀ (q j : Nat) (ls : List (Nat × Value)), zld ls 0 = some (.ref 52) → zld ls 1 = some (.int (nI k)) → zld ls 2 = some (.int (nI n)) → zld ls 3 = some (.int (mSm (A 54) k j)) → zld ls 4 = some (.int (nI (k + j))) → j ≤ n → n + 1 ≤ j + q → zWp ro 183 5 ls [] (hS I G A B) 0 0 (fun r h1 => h1 = hS I G A B ∧ r = some (.int (mSm (A 54) k n))) := by
  intro q
  induction q with
  | zero =>
    intro j ls _ _ _ _ _ a b
    exact absurd b (by omega)
  | succ q ih =>
    intro j ls h0 h1 h2 h3 h4 hj1 hj2
    refine zw_iload 7 f183_5 rfl h4 ?_
    refine zw_iload_n 8 f183_7 rfl h1 ?_
    refine zw_iload_n 9 f183_8 rfl h2 ?_
    refine zw_iadd (nI (k + n)) 10 f183_9 rfl (nI_add _ _) ?_
    refine zw_ic_ge 13 29 f183_10 (by decide +kernel) rfl (fun hc1 => ?_) (fun hc1 => ?_)
    · have hn_hc1 : (k + n) ≤ (k + j) := zn_ge (by omega) (by omega) hc1
      refine zw_iload_n 30 f183_29 rfl h3 ?_
      refine zw_ireturn f183_30 r183 u183 ?_
      have hj : j = n := by omega
      rw [hj]
      exact ⟨rfl, rfl⟩
    · have hn_hc1 : (k + j) < (k + n) := zn_lt (by omega) (by omega) hc1
      refine zw_iload_n 14 f183_13 rfl h3 ?_
      refine zw_aload_n 15 f183_14 rfl h0 ?_
      refine zw_getfield 18 f183_15 rfl g183_13_12 (hb_52 _ _ _ _) rfl ?_
      refine zw_iload 20 f183_18 rfl h4 ?_
      refine zw_iaload ((k + j)) (A 54 ((k + j))) 21 f183_20 rfl (hb_54 _ _ _ _) (nI_clamp (by omega)) (nI_pos (by omega)) (by omega) rfl ?_
      refine zw_iadd ((mSm (A 54) k j) + (A 54 ((k + j)))) 22 f183_21 rfl rfl ?_
      refine zw_istore_n _ 23 f183_22 rfl (by decide +kernel) rfl ?_
      refine zw_iinc (nI ((k + j) + 1)) _ 26 f183_23 rfl (zl1_ne rfl rfl h4) (by decide +kernel) (nI_1 _) rfl ?_
      refine zw_goto 5 f183_26 (by decide +kernel) ?_
      exact ih (j + 1) _ (zl1_ne rfl rfl (zl1_ne rfl rfl h0)) (zl1_ne rfl rfl (zl1_ne rfl rfl h1)) (zl1_ne rfl rfl (zl1_ne rfl rfl h2)) (zl1_ne rfl rfl zl1_eq) zl1_eq (by omega) (by omega)
set_option maxRecDepth 100000 in
set_option maxHeartbeats 0 in
theorem mm_sumOf (ro : UInt32 → Nat × (Nat → Int32)) (I : Nat → Nat → Int32) (G : Nat → Nat → Int64) (A : Nat → Nat → Int32) (B : Nat → Nat → Int64) (k n : Nat) (hk : k + n ≤ 8) : zWp ro 183 0 [(0, .ref 52), (1, .int (nI k)), (2, .int (nI n))] [] (hS I G A B) 0 0 (fun r h1 => h1 = hS I G A B ∧ r = some (.int (mSm (A 54) k n))) := by
  refine zw_iconst 0 1 f183_0 rfl (by decide +kernel) ?_
  refine zw_istore_n _ 2 f183_1 rfl (by decide +kernel) rfl ?_
  refine zw_iload_n 3 f183_2 rfl (zl1_ne rfl rfl rfl) ?_
  refine zw_istore _ 5 f183_3 rfl (by decide +kernel) rfl ?_
  exact lmm_sumOf ro I G A B k n hk (n + 1) 0 _ (zl1_ne rfl rfl (zl1_ne rfl rfl rfl)) (zl1_ne rfl rfl (zl1_ne rfl rfl rfl)) (zl1_ne rfl rfl (zl1_ne rfl rfl rfl)) (zl1_ne rfl rfl zl1_eq) zl1_eq (by omega) (by omega)
set_option maxRecDepth 100000 in
set_option maxHeartbeats 0 in
theorem mq_now (ro : UInt32 → Nat × (Nat → Int32)) (nv np : Nat) (W : qW) (L : qLog) (I : Nat → Nat → Int32) (G : Nat → Nat → Int64) (A : Nat → Nat → Int32) (B : Nat → Nat → Int64) (K : Int) (hR : mRS nv np A W L I G A B) (hp : MPa nv np A) (hW : wInv nv 10000 K A W) (hn : L.1 < 900000000) (hg : qLG L) (hi : mId I) (a : Int32) : zWp ro 154 0 [(0, .ref 52), (1, .int a)] [] (hS I G A B) 0 0 (fun r h1 => ∃ I2 G2 A2 B2, h1 = hS I2 G2 A2 B2 ∧ KQ fQu pQu I G A B I2 G2 A2 B2 ∧ mId I2 ∧ ∃ v : Int32, r = some (.int v)) := by
  have h8 := hp.1
  have h14 := hp.2.1
  obtain ⟨t, ht, et⟩ := hi.2.2
  refine zw_iload_n 1 f154_0 rfl rfl ?_
  refine zw_if_eq 4 9 f154_1 (by decide +kernel) rfl (fun hc1 => ?_) (fun hc1 => ?_)
  · refine zw_aload_n 10 f154_9 rfl rfl ?_
    refine zw_getG W.2.1 13 f154_10 rfl g154_172_12 (hb_52 _ _ _ _) rfl hR.t ?_
    refine zw_aload_n 14 f154_13 rfl rfl ?_
    refine zw_getG W.1 17 f154_14 rfl g154_40_12 (hb_52 _ _ _ _) rfl hR.g ?_
    refine zw_iload_n 18 f154_17 rfl rfl ?_
    refine zw_static_l 21 0 0 [.long W.2.1, .long W.1, .int a] [] [(0, .long W.2.1), (2, .long W.1), (4, .int a)] f154_18 rfl k154_239_99 rfl (by decide +kernel) (Nat.le_of_ble_eq_true rfl) (Nat.le_of_ble_eq_true rfl) rfl rfl (by decide +kernel) (by decide +kernel) rfl (Nat.le_of_ble_eq_true rfl) rfl ?_
    refine zw_lload_n 1 f153_0 rfl rfl ?_
    refine zw_lload_n 2 f153_1 rfl rfl ?_
    refine zw_static_l 5 0 0 [.long W.2.1, .long W.1] [] [(0, .long W.2.1), (2, .long W.1)] f153_2 rfl k153_164_99 rfl (by decide +kernel) (Nat.le_of_ble_eq_true rfl) (Nat.le_of_ble_eq_true rfl) rfl rfl (by decide +kernel) (by decide +kernel) rfl (Nat.le_of_ble_eq_true rfl) rfl ?_
    refine zWp.mono (mm_divisor ro _ W.2.1 W.1) ?_
    rintro r h1 ⟨rfl, rfl⟩
    refine ⟨_, rfl, ?_⟩
    refine zw_lstore _ 7 f153_5 rfl (by decide +kernel) rfl ?_
    refine zw_iload 9 f153_7 rfl (zl2_ne rfl rfl rfl) ?_
    refine zw_if_ne_f 12 19 f153_9 (by decide +kernel) rfl (fun q => q hc1) ?_
    refine zw_lload_n 13 f153_12 rfl (zl2_ne rfl rfl rfl) ?_
    refine zw_lload 15 f153_13 rfl zl2_eq ?_
    refine zw_ldiv (W.2.1 / (mD W.2.1 W.1)) 16 f153_15 rfl (mD_ne0 (i64_ne0 hW.1.1.1.1)) rfl ?_
    refine zw_goto 23 f153_16 (by decide +kernel) ?_
    refine zw_lreturn f153_23 r153 u153 ⟨_, rfl, ?_⟩
    refine zw_l2i (Int64.toInt32 (W.2.1 / (mD W.2.1 W.1))) 22 f154_21 rfl rfl ?_
    refine zw_goto 39 f154_22 (by decide +kernel) ?_
    refine zw_ireturn f154_39 r154 u154 ?_
    exact ⟨_, _, _, _, rfl, KQ.rf, ⟨hi.1, hi.2.1, t, by omega, et⟩, _, rfl⟩
  · refine zw_iload_n 5 f154_4 rfl rfl ?_
    refine zw_iconst 1 6 f154_5 rfl (by decide +kernel) ?_
    refine zw_ic_ne 9 25 f154_6 (by decide +kernel) rfl (fun hc2 => ?_) (fun hc2 => ?_)
    · refine zw_iload_n 26 f154_25 rfl rfl ?_
      refine zw_iconst 2 27 f154_26 rfl (by decide +kernel) ?_
      refine zw_ic_ne 30 38 f154_27 (by decide +kernel) rfl (fun hc3 => ?_) (fun hc3 => ?_)
      · refine zw_iconst (-1) 39 f154_38 rfl (by decide +kernel) ?_
        refine zw_ireturn f154_39 r154 u154 ?_
        exact ⟨_, _, _, _, rfl, KQ.rf, ⟨hi.1, hi.2.1, t, by omega, et⟩, _, rfl⟩
      · refine zw_aload_n 31 f154_30 rfl rfl ?_
        refine zw_getG W.1 34 f154_31 rfl g154_40_12 (hb_52 _ _ _ _) rfl hR.g ?_
        refine zw_l2i (Int64.toInt32 W.1) 35 f154_34 rfl rfl ?_
        refine zw_goto 39 f154_35 (by decide +kernel) ?_
        refine zw_ireturn f154_39 r154 u154 ?_
        exact ⟨_, _, _, _, rfl, KQ.rf, ⟨hi.1, hi.2.1, t, by omega, et⟩, _, rfl⟩
    · refine zw_aload_n 10 f154_9 rfl rfl ?_
      refine zw_getG W.2.1 13 f154_10 rfl g154_172_12 (hb_52 _ _ _ _) rfl hR.t ?_
      refine zw_aload_n 14 f154_13 rfl rfl ?_
      refine zw_getG W.1 17 f154_14 rfl g154_40_12 (hb_52 _ _ _ _) rfl hR.g ?_
      refine zw_iload_n 18 f154_17 rfl rfl ?_
      refine zw_static_l 21 0 0 [.long W.2.1, .long W.1, .int a] [] [(0, .long W.2.1), (2, .long W.1), (4, .int a)] f154_18 rfl k154_239_99 rfl (by decide +kernel) (Nat.le_of_ble_eq_true rfl) (Nat.le_of_ble_eq_true rfl) rfl rfl (by decide +kernel) (by decide +kernel) rfl (Nat.le_of_ble_eq_true rfl) rfl ?_
      refine zw_lload_n 1 f153_0 rfl rfl ?_
      refine zw_lload_n 2 f153_1 rfl rfl ?_
      refine zw_static_l 5 0 0 [.long W.2.1, .long W.1] [] [(0, .long W.2.1), (2, .long W.1)] f153_2 rfl k153_164_99 rfl (by decide +kernel) (Nat.le_of_ble_eq_true rfl) (Nat.le_of_ble_eq_true rfl) rfl rfl (by decide +kernel) (by decide +kernel) rfl (Nat.le_of_ble_eq_true rfl) rfl ?_
      refine zWp.mono (mm_divisor ro _ W.2.1 W.1) ?_
      rintro r h1 ⟨rfl, rfl⟩
      refine ⟨_, rfl, ?_⟩
      refine zw_lstore _ 7 f153_5 rfl (by decide +kernel) rfl ?_
      refine zw_iload 9 f153_7 rfl (zl2_ne rfl rfl rfl) ?_
      refine zw_if_ne_t 19 f153_9 (by decide +kernel) hc1 ?_
      refine zw_lload_n 20 f153_19 rfl (zl2_ne rfl rfl rfl) ?_
      refine zw_lload 22 f153_20 rfl zl2_eq ?_
      refine zw_ldiv (W.1 / (mD W.2.1 W.1)) 23 f153_22 rfl (mD_ne0 (i64_ne0 hW.1.1.1.1)) rfl ?_
      refine zw_lreturn f153_23 r153 u153 ⟨_, rfl, ?_⟩
      refine zw_l2i (Int64.toInt32 (W.1 / (mD W.2.1 W.1))) 22 f154_21 rfl rfl ?_
      refine zw_goto 39 f154_22 (by decide +kernel) ?_
      refine zw_ireturn f154_39 r154 u154 ?_
      exact ⟨_, _, _, _, rfl, KQ.rf, ⟨hi.1, hi.2.1, t, by omega, et⟩, _, rfl⟩
set_option maxRecDepth 100000 in
set_option maxHeartbeats 0 in
theorem mq_next (ro : UInt32 → Nat × (Nat → Int32)) (nv np : Nat) (W : qW) (L : qLog) (I : Nat → Nat → Int32) (G : Nat → Nat → Int64) (A : Nat → Nat → Int32) (B : Nat → Nat → Int64) (K : Int) (hR : mRS nv np A W L I G A B) (hp : MPa nv np A) (hW : wInv nv 10000 K A W) (hn : L.1 < 900000000) (hg : qLG L) (hi : mId I) (a : Int32) : zWp ro 155 0 [(0, .ref 52), (1, .int a)] [] (hS I G A B) 0 0 (fun r h1 => ∃ I2 G2 A2 B2, h1 = hS I2 G2 A2 B2 ∧ KQ fQu pQu I G A B I2 G2 A2 B2 ∧ mId I2 ∧ ∃ v : Int64, r = some (.long v)) := by
  have h8 := hp.1
  have h14 := hp.2.1
  obtain ⟨t, ht, et⟩ := hi.2.2
  refine zw_aload_n 1 f155_0 rfl rfl ?_
  refine zw_virtual_v 4 0 0 [.ref 52] [(0, .ref 52)] f155_1 rfl n155_228 k155_228_12 rfl (hb_52 _ _ _ _) (by decide +kernel) (Nat.le_of_ble_eq_true rfl) rfl rfl (by decide +kernel) (by decide +kernel) rfl (Nat.le_of_ble_eq_true rfl) rfl ?_
  refine zWp.mono (mm_seekW ro nv np A W L _ _ _ _ hR hp hW.2.1) ?_
  rintro r h1 ⟨I_1, G_1, A_1, B_1, rfl, K_1, R_1, T_1, ⟨rs_1, na_1, nb_1, er_1, ea_1, eb_1, x_1⟩, rfl⟩
  refine ⟨rfl, ?_⟩
  refine zw_aload_n 5 f155_4 rfl rfl ?_
  refine zw_getI rs_1 8 f155_5 rfl g155_142_12 (hb_52 _ _ _ _) rfl er_1 ?_
  refine zw_if_ne 11 20 f155_8 (by decide +kernel) rfl (fun hc2 => ?_) (fun hc2 => ?_)
  · refine zw_ldc2_w (-1) 23 f155_20 rfl (by decide +kernel) ?_
    refine zw_lreturn f155_23 r155 u155 ?_
    exact ⟨_, _, _, _, rfl, (KQ.wk K_1 fS_Qu pS_Qu), ⟨((K_1.1 52 22 rfl).trans hi.1), ((K_1.1 52 41 rfl).trans hi.2.1), t, by omega, ((K_1.1 52 29 rfl).trans et)⟩, _, rfl⟩
  · have nx := nx_al hp hW.1 (qNx_y x_1 (Decidable.of_not_not hc2))
    refine zw_iload_n 12 f155_11 rfl rfl ?_
    refine zw_iconst 0 13 f155_12 rfl (by decide +kernel) ?_
    refine zw_iconst 1 14 f155_13 rfl (by decide +kernel) ?_
    refine zw_static_i 17 0 0 [.int a, .int 0, .int 1] [] [(0, .int a), (1, .int 0), (2, .int 1)] f155_14 rfl k155_117_99 rfl (by decide +kernel) (Nat.le_of_ble_eq_true rfl) (Nat.le_of_ble_eq_true rfl) rfl rfl (by decide +kernel) (by decide +kernel) rfl (Nat.le_of_ble_eq_true rfl) rfl ?_
    refine zw_iload_n 1 f120_0 rfl rfl ?_
    refine zw_iload_n 2 f120_1 rfl rfl ?_
    refine zw_ic_lt 5 14 f120_2 (by decide +kernel) rfl (fun hc3 => ?_) (fun hc3 => ?_)
    · refine zw_iconst 0 15 f120_14 rfl (by decide +kernel) ?_
      refine zw_zreturn f120_15 r120 u120 (by decide +kernel) ⟨_, rfl, ?_⟩
      refine zw_if_ne_f 20 24 f155_17 (by decide +kernel) rfl (by decide +kernel) ?_
      refine zw_ldc2_w (-1) 23 f155_20 rfl (by decide +kernel) ?_
      refine zw_lreturn f155_23 r155 u155 ?_
      exact ⟨_, _, _, _, rfl, (KQ.wk K_1 fS_Qu pS_Qu), ⟨((K_1.1 52 22 rfl).trans hi.1), ((K_1.1 52 41 rfl).trans hi.2.1), t, by omega, ((K_1.1 52 29 rfl).trans et)⟩, _, rfl⟩
    · refine zw_iload_n 6 f120_5 rfl rfl ?_
      refine zw_iload_n 7 f120_6 rfl rfl ?_
      refine zw_ic_gt 10 14 f120_7 (by decide +kernel) rfl (fun hc4 => ?_) (fun hc4 => ?_)
      · refine zw_iconst 0 15 f120_14 rfl (by decide +kernel) ?_
        refine zw_zreturn f120_15 r120 u120 (by decide +kernel) ⟨_, rfl, ?_⟩
        refine zw_if_ne_f 20 24 f155_17 (by decide +kernel) rfl (by decide +kernel) ?_
        refine zw_ldc2_w (-1) 23 f155_20 rfl (by decide +kernel) ?_
        refine zw_lreturn f155_23 r155 u155 ?_
        exact ⟨_, _, _, _, rfl, (KQ.wk K_1 fS_Qu pS_Qu), ⟨((K_1.1 52 22 rfl).trans hi.1), ((K_1.1 52 41 rfl).trans hi.2.1), t, by omega, ((K_1.1 52 29 rfl).trans et)⟩, _, rfl⟩
      · refine zw_iconst 1 11 f120_10 rfl (by decide +kernel) ?_
        refine zw_goto 15 f120_11 (by decide +kernel) ?_
        refine zw_zreturn f120_15 r120 u120 (by decide +kernel) ⟨_, rfl, ?_⟩
        refine zw_if_ne_t 24 f155_17 (by decide +kernel) (by decide +kernel) ?_
        refine zw_aload_n 25 f155_24 rfl rfl ?_
        refine zw_getG W.1 28 f155_25 rfl g155_40_12 (hb_52 _ _ _ _) rfl R_1.g ?_
        refine zw_aload_n 29 f155_28 rfl rfl ?_
        refine zw_getG W.1 32 f155_29 rfl g155_40_12 (hb_52 _ _ _ _) rfl R_1.g ?_
        refine zw_aload_n 33 f155_32 rfl rfl ?_
        refine zw_getG nb_1 36 f155_33 rfl g155_145_12 (hb_52 _ _ _ _) rfl eb_1 ?_
        refine zw_static_l 39 0 0 [.long W.1, .long nb_1] [.long W.1] [(0, .long W.1), (2, .long nb_1)] f155_36 rfl k155_164_99 rfl (by decide +kernel) (Nat.le_of_ble_eq_true rfl) (Nat.le_of_ble_eq_true rfl) rfl rfl (by decide +kernel) (by decide +kernel) rfl (Nat.le_of_ble_eq_true rfl) rfl ?_
        refine zWp.mono (mm_divisor ro _ W.1 nb_1) ?_
        rintro r h1 ⟨rfl, rfl⟩
        refine ⟨_, rfl, ?_⟩
        refine zw_ldiv (W.1 / (mD W.1 nb_1)) 40 f155_39 rfl (mD_ne0 nx.1) rfl ?_
        refine zw_aload_n 41 f155_40 rfl rfl ?_
        refine zw_getG nb_1 44 f155_41 rfl g155_145_12 (hb_52 _ _ _ _) rfl eb_1 ?_
        refine zw_lmul ((W.1 / (mD W.1 nb_1)) * nb_1) 45 f155_44 rfl rfl ?_
        refine zw_lstore_n _ 46 f155_45 rfl (by decide +kernel) rfl ?_
        refine zw_aload_n 47 f155_46 rfl (zl2_ne rfl rfl rfl) ?_
        refine zw_getG W.2.1 50 f155_47 rfl g155_172_12 (hb_52 _ _ _ _) rfl R_1.t ?_
        refine zw_lload_n 51 f155_50 rfl zl2_eq ?_
        refine zw_aload_n 52 f155_51 rfl (zl2_ne rfl rfl rfl) ?_
        refine zw_getG W.1 55 f155_52 rfl g155_40_12 (hb_52 _ _ _ _) rfl R_1.g ?_
        refine zw_ldiv (((W.1 / (mD W.1 nb_1)) * nb_1) / W.1) 56 f155_55 rfl (i64_ne0 hW.1.1.1.1) rfl ?_
        refine zw_lmul (W.2.1 * (((W.1 / (mD W.1 nb_1)) * nb_1) / W.1)) 57 f155_56 rfl rfl ?_
        refine zw_aload_n 58 f155_57 rfl (zl2_ne rfl rfl rfl) ?_
        refine zw_getG na_1 61 f155_58 rfl g155_148_12 (hb_52 _ _ _ _) rfl ea_1 ?_
        refine zw_lload_n 62 f155_61 rfl zl2_eq ?_
        refine zw_aload_n 63 f155_62 rfl (zl2_ne rfl rfl rfl) ?_
        refine zw_getG nb_1 66 f155_63 rfl g155_145_12 (hb_52 _ _ _ _) rfl eb_1 ?_
        refine zw_ldiv (((W.1 / (mD W.1 nb_1)) * nb_1) / nb_1) 67 f155_66 rfl nx.1 rfl ?_
        refine zw_lmul (na_1 * (((W.1 / (mD W.1 nb_1)) * nb_1) / nb_1)) 68 f155_67 rfl rfl ?_
        refine zw_ladd ((W.2.1 * (((W.1 / (mD W.1 nb_1)) * nb_1) / W.1)) + (na_1 * (((W.1 / (mD W.1 nb_1)) * nb_1) / nb_1))) 69 f155_68 rfl rfl ?_
        refine zw_lload_n 70 f155_69 rfl zl2_eq ?_
        refine zw_iload_n 71 f155_70 rfl (zl2_ne rfl rfl rfl) ?_
        refine zw_static_l 74 0 0 [.long ((W.2.1 * (((W.1 / (mD W.1 nb_1)) * nb_1) / W.1)) + (na_1 * (((W.1 / (mD W.1 nb_1)) * nb_1) / nb_1))), .long ((W.1 / (mD W.1 nb_1)) * nb_1), .int a] [] [(0, .long ((W.2.1 * (((W.1 / (mD W.1 nb_1)) * nb_1) / W.1)) + (na_1 * (((W.1 / (mD W.1 nb_1)) * nb_1) / nb_1)))), (2, .long ((W.1 / (mD W.1 nb_1)) * nb_1)), (4, .int a)] f155_71 rfl k155_239_99 rfl (by decide +kernel) (Nat.le_of_ble_eq_true rfl) (Nat.le_of_ble_eq_true rfl) rfl rfl (by decide +kernel) (by decide +kernel) rfl (Nat.le_of_ble_eq_true rfl) rfl ?_
        refine zw_lload_n 1 f153_0 rfl rfl ?_
        refine zw_lload_n 2 f153_1 rfl rfl ?_
        refine zw_static_l 5 0 0 [.long ((W.2.1 * (((W.1 / (mD W.1 nb_1)) * nb_1) / W.1)) + (na_1 * (((W.1 / (mD W.1 nb_1)) * nb_1) / nb_1))), .long ((W.1 / (mD W.1 nb_1)) * nb_1)] [] [(0, .long ((W.2.1 * (((W.1 / (mD W.1 nb_1)) * nb_1) / W.1)) + (na_1 * (((W.1 / (mD W.1 nb_1)) * nb_1) / nb_1)))), (2, .long ((W.1 / (mD W.1 nb_1)) * nb_1))] f153_2 rfl k153_164_99 rfl (by decide +kernel) (Nat.le_of_ble_eq_true rfl) (Nat.le_of_ble_eq_true rfl) rfl rfl (by decide +kernel) (by decide +kernel) rfl (Nat.le_of_ble_eq_true rfl) rfl ?_
        refine zWp.mono (mm_divisor ro _ ((W.2.1 * (((W.1 / (mD W.1 nb_1)) * nb_1) / W.1)) + (na_1 * (((W.1 / (mD W.1 nb_1)) * nb_1) / nb_1))) ((W.1 / (mD W.1 nb_1)) * nb_1)) ?_
        rintro r h1 ⟨rfl, rfl⟩
        refine ⟨_, rfl, ?_⟩
        refine zw_lstore _ 7 f153_5 rfl (by decide +kernel) rfl ?_
        refine zw_iload 9 f153_7 rfl (zl2_ne rfl rfl rfl) ?_
        refine zw_if_ne 12 19 f153_9 (by decide +kernel) rfl (fun hc5 => ?_) (fun hc5 => ?_)
        · refine zw_lload_n 20 f153_19 rfl (zl2_ne rfl rfl rfl) ?_
          refine zw_lload 22 f153_20 rfl zl2_eq ?_
          refine zw_ldiv (((W.1 / (mD W.1 nb_1)) * nb_1) / (mD ((W.2.1 * (((W.1 / (mD W.1 nb_1)) * nb_1) / W.1)) + (na_1 * (((W.1 / (mD W.1 nb_1)) * nb_1) / nb_1))) ((W.1 / (mD W.1 nb_1)) * nb_1))) 23 f153_22 rfl (mD_ne0 nx.2) rfl ?_
          refine zw_lreturn f153_23 r153 u153 ⟨_, rfl, ?_⟩
          refine zw_lreturn f155_74 r155 u155 ?_
          exact ⟨_, _, _, _, rfl, (KQ.wk K_1 fS_Qu pS_Qu), ⟨((K_1.1 52 22 rfl).trans hi.1), ((K_1.1 52 41 rfl).trans hi.2.1), t, by omega, ((K_1.1 52 29 rfl).trans et)⟩, _, rfl⟩
        · refine zw_lload_n 13 f153_12 rfl (zl2_ne rfl rfl rfl) ?_
          refine zw_lload 15 f153_13 rfl zl2_eq ?_
          refine zw_ldiv (((W.2.1 * (((W.1 / (mD W.1 nb_1)) * nb_1) / W.1)) + (na_1 * (((W.1 / (mD W.1 nb_1)) * nb_1) / nb_1))) / (mD ((W.2.1 * (((W.1 / (mD W.1 nb_1)) * nb_1) / W.1)) + (na_1 * (((W.1 / (mD W.1 nb_1)) * nb_1) / nb_1))) ((W.1 / (mD W.1 nb_1)) * nb_1))) 16 f153_15 rfl (mD_ne0 nx.2) rfl ?_
          refine zw_goto 23 f153_16 (by decide +kernel) ?_
          refine zw_lreturn f153_23 r153 u153 ⟨_, rfl, ?_⟩
          refine zw_lreturn f155_74 r155 u155 ?_
          exact ⟨_, _, _, _, rfl, (KQ.wk K_1 fS_Qu pS_Qu), ⟨((K_1.1 52 22 rfl).trans hi.1), ((K_1.1 52 41 rfl).trans hi.2.1), t, by omega, ((K_1.1 52 29 rfl).trans et)⟩, _, rfl⟩
set_option maxRecDepth 100000 in
set_option maxHeartbeats 0 in
theorem mq_level (ro : UInt32 → Nat × (Nat → Int32)) (nv np : Nat) (W : qW) (L : qLog) (I : Nat → Nat → Int32) (G : Nat → Nat → Int64) (A : Nat → Nat → Int32) (B : Nat → Nat → Int64) (K : Int) (hR : mRS nv np A W L I G A B) (hp : MPa nv np A) (hW : wInv nv 10000 K A W) (hn : L.1 < 900000000) (hg : qLG L) (hi : mId I) (a : Int32) (b : Int32) : zWp ro 156 0 [(0, .ref 52), (1, .int a), (2, .int b)] [] (hS I G A B) 0 0 (fun r h1 => ∃ I2 G2 A2 B2, h1 = hS I2 G2 A2 B2 ∧ KQ fQu pQu I G A B I2 G2 A2 B2 ∧ mId I2 ∧ ∃ v : Int32, r = some (.int v)) := by
  have h8 := hp.1
  have h14 := hp.2.1
  obtain ⟨t, ht, et⟩ := hi.2.2
  refine zw_aload_n 1 f156_0 rfl rfl ?_
  refine zw_iload_n 2 f156_1 rfl rfl ?_
  refine zw_virtual_i 5 0 0 [.ref 52, .int a] [(0, .ref 52), (1, .int a)] f156_2 rfl n156_215 k156_215_12 rfl (hb_52 _ _ _ _) (by decide +kernel) (Nat.le_of_ble_eq_true rfl) rfl rfl (by decide +kernel) (by decide +kernel) rfl (Nat.le_of_ble_eq_true rfl) rfl ?_
  refine zw_iload_n 1 f123_0 rfl rfl ?_
  refine zw_iconst 0 2 f123_1 rfl (by decide +kernel) ?_
  refine zw_aload_n 3 f123_2 rfl rfl ?_
  refine zw_getI (nI nv) 6 f123_3 rfl g123_114_12 (hb_52 _ _ _ _) rfl hR.1.1 ?_
  refine zw_iconst 1 7 f123_6 rfl (by decide +kernel) ?_
  refine zw_isub ((nI nv) - 1) 8 f123_7 rfl rfl ?_
  refine zw_static_i 11 0 0 [.int a, .int 0, .int ((nI nv) - 1)] [] [(0, .int a), (1, .int 0), (2, .int ((nI nv) - 1))] f123_8 rfl k123_117_99 rfl (by decide +kernel) (Nat.le_of_ble_eq_true rfl) (Nat.le_of_ble_eq_true rfl) rfl rfl (by decide +kernel) (by decide +kernel) rfl (Nat.le_of_ble_eq_true rfl) rfl ?_
  refine zw_iload_n 1 f120_0 rfl rfl ?_
  refine zw_iload_n 2 f120_1 rfl rfl ?_
  refine zw_ic_lt 5 14 f120_2 (by decide +kernel) rfl (fun hc1 => ?_) (fun hc1 => ?_)
  · refine zw_iconst 0 15 f120_14 rfl (by decide +kernel) ?_
    refine zw_zreturn f120_15 r120 u120 (by decide +kernel) ⟨_, rfl, ?_⟩
    refine zw_zreturn f123_11 r123 u123 (by decide +kernel) ⟨_, rfl, ?_⟩
    refine zw_if_eq_t 35 f156_5 (by decide +kernel) (by decide +kernel) ?_
    refine zw_iconst (-1) 36 f156_35 rfl (by decide +kernel) ?_
    refine zw_ireturn f156_36 r156 u156 ?_
    exact ⟨_, _, _, _, rfl, KQ.rf, ⟨hi.1, hi.2.1, t, by omega, et⟩, _, rfl⟩
  · refine zw_iload_n 6 f120_5 rfl rfl ?_
    refine zw_iload_n 7 f120_6 rfl rfl ?_
    refine zw_ic_gt 10 14 f120_7 (by decide +kernel) rfl (fun hc2 => ?_) (fun hc2 => ?_)
    · refine zw_iconst 0 15 f120_14 rfl (by decide +kernel) ?_
      refine zw_zreturn f120_15 r120 u120 (by decide +kernel) ⟨_, rfl, ?_⟩
      refine zw_zreturn f123_11 r123 u123 (by decide +kernel) ⟨_, rfl, ?_⟩
      refine zw_if_eq_t 35 f156_5 (by decide +kernel) (by decide +kernel) ?_
      refine zw_iconst (-1) 36 f156_35 rfl (by decide +kernel) ?_
      refine zw_ireturn f156_36 r156 u156 ?_
      exact ⟨_, _, _, _, rfl, KQ.rf, ⟨hi.1, hi.2.1, t, by omega, et⟩, _, rfl⟩
    · refine zw_iconst 1 11 f120_10 rfl (by decide +kernel) ?_
      refine zw_goto 15 f120_11 (by decide +kernel) ?_
      refine zw_zreturn f120_15 r120 u120 (by decide +kernel) ⟨_, rfl, ?_⟩
      refine zw_zreturn f123_11 r123 u123 (by decide +kernel) ⟨_, rfl, ?_⟩
      refine zw_if_eq_f 8 35 f156_5 (by decide +kernel) rfl (by decide +kernel) ?_
      refine zw_iload_n 9 f156_8 rfl rfl ?_
      refine zw_iconst 0 10 f156_9 rfl (by decide +kernel) ?_
      refine zw_iconst 1 11 f156_10 rfl (by decide +kernel) ?_
      refine zw_static_i 14 0 0 [.int b, .int 0, .int 1] [] [(0, .int b), (1, .int 0), (2, .int 1)] f156_11 rfl k156_117_99 rfl (by decide +kernel) (Nat.le_of_ble_eq_true rfl) (Nat.le_of_ble_eq_true rfl) rfl rfl (by decide +kernel) (by decide +kernel) rfl (Nat.le_of_ble_eq_true rfl) rfl ?_
      refine zw_iload_n 1 f120_0 rfl rfl ?_
      refine zw_iload_n 2 f120_1 rfl rfl ?_
      refine zw_ic_lt 5 14 f120_2 (by decide +kernel) rfl (fun hc3 => ?_) (fun hc3 => ?_)
      · refine zw_iconst 0 15 f120_14 rfl (by decide +kernel) ?_
        refine zw_zreturn f120_15 r120 u120 (by decide +kernel) ⟨_, rfl, ?_⟩
        refine zw_if_eq_t 35 f156_14 (by decide +kernel) (by decide +kernel) ?_
        refine zw_iconst (-1) 36 f156_35 rfl (by decide +kernel) ?_
        refine zw_ireturn f156_36 r156 u156 ?_
        exact ⟨_, _, _, _, rfl, KQ.rf, ⟨hi.1, hi.2.1, t, by omega, et⟩, _, rfl⟩
      · refine zw_iload_n 6 f120_5 rfl rfl ?_
        refine zw_iload_n 7 f120_6 rfl rfl ?_
        refine zw_ic_gt 10 14 f120_7 (by decide +kernel) rfl (fun hc4 => ?_) (fun hc4 => ?_)
        · refine zw_iconst 0 15 f120_14 rfl (by decide +kernel) ?_
          refine zw_zreturn f120_15 r120 u120 (by decide +kernel) ⟨_, rfl, ?_⟩
          refine zw_if_eq_t 35 f156_14 (by decide +kernel) (by decide +kernel) ?_
          refine zw_iconst (-1) 36 f156_35 rfl (by decide +kernel) ?_
          refine zw_ireturn f156_36 r156 u156 ?_
          exact ⟨_, _, _, _, rfl, KQ.rf, ⟨hi.1, hi.2.1, t, by omega, et⟩, _, rfl⟩
        · refine zw_iconst 1 11 f120_10 rfl (by decide +kernel) ?_
          refine zw_goto 15 f120_11 (by decide +kernel) ?_
          refine zw_zreturn f120_15 r120 u120 (by decide +kernel) ⟨_, rfl, ?_⟩
          refine zw_if_eq_f 17 35 f156_14 (by decide +kernel) rfl (by decide +kernel) ?_
          refine zw_aload_n 18 f156_17 rfl rfl ?_
          refine zw_getfield 21 f156_18 rfl g156_44_12 (hb_52 _ _ _ _) rfl ?_
          refine zw_iload_n 22 f156_21 rfl rfl ?_
          refine zw_laload a.toNatClampNeg ((W.2.2.2.2.1) a.toNatClampNeg) 23 f156_22 rfl (hb_63 _ _ _ _) rfl hc1 (zix (by decide) hc1 (show ¬ 8 ≤ a from ix_le hp.1 (by decide) (by decide) hc1 hc2)) (congrFun (hR.lev) a.toNatClampNeg) ?_
          refine zw_aload_n 24 f156_23 rfl rfl ?_
          refine zw_getG W.1 27 f156_24 rfl g156_40_12 (hb_52 _ _ _ _) rfl hR.g ?_
          refine zw_iload_n 28 f156_27 rfl rfl ?_
          refine zw_static_l 31 0 0 [.long ((W.2.2.2.2.1) a.toNatClampNeg), .long W.1, .int b] [] [(0, .long ((W.2.2.2.2.1) a.toNatClampNeg)), (2, .long W.1), (4, .int b)] f156_28 rfl k156_239_99 rfl (by decide +kernel) (Nat.le_of_ble_eq_true rfl) (Nat.le_of_ble_eq_true rfl) rfl rfl (by decide +kernel) (by decide +kernel) rfl (Nat.le_of_ble_eq_true rfl) rfl ?_
          refine zw_lload_n 1 f153_0 rfl rfl ?_
          refine zw_lload_n 2 f153_1 rfl rfl ?_
          refine zw_static_l 5 0 0 [.long ((W.2.2.2.2.1) a.toNatClampNeg), .long W.1] [] [(0, .long ((W.2.2.2.2.1) a.toNatClampNeg)), (2, .long W.1)] f153_2 rfl k153_164_99 rfl (by decide +kernel) (Nat.le_of_ble_eq_true rfl) (Nat.le_of_ble_eq_true rfl) rfl rfl (by decide +kernel) (by decide +kernel) rfl (Nat.le_of_ble_eq_true rfl) rfl ?_
          refine zWp.mono (mm_divisor ro _ ((W.2.2.2.2.1) a.toNatClampNeg) W.1) ?_
          rintro r h1 ⟨rfl, rfl⟩
          refine ⟨_, rfl, ?_⟩
          refine zw_lstore _ 7 f153_5 rfl (by decide +kernel) rfl ?_
          refine zw_iload 9 f153_7 rfl (zl2_ne rfl rfl rfl) ?_
          refine zw_if_ne 12 19 f153_9 (by decide +kernel) rfl (fun hc5 => ?_) (fun hc5 => ?_)
          · refine zw_lload_n 20 f153_19 rfl (zl2_ne rfl rfl rfl) ?_
            refine zw_lload 22 f153_20 rfl zl2_eq ?_
            refine zw_ldiv (W.1 / (mD ((W.2.2.2.2.1) a.toNatClampNeg) W.1)) 23 f153_22 rfl (mD_ne0 (i64_ne0 hW.1.1.1.1)) rfl ?_
            refine zw_lreturn f153_23 r153 u153 ⟨_, rfl, ?_⟩
            refine zw_l2i (Int64.toInt32 (W.1 / (mD ((W.2.2.2.2.1) a.toNatClampNeg) W.1))) 32 f156_31 rfl rfl ?_
            refine zw_goto 36 f156_32 (by decide +kernel) ?_
            refine zw_ireturn f156_36 r156 u156 ?_
            exact ⟨_, _, _, _, rfl, KQ.rf, ⟨hi.1, hi.2.1, t, by omega, et⟩, _, rfl⟩
          · refine zw_lload_n 13 f153_12 rfl (zl2_ne rfl rfl rfl) ?_
            refine zw_lload 15 f153_13 rfl zl2_eq ?_
            refine zw_ldiv (((W.2.2.2.2.1) a.toNatClampNeg) / (mD ((W.2.2.2.2.1) a.toNatClampNeg) W.1)) 16 f153_15 rfl (mD_ne0 (i64_ne0 hW.1.1.1.1)) rfl ?_
            refine zw_goto 23 f153_16 (by decide +kernel) ?_
            refine zw_lreturn f153_23 r153 u153 ⟨_, rfl, ?_⟩
            refine zw_l2i (Int64.toInt32 (((W.2.2.2.2.1) a.toNatClampNeg) / (mD ((W.2.2.2.2.1) a.toNatClampNeg) W.1))) 32 f156_31 rfl rfl ?_
            refine zw_goto 36 f156_32 (by decide +kernel) ?_
            refine zw_ireturn f156_36 r156 u156 ?_
            exact ⟨_, _, _, _, rfl, KQ.rf, ⟨hi.1, hi.2.1, t, by omega, et⟩, _, rfl⟩
set_option maxRecDepth 100000 in
set_option maxHeartbeats 0 in
theorem mq_rate (ro : UInt32 → Nat × (Nat → Int32)) (nv np : Nat) (W : qW) (L : qLog) (I : Nat → Nat → Int32) (G : Nat → Nat → Int64) (A : Nat → Nat → Int32) (B : Nat → Nat → Int64) (K : Int) (hR : mRS nv np A W L I G A B) (hp : MPa nv np A) (hW : wInv nv 10000 K A W) (hn : L.1 < 900000000) (hg : qLG L) (hi : mId I) (a : Int32) : zWp ro 157 0 [(0, .ref 52), (1, .int a)] [] (hS I G A B) 0 0 (fun r h1 => ∃ I2 G2 A2 B2, h1 = hS I2 G2 A2 B2 ∧ KQ fQu pQu I G A B I2 G2 A2 B2 ∧ mId I2 ∧ ∃ v : Int32, r = some (.int v)) := by
  have h8 := hp.1
  have h14 := hp.2.1
  obtain ⟨t, ht, et⟩ := hi.2.2
  refine zw_aload_n 1 f157_0 rfl rfl ?_
  refine zw_virtual_v 4 0 0 [.ref 52] [(0, .ref 52)] f157_1 rfl n157_151 k157_151_12 rfl (hb_52 _ _ _ _) (by decide +kernel) (Nat.le_of_ble_eq_true rfl) rfl rfl (by decide +kernel) (by decide +kernel) rfl (Nat.le_of_ble_eq_true rfl) rfl ?_
  refine zWp.mono (mm_rates ro nv np _ _ _ _ (hR.mp hp) (hR.mb hW.2.1)) ?_
  rintro r h1 ⟨I_r, G_r, A_r, B_r, rfl, K_r, hr, rfl⟩
  refine ⟨rfl, ?_⟩
  refine zw_aload_n 5 f157_4 rfl rfl ?_
  refine zw_iload_n 6 f157_5 rfl rfl ?_
  refine zw_virtual_i 9 0 0 [.ref 52, .int a] [(0, .ref 52), (1, .int a)] f157_6 rfl n157_215 k157_215_12 rfl (hb_52 _ _ _ _) (by decide +kernel) (Nat.le_of_ble_eq_true rfl) rfl rfl (by decide +kernel) (by decide +kernel) rfl (Nat.le_of_ble_eq_true rfl) rfl ?_
  refine zw_iload_n 1 f123_0 rfl rfl ?_
  refine zw_iconst 0 2 f123_1 rfl (by decide +kernel) ?_
  refine zw_aload_n 3 f123_2 rfl rfl ?_
  refine zw_getI (nI nv) 6 f123_3 rfl g123_114_12 (hb_52 _ _ _ _) rfl ((K_r.1 52 0 rfl).trans hR.1.1) ?_
  refine zw_iconst 1 7 f123_6 rfl (by decide +kernel) ?_
  refine zw_isub ((nI nv) - 1) 8 f123_7 rfl rfl ?_
  refine zw_static_i 11 0 0 [.int a, .int 0, .int ((nI nv) - 1)] [] [(0, .int a), (1, .int 0), (2, .int ((nI nv) - 1))] f123_8 rfl k123_117_99 rfl (by decide +kernel) (Nat.le_of_ble_eq_true rfl) (Nat.le_of_ble_eq_true rfl) rfl rfl (by decide +kernel) (by decide +kernel) rfl (Nat.le_of_ble_eq_true rfl) rfl ?_
  refine zw_iload_n 1 f120_0 rfl rfl ?_
  refine zw_iload_n 2 f120_1 rfl rfl ?_
  refine zw_ic_lt 5 14 f120_2 (by decide +kernel) rfl (fun hc1 => ?_) (fun hc1 => ?_)
  · refine zw_iconst 0 15 f120_14 rfl (by decide +kernel) ?_
    refine zw_zreturn f120_15 r120 u120 (by decide +kernel) ⟨_, rfl, ?_⟩
    refine zw_zreturn f123_11 r123 u123 (by decide +kernel) ⟨_, rfl, ?_⟩
    refine zw_if_eq_t 21 f157_9 (by decide +kernel) (by decide +kernel) ?_
    refine zw_ldc (-1000000) 23 f157_21 rfl (by decide +kernel) ?_
    refine zw_ireturn f157_23 r157 u157 ?_
    exact ⟨_, _, _, _, rfl, (KQ.wk K_r fR_Qu pR_Qu), ⟨((K_r.1 52 22 rfl).trans hi.1), ((K_r.1 52 41 rfl).trans hi.2.1), t, by omega, ((K_r.1 52 29 rfl).trans et)⟩, _, rfl⟩
  · refine zw_iload_n 6 f120_5 rfl rfl ?_
    refine zw_iload_n 7 f120_6 rfl rfl ?_
    refine zw_ic_gt 10 14 f120_7 (by decide +kernel) rfl (fun hc2 => ?_) (fun hc2 => ?_)
    · refine zw_iconst 0 15 f120_14 rfl (by decide +kernel) ?_
      refine zw_zreturn f120_15 r120 u120 (by decide +kernel) ⟨_, rfl, ?_⟩
      refine zw_zreturn f123_11 r123 u123 (by decide +kernel) ⟨_, rfl, ?_⟩
      refine zw_if_eq_t 21 f157_9 (by decide +kernel) (by decide +kernel) ?_
      refine zw_ldc (-1000000) 23 f157_21 rfl (by decide +kernel) ?_
      refine zw_ireturn f157_23 r157 u157 ?_
      exact ⟨_, _, _, _, rfl, (KQ.wk K_r fR_Qu pR_Qu), ⟨((K_r.1 52 22 rfl).trans hi.1), ((K_r.1 52 41 rfl).trans hi.2.1), t, by omega, ((K_r.1 52 29 rfl).trans et)⟩, _, rfl⟩
    · refine zw_iconst 1 11 f120_10 rfl (by decide +kernel) ?_
      refine zw_goto 15 f120_11 (by decide +kernel) ?_
      refine zw_zreturn f120_15 r120 u120 (by decide +kernel) ⟨_, rfl, ?_⟩
      refine zw_zreturn f123_11 r123 u123 (by decide +kernel) ⟨_, rfl, ?_⟩
      refine zw_if_eq_f 12 21 f157_9 (by decide +kernel) rfl (by decide +kernel) ?_
      refine zw_aload_n 13 f157_12 rfl rfl ?_
      refine zw_getfield 16 f157_13 rfl g157_80_12 (hb_52 _ _ _ _) rfl ?_
      refine zw_iload_n 17 f157_16 rfl rfl ?_
      refine zw_iaload a.toNatClampNeg (A_r 73 a.toNatClampNeg) 18 f157_17 rfl (hb_73 _ _ _ _) rfl hc1 (zix (by decide) hc1 (show ¬ 8 ≤ a from ix_le hp.1 (by decide) (by decide) hc1 hc2)) rfl ?_
      refine zw_goto 23 f157_18 (by decide +kernel) ?_
      refine zw_ireturn f157_23 r157 u157 ?_
      exact ⟨_, _, _, _, rfl, (KQ.wk K_r fR_Qu pR_Qu), ⟨((K_r.1 52 22 rfl).trans hi.1), ((K_r.1 52 41 rfl).trans hi.2.1), t, by omega, ((K_r.1 52 29 rfl).trans et)⟩, _, rfl⟩
set_option maxRecDepth 100000 in
set_option maxHeartbeats 0 in
theorem mq_flow (ro : UInt32 → Nat × (Nat → Int32)) (nv np : Nat) (W : qW) (L : qLog) (I : Nat → Nat → Int32) (G : Nat → Nat → Int64) (A : Nat → Nat → Int32) (B : Nat → Nat → Int64) (K : Int) (hR : mRS nv np A W L I G A B) (hp : MPa nv np A) (hW : wInv nv 10000 K A W) (hn : L.1 < 900000000) (hg : qLG L) (hi : mId I) (a : Int32) : zWp ro 158 0 [(0, .ref 52), (1, .int a)] [] (hS I G A B) 0 0 (fun r h1 => ∃ I2 G2 A2 B2, h1 = hS I2 G2 A2 B2 ∧ KQ fQu pQu I G A B I2 G2 A2 B2 ∧ mId I2 ∧ ∃ v : Int32, r = some (.int v)) := by
  have h8 := hp.1
  have h14 := hp.2.1
  obtain ⟨t, ht, et⟩ := hi.2.2
  refine zw_aload_n 1 f158_0 rfl rfl ?_
  refine zw_virtual_v 4 0 0 [.ref 52] [(0, .ref 52)] f158_1 rfl n158_151 k158_151_12 rfl (hb_52 _ _ _ _) (by decide +kernel) (Nat.le_of_ble_eq_true rfl) rfl rfl (by decide +kernel) (by decide +kernel) rfl (Nat.le_of_ble_eq_true rfl) rfl ?_
  refine zWp.mono (mm_rates ro nv np _ _ _ _ (hR.mp hp) (hR.mb hW.2.1)) ?_
  rintro r h1 ⟨I_r, G_r, A_r, B_r, rfl, K_r, hr, rfl⟩
  refine ⟨rfl, ?_⟩
  refine zw_aload_n 5 f158_4 rfl rfl ?_
  refine zw_iload_n 6 f158_5 rfl rfl ?_
  refine zw_virtual_i 9 0 0 [.ref 52, .int a] [(0, .ref 52), (1, .int a)] f158_6 rfl n158_218 k158_218_12 rfl (hb_52 _ _ _ _) (by decide +kernel) (Nat.le_of_ble_eq_true rfl) rfl rfl (by decide +kernel) (by decide +kernel) rfl (Nat.le_of_ble_eq_true rfl) rfl ?_
  refine zw_iload_n 1 f124_0 rfl rfl ?_
  refine zw_iconst 0 2 f124_1 rfl (by decide +kernel) ?_
  refine zw_aload_n 3 f124_2 rfl rfl ?_
  refine zw_getI (nI np) 6 f124_3 rfl g124_121_12 (hb_52 _ _ _ _) rfl ((K_r.1 52 8 rfl).trans hR.1.2) ?_
  refine zw_iconst 1 7 f124_6 rfl (by decide +kernel) ?_
  refine zw_isub ((nI np) - 1) 8 f124_7 rfl rfl ?_
  refine zw_static_i 11 0 0 [.int a, .int 0, .int ((nI np) - 1)] [] [(0, .int a), (1, .int 0), (2, .int ((nI np) - 1))] f124_8 rfl k124_117_99 rfl (by decide +kernel) (Nat.le_of_ble_eq_true rfl) (Nat.le_of_ble_eq_true rfl) rfl rfl (by decide +kernel) (by decide +kernel) rfl (Nat.le_of_ble_eq_true rfl) rfl ?_
  refine zw_iload_n 1 f120_0 rfl rfl ?_
  refine zw_iload_n 2 f120_1 rfl rfl ?_
  refine zw_ic_lt 5 14 f120_2 (by decide +kernel) rfl (fun hc1 => ?_) (fun hc1 => ?_)
  · refine zw_iconst 0 15 f120_14 rfl (by decide +kernel) ?_
    refine zw_zreturn f120_15 r120 u120 (by decide +kernel) ⟨_, rfl, ?_⟩
    refine zw_zreturn f124_11 r124 u124 (by decide +kernel) ⟨_, rfl, ?_⟩
    refine zw_if_eq_t 21 f158_9 (by decide +kernel) (by decide +kernel) ?_
    refine zw_iconst (-1) 22 f158_21 rfl (by decide +kernel) ?_
    refine zw_ireturn f158_22 r158 u158 ?_
    exact ⟨_, _, _, _, rfl, (KQ.wk K_r fR_Qu pR_Qu), ⟨((K_r.1 52 22 rfl).trans hi.1), ((K_r.1 52 41 rfl).trans hi.2.1), t, by omega, ((K_r.1 52 29 rfl).trans et)⟩, _, rfl⟩
  · refine zw_iload_n 6 f120_5 rfl rfl ?_
    refine zw_iload_n 7 f120_6 rfl rfl ?_
    refine zw_ic_gt 10 14 f120_7 (by decide +kernel) rfl (fun hc2 => ?_) (fun hc2 => ?_)
    · refine zw_iconst 0 15 f120_14 rfl (by decide +kernel) ?_
      refine zw_zreturn f120_15 r120 u120 (by decide +kernel) ⟨_, rfl, ?_⟩
      refine zw_zreturn f124_11 r124 u124 (by decide +kernel) ⟨_, rfl, ?_⟩
      refine zw_if_eq_t 21 f158_9 (by decide +kernel) (by decide +kernel) ?_
      refine zw_iconst (-1) 22 f158_21 rfl (by decide +kernel) ?_
      refine zw_ireturn f158_22 r158 u158 ?_
      exact ⟨_, _, _, _, rfl, (KQ.wk K_r fR_Qu pR_Qu), ⟨((K_r.1 52 22 rfl).trans hi.1), ((K_r.1 52 41 rfl).trans hi.2.1), t, by omega, ((K_r.1 52 29 rfl).trans et)⟩, _, rfl⟩
    · refine zw_iconst 1 11 f120_10 rfl (by decide +kernel) ?_
      refine zw_goto 15 f120_11 (by decide +kernel) ?_
      refine zw_zreturn f120_15 r120 u120 (by decide +kernel) ⟨_, rfl, ?_⟩
      refine zw_zreturn f124_11 r124 u124 (by decide +kernel) ⟨_, rfl, ?_⟩
      refine zw_if_eq_f 12 21 f158_9 (by decide +kernel) rfl (by decide +kernel) ?_
      refine zw_aload_n 13 f158_12 rfl rfl ?_
      refine zw_getfield 16 f158_13 rfl g158_86_12 (hb_52 _ _ _ _) rfl ?_
      refine zw_iload_n 17 f158_16 rfl rfl ?_
      refine zw_iaload a.toNatClampNeg (A_r 75 a.toNatClampNeg) 18 f158_17 rfl (hb_75 _ _ _ _) rfl hc1 (zix (by decide) hc1 (show ¬ 14 ≤ a from ix_le hp.2.1 (by decide) (by decide) hc1 hc2)) rfl ?_
      refine zw_goto 22 f158_18 (by decide +kernel) ?_
      refine zw_ireturn f158_22 r158 u158 ?_
      exact ⟨_, _, _, _, rfl, (KQ.wk K_r fR_Qu pR_Qu), ⟨((K_r.1 52 22 rfl).trans hi.1), ((K_r.1 52 41 rfl).trans hi.2.1), t, by omega, ((K_r.1 52 29 rfl).trans et)⟩, _, rfl⟩
set_option maxRecDepth 100000 in
set_option maxHeartbeats 0 in
theorem mq_flood (ro : UInt32 → Nat × (Nat → Int32)) (nv np : Nat) (W : qW) (L : qLog) (I : Nat → Nat → Int32) (G : Nat → Nat → Int64) (A : Nat → Nat → Int32) (B : Nat → Nat → Int64) (K : Int) (hR : mRS nv np A W L I G A B) (hp : MPa nv np A) (hW : wInv nv 10000 K A W) (hn : L.1 < 900000000) (hg : qLG L) (hi : mId I) (a : Int32) : zWp ro 159 0 [(0, .ref 52), (1, .int a)] [] (hS I G A B) 0 0 (fun r h1 => ∃ I2 G2 A2 B2, h1 = hS I2 G2 A2 B2 ∧ KQ fQu pQu I G A B I2 G2 A2 B2 ∧ mId I2 ∧ ∃ v : Int32, r = some (.int v)) := by
  have h8 := hp.1
  have h14 := hp.2.1
  obtain ⟨t, ht, et⟩ := hi.2.2
  refine zw_aload_n 1 f159_0 rfl rfl ?_
  refine zw_virtual_v 4 0 0 [.ref 52] [(0, .ref 52)] f159_1 rfl n159_151 k159_151_12 rfl (hb_52 _ _ _ _) (by decide +kernel) (Nat.le_of_ble_eq_true rfl) rfl rfl (by decide +kernel) (by decide +kernel) rfl (Nat.le_of_ble_eq_true rfl) rfl ?_
  refine zWp.mono (mm_rates ro nv np _ _ _ _ (hR.mp hp) (hR.mb hW.2.1)) ?_
  rintro r h1 ⟨I_r, G_r, A_r, B_r, rfl, K_r, hr, rfl⟩
  refine ⟨rfl, ?_⟩
  refine zw_aload_n 5 f159_4 rfl rfl ?_
  refine zw_iload_n 6 f159_5 rfl rfl ?_
  refine zw_virtual_i 9 0 0 [.ref 52, .int a] [(0, .ref 52), (1, .int a)] f159_6 rfl n159_215 k159_215_12 rfl (hb_52 _ _ _ _) (by decide +kernel) (Nat.le_of_ble_eq_true rfl) rfl rfl (by decide +kernel) (by decide +kernel) rfl (Nat.le_of_ble_eq_true rfl) rfl ?_
  refine zw_iload_n 1 f123_0 rfl rfl ?_
  refine zw_iconst 0 2 f123_1 rfl (by decide +kernel) ?_
  refine zw_aload_n 3 f123_2 rfl rfl ?_
  refine zw_getI (nI nv) 6 f123_3 rfl g123_114_12 (hb_52 _ _ _ _) rfl ((K_r.1 52 0 rfl).trans hR.1.1) ?_
  refine zw_iconst 1 7 f123_6 rfl (by decide +kernel) ?_
  refine zw_isub ((nI nv) - 1) 8 f123_7 rfl rfl ?_
  refine zw_static_i 11 0 0 [.int a, .int 0, .int ((nI nv) - 1)] [] [(0, .int a), (1, .int 0), (2, .int ((nI nv) - 1))] f123_8 rfl k123_117_99 rfl (by decide +kernel) (Nat.le_of_ble_eq_true rfl) (Nat.le_of_ble_eq_true rfl) rfl rfl (by decide +kernel) (by decide +kernel) rfl (Nat.le_of_ble_eq_true rfl) rfl ?_
  refine zw_iload_n 1 f120_0 rfl rfl ?_
  refine zw_iload_n 2 f120_1 rfl rfl ?_
  refine zw_ic_lt 5 14 f120_2 (by decide +kernel) rfl (fun hc1 => ?_) (fun hc1 => ?_)
  · refine zw_iconst 0 15 f120_14 rfl (by decide +kernel) ?_
    refine zw_zreturn f120_15 r120 u120 (by decide +kernel) ⟨_, rfl, ?_⟩
    refine zw_zreturn f123_11 r123 u123 (by decide +kernel) ⟨_, rfl, ?_⟩
    refine zw_if_eq_t 21 f159_9 (by decide +kernel) (by decide +kernel) ?_
    refine zw_iconst (-1) 22 f159_21 rfl (by decide +kernel) ?_
    refine zw_ireturn f159_22 r159 u159 ?_
    exact ⟨_, _, _, _, rfl, (KQ.wk K_r fR_Qu pR_Qu), ⟨((K_r.1 52 22 rfl).trans hi.1), ((K_r.1 52 41 rfl).trans hi.2.1), t, by omega, ((K_r.1 52 29 rfl).trans et)⟩, _, rfl⟩
  · refine zw_iload_n 6 f120_5 rfl rfl ?_
    refine zw_iload_n 7 f120_6 rfl rfl ?_
    refine zw_ic_gt 10 14 f120_7 (by decide +kernel) rfl (fun hc2 => ?_) (fun hc2 => ?_)
    · refine zw_iconst 0 15 f120_14 rfl (by decide +kernel) ?_
      refine zw_zreturn f120_15 r120 u120 (by decide +kernel) ⟨_, rfl, ?_⟩
      refine zw_zreturn f123_11 r123 u123 (by decide +kernel) ⟨_, rfl, ?_⟩
      refine zw_if_eq_t 21 f159_9 (by decide +kernel) (by decide +kernel) ?_
      refine zw_iconst (-1) 22 f159_21 rfl (by decide +kernel) ?_
      refine zw_ireturn f159_22 r159 u159 ?_
      exact ⟨_, _, _, _, rfl, (KQ.wk K_r fR_Qu pR_Qu), ⟨((K_r.1 52 22 rfl).trans hi.1), ((K_r.1 52 41 rfl).trans hi.2.1), t, by omega, ((K_r.1 52 29 rfl).trans et)⟩, _, rfl⟩
    · refine zw_iconst 1 11 f120_10 rfl (by decide +kernel) ?_
      refine zw_goto 15 f120_11 (by decide +kernel) ?_
      refine zw_zreturn f120_15 r120 u120 (by decide +kernel) ⟨_, rfl, ?_⟩
      refine zw_zreturn f123_11 r123 u123 (by decide +kernel) ⟨_, rfl, ?_⟩
      refine zw_if_eq_f 12 21 f159_9 (by decide +kernel) rfl (by decide +kernel) ?_
      refine zw_aload_n 13 f159_12 rfl rfl ?_
      refine zw_getfield 16 f159_13 rfl g159_83_12 (hb_52 _ _ _ _) rfl ?_
      refine zw_iload_n 17 f159_16 rfl rfl ?_
      refine zw_iaload a.toNatClampNeg (A_r 74 a.toNatClampNeg) 18 f159_17 rfl (hb_74 _ _ _ _) rfl hc1 (zix (by decide) hc1 (show ¬ 8 ≤ a from ix_le hp.1 (by decide) (by decide) hc1 hc2)) rfl ?_
      refine zw_goto 22 f159_18 (by decide +kernel) ?_
      refine zw_ireturn f159_22 r159 u159 ?_
      exact ⟨_, _, _, _, rfl, (KQ.wk K_r fR_Qu pR_Qu), ⟨((K_r.1 52 22 rfl).trans hi.1), ((K_r.1 52 41 rfl).trans hi.2.1), t, by omega, ((K_r.1 52 29 rfl).trans et)⟩, _, rfl⟩
set_option maxRecDepth 100000 in
set_option maxHeartbeats 0 in
theorem mq_told (ro : UInt32 → Nat × (Nat → Int32)) (nv np : Nat) (W : qW) (L : qLog) (I : Nat → Nat → Int32) (G : Nat → Nat → Int64) (A : Nat → Nat → Int32) (B : Nat → Nat → Int64) (K : Int) (hR : mRS nv np A W L I G A B) (hp : MPa nv np A) (hW : wInv nv 10000 K A W) (hn : L.1 < 900000000) (hg : qLG L) (hi : mId I) (a : Int32) (b : Int32) : zWp ro 160 0 [(0, .ref 52), (1, .int a), (2, .int b)] [] (hS I G A B) 0 0 (fun r h1 => ∃ I2 G2 A2 B2, h1 = hS I2 G2 A2 B2 ∧ KQ fQu pQu I G A B I2 G2 A2 B2 ∧ mId I2 ∧ ∃ v : Int32, r = some (.int v)) := by
  have h8 := hp.1
  have h14 := hp.2.1
  obtain ⟨t, ht, et⟩ := hi.2.2
  refine zw_aload_n 1 f160_0 rfl rfl ?_
  refine zw_iload_n 2 f160_1 rfl rfl ?_
  refine zw_virtual_i 5 0 0 [.ref 52, .int a] [(0, .ref 52), (1, .int a)] f160_2 rfl n160_215 k160_215_12 rfl (hb_52 _ _ _ _) (by decide +kernel) (Nat.le_of_ble_eq_true rfl) rfl rfl (by decide +kernel) (by decide +kernel) rfl (Nat.le_of_ble_eq_true rfl) rfl ?_
  refine zw_iload_n 1 f123_0 rfl rfl ?_
  refine zw_iconst 0 2 f123_1 rfl (by decide +kernel) ?_
  refine zw_aload_n 3 f123_2 rfl rfl ?_
  refine zw_getI (nI nv) 6 f123_3 rfl g123_114_12 (hb_52 _ _ _ _) rfl hR.1.1 ?_
  refine zw_iconst 1 7 f123_6 rfl (by decide +kernel) ?_
  refine zw_isub ((nI nv) - 1) 8 f123_7 rfl rfl ?_
  refine zw_static_i 11 0 0 [.int a, .int 0, .int ((nI nv) - 1)] [] [(0, .int a), (1, .int 0), (2, .int ((nI nv) - 1))] f123_8 rfl k123_117_99 rfl (by decide +kernel) (Nat.le_of_ble_eq_true rfl) (Nat.le_of_ble_eq_true rfl) rfl rfl (by decide +kernel) (by decide +kernel) rfl (Nat.le_of_ble_eq_true rfl) rfl ?_
  refine zw_iload_n 1 f120_0 rfl rfl ?_
  refine zw_iload_n 2 f120_1 rfl rfl ?_
  refine zw_ic_lt 5 14 f120_2 (by decide +kernel) rfl (fun hc1 => ?_) (fun hc1 => ?_)
  · refine zw_iconst 0 15 f120_14 rfl (by decide +kernel) ?_
    refine zw_zreturn f120_15 r120 u120 (by decide +kernel) ⟨_, rfl, ?_⟩
    refine zw_zreturn f123_11 r123 u123 (by decide +kernel) ⟨_, rfl, ?_⟩
    refine zw_if_ne_f 8 10 f160_5 (by decide +kernel) rfl (by decide +kernel) ?_
    refine zw_iconst (-1) 9 f160_8 rfl (by decide +kernel) ?_
    refine zw_ireturn f160_9 r160 u160 ?_
    exact ⟨_, _, _, _, rfl, KQ.rf, ⟨hi.1, hi.2.1, t, by omega, et⟩, _, rfl⟩
  · refine zw_iload_n 6 f120_5 rfl rfl ?_
    refine zw_iload_n 7 f120_6 rfl rfl ?_
    refine zw_ic_gt 10 14 f120_7 (by decide +kernel) rfl (fun hc2 => ?_) (fun hc2 => ?_)
    · refine zw_iconst 0 15 f120_14 rfl (by decide +kernel) ?_
      refine zw_zreturn f120_15 r120 u120 (by decide +kernel) ⟨_, rfl, ?_⟩
      refine zw_zreturn f123_11 r123 u123 (by decide +kernel) ⟨_, rfl, ?_⟩
      refine zw_if_ne_f 8 10 f160_5 (by decide +kernel) rfl (by decide +kernel) ?_
      refine zw_iconst (-1) 9 f160_8 rfl (by decide +kernel) ?_
      refine zw_ireturn f160_9 r160 u160 ?_
      exact ⟨_, _, _, _, rfl, KQ.rf, ⟨hi.1, hi.2.1, t, by omega, et⟩, _, rfl⟩
    · refine zw_iconst 1 11 f120_10 rfl (by decide +kernel) ?_
      refine zw_goto 15 f120_11 (by decide +kernel) ?_
      refine zw_zreturn f120_15 r120 u120 (by decide +kernel) ⟨_, rfl, ?_⟩
      refine zw_zreturn f123_11 r123 u123 (by decide +kernel) ⟨_, rfl, ?_⟩
      refine zw_if_ne_t 10 f160_5 (by decide +kernel) (by decide +kernel) ?_
      refine zw_aload_n 11 f160_10 rfl rfl ?_
      refine zw_getfield 14 f160_11 rfl g160_7_12 (hb_52 _ _ _ _) rfl ?_
      refine zw_iload_n 15 f160_14 rfl rfl ?_
      refine zw_iaload a.toNatClampNeg (A 53 a.toNatClampNeg) 16 f160_15 rfl (hb_53 _ _ _ _) rfl hc1 (zix (by decide) hc1 (show ¬ 8 ≤ a from ix_le hp.1 (by decide) (by decide) hc1 hc2)) rfl ?_
      refine zw_istore_n _ 17 f160_16 rfl (by decide +kernel) rfl ?_
      refine zw_iload_n 18 f160_17 rfl (zl1_ne rfl rfl rfl) ?_
      rcases zl_sw 8 (by decide) b with hs3 | ⟨hs3k, hs3l, hs3e⟩
      · refine zw_table_o 177 f160_18 hs3 (by decide +kernel) ?_
        refine zw_iconst (-1) 178 f160_177 rfl (by decide +kernel) ?_
        refine zw_ireturn f160_178 r160 u160 ?_
        exact ⟨_, _, _, _, rfl, KQ.rf, ⟨hi.1, hi.2.1, t, by omega, et⟩, _, rfl⟩
      · rcases (show hs3k = 0 ∨ hs3k = 1 ∨ hs3k = 2 ∨ hs3k = 3 ∨ hs3k = 4 ∨ hs3k = 5 ∨ hs3k = 6 ∨ hs3k = 7 ∨ hs3k = 8 by omega) with rfl | rfl | rfl | rfl | rfl | rfl | rfl | rfl | rfl
        · refine zw_table_k 50 68 f160_18 hs3e (by decide +kernel) (by decide +kernel) (by decide +kernel) ?_
          refine zw_iload_n 69 f160_68 rfl zl1_eq ?_
          refine zw_ireturn f160_69 r160 u160 ?_
          exact ⟨_, _, _, _, rfl, KQ.rf, ⟨hi.1, hi.2.1, t, by omega, et⟩, _, rfl⟩
        · refine zw_table_k 52 70 f160_18 hs3e (by decide +kernel) (by decide +kernel) (by decide +kernel) ?_
          refine zw_aload_n 71 f160_70 rfl (zl1_ne rfl rfl rfl) ?_
          refine zw_getfield 74 f160_71 rfl g160_13_12 (hb_52 _ _ _ _) rfl ?_
          refine zw_iload_n 75 f160_74 rfl (zl1_ne rfl rfl rfl) ?_
          refine zw_iaload a.toNatClampNeg (A 54 a.toNatClampNeg) 76 f160_75 rfl (hb_54 _ _ _ _) rfl hc1 (zix (by decide) hc1 (show ¬ 8 ≤ a from ix_le hp.1 (by decide) (by decide) hc1 hc2)) rfl ?_
          refine zw_ireturn f160_76 r160 u160 ?_
          exact ⟨_, _, _, _, rfl, KQ.rf, ⟨hi.1, hi.2.1, t, by omega, et⟩, _, rfl⟩
        · refine zw_table_k 59 77 f160_18 hs3e (by decide +kernel) (by decide +kernel) (by decide +kernel) ?_
          refine zw_iload_n 78 f160_77 rfl zl1_eq ?_
          refine zw_if_eq 81 86 f160_78 (by decide +kernel) rfl (fun hc4 => ?_) (fun hc4 => ?_)
          · refine zw_iconst (-1) 87 f160_86 rfl (by decide +kernel) ?_
            refine zw_goto 96 f160_87 (by decide +kernel) ?_
            refine zw_ireturn f160_96 r160 u160 ?_
            exact ⟨_, _, _, _, rfl, KQ.rf, ⟨hi.1, hi.2.1, t, by omega, et⟩, _, rfl⟩
          · refine zw_iload_n 82 f160_81 rfl zl1_eq ?_
            refine zw_iconst 2 83 f160_82 rfl (by decide +kernel) ?_
            refine zw_ic_ne 86 90 f160_83 (by decide +kernel) rfl (fun hc5 => ?_) (fun hc5 => ?_)
            · refine zw_aload_n 91 f160_90 rfl (zl1_ne rfl rfl rfl) ?_
              refine zw_getfield 94 f160_91 rfl g160_16_12 (hb_52 _ _ _ _) rfl ?_
              refine zw_iload_n 95 f160_94 rfl (zl1_ne rfl rfl rfl) ?_
              refine zw_iaload a.toNatClampNeg (A 55 a.toNatClampNeg) 96 f160_95 rfl (hb_55 _ _ _ _) rfl hc1 (zix (by decide) hc1 (show ¬ 8 ≤ a from ix_le hp.1 (by decide) (by decide) hc1 hc2)) rfl ?_
              refine zw_ireturn f160_96 r160 u160 ?_
              exact ⟨_, _, _, _, rfl, KQ.rf, ⟨hi.1, hi.2.1, t, by omega, et⟩, _, rfl⟩
            · refine zw_iconst (-1) 87 f160_86 rfl (by decide +kernel) ?_
              refine zw_goto 96 f160_87 (by decide +kernel) ?_
              refine zw_ireturn f160_96 r160 u160 ?_
              exact ⟨_, _, _, _, rfl, KQ.rf, ⟨hi.1, hi.2.1, t, by omega, et⟩, _, rfl⟩
        · refine zw_table_k 79 97 f160_18 hs3e (by decide +kernel) (by decide +kernel) (by decide +kernel) ?_
          refine zw_aload_n 98 f160_97 rfl (zl1_ne rfl rfl rfl) ?_
          refine zw_iload_n 99 f160_98 rfl (zl1_ne rfl rfl rfl) ?_
          refine zw_virtual_i 102 0 0 [.ref 52, .int a] [(0, .ref 52), (1, .int a)] f160_99 rfl n160_158 k160_158_12 rfl (hb_52 _ _ _ _) (by decide +kernel) (Nat.le_of_ble_eq_true rfl) rfl rfl (by decide +kernel) (by decide +kernel) rfl (Nat.le_of_ble_eq_true rfl) rfl ?_
          refine zw_aload_n 1 f126_0 rfl rfl ?_
          refine zw_getfield 4 f126_1 rfl g126_7_12 (hb_52 _ _ _ _) rfl ?_
          refine zw_iload_n 5 f126_4 rfl rfl ?_
          refine zw_iaload a.toNatClampNeg (A 53 a.toNatClampNeg) 6 f126_5 rfl (hb_53 _ _ _ _) rfl hc1 (zix (by decide) hc1 (show ¬ 8 ≤ a from ix_le hp.1 (by decide) (by decide) hc1 hc2)) rfl ?_
          refine zw_iconst 3 7 f126_6 rfl (by decide +kernel) ?_
          refine zw_ic_eq 10 20 f126_7 (by decide +kernel) rfl (fun hc6 => ?_) (fun hc6 => ?_)
          · refine zw_iconst 1 21 f126_20 rfl (by decide +kernel) ?_
            refine zw_goto 25 f126_21 (by decide +kernel) ?_
            refine zw_zreturn f126_25 r126 u126 (by decide +kernel) ⟨_, rfl, ?_⟩
            refine zw_if_eq_f 105 114 f160_102 (by decide +kernel) rfl (by decide +kernel) ?_
            refine zw_aload_n 106 f160_105 rfl (zl1_ne rfl rfl rfl) ?_
            refine zw_getfield 109 f160_106 rfl g160_19_12 (hb_52 _ _ _ _) rfl ?_
            refine zw_iload_n 110 f160_109 rfl (zl1_ne rfl rfl rfl) ?_
            refine zw_iaload a.toNatClampNeg (A 56 a.toNatClampNeg) 111 f160_110 rfl (hb_56 _ _ _ _) rfl hc1 (zix (by decide) hc1 (show ¬ 8 ≤ a from ix_le hp.1 (by decide) (by decide) hc1 hc2)) rfl ?_
            refine zw_goto 115 f160_111 (by decide +kernel) ?_
            refine zw_ireturn f160_115 r160 u160 ?_
            exact ⟨_, _, _, _, rfl, KQ.rf, ⟨hi.1, hi.2.1, t, by omega, et⟩, _, rfl⟩
          · refine zw_aload_n 11 f126_10 rfl rfl ?_
            refine zw_getfield 14 f126_11 rfl g126_7_12 (hb_52 _ _ _ _) rfl ?_
            refine zw_iload_n 15 f126_14 rfl rfl ?_
            refine zw_iaload a.toNatClampNeg (A 53 a.toNatClampNeg) 16 f126_15 rfl (hb_53 _ _ _ _) rfl hc1 (zix (by decide) hc1 (show ¬ 8 ≤ a from ix_le hp.1 (by decide) (by decide) hc1 hc2)) rfl ?_
            refine zw_iconst 4 17 f126_16 rfl (by decide +kernel) ?_
            refine zw_ic_ne 20 24 f126_17 (by decide +kernel) rfl (fun hc7 => ?_) (fun hc7 => ?_)
            · refine zw_iconst 0 25 f126_24 rfl (by decide +kernel) ?_
              refine zw_zreturn f126_25 r126 u126 (by decide +kernel) ⟨_, rfl, ?_⟩
              refine zw_if_eq_t 114 f160_102 (by decide +kernel) (by decide +kernel) ?_
              refine zw_iconst (-1) 115 f160_114 rfl (by decide +kernel) ?_
              refine zw_ireturn f160_115 r160 u160 ?_
              exact ⟨_, _, _, _, rfl, KQ.rf, ⟨hi.1, hi.2.1, t, by omega, et⟩, _, rfl⟩
            · refine zw_iconst 1 21 f126_20 rfl (by decide +kernel) ?_
              refine zw_goto 25 f126_21 (by decide +kernel) ?_
              refine zw_zreturn f126_25 r126 u126 (by decide +kernel) ⟨_, rfl, ?_⟩
              refine zw_if_eq_f 105 114 f160_102 (by decide +kernel) rfl (by decide +kernel) ?_
              refine zw_aload_n 106 f160_105 rfl (zl1_ne rfl rfl rfl) ?_
              refine zw_getfield 109 f160_106 rfl g160_19_12 (hb_52 _ _ _ _) rfl ?_
              refine zw_iload_n 110 f160_109 rfl (zl1_ne rfl rfl rfl) ?_
              refine zw_iaload a.toNatClampNeg (A 56 a.toNatClampNeg) 111 f160_110 rfl (hb_56 _ _ _ _) rfl hc1 (zix (by decide) hc1 (show ¬ 8 ≤ a from ix_le hp.1 (by decide) (by decide) hc1 hc2)) rfl ?_
              refine zw_goto 115 f160_111 (by decide +kernel) ?_
              refine zw_ireturn f160_115 r160 u160 ?_
              exact ⟨_, _, _, _, rfl, KQ.rf, ⟨hi.1, hi.2.1, t, by omega, et⟩, _, rfl⟩
        · refine zw_table_k 98 116 f160_18 hs3e (by decide +kernel) (by decide +kernel) (by decide +kernel) ?_
          refine zw_aload_n 117 f160_116 rfl (zl1_ne rfl rfl rfl) ?_
          refine zw_getfield 120 f160_117 rfl g160_22_12 (hb_52 _ _ _ _) rfl ?_
          refine zw_iload_n 121 f160_120 rfl (zl1_ne rfl rfl rfl) ?_
          refine zw_iaload a.toNatClampNeg (A 57 a.toNatClampNeg) 122 f160_121 rfl (hb_57 _ _ _ _) rfl hc1 (zix (by decide) hc1 (show ¬ 8 ≤ a from ix_le hp.1 (by decide) (by decide) hc1 hc2)) rfl ?_
          refine zw_ireturn f160_122 r160 u160 ?_
          exact ⟨_, _, _, _, rfl, KQ.rf, ⟨hi.1, hi.2.1, t, by omega, et⟩, _, rfl⟩
        · refine zw_table_k 105 123 f160_18 hs3e (by decide +kernel) (by decide +kernel) (by decide +kernel) ?_
          refine zw_aload_n 124 f160_123 rfl (zl1_ne rfl rfl rfl) ?_
          refine zw_getfield 127 f160_124 rfl g160_25_12 (hb_52 _ _ _ _) rfl ?_
          refine zw_iload_n 128 f160_127 rfl (zl1_ne rfl rfl rfl) ?_
          refine zw_iaload a.toNatClampNeg (A 58 a.toNatClampNeg) 129 f160_128 rfl (hb_58 _ _ _ _) rfl hc1 (zix (by decide) hc1 (show ¬ 8 ≤ a from ix_le hp.1 (by decide) (by decide) hc1 hc2)) rfl ?_
          refine zw_ireturn f160_129 r160 u160 ?_
          exact ⟨_, _, _, _, rfl, KQ.rf, ⟨hi.1, hi.2.1, t, by omega, et⟩, _, rfl⟩
        · refine zw_table_k 112 130 f160_18 hs3e (by decide +kernel) (by decide +kernel) (by decide +kernel) ?_
          refine zw_aload_n 131 f160_130 rfl (zl1_ne rfl rfl rfl) ?_
          refine zw_getfield 134 f160_131 rfl g160_28_12 (hb_52 _ _ _ _) rfl ?_
          refine zw_iload_n 135 f160_134 rfl (zl1_ne rfl rfl rfl) ?_
          refine zw_iaload a.toNatClampNeg (A 59 a.toNatClampNeg) 136 f160_135 rfl (hb_59 _ _ _ _) rfl hc1 (zix (by decide) hc1 (show ¬ 8 ≤ a from ix_le hp.1 (by decide) (by decide) hc1 hc2)) rfl ?_
          refine zw_ireturn f160_136 r160 u160 ?_
          exact ⟨_, _, _, _, rfl, KQ.rf, ⟨hi.1, hi.2.1, t, by omega, et⟩, _, rfl⟩
        · refine zw_table_k 119 137 f160_18 hs3e (by decide +kernel) (by decide +kernel) (by decide +kernel) ?_
          refine zw_iload_n 138 f160_137 rfl zl1_eq ?_
          refine zw_iconst 1 139 f160_138 rfl (by decide +kernel) ?_
          refine zw_ic_eq 142 146 f160_139 (by decide +kernel) rfl (fun hc8 => ?_) (fun hc8 => ?_)
          · refine zw_aload_n 147 f160_146 rfl (zl1_ne rfl rfl rfl) ?_
            refine zw_getfield 150 f160_147 rfl g160_52_12 (hb_52 _ _ _ _) rfl ?_
            refine zw_iload_n 151 f160_150 rfl (zl1_ne rfl rfl rfl) ?_
            refine zw_baload a.toNatClampNeg ((W.2.2.2.2.2.1) a.toNatClampNeg) 152 f160_151 rfl (hb_65 _ _ _ _) rfl hc1 (zix (by decide) hc1 (show ¬ 8 ≤ a from ix_le hp.1 (by decide) (by decide) hc1 hc2)) (congrFun (hR.sip) a.toNatClampNeg) ?_
            refine zw_if_eq 155 159 f160_152 (by decide +kernel) rfl (fun hc9 => ?_) (fun hc9 => ?_)
            · refine zw_iconst 0 160 f160_159 rfl (by decide +kernel) ?_
              refine zw_ireturn f160_160 r160 u160 ?_
              exact ⟨_, _, _, _, rfl, KQ.rf, ⟨hi.1, hi.2.1, t, by omega, et⟩, _, rfl⟩
            · refine zw_iconst 1 156 f160_155 rfl (by decide +kernel) ?_
              refine zw_goto 160 f160_156 (by decide +kernel) ?_
              refine zw_ireturn f160_160 r160 u160 ?_
              exact ⟨_, _, _, _, rfl, KQ.rf, ⟨hi.1, hi.2.1, t, by omega, et⟩, _, rfl⟩
          · refine zw_iconst (-1) 143 f160_142 rfl (by decide +kernel) ?_
            refine zw_goto 160 f160_143 (by decide +kernel) ?_
            refine zw_ireturn f160_160 r160 u160 ?_
            exact ⟨_, _, _, _, rfl, KQ.rf, ⟨hi.1, hi.2.1, t, by omega, et⟩, _, rfl⟩
        · refine zw_table_k 143 161 f160_18 hs3e (by decide +kernel) (by decide +kernel) (by decide +kernel) ?_
          refine zw_iload_n 162 f160_161 rfl zl1_eq ?_
          refine zw_iconst 4 163 f160_162 rfl (by decide +kernel) ?_
          refine zw_ic_eq 166 170 f160_163 (by decide +kernel) rfl (fun hc10 => ?_) (fun hc10 => ?_)
          · refine zw_aload_n 171 f160_170 rfl (zl1_ne rfl rfl rfl) ?_
            refine zw_getfield 174 f160_171 rfl g160_55_12 (hb_52 _ _ _ _) rfl ?_
            refine zw_iload_n 175 f160_174 rfl (zl1_ne rfl rfl rfl) ?_
            refine zw_iaload a.toNatClampNeg ((W.2.2.2.2.2.2.2) a.toNatClampNeg) 176 f160_175 rfl (hb_66 _ _ _ _) rfl hc1 (zix (by decide) hc1 (show ¬ 8 ≤ a from ix_le hp.1 (by decide) (by decide) hc1 hc2)) (congrFun (hR.cnt) a.toNatClampNeg) ?_
            refine zw_ireturn f160_176 r160 u160 ?_
            exact ⟨_, _, _, _, rfl, KQ.rf, ⟨hi.1, hi.2.1, t, by omega, et⟩, _, rfl⟩
          · refine zw_iconst (-1) 167 f160_166 rfl (by decide +kernel) ?_
            refine zw_goto 176 f160_167 (by decide +kernel) ?_
            refine zw_ireturn f160_176 r160 u160 ?_
            exact ⟨_, _, _, _, rfl, KQ.rf, ⟨hi.1, hi.2.1, t, by omega, et⟩, _, rfl⟩
set_option maxRecDepth 100000 in
set_option maxHeartbeats 0 in
theorem mq_pipeTold (ro : UInt32 → Nat × (Nat → Int32)) (nv np : Nat) (W : qW) (L : qLog) (I : Nat → Nat → Int32) (G : Nat → Nat → Int64) (A : Nat → Nat → Int32) (B : Nat → Nat → Int64) (K : Int) (hR : mRS nv np A W L I G A B) (hp : MPa nv np A) (hW : wInv nv 10000 K A W) (hn : L.1 < 900000000) (hg : qLG L) (hi : mId I) (a : Int32) (b : Int32) : zWp ro 161 0 [(0, .ref 52), (1, .int a), (2, .int b)] [] (hS I G A B) 0 0 (fun r h1 => ∃ I2 G2 A2 B2, h1 = hS I2 G2 A2 B2 ∧ KQ fQu pQu I G A B I2 G2 A2 B2 ∧ mId I2 ∧ ∃ v : Int32, r = some (.int v)) := by
  have h8 := hp.1
  have h14 := hp.2.1
  obtain ⟨t, ht, et⟩ := hi.2.2
  refine zw_aload_n 1 f161_0 rfl rfl ?_
  refine zw_iload_n 2 f161_1 rfl rfl ?_
  refine zw_virtual_i 5 0 0 [.ref 52, .int a] [(0, .ref 52), (1, .int a)] f161_2 rfl n161_218 k161_218_12 rfl (hb_52 _ _ _ _) (by decide +kernel) (Nat.le_of_ble_eq_true rfl) rfl rfl (by decide +kernel) (by decide +kernel) rfl (Nat.le_of_ble_eq_true rfl) rfl ?_
  refine zw_iload_n 1 f124_0 rfl rfl ?_
  refine zw_iconst 0 2 f124_1 rfl (by decide +kernel) ?_
  refine zw_aload_n 3 f124_2 rfl rfl ?_
  refine zw_getI (nI np) 6 f124_3 rfl g124_121_12 (hb_52 _ _ _ _) rfl hR.1.2 ?_
  refine zw_iconst 1 7 f124_6 rfl (by decide +kernel) ?_
  refine zw_isub ((nI np) - 1) 8 f124_7 rfl rfl ?_
  refine zw_static_i 11 0 0 [.int a, .int 0, .int ((nI np) - 1)] [] [(0, .int a), (1, .int 0), (2, .int ((nI np) - 1))] f124_8 rfl k124_117_99 rfl (by decide +kernel) (Nat.le_of_ble_eq_true rfl) (Nat.le_of_ble_eq_true rfl) rfl rfl (by decide +kernel) (by decide +kernel) rfl (Nat.le_of_ble_eq_true rfl) rfl ?_
  refine zw_iload_n 1 f120_0 rfl rfl ?_
  refine zw_iload_n 2 f120_1 rfl rfl ?_
  refine zw_ic_lt 5 14 f120_2 (by decide +kernel) rfl (fun hc1 => ?_) (fun hc1 => ?_)
  · refine zw_iconst 0 15 f120_14 rfl (by decide +kernel) ?_
    refine zw_zreturn f120_15 r120 u120 (by decide +kernel) ⟨_, rfl, ?_⟩
    refine zw_zreturn f124_11 r124 u124 (by decide +kernel) ⟨_, rfl, ?_⟩
    refine zw_if_ne_f 8 11 f161_5 (by decide +kernel) rfl (by decide +kernel) ?_
    refine zw_bipush (-2) 10 f161_8 rfl (by decide +kernel) ?_
    refine zw_ireturn f161_10 r161 u161 ?_
    exact ⟨_, _, _, _, rfl, KQ.rf, ⟨hi.1, hi.2.1, t, by omega, et⟩, _, rfl⟩
  · refine zw_iload_n 6 f120_5 rfl rfl ?_
    refine zw_iload_n 7 f120_6 rfl rfl ?_
    refine zw_ic_gt 10 14 f120_7 (by decide +kernel) rfl (fun hc2 => ?_) (fun hc2 => ?_)
    · refine zw_iconst 0 15 f120_14 rfl (by decide +kernel) ?_
      refine zw_zreturn f120_15 r120 u120 (by decide +kernel) ⟨_, rfl, ?_⟩
      refine zw_zreturn f124_11 r124 u124 (by decide +kernel) ⟨_, rfl, ?_⟩
      refine zw_if_ne_f 8 11 f161_5 (by decide +kernel) rfl (by decide +kernel) ?_
      refine zw_bipush (-2) 10 f161_8 rfl (by decide +kernel) ?_
      refine zw_ireturn f161_10 r161 u161 ?_
      exact ⟨_, _, _, _, rfl, KQ.rf, ⟨hi.1, hi.2.1, t, by omega, et⟩, _, rfl⟩
    · refine zw_iconst 1 11 f120_10 rfl (by decide +kernel) ?_
      refine zw_goto 15 f120_11 (by decide +kernel) ?_
      refine zw_zreturn f120_15 r120 u120 (by decide +kernel) ⟨_, rfl, ?_⟩
      refine zw_zreturn f124_11 r124 u124 (by decide +kernel) ⟨_, rfl, ?_⟩
      refine zw_if_ne_t 11 f161_5 (by decide +kernel) (by decide +kernel) ?_
      refine zw_iload_n 12 f161_11 rfl rfl ?_
      rcases zl_sw 4 (by decide) b with hs3 | ⟨hs3k, hs3l, hs3e⟩
      · refine zw_table_o 98 f161_12 hs3 (by decide +kernel) ?_
        refine zw_bipush (-2) 100 f161_98 rfl (by decide +kernel) ?_
        refine zw_ireturn f161_100 r161 u161 ?_
        exact ⟨_, _, _, _, rfl, KQ.rf, ⟨hi.1, hi.2.1, t, by omega, et⟩, _, rfl⟩
      · rcases (show hs3k = 0 ∨ hs3k = 1 ∨ hs3k = 2 ∨ hs3k = 3 ∨ hs3k = 4 by omega) with rfl | rfl | rfl | rfl | rfl
        · refine zw_table_k 36 48 f161_12 hs3e (by decide +kernel) (by decide +kernel) (by decide +kernel) ?_
          refine zw_aload_n 49 f161_48 rfl rfl ?_
          refine zw_getfield 52 f161_49 rfl g161_31_12 (hb_52 _ _ _ _) rfl ?_
          refine zw_iload_n 53 f161_52 rfl rfl ?_
          refine zw_iaload a.toNatClampNeg (A 60 a.toNatClampNeg) 54 f161_53 rfl (hb_60 _ _ _ _) rfl hc1 (zix (by decide) hc1 (show ¬ 14 ≤ a from ix_le hp.2.1 (by decide) (by decide) hc1 hc2)) rfl ?_
          refine zw_ireturn f161_54 r161 u161 ?_
          exact ⟨_, _, _, _, rfl, KQ.rf, ⟨hi.1, hi.2.1, t, by omega, et⟩, _, rfl⟩
        · refine zw_table_k 43 55 f161_12 hs3e (by decide +kernel) (by decide +kernel) (by decide +kernel) ?_
          refine zw_aload_n 56 f161_55 rfl rfl ?_
          refine zw_getfield 59 f161_56 rfl g161_34_12 (hb_52 _ _ _ _) rfl ?_
          refine zw_iload_n 60 f161_59 rfl rfl ?_
          refine zw_iaload a.toNatClampNeg (A 61 a.toNatClampNeg) 61 f161_60 rfl (hb_61 _ _ _ _) rfl hc1 (zix (by decide) hc1 (show ¬ 14 ≤ a from ix_le hp.2.1 (by decide) (by decide) hc1 hc2)) rfl ?_
          refine zw_ireturn f161_61 r161 u161 ?_
          exact ⟨_, _, _, _, rfl, KQ.rf, ⟨hi.1, hi.2.1, t, by omega, et⟩, _, rfl⟩
        · refine zw_table_k 50 62 f161_12 hs3e (by decide +kernel) (by decide +kernel) (by decide +kernel) ?_
          refine zw_aload_n 63 f161_62 rfl rfl ?_
          refine zw_getfield 66 f161_63 rfl g161_37_12 (hb_52 _ _ _ _) rfl ?_
          refine zw_iload_n 67 f161_66 rfl rfl ?_
          refine zw_iaload a.toNatClampNeg (A 62 a.toNatClampNeg) 68 f161_67 rfl (hb_62 _ _ _ _) rfl hc1 (zix (by decide) hc1 (show ¬ 14 ≤ a from ix_le hp.2.1 (by decide) (by decide) hc1 hc2)) rfl ?_
          refine zw_ireturn f161_68 r161 u161 ?_
          exact ⟨_, _, _, _, rfl, KQ.rf, ⟨hi.1, hi.2.1, t, by omega, et⟩, _, rfl⟩
        · refine zw_table_k 57 69 f161_12 hs3e (by decide +kernel) (by decide +kernel) (by decide +kernel) ?_
          refine zw_aload_n 70 f161_69 rfl rfl ?_
          refine zw_getfield 73 f161_70 rfl g161_48_12 (hb_52 _ _ _ _) rfl ?_
          refine zw_iload_n 74 f161_73 rfl rfl ?_
          refine zw_baload a.toNatClampNeg ((W.2.2.2.2.2.2.1) a.toNatClampNeg) 75 f161_74 rfl (hb_64 _ _ _ _) rfl hc1 (zix (by decide) hc1 (show ¬ 14 ≤ a from ix_le hp.2.1 (by decide) (by decide) hc1 hc2)) (congrFun (hR.opn) a.toNatClampNeg) ?_
          refine zw_if_eq 78 82 f161_75 (by decide +kernel) rfl (fun hc4 => ?_) (fun hc4 => ?_)
          · refine zw_iconst 0 83 f161_82 rfl (by decide +kernel) ?_
            refine zw_ireturn f161_83 r161 u161 ?_
            exact ⟨_, _, _, _, rfl, KQ.rf, ⟨hi.1, hi.2.1, t, by omega, et⟩, _, rfl⟩
          · refine zw_iconst 1 79 f161_78 rfl (by decide +kernel) ?_
            refine zw_goto 83 f161_79 (by decide +kernel) ?_
            refine zw_ireturn f161_83 r161 u161 ?_
            exact ⟨_, _, _, _, rfl, KQ.rf, ⟨hi.1, hi.2.1, t, by omega, et⟩, _, rfl⟩
        · refine zw_table_k 72 84 f161_12 hs3e (by decide +kernel) (by decide +kernel) (by decide +kernel) ?_
          refine zw_aload_n 85 f161_84 rfl rfl ?_
          refine zw_iload_n 86 f161_85 rfl rfl ?_
          refine zw_virtual_i 89 0 0 [.ref 52, .int a] [(0, .ref 52), (1, .int a)] f161_86 rfl n161_130 k161_130_12 rfl (hb_52 _ _ _ _) (by decide +kernel) (Nat.le_of_ble_eq_true rfl) rfl rfl (by decide +kernel) (by decide +kernel) rfl (Nat.le_of_ble_eq_true rfl) rfl ?_
          have ev := qV.of (by omega) hc1 hc2
          have er := mm_runs ro nv a.toNatClampNeg I G A B hR.1.1 h8 (by have := ev.1; omega) ((hR.mb hW.2.1).1 _ (by have := ev.1; omega))
          rw [← ev.2] at er
          refine zWp.mono er ?_
          rintro r h1 ⟨rfl, rfl⟩
          refine ⟨_, rfl, ?_⟩
          refine zw_if_eq 92 96 f161_89 (by decide +kernel) rfl (fun hc5 => ?_) (fun hc5 => ?_)
          · refine zw_iconst 0 97 f161_96 rfl (by decide +kernel) ?_
            refine zw_ireturn f161_97 r161 u161 ?_
            exact ⟨_, _, _, _, rfl, KQ.rf, ⟨hi.1, hi.2.1, t, by omega, et⟩, _, rfl⟩
          · refine zw_iconst 1 93 f161_92 rfl (by decide +kernel) ?_
            refine zw_goto 97 f161_93 (by decide +kernel) ?_
            refine zw_ireturn f161_97 r161 u161 ?_
            exact ⟨_, _, _, _, rfl, KQ.rf, ⟨hi.1, hi.2.1, t, by omega, et⟩, _, rfl⟩
set_option maxRecDepth 100000 in
set_option maxHeartbeats 0 in
theorem mq_count (ro : UInt32 → Nat × (Nat → Int32)) (nv np : Nat) (W : qW) (L : qLog) (I : Nat → Nat → Int32) (G : Nat → Nat → Int64) (A : Nat → Nat → Int32) (B : Nat → Nat → Int64) (K : Int) (hR : mRS nv np A W L I G A B) (hp : MPa nv np A) (hW : wInv nv 10000 K A W) (hn : L.1 < 900000000) (hg : qLG L) (hi : mId I) (a : Int32) : zWp ro 162 0 [(0, .ref 52), (1, .int a)] [] (hS I G A B) 0 0 (fun r h1 => ∃ I2 G2 A2 B2, h1 = hS I2 G2 A2 B2 ∧ KQ fQu pQu I G A B I2 G2 A2 B2 ∧ mId I2 ∧ ∃ v : Int32, r = some (.int v)) := by
  have h8 := hp.1
  have h14 := hp.2.1
  obtain ⟨t, ht, et⟩ := hi.2.2
  refine zw_iload_n 1 f162_0 rfl rfl ?_
  refine zw_if_ne 4 11 f162_1 (by decide +kernel) rfl (fun hc1 => ?_) (fun hc1 => ?_)
  · refine zw_iload_n 12 f162_11 rfl rfl ?_
    refine zw_iconst 1 13 f162_12 rfl (by decide +kernel) ?_
    refine zw_ic_ne 16 23 f162_13 (by decide +kernel) rfl (fun hc2 => ?_) (fun hc2 => ?_)
    · refine zw_iload_n 24 f162_23 rfl rfl ?_
      refine zw_iconst 2 25 f162_24 rfl (by decide +kernel) ?_
      refine zw_ic_ne 28 35 f162_25 (by decide +kernel) rfl (fun hc3 => ?_) (fun hc3 => ?_)
      · refine zw_iload_n 36 f162_35 rfl rfl ?_
        refine zw_iconst 3 37 f162_36 rfl (by decide +kernel) ?_
        refine zw_ic_ne 40 47 f162_37 (by decide +kernel) rfl (fun hc4 => ?_) (fun hc4 => ?_)
        · refine zw_iconst (-1) 48 f162_47 rfl (by decide +kernel) ?_
          refine zw_ireturn f162_48 r162 u162 ?_
          exact ⟨_, _, _, _, rfl, KQ.rf, ⟨hi.1, hi.2.1, t, by omega, et⟩, _, rfl⟩
        · refine zw_aload_n 41 f162_40 rfl rfl ?_
          refine zw_getI (nI t) 44 f162_41 rfl g162_246_12 (hb_52 _ _ _ _) rfl et ?_
          refine zw_goto 48 f162_44 (by decide +kernel) ?_
          refine zw_ireturn f162_48 r162 u162 ?_
          exact ⟨_, _, _, _, rfl, KQ.rf, ⟨hi.1, hi.2.1, t, by omega, et⟩, _, rfl⟩
      · refine zw_aload_n 29 f162_28 rfl rfl ?_
        refine zw_getI (nI L.1) 32 f162_29 rfl g162_183_12 (hb_52 _ _ _ _) rfl hR.2.2.2.1 ?_
        refine zw_goto 48 f162_32 (by decide +kernel) ?_
        refine zw_ireturn f162_48 r162 u162 ?_
        exact ⟨_, _, _, _, rfl, KQ.rf, ⟨hi.1, hi.2.1, t, by omega, et⟩, _, rfl⟩
    · refine zw_aload_n 17 f162_16 rfl rfl ?_
      refine zw_getI (nI np) 20 f162_17 rfl g162_121_12 (hb_52 _ _ _ _) rfl hR.1.2 ?_
      refine zw_goto 48 f162_20 (by decide +kernel) ?_
      refine zw_ireturn f162_48 r162 u162 ?_
      exact ⟨_, _, _, _, rfl, KQ.rf, ⟨hi.1, hi.2.1, t, by omega, et⟩, _, rfl⟩
  · refine zw_aload_n 5 f162_4 rfl rfl ?_
    refine zw_getI (nI nv) 8 f162_5 rfl g162_114_12 (hb_52 _ _ _ _) rfl hR.1.1 ?_
    refine zw_goto 48 f162_8 (by decide +kernel) ?_
    refine zw_ireturn f162_48 r162 u162 ?_
    exact ⟨_, _, _, _, rfl, KQ.rf, ⟨hi.1, hi.2.1, t, by omega, et⟩, _, rfl⟩
set_option maxRecDepth 100000 in
set_option maxHeartbeats 0 in
theorem mq_event (ro : UInt32 → Nat × (Nat → Int32)) (nv np : Nat) (W : qW) (L : qLog) (I : Nat → Nat → Int32) (G : Nat → Nat → Int64) (A : Nat → Nat → Int32) (B : Nat → Nat → Int64) (K : Int) (hR : mRS nv np A W L I G A B) (hp : MPa nv np A) (hW : wInv nv 10000 K A W) (hn : L.1 < 900000000) (hg : qLG L) (hi : mId I) (a : Int32) (b : Int32) : zWp ro 163 0 [(0, .ref 52), (1, .int a), (2, .int b)] [] (hS I G A B) 0 0 (fun r h1 => ∃ I2 G2 A2 B2, h1 = hS I2 G2 A2 B2 ∧ KQ fQu pQu I G A B I2 G2 A2 B2 ∧ mId I2 ∧ ∃ v : Int32, r = some (.int v)) := by
  have h8 := hp.1
  have h14 := hp.2.1
  obtain ⟨t, ht, et⟩ := hi.2.2
  refine zw_aload_n 1 f163_0 rfl rfl ?_
  refine zw_getI (nI L.1) 4 f163_1 rfl g163_183_12 (hb_52 _ _ _ _) rfl hR.2.2.2.1 ?_
  refine zw_sipush 400 7 f163_4 rfl (by decide +kernel) ?_
  refine zw_ic_ge 10 17 f163_7 (by decide +kernel) rfl (fun hc1 => ?_) (fun hc1 => ?_)
  · have hn_hc1 : 400 ≤ L.1 := zn_ge (by omega) (by omega) hc1
    refine zw_sipush 400 20 f163_17 rfl (by decide +kernel) ?_
    refine zw_istore_n _ 21 f163_20 rfl (by decide +kernel) rfl ?_
    refine zw_iload_n 22 f163_21 rfl (zl1_ne rfl rfl rfl) ?_
    refine zw_iconst 0 23 f163_22 rfl (by decide +kernel) ?_
    refine zw_iload_n 24 f163_23 rfl zl1_eq ?_
    refine zw_iconst 1 25 f163_24 rfl (by decide +kernel) ?_
    refine zw_isub 399 26 f163_25 rfl (by decide +kernel) ?_
    refine zw_static_i 29 0 0 [.int a, .int 0, .int 399] [] [(0, .int a), (1, .int 0), (2, .int 399)] f163_26 rfl k163_117_99 rfl (by decide +kernel) (Nat.le_of_ble_eq_true rfl) (Nat.le_of_ble_eq_true rfl) rfl rfl (by decide +kernel) (by decide +kernel) rfl (Nat.le_of_ble_eq_true rfl) rfl ?_
    refine zw_iload_n 1 f120_0 rfl rfl ?_
    refine zw_iload_n 2 f120_1 rfl rfl ?_
    refine zw_ic_lt 5 14 f120_2 (by decide +kernel) rfl (fun hc2 => ?_) (fun hc2 => ?_)
    · refine zw_iconst 0 15 f120_14 rfl (by decide +kernel) ?_
      refine zw_zreturn f120_15 r120 u120 (by decide +kernel) ⟨_, rfl, ?_⟩
      refine zw_if_eq_t 41 f163_29 (by decide +kernel) (by decide +kernel) ?_
      refine zw_iconst (-1) 42 f163_41 rfl (by decide +kernel) ?_
      refine zw_ireturn f163_42 r163 u163 ?_
      exact ⟨_, _, _, _, rfl, KQ.rf, ⟨hi.1, hi.2.1, t, by omega, et⟩, _, rfl⟩
    · refine zw_iload_n 6 f120_5 rfl rfl ?_
      refine zw_iload_n 7 f120_6 rfl rfl ?_
      refine zw_ic_gt 10 14 f120_7 (by decide +kernel) rfl (fun hc3 => ?_) (fun hc3 => ?_)
      · refine zw_iconst 0 15 f120_14 rfl (by decide +kernel) ?_
        refine zw_zreturn f120_15 r120 u120 (by decide +kernel) ⟨_, rfl, ?_⟩
        refine zw_if_eq_t 41 f163_29 (by decide +kernel) (by decide +kernel) ?_
        refine zw_iconst (-1) 42 f163_41 rfl (by decide +kernel) ?_
        refine zw_ireturn f163_42 r163 u163 ?_
        exact ⟨_, _, _, _, rfl, KQ.rf, ⟨hi.1, hi.2.1, t, by omega, et⟩, _, rfl⟩
      · have ex := ev_ix (by omega) hc2 (Or.inr ⟨hc3, (Int32.not_lt.mpr hc1)⟩)
        refine zw_iconst 1 11 f120_10 rfl (by decide +kernel) ?_
        refine zw_goto 15 f120_11 (by decide +kernel) ?_
        refine zw_zreturn f120_15 r120 u120 (by decide +kernel) ⟨_, rfl, ?_⟩
        refine zw_if_eq_f 32 41 f163_29 (by decide +kernel) rfl (by decide +kernel) ?_
        refine zw_iload_n 33 f163_32 rfl (zl1_ne rfl rfl rfl) ?_
        refine zw_iconst 0 34 f163_33 rfl (by decide +kernel) ?_
        refine zw_iconst 3 35 f163_34 rfl (by decide +kernel) ?_
        refine zw_static_i 38 0 0 [.int b, .int 0, .int 3] [] [(0, .int b), (1, .int 0), (2, .int 3)] f163_35 rfl k163_117_99 rfl (by decide +kernel) (Nat.le_of_ble_eq_true rfl) (Nat.le_of_ble_eq_true rfl) rfl rfl (by decide +kernel) (by decide +kernel) rfl (Nat.le_of_ble_eq_true rfl) rfl ?_
        refine zw_iload_n 1 f120_0 rfl rfl ?_
        refine zw_iload_n 2 f120_1 rfl rfl ?_
        refine zw_ic_lt 5 14 f120_2 (by decide +kernel) rfl (fun hc4 => ?_) (fun hc4 => ?_)
        · refine zw_iconst 0 15 f120_14 rfl (by decide +kernel) ?_
          refine zw_zreturn f120_15 r120 u120 (by decide +kernel) ⟨_, rfl, ?_⟩
          refine zw_if_ne_f 41 43 f163_38 (by decide +kernel) rfl (by decide +kernel) ?_
          refine zw_iconst (-1) 42 f163_41 rfl (by decide +kernel) ?_
          refine zw_ireturn f163_42 r163 u163 ?_
          exact ⟨_, _, _, _, rfl, KQ.rf, ⟨hi.1, hi.2.1, t, by omega, et⟩, _, rfl⟩
        · refine zw_iload_n 6 f120_5 rfl rfl ?_
          refine zw_iload_n 7 f120_6 rfl rfl ?_
          refine zw_ic_gt 10 14 f120_7 (by decide +kernel) rfl (fun hc5 => ?_) (fun hc5 => ?_)
          · refine zw_iconst 0 15 f120_14 rfl (by decide +kernel) ?_
            refine zw_zreturn f120_15 r120 u120 (by decide +kernel) ⟨_, rfl, ?_⟩
            refine zw_if_ne_f 41 43 f163_38 (by decide +kernel) rfl (by decide +kernel) ?_
            refine zw_iconst (-1) 42 f163_41 rfl (by decide +kernel) ?_
            refine zw_ireturn f163_42 r163 u163 ?_
            exact ⟨_, _, _, _, rfl, KQ.rf, ⟨hi.1, hi.2.1, t, by omega, et⟩, _, rfl⟩
          · refine zw_iconst 1 11 f120_10 rfl (by decide +kernel) ?_
            refine zw_goto 15 f120_11 (by decide +kernel) ?_
            refine zw_zreturn f120_15 r120 u120 (by decide +kernel) ⟨_, rfl, ?_⟩
            refine zw_if_ne_t 43 f163_38 (by decide +kernel) (by decide +kernel) ?_
            refine zw_iload_n 44 f163_43 rfl (zl1_ne rfl rfl rfl) ?_
            refine zw_if_ne 47 56 f163_44 (by decide +kernel) rfl (fun hc6 => ?_) (fun hc6 => ?_)
            · refine zw_iload_n 57 f163_56 rfl (zl1_ne rfl rfl rfl) ?_
              refine zw_iconst 1 58 f163_57 rfl (by decide +kernel) ?_
              refine zw_ic_ne 61 70 f163_58 (by decide +kernel) rfl (fun hc7 => ?_) (fun hc7 => ?_)
              · refine zw_aload_n 71 f163_70 rfl (zl1_ne rfl rfl rfl) ?_
                refine zw_getfield 74 f163_71 rfl g163_68_12 (hb_52 _ _ _ _) rfl ?_
                refine zw_iload_n 75 f163_74 rfl (zl1_ne rfl rfl rfl) ?_
                refine zw_laload a.toNatClampNeg (B 69 a.toNatClampNeg) 76 f163_75 rfl (hb_69 _ _ _ _) rfl hc2 (zix (by decide) hc2 ex.1) rfl ?_
                refine zw_aload_n 77 f163_76 rfl (zl1_ne rfl rfl rfl) ?_
                refine zw_getfield 80 f163_77 rfl g163_71_12 (hb_52 _ _ _ _) rfl ?_
                refine zw_iload_n 81 f163_80 rfl (zl1_ne rfl rfl rfl) ?_
                refine zw_laload a.toNatClampNeg (L.2.2.2.2.1 a.toNatClampNeg) 82 f163_81 rfl (hb_70 _ _ _ _) rfl hc2 (zix (by decide) hc2 ex.1) (congrFun (hR.2.2.2.2.2.2.2.1) a.toNatClampNeg) ?_
                refine zw_iload_n 83 f163_82 rfl (zl1_ne rfl rfl rfl) ?_
                refine zw_iconst 2 84 f163_83 rfl (by decide +kernel) ?_
                refine zw_isub (b - 2) 85 f163_84 rfl rfl ?_
                refine zw_static_l 88 0 0 [.long (B 69 a.toNatClampNeg), .long (L.2.2.2.2.1 a.toNatClampNeg), .int (b - 2)] [] [(0, .long (B 69 a.toNatClampNeg)), (2, .long (L.2.2.2.2.1 a.toNatClampNeg)), (4, .int (b - 2))] f163_85 rfl k163_239_99 rfl (by decide +kernel) (Nat.le_of_ble_eq_true rfl) (Nat.le_of_ble_eq_true rfl) rfl rfl (by decide +kernel) (by decide +kernel) rfl (Nat.le_of_ble_eq_true rfl) rfl ?_
                refine zw_lload_n 1 f153_0 rfl rfl ?_
                refine zw_lload_n 2 f153_1 rfl rfl ?_
                refine zw_static_l 5 0 0 [.long (B 69 a.toNatClampNeg), .long (L.2.2.2.2.1 a.toNatClampNeg)] [] [(0, .long (B 69 a.toNatClampNeg)), (2, .long (L.2.2.2.2.1 a.toNatClampNeg))] f153_2 rfl k153_164_99 rfl (by decide +kernel) (Nat.le_of_ble_eq_true rfl) (Nat.le_of_ble_eq_true rfl) rfl rfl (by decide +kernel) (by decide +kernel) rfl (Nat.le_of_ble_eq_true rfl) rfl ?_
                refine zWp.mono (mm_divisor ro _ (B 69 a.toNatClampNeg) (L.2.2.2.2.1 a.toNatClampNeg)) ?_
                rintro r h1 ⟨rfl, rfl⟩
                refine ⟨_, rfl, ?_⟩
                refine zw_lstore _ 7 f153_5 rfl (by decide +kernel) rfl ?_
                refine zw_iload 9 f153_7 rfl (zl2_ne rfl rfl rfl) ?_
                refine zw_if_ne 12 19 f153_9 (by decide +kernel) rfl (fun hc8 => ?_) (fun hc8 => ?_)
                · refine zw_lload_n 20 f153_19 rfl (zl2_ne rfl rfl rfl) ?_
                  refine zw_lload 22 f153_20 rfl zl2_eq ?_
                  refine zw_ldiv ((L.2.2.2.2.1 a.toNatClampNeg) / (mD (B 69 a.toNatClampNeg) (L.2.2.2.2.1 a.toNatClampNeg))) 23 f153_22 rfl (mD_ne0 (i64_ne0 (hg _ ex.2.1 ex.2.2))) rfl ?_
                  refine zw_lreturn f153_23 r153 u153 ⟨_, rfl, ?_⟩
                  refine zw_l2i (Int64.toInt32 ((L.2.2.2.2.1 a.toNatClampNeg) / (mD (B 69 a.toNatClampNeg) (L.2.2.2.2.1 a.toNatClampNeg)))) 89 f163_88 rfl rfl ?_
                  refine zw_ireturn f163_89 r163 u163 ?_
                  exact ⟨_, _, _, _, rfl, KQ.rf, ⟨hi.1, hi.2.1, t, by omega, et⟩, _, rfl⟩
                · refine zw_lload_n 13 f153_12 rfl (zl2_ne rfl rfl rfl) ?_
                  refine zw_lload 15 f153_13 rfl zl2_eq ?_
                  refine zw_ldiv ((B 69 a.toNatClampNeg) / (mD (B 69 a.toNatClampNeg) (L.2.2.2.2.1 a.toNatClampNeg))) 16 f153_15 rfl (mD_ne0 (i64_ne0 (hg _ ex.2.1 ex.2.2))) rfl ?_
                  refine zw_goto 23 f153_16 (by decide +kernel) ?_
                  refine zw_lreturn f153_23 r153 u153 ⟨_, rfl, ?_⟩
                  refine zw_l2i (Int64.toInt32 ((B 69 a.toNatClampNeg) / (mD (B 69 a.toNatClampNeg) (L.2.2.2.2.1 a.toNatClampNeg)))) 89 f163_88 rfl rfl ?_
                  refine zw_ireturn f163_89 r163 u163 ?_
                  exact ⟨_, _, _, _, rfl, KQ.rf, ⟨hi.1, hi.2.1, t, by omega, et⟩, _, rfl⟩
              · refine zw_aload_n 62 f163_61 rfl (zl1_ne rfl rfl rfl) ?_
                refine zw_getfield 65 f163_62 rfl g163_65_12 (hb_52 _ _ _ _) rfl ?_
                refine zw_iload_n 66 f163_65 rfl (zl1_ne rfl rfl rfl) ?_
                refine zw_iaload a.toNatClampNeg (A 68 a.toNatClampNeg) 67 f163_66 rfl (hb_68 _ _ _ _) rfl hc2 (zix (by decide) hc2 ex.1) rfl ?_
                refine zw_goto 89 f163_67 (by decide +kernel) ?_
                refine zw_ireturn f163_89 r163 u163 ?_
                exact ⟨_, _, _, _, rfl, KQ.rf, ⟨hi.1, hi.2.1, t, by omega, et⟩, _, rfl⟩
            · refine zw_aload_n 48 f163_47 rfl (zl1_ne rfl rfl rfl) ?_
              refine zw_getfield 51 f163_48 rfl g163_62_12 (hb_52 _ _ _ _) rfl ?_
              refine zw_iload_n 52 f163_51 rfl (zl1_ne rfl rfl rfl) ?_
              refine zw_iaload a.toNatClampNeg (A 67 a.toNatClampNeg) 53 f163_52 rfl (hb_67 _ _ _ _) rfl hc2 (zix (by decide) hc2 ex.1) rfl ?_
              refine zw_goto 89 f163_53 (by decide +kernel) ?_
              refine zw_ireturn f163_89 r163 u163 ?_
              exact ⟨_, _, _, _, rfl, KQ.rf, ⟨hi.1, hi.2.1, t, by omega, et⟩, _, rfl⟩
  · have hn_hc1 : L.1 < 400 := zn_lt (by omega) (by omega) hc1
    refine zw_aload_n 11 f163_10 rfl rfl ?_
    refine zw_getI (nI L.1) 14 f163_11 rfl g163_183_12 (hb_52 _ _ _ _) rfl hR.2.2.2.1 ?_
    refine zw_goto 20 f163_14 (by decide +kernel) ?_
    refine zw_istore_n _ 21 f163_20 rfl (by decide +kernel) rfl ?_
    refine zw_iload_n 22 f163_21 rfl (zl1_ne rfl rfl rfl) ?_
    refine zw_iconst 0 23 f163_22 rfl (by decide +kernel) ?_
    refine zw_iload_n 24 f163_23 rfl zl1_eq ?_
    refine zw_iconst 1 25 f163_24 rfl (by decide +kernel) ?_
    refine zw_isub ((nI L.1) - 1) 26 f163_25 rfl rfl ?_
    refine zw_static_i 29 0 0 [.int a, .int 0, .int ((nI L.1) - 1)] [] [(0, .int a), (1, .int 0), (2, .int ((nI L.1) - 1))] f163_26 rfl k163_117_99 rfl (by decide +kernel) (Nat.le_of_ble_eq_true rfl) (Nat.le_of_ble_eq_true rfl) rfl rfl (by decide +kernel) (by decide +kernel) rfl (Nat.le_of_ble_eq_true rfl) rfl ?_
    refine zw_iload_n 1 f120_0 rfl rfl ?_
    refine zw_iload_n 2 f120_1 rfl rfl ?_
    refine zw_ic_lt 5 14 f120_2 (by decide +kernel) rfl (fun hc9 => ?_) (fun hc9 => ?_)
    · refine zw_iconst 0 15 f120_14 rfl (by decide +kernel) ?_
      refine zw_zreturn f120_15 r120 u120 (by decide +kernel) ⟨_, rfl, ?_⟩
      refine zw_if_eq_t 41 f163_29 (by decide +kernel) (by decide +kernel) ?_
      refine zw_iconst (-1) 42 f163_41 rfl (by decide +kernel) ?_
      refine zw_ireturn f163_42 r163 u163 ?_
      exact ⟨_, _, _, _, rfl, KQ.rf, ⟨hi.1, hi.2.1, t, by omega, et⟩, _, rfl⟩
    · refine zw_iload_n 6 f120_5 rfl rfl ?_
      refine zw_iload_n 7 f120_6 rfl rfl ?_
      refine zw_ic_gt 10 14 f120_7 (by decide +kernel) rfl (fun hc10 => ?_) (fun hc10 => ?_)
      · refine zw_iconst 0 15 f120_14 rfl (by decide +kernel) ?_
        refine zw_zreturn f120_15 r120 u120 (by decide +kernel) ⟨_, rfl, ?_⟩
        refine zw_if_eq_t 41 f163_29 (by decide +kernel) (by decide +kernel) ?_
        refine zw_iconst (-1) 42 f163_41 rfl (by decide +kernel) ?_
        refine zw_ireturn f163_42 r163 u163 ?_
        exact ⟨_, _, _, _, rfl, KQ.rf, ⟨hi.1, hi.2.1, t, by omega, et⟩, _, rfl⟩
      · have ex := ev_ix (by omega) hc9 (Or.inl ⟨hc10, (Int32.not_le.mp hc1)⟩)
        refine zw_iconst 1 11 f120_10 rfl (by decide +kernel) ?_
        refine zw_goto 15 f120_11 (by decide +kernel) ?_
        refine zw_zreturn f120_15 r120 u120 (by decide +kernel) ⟨_, rfl, ?_⟩
        refine zw_if_eq_f 32 41 f163_29 (by decide +kernel) rfl (by decide +kernel) ?_
        refine zw_iload_n 33 f163_32 rfl (zl1_ne rfl rfl rfl) ?_
        refine zw_iconst 0 34 f163_33 rfl (by decide +kernel) ?_
        refine zw_iconst 3 35 f163_34 rfl (by decide +kernel) ?_
        refine zw_static_i 38 0 0 [.int b, .int 0, .int 3] [] [(0, .int b), (1, .int 0), (2, .int 3)] f163_35 rfl k163_117_99 rfl (by decide +kernel) (Nat.le_of_ble_eq_true rfl) (Nat.le_of_ble_eq_true rfl) rfl rfl (by decide +kernel) (by decide +kernel) rfl (Nat.le_of_ble_eq_true rfl) rfl ?_
        refine zw_iload_n 1 f120_0 rfl rfl ?_
        refine zw_iload_n 2 f120_1 rfl rfl ?_
        refine zw_ic_lt 5 14 f120_2 (by decide +kernel) rfl (fun hc11 => ?_) (fun hc11 => ?_)
        · refine zw_iconst 0 15 f120_14 rfl (by decide +kernel) ?_
          refine zw_zreturn f120_15 r120 u120 (by decide +kernel) ⟨_, rfl, ?_⟩
          refine zw_if_ne_f 41 43 f163_38 (by decide +kernel) rfl (by decide +kernel) ?_
          refine zw_iconst (-1) 42 f163_41 rfl (by decide +kernel) ?_
          refine zw_ireturn f163_42 r163 u163 ?_
          exact ⟨_, _, _, _, rfl, KQ.rf, ⟨hi.1, hi.2.1, t, by omega, et⟩, _, rfl⟩
        · refine zw_iload_n 6 f120_5 rfl rfl ?_
          refine zw_iload_n 7 f120_6 rfl rfl ?_
          refine zw_ic_gt 10 14 f120_7 (by decide +kernel) rfl (fun hc12 => ?_) (fun hc12 => ?_)
          · refine zw_iconst 0 15 f120_14 rfl (by decide +kernel) ?_
            refine zw_zreturn f120_15 r120 u120 (by decide +kernel) ⟨_, rfl, ?_⟩
            refine zw_if_ne_f 41 43 f163_38 (by decide +kernel) rfl (by decide +kernel) ?_
            refine zw_iconst (-1) 42 f163_41 rfl (by decide +kernel) ?_
            refine zw_ireturn f163_42 r163 u163 ?_
            exact ⟨_, _, _, _, rfl, KQ.rf, ⟨hi.1, hi.2.1, t, by omega, et⟩, _, rfl⟩
          · refine zw_iconst 1 11 f120_10 rfl (by decide +kernel) ?_
            refine zw_goto 15 f120_11 (by decide +kernel) ?_
            refine zw_zreturn f120_15 r120 u120 (by decide +kernel) ⟨_, rfl, ?_⟩
            refine zw_if_ne_t 43 f163_38 (by decide +kernel) (by decide +kernel) ?_
            refine zw_iload_n 44 f163_43 rfl (zl1_ne rfl rfl rfl) ?_
            refine zw_if_ne 47 56 f163_44 (by decide +kernel) rfl (fun hc13 => ?_) (fun hc13 => ?_)
            · refine zw_iload_n 57 f163_56 rfl (zl1_ne rfl rfl rfl) ?_
              refine zw_iconst 1 58 f163_57 rfl (by decide +kernel) ?_
              refine zw_ic_ne 61 70 f163_58 (by decide +kernel) rfl (fun hc14 => ?_) (fun hc14 => ?_)
              · refine zw_aload_n 71 f163_70 rfl (zl1_ne rfl rfl rfl) ?_
                refine zw_getfield 74 f163_71 rfl g163_68_12 (hb_52 _ _ _ _) rfl ?_
                refine zw_iload_n 75 f163_74 rfl (zl1_ne rfl rfl rfl) ?_
                refine zw_laload a.toNatClampNeg (B 69 a.toNatClampNeg) 76 f163_75 rfl (hb_69 _ _ _ _) rfl hc9 (zix (by decide) hc9 ex.1) rfl ?_
                refine zw_aload_n 77 f163_76 rfl (zl1_ne rfl rfl rfl) ?_
                refine zw_getfield 80 f163_77 rfl g163_71_12 (hb_52 _ _ _ _) rfl ?_
                refine zw_iload_n 81 f163_80 rfl (zl1_ne rfl rfl rfl) ?_
                refine zw_laload a.toNatClampNeg (L.2.2.2.2.1 a.toNatClampNeg) 82 f163_81 rfl (hb_70 _ _ _ _) rfl hc9 (zix (by decide) hc9 ex.1) (congrFun (hR.2.2.2.2.2.2.2.1) a.toNatClampNeg) ?_
                refine zw_iload_n 83 f163_82 rfl (zl1_ne rfl rfl rfl) ?_
                refine zw_iconst 2 84 f163_83 rfl (by decide +kernel) ?_
                refine zw_isub (b - 2) 85 f163_84 rfl rfl ?_
                refine zw_static_l 88 0 0 [.long (B 69 a.toNatClampNeg), .long (L.2.2.2.2.1 a.toNatClampNeg), .int (b - 2)] [] [(0, .long (B 69 a.toNatClampNeg)), (2, .long (L.2.2.2.2.1 a.toNatClampNeg)), (4, .int (b - 2))] f163_85 rfl k163_239_99 rfl (by decide +kernel) (Nat.le_of_ble_eq_true rfl) (Nat.le_of_ble_eq_true rfl) rfl rfl (by decide +kernel) (by decide +kernel) rfl (Nat.le_of_ble_eq_true rfl) rfl ?_
                refine zw_lload_n 1 f153_0 rfl rfl ?_
                refine zw_lload_n 2 f153_1 rfl rfl ?_
                refine zw_static_l 5 0 0 [.long (B 69 a.toNatClampNeg), .long (L.2.2.2.2.1 a.toNatClampNeg)] [] [(0, .long (B 69 a.toNatClampNeg)), (2, .long (L.2.2.2.2.1 a.toNatClampNeg))] f153_2 rfl k153_164_99 rfl (by decide +kernel) (Nat.le_of_ble_eq_true rfl) (Nat.le_of_ble_eq_true rfl) rfl rfl (by decide +kernel) (by decide +kernel) rfl (Nat.le_of_ble_eq_true rfl) rfl ?_
                refine zWp.mono (mm_divisor ro _ (B 69 a.toNatClampNeg) (L.2.2.2.2.1 a.toNatClampNeg)) ?_
                rintro r h1 ⟨rfl, rfl⟩
                refine ⟨_, rfl, ?_⟩
                refine zw_lstore _ 7 f153_5 rfl (by decide +kernel) rfl ?_
                refine zw_iload 9 f153_7 rfl (zl2_ne rfl rfl rfl) ?_
                refine zw_if_ne 12 19 f153_9 (by decide +kernel) rfl (fun hc15 => ?_) (fun hc15 => ?_)
                · refine zw_lload_n 20 f153_19 rfl (zl2_ne rfl rfl rfl) ?_
                  refine zw_lload 22 f153_20 rfl zl2_eq ?_
                  refine zw_ldiv ((L.2.2.2.2.1 a.toNatClampNeg) / (mD (B 69 a.toNatClampNeg) (L.2.2.2.2.1 a.toNatClampNeg))) 23 f153_22 rfl (mD_ne0 (i64_ne0 (hg _ ex.2.1 ex.2.2))) rfl ?_
                  refine zw_lreturn f153_23 r153 u153 ⟨_, rfl, ?_⟩
                  refine zw_l2i (Int64.toInt32 ((L.2.2.2.2.1 a.toNatClampNeg) / (mD (B 69 a.toNatClampNeg) (L.2.2.2.2.1 a.toNatClampNeg)))) 89 f163_88 rfl rfl ?_
                  refine zw_ireturn f163_89 r163 u163 ?_
                  exact ⟨_, _, _, _, rfl, KQ.rf, ⟨hi.1, hi.2.1, t, by omega, et⟩, _, rfl⟩
                · refine zw_lload_n 13 f153_12 rfl (zl2_ne rfl rfl rfl) ?_
                  refine zw_lload 15 f153_13 rfl zl2_eq ?_
                  refine zw_ldiv ((B 69 a.toNatClampNeg) / (mD (B 69 a.toNatClampNeg) (L.2.2.2.2.1 a.toNatClampNeg))) 16 f153_15 rfl (mD_ne0 (i64_ne0 (hg _ ex.2.1 ex.2.2))) rfl ?_
                  refine zw_goto 23 f153_16 (by decide +kernel) ?_
                  refine zw_lreturn f153_23 r153 u153 ⟨_, rfl, ?_⟩
                  refine zw_l2i (Int64.toInt32 ((B 69 a.toNatClampNeg) / (mD (B 69 a.toNatClampNeg) (L.2.2.2.2.1 a.toNatClampNeg)))) 89 f163_88 rfl rfl ?_
                  refine zw_ireturn f163_89 r163 u163 ?_
                  exact ⟨_, _, _, _, rfl, KQ.rf, ⟨hi.1, hi.2.1, t, by omega, et⟩, _, rfl⟩
              · refine zw_aload_n 62 f163_61 rfl (zl1_ne rfl rfl rfl) ?_
                refine zw_getfield 65 f163_62 rfl g163_65_12 (hb_52 _ _ _ _) rfl ?_
                refine zw_iload_n 66 f163_65 rfl (zl1_ne rfl rfl rfl) ?_
                refine zw_iaload a.toNatClampNeg (A 68 a.toNatClampNeg) 67 f163_66 rfl (hb_68 _ _ _ _) rfl hc9 (zix (by decide) hc9 ex.1) rfl ?_
                refine zw_goto 89 f163_67 (by decide +kernel) ?_
                refine zw_ireturn f163_89 r163 u163 ?_
                exact ⟨_, _, _, _, rfl, KQ.rf, ⟨hi.1, hi.2.1, t, by omega, et⟩, _, rfl⟩
            · refine zw_aload_n 48 f163_47 rfl (zl1_ne rfl rfl rfl) ?_
              refine zw_getfield 51 f163_48 rfl g163_62_12 (hb_52 _ _ _ _) rfl ?_
              refine zw_iload_n 52 f163_51 rfl (zl1_ne rfl rfl rfl) ?_
              refine zw_iaload a.toNatClampNeg (A 67 a.toNatClampNeg) 53 f163_52 rfl (hb_67 _ _ _ _) rfl hc9 (zix (by decide) hc9 ex.1) rfl ?_
              refine zw_goto 89 f163_53 (by decide +kernel) ?_
              refine zw_ireturn f163_89 r163 u163 ?_
              exact ⟨_, _, _, _, rfl, KQ.rf, ⟨hi.1, hi.2.1, t, by omega, et⟩, _, rfl⟩
set_option maxRecDepth 100000 in
set_option maxHeartbeats 0 in
theorem lmq_sum (ro : UInt32 → Nat × (Nat → Int32)) (nv np : Nat) (W : qW) (L : qLog) (I : Nat → Nat → Int32) (G : Nat → Nat → Int64) (A : Nat → Nat → Int32) (B : Nat → Nat → Int64) (K : Int) (hR : mRS nv np A W L I G A B) (hp : MPa nv np A) (hW : wInv nv 10000 K A W) (hn : L.1 < 900000000) (hg : qLG L) (hi : mId I) (a : Int32) : ∀ (n k : Nat) (y : Int64) (ls : List (Nat × Value)), zld ls 0 = some (.ref 52) → zld ls 1 = some (.int a) → zld ls 2 = some (.long y) → zld ls 4 = some (.int (nI k)) → k ≤ nv → nv + 1 ≤ k + n → zWp ro 164 5 ls [] (hS I G A B) 0 0 (fun r h1 => ∃ I2 G2 A2 B2, h1 = hS I2 G2 A2 B2 ∧ KQ fQu pQu I G A B I2 G2 A2 B2 ∧ mId I2 ∧ ∃ v : Int64, r = some (.long v)) := by
  have h8 := hp.1
  have h14 := hp.2.1
  obtain ⟨t, ht, et⟩ := hi.2.2
  intro n
  induction n with
  | zero =>
    intro k y ls _ _ _ _ a b
    exact absurd b (by omega)
  | succ n ih =>
    intro k y ls h0 h1 h2 h4 hk1 hk2
    refine zw_iload 7 f164_5 rfl h4 ?_
    refine zw_aload_n 8 f164_7 rfl h0 ?_
    refine zw_getI (nI nv) 11 f164_8 rfl g164_114_12 (hb_52 _ _ _ _) rfl hR.1.1 ?_
    refine zw_ic_ge 14 30 f164_11 (by decide +kernel) rfl (fun hc1 => ?_) (fun hc1 => ?_)
    · have hn_hc1 : nv ≤ k := zn_ge (by omega) (by omega) hc1
      refine zw_iload_n 31 f164_30 rfl h1 ?_
      rcases zl_sw 6 (by decide) a with hs2 | ⟨hs2k, hs2l, hs2e⟩
      · refine zw_table_o 117 f164_31 hs2 (by decide +kernel) ?_
        refine zw_ldc2_w (-1) 120 f164_117 rfl (by decide +kernel) ?_
        refine zw_lreturn f164_120 r164 u164 ?_
        exact ⟨_, _, _, _, rfl, KQ.rf, ⟨hi.1, hi.2.1, t, by omega, et⟩, _, rfl⟩
      · rcases (show hs2k = 0 ∨ hs2k = 1 ∨ hs2k = 2 ∨ hs2k = 3 ∨ hs2k = 4 ∨ hs2k = 5 ∨ hs2k = 6 by omega) with rfl | rfl | rfl | rfl | rfl | rfl | rfl
        · refine zw_table_k 41 72 f164_31 hs2e (by decide +kernel) (by decide +kernel) (by decide +kernel) ?_
          refine zw_aload_n 73 f164_72 rfl h0 ?_
          refine zw_getG W.2.2.1 76 f164_73 rfl g164_175_12 (hb_52 _ _ _ _) rfl hR.sp ?_
          refine zw_aload_n 77 f164_76 rfl h0 ?_
          refine zw_getG W.1 80 f164_77 rfl g164_40_12 (hb_52 _ _ _ _) rfl hR.g ?_
          refine zw_iload_n 81 f164_80 rfl h1 ?_
          refine zw_static_l 84 0 0 [.long W.2.2.1, .long W.1, .int a] [] [(0, .long W.2.2.1), (2, .long W.1), (4, .int a)] f164_81 rfl k164_239_99 rfl (by decide +kernel) (Nat.le_of_ble_eq_true rfl) (Nat.le_of_ble_eq_true rfl) rfl rfl (by decide +kernel) (by decide +kernel) rfl (Nat.le_of_ble_eq_true rfl) rfl ?_
          refine zw_lload_n 1 f153_0 rfl rfl ?_
          refine zw_lload_n 2 f153_1 rfl rfl ?_
          refine zw_static_l 5 0 0 [.long W.2.2.1, .long W.1] [] [(0, .long W.2.2.1), (2, .long W.1)] f153_2 rfl k153_164_99 rfl (by decide +kernel) (Nat.le_of_ble_eq_true rfl) (Nat.le_of_ble_eq_true rfl) rfl rfl (by decide +kernel) (by decide +kernel) rfl (Nat.le_of_ble_eq_true rfl) rfl ?_
          refine zWp.mono (mm_divisor ro _ W.2.2.1 W.1) ?_
          rintro r h1 ⟨rfl, rfl⟩
          refine ⟨_, rfl, ?_⟩
          refine zw_lstore _ 7 f153_5 rfl (by decide +kernel) rfl ?_
          refine zw_iload 9 f153_7 rfl (zl2_ne rfl rfl rfl) ?_
          refine zw_if_ne 12 19 f153_9 (by decide +kernel) rfl (fun hc3 => ?_) (fun hc3 => ?_)
          · refine zw_lload_n 20 f153_19 rfl (zl2_ne rfl rfl rfl) ?_
            refine zw_lload 22 f153_20 rfl zl2_eq ?_
            refine zw_ldiv (W.1 / (mD W.2.2.1 W.1)) 23 f153_22 rfl (mD_ne0 (i64_ne0 hW.1.1.1.1)) rfl ?_
            refine zw_lreturn f153_23 r153 u153 ⟨_, rfl, ?_⟩
            refine zw_lreturn f164_84 r164 u164 ?_
            exact ⟨_, _, _, _, rfl, KQ.rf, ⟨hi.1, hi.2.1, t, by omega, et⟩, _, rfl⟩
          · refine zw_lload_n 13 f153_12 rfl (zl2_ne rfl rfl rfl) ?_
            refine zw_lload 15 f153_13 rfl zl2_eq ?_
            refine zw_ldiv (W.2.2.1 / (mD W.2.2.1 W.1)) 16 f153_15 rfl (mD_ne0 (i64_ne0 hW.1.1.1.1)) rfl ?_
            refine zw_goto 23 f153_16 (by decide +kernel) ?_
            refine zw_lreturn f153_23 r153 u153 ⟨_, rfl, ?_⟩
            refine zw_lreturn f164_84 r164 u164 ?_
            exact ⟨_, _, _, _, rfl, KQ.rf, ⟨hi.1, hi.2.1, t, by omega, et⟩, _, rfl⟩
        · refine zw_table_k 41 72 f164_31 hs2e (by decide +kernel) (by decide +kernel) (by decide +kernel) ?_
          refine zw_aload_n 73 f164_72 rfl h0 ?_
          refine zw_getG W.2.2.1 76 f164_73 rfl g164_175_12 (hb_52 _ _ _ _) rfl hR.sp ?_
          refine zw_aload_n 77 f164_76 rfl h0 ?_
          refine zw_getG W.1 80 f164_77 rfl g164_40_12 (hb_52 _ _ _ _) rfl hR.g ?_
          refine zw_iload_n 81 f164_80 rfl h1 ?_
          refine zw_static_l 84 0 0 [.long W.2.2.1, .long W.1, .int a] [] [(0, .long W.2.2.1), (2, .long W.1), (4, .int a)] f164_81 rfl k164_239_99 rfl (by decide +kernel) (Nat.le_of_ble_eq_true rfl) (Nat.le_of_ble_eq_true rfl) rfl rfl (by decide +kernel) (by decide +kernel) rfl (Nat.le_of_ble_eq_true rfl) rfl ?_
          refine zw_lload_n 1 f153_0 rfl rfl ?_
          refine zw_lload_n 2 f153_1 rfl rfl ?_
          refine zw_static_l 5 0 0 [.long W.2.2.1, .long W.1] [] [(0, .long W.2.2.1), (2, .long W.1)] f153_2 rfl k153_164_99 rfl (by decide +kernel) (Nat.le_of_ble_eq_true rfl) (Nat.le_of_ble_eq_true rfl) rfl rfl (by decide +kernel) (by decide +kernel) rfl (Nat.le_of_ble_eq_true rfl) rfl ?_
          refine zWp.mono (mm_divisor ro _ W.2.2.1 W.1) ?_
          rintro r h1 ⟨rfl, rfl⟩
          refine ⟨_, rfl, ?_⟩
          refine zw_lstore _ 7 f153_5 rfl (by decide +kernel) rfl ?_
          refine zw_iload 9 f153_7 rfl (zl2_ne rfl rfl rfl) ?_
          refine zw_if_ne 12 19 f153_9 (by decide +kernel) rfl (fun hc4 => ?_) (fun hc4 => ?_)
          · refine zw_lload_n 20 f153_19 rfl (zl2_ne rfl rfl rfl) ?_
            refine zw_lload 22 f153_20 rfl zl2_eq ?_
            refine zw_ldiv (W.1 / (mD W.2.2.1 W.1)) 23 f153_22 rfl (mD_ne0 (i64_ne0 hW.1.1.1.1)) rfl ?_
            refine zw_lreturn f153_23 r153 u153 ⟨_, rfl, ?_⟩
            refine zw_lreturn f164_84 r164 u164 ?_
            exact ⟨_, _, _, _, rfl, KQ.rf, ⟨hi.1, hi.2.1, t, by omega, et⟩, _, rfl⟩
          · refine zw_lload_n 13 f153_12 rfl (zl2_ne rfl rfl rfl) ?_
            refine zw_lload 15 f153_13 rfl zl2_eq ?_
            refine zw_ldiv (W.2.2.1 / (mD W.2.2.1 W.1)) 16 f153_15 rfl (mD_ne0 (i64_ne0 hW.1.1.1.1)) rfl ?_
            refine zw_goto 23 f153_16 (by decide +kernel) ?_
            refine zw_lreturn f153_23 r153 u153 ⟨_, rfl, ?_⟩
            refine zw_lreturn f164_84 r164 u164 ?_
            exact ⟨_, _, _, _, rfl, KQ.rf, ⟨hi.1, hi.2.1, t, by omega, et⟩, _, rfl⟩
        · refine zw_table_k 54 85 f164_31 hs2e (by decide +kernel) (by decide +kernel) (by decide +kernel) ?_
          refine zw_aload_n 86 f164_85 rfl h0 ?_
          refine zw_getG (G 52 21) 89 f164_86 rfl g164_225_12 (hb_52 _ _ _ _) rfl rfl ?_
          refine zw_lreturn f164_89 r164 u164 ?_
          exact ⟨_, _, _, _, rfl, KQ.rf, ⟨hi.1, hi.2.1, t, by omega, et⟩, _, rfl⟩
        · refine zw_table_k 59 90 f164_31 hs2e (by decide +kernel) (by decide +kernel) (by decide +kernel) ?_
          refine zw_aload_n 91 f164_90 rfl h0 ?_
          refine zw_getG W.2.2.2.1 94 f164_91 rfl g164_178_12 (hb_52 _ _ _ _) rfl hR.dr ?_
          refine zw_aload_n 95 f164_94 rfl h0 ?_
          refine zw_getG W.1 98 f164_95 rfl g164_40_12 (hb_52 _ _ _ _) rfl hR.g ?_
          refine zw_iload_n 99 f164_98 rfl h1 ?_
          refine zw_iconst 3 100 f164_99 rfl (by decide +kernel) ?_
          refine zw_isub (a - 3) 101 f164_100 rfl rfl ?_
          refine zw_static_l 104 0 0 [.long W.2.2.2.1, .long W.1, .int (a - 3)] [] [(0, .long W.2.2.2.1), (2, .long W.1), (4, .int (a - 3))] f164_101 rfl k164_239_99 rfl (by decide +kernel) (Nat.le_of_ble_eq_true rfl) (Nat.le_of_ble_eq_true rfl) rfl rfl (by decide +kernel) (by decide +kernel) rfl (Nat.le_of_ble_eq_true rfl) rfl ?_
          refine zw_lload_n 1 f153_0 rfl rfl ?_
          refine zw_lload_n 2 f153_1 rfl rfl ?_
          refine zw_static_l 5 0 0 [.long W.2.2.2.1, .long W.1] [] [(0, .long W.2.2.2.1), (2, .long W.1)] f153_2 rfl k153_164_99 rfl (by decide +kernel) (Nat.le_of_ble_eq_true rfl) (Nat.le_of_ble_eq_true rfl) rfl rfl (by decide +kernel) (by decide +kernel) rfl (Nat.le_of_ble_eq_true rfl) rfl ?_
          refine zWp.mono (mm_divisor ro _ W.2.2.2.1 W.1) ?_
          rintro r h1 ⟨rfl, rfl⟩
          refine ⟨_, rfl, ?_⟩
          refine zw_lstore _ 7 f153_5 rfl (by decide +kernel) rfl ?_
          refine zw_iload 9 f153_7 rfl (zl2_ne rfl rfl rfl) ?_
          refine zw_if_ne 12 19 f153_9 (by decide +kernel) rfl (fun hc5 => ?_) (fun hc5 => ?_)
          · refine zw_lload_n 20 f153_19 rfl (zl2_ne rfl rfl rfl) ?_
            refine zw_lload 22 f153_20 rfl zl2_eq ?_
            refine zw_ldiv (W.1 / (mD W.2.2.2.1 W.1)) 23 f153_22 rfl (mD_ne0 (i64_ne0 hW.1.1.1.1)) rfl ?_
            refine zw_lreturn f153_23 r153 u153 ⟨_, rfl, ?_⟩
            refine zw_lreturn f164_104 r164 u164 ?_
            exact ⟨_, _, _, _, rfl, KQ.rf, ⟨hi.1, hi.2.1, t, by omega, et⟩, _, rfl⟩
          · refine zw_lload_n 13 f153_12 rfl (zl2_ne rfl rfl rfl) ?_
            refine zw_lload 15 f153_13 rfl zl2_eq ?_
            refine zw_ldiv (W.2.2.2.1 / (mD W.2.2.2.1 W.1)) 16 f153_15 rfl (mD_ne0 (i64_ne0 hW.1.1.1.1)) rfl ?_
            refine zw_goto 23 f153_16 (by decide +kernel) ?_
            refine zw_lreturn f153_23 r153 u153 ⟨_, rfl, ?_⟩
            refine zw_lreturn f164_104 r164 u164 ?_
            exact ⟨_, _, _, _, rfl, KQ.rf, ⟨hi.1, hi.2.1, t, by omega, et⟩, _, rfl⟩
        · refine zw_table_k 59 90 f164_31 hs2e (by decide +kernel) (by decide +kernel) (by decide +kernel) ?_
          refine zw_aload_n 91 f164_90 rfl h0 ?_
          refine zw_getG W.2.2.2.1 94 f164_91 rfl g164_178_12 (hb_52 _ _ _ _) rfl hR.dr ?_
          refine zw_aload_n 95 f164_94 rfl h0 ?_
          refine zw_getG W.1 98 f164_95 rfl g164_40_12 (hb_52 _ _ _ _) rfl hR.g ?_
          refine zw_iload_n 99 f164_98 rfl h1 ?_
          refine zw_iconst 3 100 f164_99 rfl (by decide +kernel) ?_
          refine zw_isub (a - 3) 101 f164_100 rfl rfl ?_
          refine zw_static_l 104 0 0 [.long W.2.2.2.1, .long W.1, .int (a - 3)] [] [(0, .long W.2.2.2.1), (2, .long W.1), (4, .int (a - 3))] f164_101 rfl k164_239_99 rfl (by decide +kernel) (Nat.le_of_ble_eq_true rfl) (Nat.le_of_ble_eq_true rfl) rfl rfl (by decide +kernel) (by decide +kernel) rfl (Nat.le_of_ble_eq_true rfl) rfl ?_
          refine zw_lload_n 1 f153_0 rfl rfl ?_
          refine zw_lload_n 2 f153_1 rfl rfl ?_
          refine zw_static_l 5 0 0 [.long W.2.2.2.1, .long W.1] [] [(0, .long W.2.2.2.1), (2, .long W.1)] f153_2 rfl k153_164_99 rfl (by decide +kernel) (Nat.le_of_ble_eq_true rfl) (Nat.le_of_ble_eq_true rfl) rfl rfl (by decide +kernel) (by decide +kernel) rfl (Nat.le_of_ble_eq_true rfl) rfl ?_
          refine zWp.mono (mm_divisor ro _ W.2.2.2.1 W.1) ?_
          rintro r h1 ⟨rfl, rfl⟩
          refine ⟨_, rfl, ?_⟩
          refine zw_lstore _ 7 f153_5 rfl (by decide +kernel) rfl ?_
          refine zw_iload 9 f153_7 rfl (zl2_ne rfl rfl rfl) ?_
          refine zw_if_ne 12 19 f153_9 (by decide +kernel) rfl (fun hc6 => ?_) (fun hc6 => ?_)
          · refine zw_lload_n 20 f153_19 rfl (zl2_ne rfl rfl rfl) ?_
            refine zw_lload 22 f153_20 rfl zl2_eq ?_
            refine zw_ldiv (W.1 / (mD W.2.2.2.1 W.1)) 23 f153_22 rfl (mD_ne0 (i64_ne0 hW.1.1.1.1)) rfl ?_
            refine zw_lreturn f153_23 r153 u153 ⟨_, rfl, ?_⟩
            refine zw_lreturn f164_104 r164 u164 ?_
            exact ⟨_, _, _, _, rfl, KQ.rf, ⟨hi.1, hi.2.1, t, by omega, et⟩, _, rfl⟩
          · refine zw_lload_n 13 f153_12 rfl (zl2_ne rfl rfl rfl) ?_
            refine zw_lload 15 f153_13 rfl zl2_eq ?_
            refine zw_ldiv (W.2.2.2.1 / (mD W.2.2.2.1 W.1)) 16 f153_15 rfl (mD_ne0 (i64_ne0 hW.1.1.1.1)) rfl ?_
            refine zw_goto 23 f153_16 (by decide +kernel) ?_
            refine zw_lreturn f153_23 r153 u153 ⟨_, rfl, ?_⟩
            refine zw_lreturn f164_104 r164 u164 ?_
            exact ⟨_, _, _, _, rfl, KQ.rf, ⟨hi.1, hi.2.1, t, by omega, et⟩, _, rfl⟩
        · refine zw_table_k 74 105 f164_31 hs2e (by decide +kernel) (by decide +kernel) (by decide +kernel) ?_
          refine zw_lload_n 106 f164_105 rfl h2 ?_
          refine zw_aload_n 107 f164_106 rfl h0 ?_
          refine zw_getG W.1 110 f164_107 rfl g164_40_12 (hb_52 _ _ _ _) rfl hR.g ?_
          refine zw_iload_n 111 f164_110 rfl h1 ?_
          refine zw_iconst 5 112 f164_111 rfl (by decide +kernel) ?_
          refine zw_isub (a - 5) 113 f164_112 rfl rfl ?_
          refine zw_static_l 116 0 0 [.long y, .long W.1, .int (a - 5)] [] [(0, .long y), (2, .long W.1), (4, .int (a - 5))] f164_113 rfl k164_239_99 rfl (by decide +kernel) (Nat.le_of_ble_eq_true rfl) (Nat.le_of_ble_eq_true rfl) rfl rfl (by decide +kernel) (by decide +kernel) rfl (Nat.le_of_ble_eq_true rfl) rfl ?_
          refine zw_lload_n 1 f153_0 rfl rfl ?_
          refine zw_lload_n 2 f153_1 rfl rfl ?_
          refine zw_static_l 5 0 0 [.long y, .long W.1] [] [(0, .long y), (2, .long W.1)] f153_2 rfl k153_164_99 rfl (by decide +kernel) (Nat.le_of_ble_eq_true rfl) (Nat.le_of_ble_eq_true rfl) rfl rfl (by decide +kernel) (by decide +kernel) rfl (Nat.le_of_ble_eq_true rfl) rfl ?_
          refine zWp.mono (mm_divisor ro _ y W.1) ?_
          rintro r h1 ⟨rfl, rfl⟩
          refine ⟨_, rfl, ?_⟩
          refine zw_lstore _ 7 f153_5 rfl (by decide +kernel) rfl ?_
          refine zw_iload 9 f153_7 rfl (zl2_ne rfl rfl rfl) ?_
          refine zw_if_ne 12 19 f153_9 (by decide +kernel) rfl (fun hc7 => ?_) (fun hc7 => ?_)
          · refine zw_lload_n 20 f153_19 rfl (zl2_ne rfl rfl rfl) ?_
            refine zw_lload 22 f153_20 rfl zl2_eq ?_
            refine zw_ldiv (W.1 / (mD y W.1)) 23 f153_22 rfl (mD_ne0 (i64_ne0 hW.1.1.1.1)) rfl ?_
            refine zw_lreturn f153_23 r153 u153 ⟨_, rfl, ?_⟩
            refine zw_lreturn f164_116 r164 u164 ?_
            exact ⟨_, _, _, _, rfl, KQ.rf, ⟨hi.1, hi.2.1, t, by omega, et⟩, _, rfl⟩
          · refine zw_lload_n 13 f153_12 rfl (zl2_ne rfl rfl rfl) ?_
            refine zw_lload 15 f153_13 rfl zl2_eq ?_
            refine zw_ldiv (y / (mD y W.1)) 16 f153_15 rfl (mD_ne0 (i64_ne0 hW.1.1.1.1)) rfl ?_
            refine zw_goto 23 f153_16 (by decide +kernel) ?_
            refine zw_lreturn f153_23 r153 u153 ⟨_, rfl, ?_⟩
            refine zw_lreturn f164_116 r164 u164 ?_
            exact ⟨_, _, _, _, rfl, KQ.rf, ⟨hi.1, hi.2.1, t, by omega, et⟩, _, rfl⟩
        · refine zw_table_k 74 105 f164_31 hs2e (by decide +kernel) (by decide +kernel) (by decide +kernel) ?_
          refine zw_lload_n 106 f164_105 rfl h2 ?_
          refine zw_aload_n 107 f164_106 rfl h0 ?_
          refine zw_getG W.1 110 f164_107 rfl g164_40_12 (hb_52 _ _ _ _) rfl hR.g ?_
          refine zw_iload_n 111 f164_110 rfl h1 ?_
          refine zw_iconst 5 112 f164_111 rfl (by decide +kernel) ?_
          refine zw_isub (a - 5) 113 f164_112 rfl rfl ?_
          refine zw_static_l 116 0 0 [.long y, .long W.1, .int (a - 5)] [] [(0, .long y), (2, .long W.1), (4, .int (a - 5))] f164_113 rfl k164_239_99 rfl (by decide +kernel) (Nat.le_of_ble_eq_true rfl) (Nat.le_of_ble_eq_true rfl) rfl rfl (by decide +kernel) (by decide +kernel) rfl (Nat.le_of_ble_eq_true rfl) rfl ?_
          refine zw_lload_n 1 f153_0 rfl rfl ?_
          refine zw_lload_n 2 f153_1 rfl rfl ?_
          refine zw_static_l 5 0 0 [.long y, .long W.1] [] [(0, .long y), (2, .long W.1)] f153_2 rfl k153_164_99 rfl (by decide +kernel) (Nat.le_of_ble_eq_true rfl) (Nat.le_of_ble_eq_true rfl) rfl rfl (by decide +kernel) (by decide +kernel) rfl (Nat.le_of_ble_eq_true rfl) rfl ?_
          refine zWp.mono (mm_divisor ro _ y W.1) ?_
          rintro r h1 ⟨rfl, rfl⟩
          refine ⟨_, rfl, ?_⟩
          refine zw_lstore _ 7 f153_5 rfl (by decide +kernel) rfl ?_
          refine zw_iload 9 f153_7 rfl (zl2_ne rfl rfl rfl) ?_
          refine zw_if_ne 12 19 f153_9 (by decide +kernel) rfl (fun hc8 => ?_) (fun hc8 => ?_)
          · refine zw_lload_n 20 f153_19 rfl (zl2_ne rfl rfl rfl) ?_
            refine zw_lload 22 f153_20 rfl zl2_eq ?_
            refine zw_ldiv (W.1 / (mD y W.1)) 23 f153_22 rfl (mD_ne0 (i64_ne0 hW.1.1.1.1)) rfl ?_
            refine zw_lreturn f153_23 r153 u153 ⟨_, rfl, ?_⟩
            refine zw_lreturn f164_116 r164 u164 ?_
            exact ⟨_, _, _, _, rfl, KQ.rf, ⟨hi.1, hi.2.1, t, by omega, et⟩, _, rfl⟩
          · refine zw_lload_n 13 f153_12 rfl (zl2_ne rfl rfl rfl) ?_
            refine zw_lload 15 f153_13 rfl zl2_eq ?_
            refine zw_ldiv (y / (mD y W.1)) 16 f153_15 rfl (mD_ne0 (i64_ne0 hW.1.1.1.1)) rfl ?_
            refine zw_goto 23 f153_16 (by decide +kernel) ?_
            refine zw_lreturn f153_23 r153 u153 ⟨_, rfl, ?_⟩
            refine zw_lreturn f164_116 r164 u164 ?_
            exact ⟨_, _, _, _, rfl, KQ.rf, ⟨hi.1, hi.2.1, t, by omega, et⟩, _, rfl⟩
    · have hn_hc1 : k < nv := zn_lt (by omega) (by omega) hc1
      refine zw_lload_n 15 f164_14 rfl h2 ?_
      refine zw_aload_n 16 f164_15 rfl h0 ?_
      refine zw_getfield 19 f164_16 rfl g164_44_12 (hb_52 _ _ _ _) rfl ?_
      refine zw_iload 21 f164_19 rfl h4 ?_
      refine zw_laload k ((W.2.2.2.2.1) k) 22 f164_21 rfl (hb_63 _ _ _ _) (nI_clamp (by omega)) (nI_pos (by omega)) (by omega) (congrFun (hR.lev) k) ?_
      refine zw_ladd (y + ((W.2.2.2.2.1) k)) 23 f164_22 rfl rfl ?_
      refine zw_lstore_n _ 24 f164_23 rfl (by decide +kernel) rfl ?_
      refine zw_iinc (nI (k + 1)) _ 27 f164_24 rfl (zl2_ne rfl rfl h4) (by decide +kernel) (nI_1 _) rfl ?_
      refine zw_goto 5 f164_27 (by decide +kernel) ?_
      exact ih (k + 1) _ _ (zl1_ne rfl rfl (zl2_ne rfl rfl h0)) (zl1_ne rfl rfl (zl2_ne rfl rfl h1)) (zl1_ne rfl rfl zl2_eq) zl1_eq (by omega) (by omega)
set_option maxRecDepth 100000 in
set_option maxHeartbeats 0 in
theorem mq_sum (ro : UInt32 → Nat × (Nat → Int32)) (nv np : Nat) (W : qW) (L : qLog) (I : Nat → Nat → Int32) (G : Nat → Nat → Int64) (A : Nat → Nat → Int32) (B : Nat → Nat → Int64) (K : Int) (hR : mRS nv np A W L I G A B) (hp : MPa nv np A) (hW : wInv nv 10000 K A W) (hn : L.1 < 900000000) (hg : qLG L) (hi : mId I) (a : Int32) : zWp ro 164 0 [(0, .ref 52), (1, .int a)] [] (hS I G A B) 0 0 (fun r h1 => ∃ I2 G2 A2 B2, h1 = hS I2 G2 A2 B2 ∧ KQ fQu pQu I G A B I2 G2 A2 B2 ∧ mId I2 ∧ ∃ v : Int64, r = some (.long v)) := by
  have h8 := hp.1
  have h14 := hp.2.1
  obtain ⟨t, ht, et⟩ := hi.2.2
  refine zw_lconst 0 1 f164_0 rfl (by decide +kernel) ?_
  refine zw_lstore_n _ 2 f164_1 rfl (by decide +kernel) rfl ?_
  refine zw_iconst 0 3 f164_2 rfl (by decide +kernel) ?_
  refine zw_istore _ 5 f164_3 rfl (by decide +kernel) rfl ?_
  exact lmq_sum ro nv np W L I G A B K hR hp hW hn hg hi a (nv + 1) 0 _ _ (zl1_ne rfl rfl (zl2_ne rfl rfl rfl)) (zl1_ne rfl rfl (zl2_ne rfl rfl rfl)) (zl1_ne rfl rfl zl2_eq) zl1_eq (by omega) (by omega)
set_option maxRecDepth 100000 in
set_option maxHeartbeats 0 in
theorem mq_act (ro : UInt32 → Nat × (Nat → Int32)) (nv np : Nat) (W : qW) (L : qLog) (I : Nat → Nat → Int32) (G : Nat → Nat → Int64) (A : Nat → Nat → Int32) (B : Nat → Nat → Int64) (K : Int) (hR : mRS nv np A W L I G A B) (hp : MPa nv np A) (hW : wInv nv 10000 K A W) (hn : L.1 < 900000000) (hg : qLG L) (hi : mId I) (a : Int32) (b : Int32) (c : Int32) : zWp ro 180 0 [(0, .ref 52), (1, .int a), (2, .int b), (3, .int c)] [] (hS I G A B) 0 0 (fun r h1 => ∃ I2 G2 A2 B2, h1 = hS I2 G2 A2 B2 ∧ KQ fQu pQu I G A B I2 G2 A2 B2 ∧ mId I2 ∧ ∃ v : Int32, r = some (.int v)) := by
  have h8 := hp.1
  have h14 := hp.2.1
  obtain ⟨t, ht, et⟩ := hi.2.2
  refine zw_aload_n 1 f180_0 rfl rfl ?_
  refine zw_iload_n 2 f180_1 rfl rfl ?_
  refine zw_virtual_i 5 0 0 [.ref 52, .int a] [(0, .ref 52), (1, .int a)] f180_2 rfl n180_215 k180_215_12 rfl (hb_52 _ _ _ _) (by decide +kernel) (Nat.le_of_ble_eq_true rfl) rfl rfl (by decide +kernel) (by decide +kernel) rfl (Nat.le_of_ble_eq_true rfl) rfl ?_
  refine zw_iload_n 1 f123_0 rfl rfl ?_
  refine zw_iconst 0 2 f123_1 rfl (by decide +kernel) ?_
  refine zw_aload_n 3 f123_2 rfl rfl ?_
  refine zw_getI (nI nv) 6 f123_3 rfl g123_114_12 (hb_52 _ _ _ _) rfl hR.1.1 ?_
  refine zw_iconst 1 7 f123_6 rfl (by decide +kernel) ?_
  refine zw_isub ((nI nv) - 1) 8 f123_7 rfl rfl ?_
  refine zw_static_i 11 0 0 [.int a, .int 0, .int ((nI nv) - 1)] [] [(0, .int a), (1, .int 0), (2, .int ((nI nv) - 1))] f123_8 rfl k123_117_99 rfl (by decide +kernel) (Nat.le_of_ble_eq_true rfl) (Nat.le_of_ble_eq_true rfl) rfl rfl (by decide +kernel) (by decide +kernel) rfl (Nat.le_of_ble_eq_true rfl) rfl ?_
  refine zw_iload_n 1 f120_0 rfl rfl ?_
  refine zw_iload_n 2 f120_1 rfl rfl ?_
  refine zw_ic_lt 5 14 f120_2 (by decide +kernel) rfl (fun hc1 => ?_) (fun hc1 => ?_)
  · refine zw_iconst 0 15 f120_14 rfl (by decide +kernel) ?_
    refine zw_zreturn f120_15 r120 u120 (by decide +kernel) ⟨_, rfl, ?_⟩
    refine zw_zreturn f123_11 r123 u123 (by decide +kernel) ⟨_, rfl, ?_⟩
    refine zw_if_eq_t 17 f180_5 (by decide +kernel) (by decide +kernel) ?_
    refine zw_aload_n 18 f180_17 rfl rfl ?_
    refine zw_iconst 1 19 f180_18 rfl (by decide +kernel) ?_
    refine zw_virtual_i 22 0 0 [.ref 52, .int 1] [(0, .ref 52), (1, .int 1)] f180_19 rfl n180_209 k180_209_12 rfl (hb_52 _ _ _ _) (by decide +kernel) (Nat.le_of_ble_eq_true rfl) rfl rfl (by decide +kernel) (by decide +kernel) rfl (Nat.le_of_ble_eq_true rfl) rfl ?_
    refine zw_aload_n 1 f121_0 rfl rfl ?_
    refine zw_iload_n 2 f121_1 rfl rfl ?_
    refine zw_put _ 5 f121_2 rfl g121_111_12 (hb_52 _ _ _ _) rfl (Nat.le_of_ble_eq_true rfl) (by decide +kernel) (hi_52_27 _ _ _ _ _) ?_
    refine zw_iconst (-1) 6 f121_5 rfl (by decide +kernel) ?_
    refine zw_ireturn f121_6 r121 u121 ⟨_, rfl, ?_⟩
    refine zw_ireturn f180_22 r180 u180 ?_
    exact ⟨_, _, _, _, rfl, (KQ.i rfl KQ.rf), ⟨hi.1, hi.2.1, t, by omega, et⟩, _, rfl⟩
  · refine zw_iload_n 6 f120_5 rfl rfl ?_
    refine zw_iload_n 7 f120_6 rfl rfl ?_
    refine zw_ic_gt 10 14 f120_7 (by decide +kernel) rfl (fun hc2 => ?_) (fun hc2 => ?_)
    · refine zw_iconst 0 15 f120_14 rfl (by decide +kernel) ?_
      refine zw_zreturn f120_15 r120 u120 (by decide +kernel) ⟨_, rfl, ?_⟩
      refine zw_zreturn f123_11 r123 u123 (by decide +kernel) ⟨_, rfl, ?_⟩
      refine zw_if_eq_t 17 f180_5 (by decide +kernel) (by decide +kernel) ?_
      refine zw_aload_n 18 f180_17 rfl rfl ?_
      refine zw_iconst 1 19 f180_18 rfl (by decide +kernel) ?_
      refine zw_virtual_i 22 0 0 [.ref 52, .int 1] [(0, .ref 52), (1, .int 1)] f180_19 rfl n180_209 k180_209_12 rfl (hb_52 _ _ _ _) (by decide +kernel) (Nat.le_of_ble_eq_true rfl) rfl rfl (by decide +kernel) (by decide +kernel) rfl (Nat.le_of_ble_eq_true rfl) rfl ?_
      refine zw_aload_n 1 f121_0 rfl rfl ?_
      refine zw_iload_n 2 f121_1 rfl rfl ?_
      refine zw_put _ 5 f121_2 rfl g121_111_12 (hb_52 _ _ _ _) rfl (Nat.le_of_ble_eq_true rfl) (by decide +kernel) (hi_52_27 _ _ _ _ _) ?_
      refine zw_iconst (-1) 6 f121_5 rfl (by decide +kernel) ?_
      refine zw_ireturn f121_6 r121 u121 ⟨_, rfl, ?_⟩
      refine zw_ireturn f180_22 r180 u180 ?_
      exact ⟨_, _, _, _, rfl, (KQ.i rfl KQ.rf), ⟨hi.1, hi.2.1, t, by omega, et⟩, _, rfl⟩
    · refine zw_iconst 1 11 f120_10 rfl (by decide +kernel) ?_
      refine zw_goto 15 f120_11 (by decide +kernel) ?_
      refine zw_zreturn f120_15 r120 u120 (by decide +kernel) ⟨_, rfl, ?_⟩
      refine zw_zreturn f123_11 r123 u123 (by decide +kernel) ⟨_, rfl, ?_⟩
      refine zw_if_eq_f 8 17 f180_5 (by decide +kernel) rfl (by decide +kernel) ?_
      refine zw_iload_n 9 f180_8 rfl rfl ?_
      refine zw_iconst 0 10 f180_9 rfl (by decide +kernel) ?_
      refine zw_iconst 3 11 f180_10 rfl (by decide +kernel) ?_
      refine zw_static_i 14 0 0 [.int b, .int 0, .int 3] [] [(0, .int b), (1, .int 0), (2, .int 3)] f180_11 rfl k180_117_99 rfl (by decide +kernel) (Nat.le_of_ble_eq_true rfl) (Nat.le_of_ble_eq_true rfl) rfl rfl (by decide +kernel) (by decide +kernel) rfl (Nat.le_of_ble_eq_true rfl) rfl ?_
      refine zw_iload_n 1 f120_0 rfl rfl ?_
      refine zw_iload_n 2 f120_1 rfl rfl ?_
      refine zw_ic_lt 5 14 f120_2 (by decide +kernel) rfl (fun hc3 => ?_) (fun hc3 => ?_)
      · refine zw_iconst 0 15 f120_14 rfl (by decide +kernel) ?_
        refine zw_zreturn f120_15 r120 u120 (by decide +kernel) ⟨_, rfl, ?_⟩
        refine zw_if_ne_f 17 23 f180_14 (by decide +kernel) rfl (by decide +kernel) ?_
        refine zw_aload_n 18 f180_17 rfl rfl ?_
        refine zw_iconst 1 19 f180_18 rfl (by decide +kernel) ?_
        refine zw_virtual_i 22 0 0 [.ref 52, .int 1] [(0, .ref 52), (1, .int 1)] f180_19 rfl n180_209 k180_209_12 rfl (hb_52 _ _ _ _) (by decide +kernel) (Nat.le_of_ble_eq_true rfl) rfl rfl (by decide +kernel) (by decide +kernel) rfl (Nat.le_of_ble_eq_true rfl) rfl ?_
        refine zw_aload_n 1 f121_0 rfl rfl ?_
        refine zw_iload_n 2 f121_1 rfl rfl ?_
        refine zw_put _ 5 f121_2 rfl g121_111_12 (hb_52 _ _ _ _) rfl (Nat.le_of_ble_eq_true rfl) (by decide +kernel) (hi_52_27 _ _ _ _ _) ?_
        refine zw_iconst (-1) 6 f121_5 rfl (by decide +kernel) ?_
        refine zw_ireturn f121_6 r121 u121 ⟨_, rfl, ?_⟩
        refine zw_ireturn f180_22 r180 u180 ?_
        exact ⟨_, _, _, _, rfl, (KQ.i rfl KQ.rf), ⟨hi.1, hi.2.1, t, by omega, et⟩, _, rfl⟩
      · refine zw_iload_n 6 f120_5 rfl rfl ?_
        refine zw_iload_n 7 f120_6 rfl rfl ?_
        refine zw_ic_gt 10 14 f120_7 (by decide +kernel) rfl (fun hc4 => ?_) (fun hc4 => ?_)
        · refine zw_iconst 0 15 f120_14 rfl (by decide +kernel) ?_
          refine zw_zreturn f120_15 r120 u120 (by decide +kernel) ⟨_, rfl, ?_⟩
          refine zw_if_ne_f 17 23 f180_14 (by decide +kernel) rfl (by decide +kernel) ?_
          refine zw_aload_n 18 f180_17 rfl rfl ?_
          refine zw_iconst 1 19 f180_18 rfl (by decide +kernel) ?_
          refine zw_virtual_i 22 0 0 [.ref 52, .int 1] [(0, .ref 52), (1, .int 1)] f180_19 rfl n180_209 k180_209_12 rfl (hb_52 _ _ _ _) (by decide +kernel) (Nat.le_of_ble_eq_true rfl) rfl rfl (by decide +kernel) (by decide +kernel) rfl (Nat.le_of_ble_eq_true rfl) rfl ?_
          refine zw_aload_n 1 f121_0 rfl rfl ?_
          refine zw_iload_n 2 f121_1 rfl rfl ?_
          refine zw_put _ 5 f121_2 rfl g121_111_12 (hb_52 _ _ _ _) rfl (Nat.le_of_ble_eq_true rfl) (by decide +kernel) (hi_52_27 _ _ _ _ _) ?_
          refine zw_iconst (-1) 6 f121_5 rfl (by decide +kernel) ?_
          refine zw_ireturn f121_6 r121 u121 ⟨_, rfl, ?_⟩
          refine zw_ireturn f180_22 r180 u180 ?_
          exact ⟨_, _, _, _, rfl, (KQ.i rfl KQ.rf), ⟨hi.1, hi.2.1, t, by omega, et⟩, _, rfl⟩
        · refine zw_iconst 1 11 f120_10 rfl (by decide +kernel) ?_
          refine zw_goto 15 f120_11 (by decide +kernel) ?_
          refine zw_zreturn f120_15 r120 u120 (by decide +kernel) ⟨_, rfl, ?_⟩
          refine zw_if_ne_t 23 f180_14 (by decide +kernel) (by decide +kernel) ?_
          refine zw_aload_n 24 f180_23 rfl rfl ?_
          refine zw_iconst 0 25 f180_24 rfl (by decide +kernel) ?_
          refine zw_put _ 28 f180_25 rfl g180_246_12 (hb_52 _ _ _ _) rfl (Nat.le_of_ble_eq_true rfl) (by decide +kernel) (hi_52_29 _ _ _ _ _) ?_
          refine zw_aload_n 29 f180_28 rfl rfl ?_
          refine zw_iload_n 30 f180_29 rfl rfl ?_
          refine zw_if_ne 33 42 f180_30 (by decide +kernel) rfl (fun hc5 => ?_) (fun hc5 => ?_)
          · refine zw_iload_n 43 f180_42 rfl rfl ?_
            refine zw_iconst 1 44 f180_43 rfl (by decide +kernel) ?_
            refine zw_ic_ne 47 56 f180_44 (by decide +kernel) rfl (fun hc6 => ?_) (fun hc6 => ?_)
            · refine zw_iload_n 57 f180_56 rfl rfl ?_
              refine zw_iconst 2 58 f180_57 rfl (by decide +kernel) ?_
              refine zw_ic_ne 61 70 f180_58 (by decide +kernel) rfl (fun hc7 => ?_) (fun hc7 => ?_)
              · refine zw_aload_n 71 f180_70 rfl rfl ?_
                refine zw_iload_n 72 f180_71 rfl rfl ?_
                refine zw_iload_n 73 f180_72 rfl rfl ?_
                refine zw_virtual_i 76 0 0 [.ref 52, .int a, .int c] [(0, .ref 52), (1, .int a), (2, .int c)] f180_73 rfl n180_310 k180_310_12 rfl (hb_52 _ _ _ _) (by decide +kernel) (Nat.le_of_ble_eq_true rfl) rfl rfl (by decide +kernel) (by decide +kernel) rfl (Nat.le_of_ble_eq_true rfl) rfl ?_
                refine zw_iload_n 1 f179_0 rfl rfl ?_
                refine zw_istore_n _ 2 f179_1 rfl (by decide +kernel) rfl ?_
                refine zw_aload_n 3 f179_2 rfl (zl1_ne rfl rfl rfl) ?_
                refine zw_getfield 6 f179_3 rfl g179_7_12 (hb_52 _ _ _ _) rfl ?_
                refine zw_iload_n 7 f179_6 rfl (zl1_ne rfl rfl rfl) ?_
                refine zw_iaload a.toNatClampNeg (A 53 a.toNatClampNeg) 8 f179_7 rfl (hb_53 _ _ _ _) rfl hc1 (zix (by decide) hc1 (show ¬ 8 ≤ a from ix_le hp.1 (by decide) (by decide) hc1 hc2)) rfl ?_
                refine zw_iconst 1 9 f179_8 rfl (by decide +kernel) ?_
                refine zw_ic_ne 12 22 f179_9 (by decide +kernel) rfl (fun hc8 => ?_) (fun hc8 => ?_)
                · refine zw_aload_n 23 f179_22 rfl (zl1_ne rfl rfl rfl) ?_
                  refine zw_bipush 13 25 f179_23 rfl (by decide +kernel) ?_
                  refine zw_virtual_v 28 0 0 [.ref 52, .int 13] [(0, .ref 52), (1, .int 13)] f179_25 rfl n179_291 k179_291_12 rfl (hb_52 _ _ _ _) (by decide +kernel) (Nat.le_of_ble_eq_true rfl) rfl rfl (by decide +kernel) (by decide +kernel) rfl (Nat.le_of_ble_eq_true rfl) rfl ?_
                  refine zw_aload_n 1 f173_0 rfl rfl ?_
                  refine zw_getI 0 4 f173_1 rfl g173_246_12 (hb_52 _ _ _ _) rfl rfl ?_
                  refine zw_bipush 50 6 f173_4 rfl (by decide +kernel) ?_
                  refine zw_ic_ge_f 9 19 f173_6 (by decide +kernel) rfl (by decide +kernel) ?_
                  refine zw_aload_n 10 f173_9 rfl rfl ?_
                  refine zw_getfield 13 f173_10 rfl g173_74_12 (hb_52 _ _ _ _) rfl ?_
                  refine zw_aload_n 14 f173_13 rfl rfl ?_
                  refine zw_getI 0 17 f173_14 rfl g173_246_12 (hb_52 _ _ _ _) rfl rfl ?_
                  refine zw_iload_n 18 f173_17 rfl rfl ?_
                  refine zw_ast 0 _ 19 f173_18 rfl (hb_71 _ _ _ _) (by decide +kernel) (by decide +kernel) (by decide +kernel) (ha_71 _ _ _ _ _) ?_
                  refine zw_aload_n 20 f173_19 rfl rfl ?_
                  refine zw_dup 21 f173_20 rfl rfl ?_
                  refine zw_getI 0 24 f173_21 rfl g173_246_12 (hb_52 _ _ _ _) rfl rfl ?_
                  refine zw_iconst 1 25 f173_24 rfl (by decide +kernel) ?_
                  refine zw_iadd 1 26 f173_25 rfl (by decide +kernel) ?_
                  refine zw_put _ 29 f173_26 rfl g173_246_12 (hb_52 _ _ _ _) rfl (Nat.le_of_ble_eq_true rfl) (by decide +kernel) (hi_52_29 _ _ _ _ _) ?_
                  refine zw_vreturn f173_29 r173 u173 ⟨rfl, ?_⟩
                  refine zw_aload_n 29 f179_28 rfl (zl1_ne rfl rfl rfl) ?_
                  refine zw_iload_n 30 f179_29 rfl (zl1_ne rfl rfl rfl) ?_
                  refine zw_iload_n 31 f179_30 rfl zl1_eq ?_
                  refine zw_virtual_i 34 0 0 [.ref 52, .int a, .int c] [(0, .ref 52), (1, .int a), (2, .int c)] f179_31 rfl n179_304 k179_304_12 rfl (hb_52 _ _ _ _) (by decide +kernel) (Nat.le_of_ble_eq_true rfl) rfl rfl (by decide +kernel) (by decide +kernel) rfl (Nat.le_of_ble_eq_true rfl) rfl ?_
                  refine zw_aload_n 1 f177_0 rfl rfl ?_
                  refine zw_getfield 4 f177_1 rfl g177_7_12 (hb_52 _ _ _ _) rfl ?_
                  refine zw_iload_n 5 f177_4 rfl rfl ?_
                  refine zw_iaload a.toNatClampNeg (A 53 a.toNatClampNeg) 6 f177_5 rfl (hb_53 _ _ _ _) rfl hc1 (zix (by decide) hc1 (show ¬ 8 ≤ a from ix_le hp.1 (by decide) (by decide) hc1 hc2)) rfl ?_
                  refine zw_iconst 1 7 f177_6 rfl (by decide +kernel) ?_
                  refine zw_ic_ne_t 30 f177_7 (by decide +kernel) hc8 ?_
                  refine zw_aload_n 31 f177_30 rfl rfl ?_
                  refine zw_getfield 34 f177_31 rfl g177_7_12 (hb_52 _ _ _ _) rfl ?_
                  refine zw_iload_n 35 f177_34 rfl rfl ?_
                  refine zw_iaload a.toNatClampNeg (A 53 a.toNatClampNeg) 36 f177_35 rfl (hb_53 _ _ _ _) rfl hc1 (zix (by decide) hc1 (show ¬ 8 ≤ a from ix_le hp.1 (by decide) (by decide) hc1 hc2)) rfl ?_
                  refine zw_iconst 4 37 f177_36 rfl (by decide +kernel) ?_
                  refine zw_ic_ne 40 60 f177_37 (by decide +kernel) rfl (fun hc9 => ?_) (fun hc9 => ?_)
                  · refine zw_aload_n 61 f177_60 rfl rfl ?_
                    refine zw_iload_n 62 f177_61 rfl rfl ?_
                    refine zw_iload_n 63 f177_62 rfl rfl ?_
                    refine zw_virtual_i 66 0 0 [.ref 52, .int a, .int c] [(0, .ref 52), (1, .int a), (2, .int c)] f177_63 rfl n177_301 k177_301_12 rfl (hb_52 _ _ _ _) (by decide +kernel) (Nat.le_of_ble_eq_true rfl) rfl rfl (by decide +kernel) (by decide +kernel) rfl (Nat.le_of_ble_eq_true rfl) rfl ?_
                    refine zw_aload_n 1 f176_0 rfl rfl ?_
                    refine zw_bipush 11 3 f176_1 rfl (by decide +kernel) ?_
                    refine zw_virtual_v 6 0 0 [.ref 52, .int 11] [(0, .ref 52), (1, .int 11)] f176_3 rfl n176_291 k176_291_12 rfl (hb_52 _ _ _ _) (by decide +kernel) (Nat.le_of_ble_eq_true rfl) rfl rfl (by decide +kernel) (by decide +kernel) rfl (Nat.le_of_ble_eq_true rfl) rfl ?_
                    refine zw_aload_n 1 f173_0 rfl rfl ?_
                    refine zw_getI 1 4 f173_1 rfl g173_246_12 (hb_52 _ _ _ _) rfl rfl ?_
                    refine zw_bipush 50 6 f173_4 rfl (by decide +kernel) ?_
                    refine zw_ic_ge_f 9 19 f173_6 (by decide +kernel) rfl (by decide +kernel) ?_
                    refine zw_aload_n 10 f173_9 rfl rfl ?_
                    refine zw_getfield 13 f173_10 rfl g173_74_12 (hb_52 _ _ _ _) rfl ?_
                    refine zw_aload_n 14 f173_13 rfl rfl ?_
                    refine zw_getI 1 17 f173_14 rfl g173_246_12 (hb_52 _ _ _ _) rfl rfl ?_
                    refine zw_iload_n 18 f173_17 rfl rfl ?_
                    refine zw_ast 1 _ 19 f173_18 rfl (hb_71 _ _ _ _) (by decide +kernel) (by decide +kernel) (by decide +kernel) (ha_71 _ _ _ _ _) ?_
                    refine zw_aload_n 20 f173_19 rfl rfl ?_
                    refine zw_dup 21 f173_20 rfl rfl ?_
                    refine zw_getI 1 24 f173_21 rfl g173_246_12 (hb_52 _ _ _ _) rfl rfl ?_
                    refine zw_iconst 1 25 f173_24 rfl (by decide +kernel) ?_
                    refine zw_iadd 2 26 f173_25 rfl (by decide +kernel) ?_
                    refine zw_put _ 29 f173_26 rfl g173_246_12 (hb_52 _ _ _ _) rfl (Nat.le_of_ble_eq_true rfl) (by decide +kernel) (hi_52_29 _ _ _ _ _) ?_
                    refine zw_vreturn f173_29 r173 u173 ⟨rfl, ?_⟩
                    refine zw_aload_n 7 f176_6 rfl rfl ?_
                    refine zw_iload_n 8 f176_7 rfl rfl ?_
                    refine zw_iload_n 9 f176_8 rfl rfl ?_
                    refine zw_virtual_i 12 0 0 [.ref 52, .int a, .int c] [(0, .ref 52), (1, .int a), (2, .int c)] f176_9 rfl n176_298 k176_298_12 rfl (hb_52 _ _ _ _) (by decide +kernel) (Nat.le_of_ble_eq_true rfl) rfl rfl (by decide +kernel) (by decide +kernel) rfl (Nat.le_of_ble_eq_true rfl) rfl ?_
                    refine zw_aload_n 1 f175_0 rfl rfl ?_
                    refine zw_getfield 4 f175_1 rfl g175_7_12 (hb_52 _ _ _ _) rfl ?_
                    refine zw_iload_n 5 f175_4 rfl rfl ?_
                    refine zw_iaload a.toNatClampNeg (A 53 a.toNatClampNeg) 6 f175_5 rfl (hb_53 _ _ _ _) rfl hc1 (zix (by decide) hc1 (show ¬ 8 ≤ a from ix_le hp.1 (by decide) (by decide) hc1 hc2)) rfl ?_
                    refine zw_iconst 2 7 f175_6 rfl (by decide +kernel) ?_
                    refine zw_ic_ne 10 25 f175_7 (by decide +kernel) rfl (fun hc10 => ?_) (fun hc10 => ?_)
                    · refine zw_aload_n 26 f175_25 rfl rfl ?_
                      refine zw_iload_n 27 f175_26 rfl rfl ?_
                      refine zw_virtual_i 30 0 0 [.ref 52, .int a] [(0, .ref 52), (1, .int a)] f175_27 rfl n175_158 k175_158_12 rfl (hb_52 _ _ _ _) (by decide +kernel) (Nat.le_of_ble_eq_true rfl) rfl rfl (by decide +kernel) (by decide +kernel) rfl (Nat.le_of_ble_eq_true rfl) rfl ?_
                      refine zw_aload_n 1 f126_0 rfl rfl ?_
                      refine zw_getfield 4 f126_1 rfl g126_7_12 (hb_52 _ _ _ _) rfl ?_
                      refine zw_iload_n 5 f126_4 rfl rfl ?_
                      refine zw_iaload a.toNatClampNeg (A 53 a.toNatClampNeg) 6 f126_5 rfl (hb_53 _ _ _ _) rfl hc1 (zix (by decide) hc1 (show ¬ 8 ≤ a from ix_le hp.1 (by decide) (by decide) hc1 hc2)) rfl ?_
                      refine zw_iconst 3 7 f126_6 rfl (by decide +kernel) ?_
                      refine zw_ic_eq 10 20 f126_7 (by decide +kernel) rfl (fun hc11 => ?_) (fun hc11 => ?_)
                      · refine zw_iconst 1 21 f126_20 rfl (by decide +kernel) ?_
                        refine zw_goto 25 f126_21 (by decide +kernel) ?_
                        refine zw_zreturn f126_25 r126 u126 (by decide +kernel) ⟨_, rfl, ?_⟩
                        refine zw_if_eq_f 33 53 f175_30 (by decide +kernel) rfl (by decide +kernel) ?_
                        refine zw_aload_n 34 f175_33 rfl rfl ?_
                        refine zw_bipush 41 36 f175_34 rfl (by decide +kernel) ?_
                        refine zw_virtual_v 39 0 0 [.ref 52, .int 41] [(0, .ref 52), (1, .int 41)] f175_36 rfl n175_291 k175_291_12 rfl (hb_52 _ _ _ _) (by decide +kernel) (Nat.le_of_ble_eq_true rfl) rfl rfl (by decide +kernel) (by decide +kernel) rfl (Nat.le_of_ble_eq_true rfl) rfl ?_
                        refine zw_aload_n 1 f173_0 rfl rfl ?_
                        refine zw_getI 2 4 f173_1 rfl g173_246_12 (hb_52 _ _ _ _) rfl rfl ?_
                        refine zw_bipush 50 6 f173_4 rfl (by decide +kernel) ?_
                        refine zw_ic_ge_f 9 19 f173_6 (by decide +kernel) rfl (by decide +kernel) ?_
                        refine zw_aload_n 10 f173_9 rfl rfl ?_
                        refine zw_getfield 13 f173_10 rfl g173_74_12 (hb_52 _ _ _ _) rfl ?_
                        refine zw_aload_n 14 f173_13 rfl rfl ?_
                        refine zw_getI 2 17 f173_14 rfl g173_246_12 (hb_52 _ _ _ _) rfl rfl ?_
                        refine zw_iload_n 18 f173_17 rfl rfl ?_
                        refine zw_ast 2 _ 19 f173_18 rfl (hb_71 _ _ _ _) (by decide +kernel) (by decide +kernel) (by decide +kernel) (ha_71 _ _ _ _ _) ?_
                        refine zw_aload_n 20 f173_19 rfl rfl ?_
                        refine zw_dup 21 f173_20 rfl rfl ?_
                        refine zw_getI 2 24 f173_21 rfl g173_246_12 (hb_52 _ _ _ _) rfl rfl ?_
                        refine zw_iconst 1 25 f173_24 rfl (by decide +kernel) ?_
                        refine zw_iadd 3 26 f173_25 rfl (by decide +kernel) ?_
                        refine zw_put _ 29 f173_26 rfl g173_246_12 (hb_52 _ _ _ _) rfl (Nat.le_of_ble_eq_true rfl) (by decide +kernel) (hi_52_29 _ _ _ _ _) ?_
                        refine zw_vreturn f173_29 r173 u173 ⟨rfl, ?_⟩
                        refine zw_aload_n 40 f175_39 rfl rfl ?_
                        refine zw_iload_n 41 f175_40 rfl rfl ?_
                        refine zw_iload_n 42 f175_41 rfl rfl ?_
                        refine zw_aload_n 43 f175_42 rfl rfl ?_
                        refine zw_getfield 46 f175_43 rfl g175_16_12 (hb_52 _ _ _ _) rfl ?_
                        refine zw_iload_n 47 f175_46 rfl rfl ?_
                        refine zw_iaload a.toNatClampNeg (A 55 a.toNatClampNeg) 48 f175_47 rfl (hb_55 _ _ _ _) rfl hc1 (zix (by decide) hc1 (show ¬ 8 ≤ a from ix_le hp.1 (by decide) (by decide) hc1 hc2)) rfl ?_
                        refine zw_iadd (c + (A 55 a.toNatClampNeg)) 49 f175_48 rfl rfl ?_
                        refine zw_virtual_i 52 0 0 [.ref 52, .int a, .int (c + (A 55 a.toNatClampNeg))] [(0, .ref 52), (1, .int a), (2, .int (c + (A 55 a.toNatClampNeg)))] f175_49 rfl n175_294 k175_294_12 rfl (hb_52 _ _ _ _) (by decide +kernel) (Nat.le_of_ble_eq_true rfl) rfl rfl (by decide +kernel) (by decide +kernel) rfl (Nat.le_of_ble_eq_true rfl) rfl ?_
                        refine zw_aload_n 1 f174_0 rfl rfl ?_
                        refine zw_bipush 10 3 f174_1 rfl (by decide +kernel) ?_
                        refine zw_virtual_v 6 0 0 [.ref 52, .int 10] [(0, .ref 52), (1, .int 10)] f174_3 rfl n174_291 k174_291_12 rfl (hb_52 _ _ _ _) (by decide +kernel) (Nat.le_of_ble_eq_true rfl) rfl rfl (by decide +kernel) (by decide +kernel) rfl (Nat.le_of_ble_eq_true rfl) rfl ?_
                        refine zw_aload_n 1 f173_0 rfl rfl ?_
                        refine zw_getI 3 4 f173_1 rfl g173_246_12 (hb_52 _ _ _ _) rfl rfl ?_
                        refine zw_bipush 50 6 f173_4 rfl (by decide +kernel) ?_
                        refine zw_ic_ge_f 9 19 f173_6 (by decide +kernel) rfl (by decide +kernel) ?_
                        refine zw_aload_n 10 f173_9 rfl rfl ?_
                        refine zw_getfield 13 f173_10 rfl g173_74_12 (hb_52 _ _ _ _) rfl ?_
                        refine zw_aload_n 14 f173_13 rfl rfl ?_
                        refine zw_getI 3 17 f173_14 rfl g173_246_12 (hb_52 _ _ _ _) rfl rfl ?_
                        refine zw_iload_n 18 f173_17 rfl rfl ?_
                        refine zw_ast 3 _ 19 f173_18 rfl (hb_71 _ _ _ _) (by decide +kernel) (by decide +kernel) (by decide +kernel) (ha_71 _ _ _ _ _) ?_
                        refine zw_aload_n 20 f173_19 rfl rfl ?_
                        refine zw_dup 21 f173_20 rfl rfl ?_
                        refine zw_getI 3 24 f173_21 rfl g173_246_12 (hb_52 _ _ _ _) rfl rfl ?_
                        refine zw_iconst 1 25 f173_24 rfl (by decide +kernel) ?_
                        refine zw_iadd 4 26 f173_25 rfl (by decide +kernel) ?_
                        refine zw_put _ 29 f173_26 rfl g173_246_12 (hb_52 _ _ _ _) rfl (Nat.le_of_ble_eq_true rfl) (by decide +kernel) (hi_52_29 _ _ _ _ _) ?_
                        refine zw_vreturn f173_29 r173 u173 ⟨rfl, ?_⟩
                        refine zw_iload_n 7 f174_6 rfl rfl ?_
                        refine zw_aload_n 8 f174_7 rfl rfl ?_
                        refine zw_getfield 11 f174_8 rfl g174_13_12 (hb_52 _ _ _ _) rfl ?_
                        refine zw_iload_n 12 f174_11 rfl rfl ?_
                        refine zw_iaload a.toNatClampNeg (A 54 a.toNatClampNeg) 13 f174_12 rfl (hb_54 _ _ _ _) rfl hc1 (zix (by decide) hc1 (show ¬ 8 ≤ a from ix_le hp.1 (by decide) (by decide) hc1 hc2)) rfl ?_
                        refine zw_iadd ((c + (A 55 a.toNatClampNeg)) + (A 54 a.toNatClampNeg)) 14 f174_13 rfl rfl ?_
                        refine zw_ireturn f174_14 r174 u174 ⟨_, rfl, ?_⟩
                        refine zw_ireturn f175_52 r175 u175 ⟨_, rfl, ?_⟩
                        refine zw_iconst 3 13 f176_12 rfl (by decide +kernel) ?_
                        refine zw_imul (((c + (A 55 a.toNatClampNeg)) + (A 54 a.toNatClampNeg)) * 3) 14 f176_13 rfl rfl ?_
                        refine zw_ireturn f176_14 r176 u176 ⟨_, rfl, ?_⟩
                        refine zw_ireturn f177_66 r177 u177 ⟨_, rfl, ?_⟩
                        refine zw_istore _ 36 f179_34 rfl (by decide +kernel) rfl ?_
                        refine zw_iload 38 f179_36 rfl zl1_eq ?_
                        refine zw_aload_n 39 f179_38 rfl (zl1_ne rfl rfl (zl1_ne rfl rfl rfl)) ?_
                        refine zw_iload_n 40 f179_39 rfl (zl1_ne rfl rfl (zl1_ne rfl rfl rfl)) ?_
                        refine zw_iload_n 41 f179_40 rfl (zl1_ne rfl rfl zl1_eq) ?_
                        refine zw_virtual_i 44 0 0 [.ref 52, .int a, .int c] [(0, .ref 52), (1, .int a), (2, .int c)] f179_41 rfl n179_307 k179_307_12 rfl (hb_52 _ _ _ _) (by decide +kernel) (Nat.le_of_ble_eq_true rfl) rfl rfl (by decide +kernel) (by decide +kernel) rfl (Nat.le_of_ble_eq_true rfl) rfl ?_
                        refine zw_aload_n 1 f178_0 rfl rfl ?_
                        refine zw_getfield 4 f178_1 rfl g178_7_12 (hb_52 _ _ _ _) rfl ?_
                        refine zw_iload_n 5 f178_4 rfl rfl ?_
                        refine zw_iaload a.toNatClampNeg (A 53 a.toNatClampNeg) 6 f178_5 rfl (hb_53 _ _ _ _) rfl hc1 (zix (by decide) hc1 (show ¬ 8 ≤ a from ix_le hp.1 (by decide) (by decide) hc1 hc2)) rfl ?_
                        refine zw_iconst 4 7 f178_6 rfl (by decide +kernel) ?_
                        refine zw_ic_ne_t 16 f178_7 (by decide +kernel) hc9 ?_
                        refine zw_aload_n 17 f178_16 rfl rfl ?_
                        refine zw_iload_n 18 f178_17 rfl rfl ?_
                        refine zw_virtual_i 21 0 0 [.ref 52, .int a] [(0, .ref 52), (1, .int a)] f178_18 rfl n178_158 k178_158_12 rfl (hb_52 _ _ _ _) (by decide +kernel) (Nat.le_of_ble_eq_true rfl) rfl rfl (by decide +kernel) (by decide +kernel) rfl (Nat.le_of_ble_eq_true rfl) rfl ?_
                        refine zw_aload_n 1 f126_0 rfl rfl ?_
                        refine zw_getfield 4 f126_1 rfl g126_7_12 (hb_52 _ _ _ _) rfl ?_
                        refine zw_iload_n 5 f126_4 rfl rfl ?_
                        refine zw_iaload a.toNatClampNeg (A 53 a.toNatClampNeg) 6 f126_5 rfl (hb_53 _ _ _ _) rfl hc1 (zix (by decide) hc1 (show ¬ 8 ≤ a from ix_le hp.1 (by decide) (by decide) hc1 hc2)) rfl ?_
                        refine zw_iconst 3 7 f126_6 rfl (by decide +kernel) ?_
                        refine zw_ic_eq_t 20 f126_7 (by decide +kernel) hc11 ?_
                        refine zw_iconst 1 21 f126_20 rfl (by decide +kernel) ?_
                        refine zw_goto 25 f126_21 (by decide +kernel) ?_
                        refine zw_zreturn f126_25 r126 u126 (by decide +kernel) ⟨_, rfl, ?_⟩
                        refine zw_if_eq_f 24 30 f178_21 (by decide +kernel) rfl (by decide +kernel) ?_
                        refine zw_aload_n 25 f178_24 rfl rfl ?_
                        refine zw_bipush 40 27 f178_25 rfl (by decide +kernel) ?_
                        refine zw_virtual_v 30 0 0 [.ref 52, .int 40] [(0, .ref 52), (1, .int 40)] f178_27 rfl n178_291 k178_291_12 rfl (hb_52 _ _ _ _) (by decide +kernel) (Nat.le_of_ble_eq_true rfl) rfl rfl (by decide +kernel) (by decide +kernel) rfl (Nat.le_of_ble_eq_true rfl) rfl ?_
                        refine zw_aload_n 1 f173_0 rfl rfl ?_
                        refine zw_getI 4 4 f173_1 rfl g173_246_12 (hb_52 _ _ _ _) rfl rfl ?_
                        refine zw_bipush 50 6 f173_4 rfl (by decide +kernel) ?_
                        refine zw_ic_ge_f 9 19 f173_6 (by decide +kernel) rfl (by decide +kernel) ?_
                        refine zw_aload_n 10 f173_9 rfl rfl ?_
                        refine zw_getfield 13 f173_10 rfl g173_74_12 (hb_52 _ _ _ _) rfl ?_
                        refine zw_aload_n 14 f173_13 rfl rfl ?_
                        refine zw_getI 4 17 f173_14 rfl g173_246_12 (hb_52 _ _ _ _) rfl rfl ?_
                        refine zw_iload_n 18 f173_17 rfl rfl ?_
                        refine zw_ast 4 _ 19 f173_18 rfl (hb_71 _ _ _ _) (by decide +kernel) (by decide +kernel) (by decide +kernel) (ha_71 _ _ _ _ _) ?_
                        refine zw_aload_n 20 f173_19 rfl rfl ?_
                        refine zw_dup 21 f173_20 rfl rfl ?_
                        refine zw_getI 4 24 f173_21 rfl g173_246_12 (hb_52 _ _ _ _) rfl rfl ?_
                        refine zw_iconst 1 25 f173_24 rfl (by decide +kernel) ?_
                        refine zw_iadd 5 26 f173_25 rfl (by decide +kernel) ?_
                        refine zw_put _ 29 f173_26 rfl g173_246_12 (hb_52 _ _ _ _) rfl (Nat.le_of_ble_eq_true rfl) (by decide +kernel) (hi_52_29 _ _ _ _ _) ?_
                        refine zw_vreturn f173_29 r173 u173 ⟨rfl, ?_⟩
                        refine zw_aload_n 31 f178_30 rfl rfl ?_
                        refine zw_bipush 12 33 f178_31 rfl (by decide +kernel) ?_
                        refine zw_virtual_v 36 0 0 [.ref 52, .int 12] [(0, .ref 52), (1, .int 12)] f178_33 rfl n178_291 k178_291_12 rfl (hb_52 _ _ _ _) (by decide +kernel) (Nat.le_of_ble_eq_true rfl) rfl rfl (by decide +kernel) (by decide +kernel) rfl (Nat.le_of_ble_eq_true rfl) rfl ?_
                        refine zw_aload_n 1 f173_0 rfl rfl ?_
                        refine zw_getI 5 4 f173_1 rfl g173_246_12 (hb_52 _ _ _ _) rfl rfl ?_
                        refine zw_bipush 50 6 f173_4 rfl (by decide +kernel) ?_
                        refine zw_ic_ge_f 9 19 f173_6 (by decide +kernel) rfl (by decide +kernel) ?_
                        refine zw_aload_n 10 f173_9 rfl rfl ?_
                        refine zw_getfield 13 f173_10 rfl g173_74_12 (hb_52 _ _ _ _) rfl ?_
                        refine zw_aload_n 14 f173_13 rfl rfl ?_
                        refine zw_getI 5 17 f173_14 rfl g173_246_12 (hb_52 _ _ _ _) rfl rfl ?_
                        refine zw_iload_n 18 f173_17 rfl rfl ?_
                        refine zw_ast 5 _ 19 f173_18 rfl (hb_71 _ _ _ _) (by decide +kernel) (by decide +kernel) (by decide +kernel) (ha_71 _ _ _ _ _) ?_
                        refine zw_aload_n 20 f173_19 rfl rfl ?_
                        refine zw_dup 21 f173_20 rfl rfl ?_
                        refine zw_getI 5 24 f173_21 rfl g173_246_12 (hb_52 _ _ _ _) rfl rfl ?_
                        refine zw_iconst 1 25 f173_24 rfl (by decide +kernel) ?_
                        refine zw_iadd 6 26 f173_25 rfl (by decide +kernel) ?_
                        refine zw_put _ 29 f173_26 rfl g173_246_12 (hb_52 _ _ _ _) rfl (Nat.le_of_ble_eq_true rfl) (by decide +kernel) (hi_52_29 _ _ _ _ _) ?_
                        refine zw_vreturn f173_29 r173 u173 ⟨rfl, ?_⟩
                        refine zw_iload_n 37 f178_36 rfl rfl ?_
                        refine zw_aload_n 38 f178_37 rfl rfl ?_
                        refine zw_getfield 41 f178_38 rfl g178_13_12 (hb_52 _ _ _ _) rfl ?_
                        refine zw_iload_n 42 f178_41 rfl rfl ?_
                        refine zw_iaload a.toNatClampNeg (A 54 a.toNatClampNeg) 43 f178_42 rfl (hb_54 _ _ _ _) rfl hc1 (zix (by decide) hc1 (show ¬ 8 ≤ a from ix_le hp.1 (by decide) (by decide) hc1 hc2)) rfl ?_
                        refine zw_ixor (c ^^^ (A 54 a.toNatClampNeg)) 44 f178_43 rfl rfl ?_
                        refine zw_aload_n 45 f178_44 rfl rfl ?_
                        refine zw_iload_n 46 f178_45 rfl rfl ?_
                        refine zw_virtual_i 49 0 0 [.ref 52, .int a] [(0, .ref 52), (1, .int a)] f178_46 rfl n178_158 k178_158_12 rfl (hb_52 _ _ _ _) (by decide +kernel) (Nat.le_of_ble_eq_true rfl) rfl rfl (by decide +kernel) (by decide +kernel) rfl (Nat.le_of_ble_eq_true rfl) rfl ?_
                        refine zw_aload_n 1 f126_0 rfl rfl ?_
                        refine zw_getfield 4 f126_1 rfl g126_7_12 (hb_52 _ _ _ _) rfl ?_
                        refine zw_iload_n 5 f126_4 rfl rfl ?_
                        refine zw_iaload a.toNatClampNeg (A 53 a.toNatClampNeg) 6 f126_5 rfl (hb_53 _ _ _ _) rfl hc1 (zix (by decide) hc1 (show ¬ 8 ≤ a from ix_le hp.1 (by decide) (by decide) hc1 hc2)) rfl ?_
                        refine zw_iconst 3 7 f126_6 rfl (by decide +kernel) ?_
                        refine zw_ic_eq_t 20 f126_7 (by decide +kernel) hc11 ?_
                        refine zw_iconst 1 21 f126_20 rfl (by decide +kernel) ?_
                        refine zw_goto 25 f126_21 (by decide +kernel) ?_
                        refine zw_zreturn f126_25 r126 u126 (by decide +kernel) ⟨_, rfl, ?_⟩
                        refine zw_if_eq_f 52 61 f178_49 (by decide +kernel) rfl (by decide +kernel) ?_
                        refine zw_aload_n 53 f178_52 rfl rfl ?_
                        refine zw_getfield 56 f178_53 rfl g178_19_12 (hb_52 _ _ _ _) rfl ?_
                        refine zw_iload_n 57 f178_56 rfl rfl ?_
                        refine zw_iaload a.toNatClampNeg (A 56 a.toNatClampNeg) 58 f178_57 rfl (hb_56 _ _ _ _) rfl hc1 (zix (by decide) hc1 (show ¬ 8 ≤ a from ix_le hp.1 (by decide) (by decide) hc1 hc2)) rfl ?_
                        refine zw_goto 62 f178_58 (by decide +kernel) ?_
                        refine zw_iadd ((c ^^^ (A 54 a.toNatClampNeg)) + (A 56 a.toNatClampNeg)) 63 f178_62 rfl rfl ?_
                        refine zw_aload_n 64 f178_63 rfl rfl ?_
                        refine zw_getfield 67 f178_64 rfl g178_7_12 (hb_52 _ _ _ _) rfl ?_
                        refine zw_iload_n 68 f178_67 rfl rfl ?_
                        refine zw_iaload a.toNatClampNeg (A 53 a.toNatClampNeg) 69 f178_68 rfl (hb_53 _ _ _ _) rfl hc1 (zix (by decide) hc1 (show ¬ 8 ≤ a from ix_le hp.1 (by decide) (by decide) hc1 hc2)) rfl ?_
                        refine zw_iconst 4 70 f178_69 rfl (by decide +kernel) ?_
                        refine zw_ic_ne_t 82 f178_70 (by decide +kernel) hc9 ?_
                        refine zw_iconst 0 83 f178_82 rfl (by decide +kernel) ?_
                        refine zw_iadd (((c ^^^ (A 54 a.toNatClampNeg)) + (A 56 a.toNatClampNeg)) + 0) 84 f178_83 rfl rfl ?_
                        refine zw_ireturn f178_84 r178 u178 ⟨_, rfl, ?_⟩
                        refine zw_isub ((((c + (A 55 a.toNatClampNeg)) + (A 54 a.toNatClampNeg)) * 3) - (((c ^^^ (A 54 a.toNatClampNeg)) + (A 56 a.toNatClampNeg)) + 0)) 45 f179_44 rfl rfl ?_
                        refine zw_ireturn f179_45 r179 u179 ⟨_, rfl, ?_⟩
                        refine zw_virtual_i 79 0 0 [.ref 52, .int ((((c + (A 55 a.toNatClampNeg)) + (A 54 a.toNatClampNeg)) * 3) - (((c ^^^ (A 54 a.toNatClampNeg)) + (A 56 a.toNatClampNeg)) + 0))] [(0, .ref 52), (1, .int ((((c + (A 55 a.toNatClampNeg)) + (A 54 a.toNatClampNeg)) * 3) - (((c ^^^ (A 54 a.toNatClampNeg)) + (A 56 a.toNatClampNeg)) + 0)))] f180_76 rfl n180_205 k180_205_12 rfl (hb_52 _ _ _ _) (by decide +kernel) (Nat.le_of_ble_eq_true rfl) rfl rfl (by decide +kernel) (by decide +kernel) rfl (Nat.le_of_ble_eq_true rfl) rfl ?_
                        refine zw_aload_n 1 f122_0 rfl rfl ?_
                        refine zw_iconst 0 2 f122_1 rfl (by decide +kernel) ?_
                        refine zw_put _ 5 f122_2 rfl g122_111_12 (hb_52 _ _ _ _) rfl (Nat.le_of_ble_eq_true rfl) (by decide +kernel) (hi_52_27 _ _ _ _ _) ?_
                        refine zw_iload_n 6 f122_5 rfl rfl ?_
                        refine zw_ireturn f122_6 r122 u122 ⟨_, rfl, ?_⟩
                        refine zw_ireturn f180_79 r180 u180 ?_
                        exact ⟨_, _, _, _, rfl, (KQ.i rfl (KQ.i rfl (KQ.a rfl (KQ.i rfl (KQ.a rfl (KQ.i rfl (KQ.a rfl (KQ.i rfl (KQ.a rfl (KQ.i rfl (KQ.a rfl (KQ.i rfl (KQ.a rfl (KQ.i rfl KQ.rf)))))))))))))), ⟨hi.1, hi.2.1, 6, by omega, (show _ = nI 6 from rfl)⟩, _, rfl⟩
                      · refine zw_aload_n 11 f126_10 rfl rfl ?_
                        refine zw_getfield 14 f126_11 rfl g126_7_12 (hb_52 _ _ _ _) rfl ?_
                        refine zw_iload_n 15 f126_14 rfl rfl ?_
                        refine zw_iaload a.toNatClampNeg (A 53 a.toNatClampNeg) 16 f126_15 rfl (hb_53 _ _ _ _) rfl hc1 (zix (by decide) hc1 (show ¬ 8 ≤ a from ix_le hp.1 (by decide) (by decide) hc1 hc2)) rfl ?_
                        refine zw_iconst 4 17 f126_16 rfl (by decide +kernel) ?_
                        refine zw_ic_ne_t 24 f126_17 (by decide +kernel) hc9 ?_
                        refine zw_iconst 0 25 f126_24 rfl (by decide +kernel) ?_
                        refine zw_zreturn f126_25 r126 u126 (by decide +kernel) ⟨_, rfl, ?_⟩
                        refine zw_if_eq_t 53 f175_30 (by decide +kernel) (by decide +kernel) ?_
                        refine zw_aload_n 54 f175_53 rfl rfl ?_
                        refine zw_iload_n 55 f175_54 rfl rfl ?_
                        refine zw_iload_n 56 f175_55 rfl rfl ?_
                        refine zw_virtual_i 59 0 0 [.ref 52, .int a, .int c] [(0, .ref 52), (1, .int a), (2, .int c)] f175_56 rfl n175_294 k175_294_12 rfl (hb_52 _ _ _ _) (by decide +kernel) (Nat.le_of_ble_eq_true rfl) rfl rfl (by decide +kernel) (by decide +kernel) rfl (Nat.le_of_ble_eq_true rfl) rfl ?_
                        refine zw_aload_n 1 f174_0 rfl rfl ?_
                        refine zw_bipush 10 3 f174_1 rfl (by decide +kernel) ?_
                        refine zw_virtual_v 6 0 0 [.ref 52, .int 10] [(0, .ref 52), (1, .int 10)] f174_3 rfl n174_291 k174_291_12 rfl (hb_52 _ _ _ _) (by decide +kernel) (Nat.le_of_ble_eq_true rfl) rfl rfl (by decide +kernel) (by decide +kernel) rfl (Nat.le_of_ble_eq_true rfl) rfl ?_
                        refine zw_aload_n 1 f173_0 rfl rfl ?_
                        refine zw_getI 2 4 f173_1 rfl g173_246_12 (hb_52 _ _ _ _) rfl rfl ?_
                        refine zw_bipush 50 6 f173_4 rfl (by decide +kernel) ?_
                        refine zw_ic_ge_f 9 19 f173_6 (by decide +kernel) rfl (by decide +kernel) ?_
                        refine zw_aload_n 10 f173_9 rfl rfl ?_
                        refine zw_getfield 13 f173_10 rfl g173_74_12 (hb_52 _ _ _ _) rfl ?_
                        refine zw_aload_n 14 f173_13 rfl rfl ?_
                        refine zw_getI 2 17 f173_14 rfl g173_246_12 (hb_52 _ _ _ _) rfl rfl ?_
                        refine zw_iload_n 18 f173_17 rfl rfl ?_
                        refine zw_ast 2 _ 19 f173_18 rfl (hb_71 _ _ _ _) (by decide +kernel) (by decide +kernel) (by decide +kernel) (ha_71 _ _ _ _ _) ?_
                        refine zw_aload_n 20 f173_19 rfl rfl ?_
                        refine zw_dup 21 f173_20 rfl rfl ?_
                        refine zw_getI 2 24 f173_21 rfl g173_246_12 (hb_52 _ _ _ _) rfl rfl ?_
                        refine zw_iconst 1 25 f173_24 rfl (by decide +kernel) ?_
                        refine zw_iadd 3 26 f173_25 rfl (by decide +kernel) ?_
                        refine zw_put _ 29 f173_26 rfl g173_246_12 (hb_52 _ _ _ _) rfl (Nat.le_of_ble_eq_true rfl) (by decide +kernel) (hi_52_29 _ _ _ _ _) ?_
                        refine zw_vreturn f173_29 r173 u173 ⟨rfl, ?_⟩
                        refine zw_iload_n 7 f174_6 rfl rfl ?_
                        refine zw_aload_n 8 f174_7 rfl rfl ?_
                        refine zw_getfield 11 f174_8 rfl g174_13_12 (hb_52 _ _ _ _) rfl ?_
                        refine zw_iload_n 12 f174_11 rfl rfl ?_
                        refine zw_iaload a.toNatClampNeg (A 54 a.toNatClampNeg) 13 f174_12 rfl (hb_54 _ _ _ _) rfl hc1 (zix (by decide) hc1 (show ¬ 8 ≤ a from ix_le hp.1 (by decide) (by decide) hc1 hc2)) rfl ?_
                        refine zw_iadd (c + (A 54 a.toNatClampNeg)) 14 f174_13 rfl rfl ?_
                        refine zw_ireturn f174_14 r174 u174 ⟨_, rfl, ?_⟩
                        refine zw_ireturn f175_59 r175 u175 ⟨_, rfl, ?_⟩
                        refine zw_iconst 3 13 f176_12 rfl (by decide +kernel) ?_
                        refine zw_imul ((c + (A 54 a.toNatClampNeg)) * 3) 14 f176_13 rfl rfl ?_
                        refine zw_ireturn f176_14 r176 u176 ⟨_, rfl, ?_⟩
                        refine zw_ireturn f177_66 r177 u177 ⟨_, rfl, ?_⟩
                        refine zw_istore _ 36 f179_34 rfl (by decide +kernel) rfl ?_
                        refine zw_iload 38 f179_36 rfl zl1_eq ?_
                        refine zw_aload_n 39 f179_38 rfl (zl1_ne rfl rfl (zl1_ne rfl rfl rfl)) ?_
                        refine zw_iload_n 40 f179_39 rfl (zl1_ne rfl rfl (zl1_ne rfl rfl rfl)) ?_
                        refine zw_iload_n 41 f179_40 rfl (zl1_ne rfl rfl zl1_eq) ?_
                        refine zw_virtual_i 44 0 0 [.ref 52, .int a, .int c] [(0, .ref 52), (1, .int a), (2, .int c)] f179_41 rfl n179_307 k179_307_12 rfl (hb_52 _ _ _ _) (by decide +kernel) (Nat.le_of_ble_eq_true rfl) rfl rfl (by decide +kernel) (by decide +kernel) rfl (Nat.le_of_ble_eq_true rfl) rfl ?_
                        refine zw_aload_n 1 f178_0 rfl rfl ?_
                        refine zw_getfield 4 f178_1 rfl g178_7_12 (hb_52 _ _ _ _) rfl ?_
                        refine zw_iload_n 5 f178_4 rfl rfl ?_
                        refine zw_iaload a.toNatClampNeg (A 53 a.toNatClampNeg) 6 f178_5 rfl (hb_53 _ _ _ _) rfl hc1 (zix (by decide) hc1 (show ¬ 8 ≤ a from ix_le hp.1 (by decide) (by decide) hc1 hc2)) rfl ?_
                        refine zw_iconst 4 7 f178_6 rfl (by decide +kernel) ?_
                        refine zw_ic_ne_t 16 f178_7 (by decide +kernel) hc9 ?_
                        refine zw_aload_n 17 f178_16 rfl rfl ?_
                        refine zw_iload_n 18 f178_17 rfl rfl ?_
                        refine zw_virtual_i 21 0 0 [.ref 52, .int a] [(0, .ref 52), (1, .int a)] f178_18 rfl n178_158 k178_158_12 rfl (hb_52 _ _ _ _) (by decide +kernel) (Nat.le_of_ble_eq_true rfl) rfl rfl (by decide +kernel) (by decide +kernel) rfl (Nat.le_of_ble_eq_true rfl) rfl ?_
                        refine zw_aload_n 1 f126_0 rfl rfl ?_
                        refine zw_getfield 4 f126_1 rfl g126_7_12 (hb_52 _ _ _ _) rfl ?_
                        refine zw_iload_n 5 f126_4 rfl rfl ?_
                        refine zw_iaload a.toNatClampNeg (A 53 a.toNatClampNeg) 6 f126_5 rfl (hb_53 _ _ _ _) rfl hc1 (zix (by decide) hc1 (show ¬ 8 ≤ a from ix_le hp.1 (by decide) (by decide) hc1 hc2)) rfl ?_
                        refine zw_iconst 3 7 f126_6 rfl (by decide +kernel) ?_
                        refine zw_ic_eq_f 10 20 f126_7 (by decide +kernel) rfl hc11 ?_
                        refine zw_aload_n 11 f126_10 rfl rfl ?_
                        refine zw_getfield 14 f126_11 rfl g126_7_12 (hb_52 _ _ _ _) rfl ?_
                        refine zw_iload_n 15 f126_14 rfl rfl ?_
                        refine zw_iaload a.toNatClampNeg (A 53 a.toNatClampNeg) 16 f126_15 rfl (hb_53 _ _ _ _) rfl hc1 (zix (by decide) hc1 (show ¬ 8 ≤ a from ix_le hp.1 (by decide) (by decide) hc1 hc2)) rfl ?_
                        refine zw_iconst 4 17 f126_16 rfl (by decide +kernel) ?_
                        refine zw_ic_ne_t 24 f126_17 (by decide +kernel) hc9 ?_
                        refine zw_iconst 0 25 f126_24 rfl (by decide +kernel) ?_
                        refine zw_zreturn f126_25 r126 u126 (by decide +kernel) ⟨_, rfl, ?_⟩
                        refine zw_if_eq_t 30 f178_21 (by decide +kernel) (by decide +kernel) ?_
                        refine zw_aload_n 31 f178_30 rfl rfl ?_
                        refine zw_bipush 12 33 f178_31 rfl (by decide +kernel) ?_
                        refine zw_virtual_v 36 0 0 [.ref 52, .int 12] [(0, .ref 52), (1, .int 12)] f178_33 rfl n178_291 k178_291_12 rfl (hb_52 _ _ _ _) (by decide +kernel) (Nat.le_of_ble_eq_true rfl) rfl rfl (by decide +kernel) (by decide +kernel) rfl (Nat.le_of_ble_eq_true rfl) rfl ?_
                        refine zw_aload_n 1 f173_0 rfl rfl ?_
                        refine zw_getI 3 4 f173_1 rfl g173_246_12 (hb_52 _ _ _ _) rfl rfl ?_
                        refine zw_bipush 50 6 f173_4 rfl (by decide +kernel) ?_
                        refine zw_ic_ge_f 9 19 f173_6 (by decide +kernel) rfl (by decide +kernel) ?_
                        refine zw_aload_n 10 f173_9 rfl rfl ?_
                        refine zw_getfield 13 f173_10 rfl g173_74_12 (hb_52 _ _ _ _) rfl ?_
                        refine zw_aload_n 14 f173_13 rfl rfl ?_
                        refine zw_getI 3 17 f173_14 rfl g173_246_12 (hb_52 _ _ _ _) rfl rfl ?_
                        refine zw_iload_n 18 f173_17 rfl rfl ?_
                        refine zw_ast 3 _ 19 f173_18 rfl (hb_71 _ _ _ _) (by decide +kernel) (by decide +kernel) (by decide +kernel) (ha_71 _ _ _ _ _) ?_
                        refine zw_aload_n 20 f173_19 rfl rfl ?_
                        refine zw_dup 21 f173_20 rfl rfl ?_
                        refine zw_getI 3 24 f173_21 rfl g173_246_12 (hb_52 _ _ _ _) rfl rfl ?_
                        refine zw_iconst 1 25 f173_24 rfl (by decide +kernel) ?_
                        refine zw_iadd 4 26 f173_25 rfl (by decide +kernel) ?_
                        refine zw_put _ 29 f173_26 rfl g173_246_12 (hb_52 _ _ _ _) rfl (Nat.le_of_ble_eq_true rfl) (by decide +kernel) (hi_52_29 _ _ _ _ _) ?_
                        refine zw_vreturn f173_29 r173 u173 ⟨rfl, ?_⟩
                        refine zw_iload_n 37 f178_36 rfl rfl ?_
                        refine zw_aload_n 38 f178_37 rfl rfl ?_
                        refine zw_getfield 41 f178_38 rfl g178_13_12 (hb_52 _ _ _ _) rfl ?_
                        refine zw_iload_n 42 f178_41 rfl rfl ?_
                        refine zw_iaload a.toNatClampNeg (A 54 a.toNatClampNeg) 43 f178_42 rfl (hb_54 _ _ _ _) rfl hc1 (zix (by decide) hc1 (show ¬ 8 ≤ a from ix_le hp.1 (by decide) (by decide) hc1 hc2)) rfl ?_
                        refine zw_ixor (c ^^^ (A 54 a.toNatClampNeg)) 44 f178_43 rfl rfl ?_
                        refine zw_aload_n 45 f178_44 rfl rfl ?_
                        refine zw_iload_n 46 f178_45 rfl rfl ?_
                        refine zw_virtual_i 49 0 0 [.ref 52, .int a] [(0, .ref 52), (1, .int a)] f178_46 rfl n178_158 k178_158_12 rfl (hb_52 _ _ _ _) (by decide +kernel) (Nat.le_of_ble_eq_true rfl) rfl rfl (by decide +kernel) (by decide +kernel) rfl (Nat.le_of_ble_eq_true rfl) rfl ?_
                        refine zw_aload_n 1 f126_0 rfl rfl ?_
                        refine zw_getfield 4 f126_1 rfl g126_7_12 (hb_52 _ _ _ _) rfl ?_
                        refine zw_iload_n 5 f126_4 rfl rfl ?_
                        refine zw_iaload a.toNatClampNeg (A 53 a.toNatClampNeg) 6 f126_5 rfl (hb_53 _ _ _ _) rfl hc1 (zix (by decide) hc1 (show ¬ 8 ≤ a from ix_le hp.1 (by decide) (by decide) hc1 hc2)) rfl ?_
                        refine zw_iconst 3 7 f126_6 rfl (by decide +kernel) ?_
                        refine zw_ic_eq_f 10 20 f126_7 (by decide +kernel) rfl hc11 ?_
                        refine zw_aload_n 11 f126_10 rfl rfl ?_
                        refine zw_getfield 14 f126_11 rfl g126_7_12 (hb_52 _ _ _ _) rfl ?_
                        refine zw_iload_n 15 f126_14 rfl rfl ?_
                        refine zw_iaload a.toNatClampNeg (A 53 a.toNatClampNeg) 16 f126_15 rfl (hb_53 _ _ _ _) rfl hc1 (zix (by decide) hc1 (show ¬ 8 ≤ a from ix_le hp.1 (by decide) (by decide) hc1 hc2)) rfl ?_
                        refine zw_iconst 4 17 f126_16 rfl (by decide +kernel) ?_
                        refine zw_ic_ne_t 24 f126_17 (by decide +kernel) hc9 ?_
                        refine zw_iconst 0 25 f126_24 rfl (by decide +kernel) ?_
                        refine zw_zreturn f126_25 r126 u126 (by decide +kernel) ⟨_, rfl, ?_⟩
                        refine zw_if_eq_t 61 f178_49 (by decide +kernel) (by decide +kernel) ?_
                        refine zw_iconst 0 62 f178_61 rfl (by decide +kernel) ?_
                        refine zw_iadd ((c ^^^ (A 54 a.toNatClampNeg)) + 0) 63 f178_62 rfl rfl ?_
                        refine zw_aload_n 64 f178_63 rfl rfl ?_
                        refine zw_getfield 67 f178_64 rfl g178_7_12 (hb_52 _ _ _ _) rfl ?_
                        refine zw_iload_n 68 f178_67 rfl rfl ?_
                        refine zw_iaload a.toNatClampNeg (A 53 a.toNatClampNeg) 69 f178_68 rfl (hb_53 _ _ _ _) rfl hc1 (zix (by decide) hc1 (show ¬ 8 ≤ a from ix_le hp.1 (by decide) (by decide) hc1 hc2)) rfl ?_
                        refine zw_iconst 4 70 f178_69 rfl (by decide +kernel) ?_
                        refine zw_ic_ne_t 82 f178_70 (by decide +kernel) hc9 ?_
                        refine zw_iconst 0 83 f178_82 rfl (by decide +kernel) ?_
                        refine zw_iadd (((c ^^^ (A 54 a.toNatClampNeg)) + 0) + 0) 84 f178_83 rfl rfl ?_
                        refine zw_ireturn f178_84 r178 u178 ⟨_, rfl, ?_⟩
                        refine zw_isub (((c + (A 54 a.toNatClampNeg)) * 3) - (((c ^^^ (A 54 a.toNatClampNeg)) + 0) + 0)) 45 f179_44 rfl rfl ?_
                        refine zw_ireturn f179_45 r179 u179 ⟨_, rfl, ?_⟩
                        refine zw_virtual_i 79 0 0 [.ref 52, .int (((c + (A 54 a.toNatClampNeg)) * 3) - (((c ^^^ (A 54 a.toNatClampNeg)) + 0) + 0))] [(0, .ref 52), (1, .int (((c + (A 54 a.toNatClampNeg)) * 3) - (((c ^^^ (A 54 a.toNatClampNeg)) + 0) + 0)))] f180_76 rfl n180_205 k180_205_12 rfl (hb_52 _ _ _ _) (by decide +kernel) (Nat.le_of_ble_eq_true rfl) rfl rfl (by decide +kernel) (by decide +kernel) rfl (Nat.le_of_ble_eq_true rfl) rfl ?_
                        refine zw_aload_n 1 f122_0 rfl rfl ?_
                        refine zw_iconst 0 2 f122_1 rfl (by decide +kernel) ?_
                        refine zw_put _ 5 f122_2 rfl g122_111_12 (hb_52 _ _ _ _) rfl (Nat.le_of_ble_eq_true rfl) (by decide +kernel) (hi_52_27 _ _ _ _ _) ?_
                        refine zw_iload_n 6 f122_5 rfl rfl ?_
                        refine zw_ireturn f122_6 r122 u122 ⟨_, rfl, ?_⟩
                        refine zw_ireturn f180_79 r180 u180 ?_
                        exact ⟨_, _, _, _, rfl, (KQ.i rfl (KQ.i rfl (KQ.a rfl (KQ.i rfl (KQ.a rfl (KQ.i rfl (KQ.a rfl (KQ.i rfl (KQ.a rfl (KQ.i rfl KQ.rf)))))))))), ⟨hi.1, hi.2.1, 4, by omega, (show _ = nI 4 from rfl)⟩, _, rfl⟩
                    · refine zw_aload_n 11 f175_10 rfl rfl ?_
                      refine zw_bipush 30 13 f175_11 rfl (by decide +kernel) ?_
                      refine zw_virtual_v 16 0 0 [.ref 52, .int 30] [(0, .ref 52), (1, .int 30)] f175_13 rfl n175_291 k175_291_12 rfl (hb_52 _ _ _ _) (by decide +kernel) (Nat.le_of_ble_eq_true rfl) rfl rfl (by decide +kernel) (by decide +kernel) rfl (Nat.le_of_ble_eq_true rfl) rfl ?_
                      refine zw_aload_n 1 f173_0 rfl rfl ?_
                      refine zw_getI 2 4 f173_1 rfl g173_246_12 (hb_52 _ _ _ _) rfl rfl ?_
                      refine zw_bipush 50 6 f173_4 rfl (by decide +kernel) ?_
                      refine zw_ic_ge_f 9 19 f173_6 (by decide +kernel) rfl (by decide +kernel) ?_
                      refine zw_aload_n 10 f173_9 rfl rfl ?_
                      refine zw_getfield 13 f173_10 rfl g173_74_12 (hb_52 _ _ _ _) rfl ?_
                      refine zw_aload_n 14 f173_13 rfl rfl ?_
                      refine zw_getI 2 17 f173_14 rfl g173_246_12 (hb_52 _ _ _ _) rfl rfl ?_
                      refine zw_iload_n 18 f173_17 rfl rfl ?_
                      refine zw_ast 2 _ 19 f173_18 rfl (hb_71 _ _ _ _) (by decide +kernel) (by decide +kernel) (by decide +kernel) (ha_71 _ _ _ _ _) ?_
                      refine zw_aload_n 20 f173_19 rfl rfl ?_
                      refine zw_dup 21 f173_20 rfl rfl ?_
                      refine zw_getI 2 24 f173_21 rfl g173_246_12 (hb_52 _ _ _ _) rfl rfl ?_
                      refine zw_iconst 1 25 f173_24 rfl (by decide +kernel) ?_
                      refine zw_iadd 3 26 f173_25 rfl (by decide +kernel) ?_
                      refine zw_put _ 29 f173_26 rfl g173_246_12 (hb_52 _ _ _ _) rfl (Nat.le_of_ble_eq_true rfl) (by decide +kernel) (hi_52_29 _ _ _ _ _) ?_
                      refine zw_vreturn f173_29 r173 u173 ⟨rfl, ?_⟩
                      refine zw_aload_n 17 f175_16 rfl rfl ?_
                      refine zw_iload_n 18 f175_17 rfl rfl ?_
                      refine zw_iload_n 19 f175_18 rfl rfl ?_
                      refine zw_virtual_i 22 0 0 [.ref 52, .int a, .int c] [(0, .ref 52), (1, .int a), (2, .int c)] f175_19 rfl n175_294 k175_294_12 rfl (hb_52 _ _ _ _) (by decide +kernel) (Nat.le_of_ble_eq_true rfl) rfl rfl (by decide +kernel) (by decide +kernel) rfl (Nat.le_of_ble_eq_true rfl) rfl ?_
                      refine zw_aload_n 1 f174_0 rfl rfl ?_
                      refine zw_bipush 10 3 f174_1 rfl (by decide +kernel) ?_
                      refine zw_virtual_v 6 0 0 [.ref 52, .int 10] [(0, .ref 52), (1, .int 10)] f174_3 rfl n174_291 k174_291_12 rfl (hb_52 _ _ _ _) (by decide +kernel) (Nat.le_of_ble_eq_true rfl) rfl rfl (by decide +kernel) (by decide +kernel) rfl (Nat.le_of_ble_eq_true rfl) rfl ?_
                      refine zw_aload_n 1 f173_0 rfl rfl ?_
                      refine zw_getI 3 4 f173_1 rfl g173_246_12 (hb_52 _ _ _ _) rfl rfl ?_
                      refine zw_bipush 50 6 f173_4 rfl (by decide +kernel) ?_
                      refine zw_ic_ge_f 9 19 f173_6 (by decide +kernel) rfl (by decide +kernel) ?_
                      refine zw_aload_n 10 f173_9 rfl rfl ?_
                      refine zw_getfield 13 f173_10 rfl g173_74_12 (hb_52 _ _ _ _) rfl ?_
                      refine zw_aload_n 14 f173_13 rfl rfl ?_
                      refine zw_getI 3 17 f173_14 rfl g173_246_12 (hb_52 _ _ _ _) rfl rfl ?_
                      refine zw_iload_n 18 f173_17 rfl rfl ?_
                      refine zw_ast 3 _ 19 f173_18 rfl (hb_71 _ _ _ _) (by decide +kernel) (by decide +kernel) (by decide +kernel) (ha_71 _ _ _ _ _) ?_
                      refine zw_aload_n 20 f173_19 rfl rfl ?_
                      refine zw_dup 21 f173_20 rfl rfl ?_
                      refine zw_getI 3 24 f173_21 rfl g173_246_12 (hb_52 _ _ _ _) rfl rfl ?_
                      refine zw_iconst 1 25 f173_24 rfl (by decide +kernel) ?_
                      refine zw_iadd 4 26 f173_25 rfl (by decide +kernel) ?_
                      refine zw_put _ 29 f173_26 rfl g173_246_12 (hb_52 _ _ _ _) rfl (Nat.le_of_ble_eq_true rfl) (by decide +kernel) (hi_52_29 _ _ _ _ _) ?_
                      refine zw_vreturn f173_29 r173 u173 ⟨rfl, ?_⟩
                      refine zw_iload_n 7 f174_6 rfl rfl ?_
                      refine zw_aload_n 8 f174_7 rfl rfl ?_
                      refine zw_getfield 11 f174_8 rfl g174_13_12 (hb_52 _ _ _ _) rfl ?_
                      refine zw_iload_n 12 f174_11 rfl rfl ?_
                      refine zw_iaload a.toNatClampNeg (A 54 a.toNatClampNeg) 13 f174_12 rfl (hb_54 _ _ _ _) rfl hc1 (zix (by decide) hc1 (show ¬ 8 ≤ a from ix_le hp.1 (by decide) (by decide) hc1 hc2)) rfl ?_
                      refine zw_iadd (c + (A 54 a.toNatClampNeg)) 14 f174_13 rfl rfl ?_
                      refine zw_ireturn f174_14 r174 u174 ⟨_, rfl, ?_⟩
                      refine zw_iconst 2 23 f175_22 rfl (by decide +kernel) ?_
                      refine zw_imul ((c + (A 54 a.toNatClampNeg)) * 2) 24 f175_23 rfl rfl ?_
                      refine zw_ireturn f175_24 r175 u175 ⟨_, rfl, ?_⟩
                      refine zw_iconst 3 13 f176_12 rfl (by decide +kernel) ?_
                      refine zw_imul (((c + (A 54 a.toNatClampNeg)) * 2) * 3) 14 f176_13 rfl rfl ?_
                      refine zw_ireturn f176_14 r176 u176 ⟨_, rfl, ?_⟩
                      refine zw_ireturn f177_66 r177 u177 ⟨_, rfl, ?_⟩
                      refine zw_istore _ 36 f179_34 rfl (by decide +kernel) rfl ?_
                      refine zw_iload 38 f179_36 rfl zl1_eq ?_
                      refine zw_aload_n 39 f179_38 rfl (zl1_ne rfl rfl (zl1_ne rfl rfl rfl)) ?_
                      refine zw_iload_n 40 f179_39 rfl (zl1_ne rfl rfl (zl1_ne rfl rfl rfl)) ?_
                      refine zw_iload_n 41 f179_40 rfl (zl1_ne rfl rfl zl1_eq) ?_
                      refine zw_virtual_i 44 0 0 [.ref 52, .int a, .int c] [(0, .ref 52), (1, .int a), (2, .int c)] f179_41 rfl n179_307 k179_307_12 rfl (hb_52 _ _ _ _) (by decide +kernel) (Nat.le_of_ble_eq_true rfl) rfl rfl (by decide +kernel) (by decide +kernel) rfl (Nat.le_of_ble_eq_true rfl) rfl ?_
                      refine zw_aload_n 1 f178_0 rfl rfl ?_
                      refine zw_getfield 4 f178_1 rfl g178_7_12 (hb_52 _ _ _ _) rfl ?_
                      refine zw_iload_n 5 f178_4 rfl rfl ?_
                      refine zw_iaload a.toNatClampNeg (A 53 a.toNatClampNeg) 6 f178_5 rfl (hb_53 _ _ _ _) rfl hc1 (zix (by decide) hc1 (show ¬ 8 ≤ a from ix_le hp.1 (by decide) (by decide) hc1 hc2)) rfl ?_
                      refine zw_iconst 4 7 f178_6 rfl (by decide +kernel) ?_
                      refine zw_ic_ne_t 16 f178_7 (by decide +kernel) hc9 ?_
                      refine zw_aload_n 17 f178_16 rfl rfl ?_
                      refine zw_iload_n 18 f178_17 rfl rfl ?_
                      refine zw_virtual_i 21 0 0 [.ref 52, .int a] [(0, .ref 52), (1, .int a)] f178_18 rfl n178_158 k178_158_12 rfl (hb_52 _ _ _ _) (by decide +kernel) (Nat.le_of_ble_eq_true rfl) rfl rfl (by decide +kernel) (by decide +kernel) rfl (Nat.le_of_ble_eq_true rfl) rfl ?_
                      refine zw_aload_n 1 f126_0 rfl rfl ?_
                      refine zw_getfield 4 f126_1 rfl g126_7_12 (hb_52 _ _ _ _) rfl ?_
                      refine zw_iload_n 5 f126_4 rfl rfl ?_
                      refine zw_iaload a.toNatClampNeg (A 53 a.toNatClampNeg) 6 f126_5 rfl (hb_53 _ _ _ _) rfl hc1 (zix (by decide) hc1 (show ¬ 8 ≤ a from ix_le hp.1 (by decide) (by decide) hc1 hc2)) rfl ?_
                      refine zw_iconst 3 7 f126_6 rfl (by decide +kernel) ?_
                      refine zw_ic_eq 10 20 f126_7 (by decide +kernel) rfl (fun hc12 => ?_) (fun hc12 => ?_)
                      · refine zw_iconst 1 21 f126_20 rfl (by decide +kernel) ?_
                        refine zw_goto 25 f126_21 (by decide +kernel) ?_
                        refine zw_zreturn f126_25 r126 u126 (by decide +kernel) ⟨_, rfl, ?_⟩
                        refine zw_if_eq_f 24 30 f178_21 (by decide +kernel) rfl (by decide +kernel) ?_
                        refine zw_aload_n 25 f178_24 rfl rfl ?_
                        refine zw_bipush 40 27 f178_25 rfl (by decide +kernel) ?_
                        refine zw_virtual_v 30 0 0 [.ref 52, .int 40] [(0, .ref 52), (1, .int 40)] f178_27 rfl n178_291 k178_291_12 rfl (hb_52 _ _ _ _) (by decide +kernel) (Nat.le_of_ble_eq_true rfl) rfl rfl (by decide +kernel) (by decide +kernel) rfl (Nat.le_of_ble_eq_true rfl) rfl ?_
                        refine zw_aload_n 1 f173_0 rfl rfl ?_
                        refine zw_getI 4 4 f173_1 rfl g173_246_12 (hb_52 _ _ _ _) rfl rfl ?_
                        refine zw_bipush 50 6 f173_4 rfl (by decide +kernel) ?_
                        refine zw_ic_ge_f 9 19 f173_6 (by decide +kernel) rfl (by decide +kernel) ?_
                        refine zw_aload_n 10 f173_9 rfl rfl ?_
                        refine zw_getfield 13 f173_10 rfl g173_74_12 (hb_52 _ _ _ _) rfl ?_
                        refine zw_aload_n 14 f173_13 rfl rfl ?_
                        refine zw_getI 4 17 f173_14 rfl g173_246_12 (hb_52 _ _ _ _) rfl rfl ?_
                        refine zw_iload_n 18 f173_17 rfl rfl ?_
                        refine zw_ast 4 _ 19 f173_18 rfl (hb_71 _ _ _ _) (by decide +kernel) (by decide +kernel) (by decide +kernel) (ha_71 _ _ _ _ _) ?_
                        refine zw_aload_n 20 f173_19 rfl rfl ?_
                        refine zw_dup 21 f173_20 rfl rfl ?_
                        refine zw_getI 4 24 f173_21 rfl g173_246_12 (hb_52 _ _ _ _) rfl rfl ?_
                        refine zw_iconst 1 25 f173_24 rfl (by decide +kernel) ?_
                        refine zw_iadd 5 26 f173_25 rfl (by decide +kernel) ?_
                        refine zw_put _ 29 f173_26 rfl g173_246_12 (hb_52 _ _ _ _) rfl (Nat.le_of_ble_eq_true rfl) (by decide +kernel) (hi_52_29 _ _ _ _ _) ?_
                        refine zw_vreturn f173_29 r173 u173 ⟨rfl, ?_⟩
                        refine zw_aload_n 31 f178_30 rfl rfl ?_
                        refine zw_bipush 12 33 f178_31 rfl (by decide +kernel) ?_
                        refine zw_virtual_v 36 0 0 [.ref 52, .int 12] [(0, .ref 52), (1, .int 12)] f178_33 rfl n178_291 k178_291_12 rfl (hb_52 _ _ _ _) (by decide +kernel) (Nat.le_of_ble_eq_true rfl) rfl rfl (by decide +kernel) (by decide +kernel) rfl (Nat.le_of_ble_eq_true rfl) rfl ?_
                        refine zw_aload_n 1 f173_0 rfl rfl ?_
                        refine zw_getI 5 4 f173_1 rfl g173_246_12 (hb_52 _ _ _ _) rfl rfl ?_
                        refine zw_bipush 50 6 f173_4 rfl (by decide +kernel) ?_
                        refine zw_ic_ge_f 9 19 f173_6 (by decide +kernel) rfl (by decide +kernel) ?_
                        refine zw_aload_n 10 f173_9 rfl rfl ?_
                        refine zw_getfield 13 f173_10 rfl g173_74_12 (hb_52 _ _ _ _) rfl ?_
                        refine zw_aload_n 14 f173_13 rfl rfl ?_
                        refine zw_getI 5 17 f173_14 rfl g173_246_12 (hb_52 _ _ _ _) rfl rfl ?_
                        refine zw_iload_n 18 f173_17 rfl rfl ?_
                        refine zw_ast 5 _ 19 f173_18 rfl (hb_71 _ _ _ _) (by decide +kernel) (by decide +kernel) (by decide +kernel) (ha_71 _ _ _ _ _) ?_
                        refine zw_aload_n 20 f173_19 rfl rfl ?_
                        refine zw_dup 21 f173_20 rfl rfl ?_
                        refine zw_getI 5 24 f173_21 rfl g173_246_12 (hb_52 _ _ _ _) rfl rfl ?_
                        refine zw_iconst 1 25 f173_24 rfl (by decide +kernel) ?_
                        refine zw_iadd 6 26 f173_25 rfl (by decide +kernel) ?_
                        refine zw_put _ 29 f173_26 rfl g173_246_12 (hb_52 _ _ _ _) rfl (Nat.le_of_ble_eq_true rfl) (by decide +kernel) (hi_52_29 _ _ _ _ _) ?_
                        refine zw_vreturn f173_29 r173 u173 ⟨rfl, ?_⟩
                        refine zw_iload_n 37 f178_36 rfl rfl ?_
                        refine zw_aload_n 38 f178_37 rfl rfl ?_
                        refine zw_getfield 41 f178_38 rfl g178_13_12 (hb_52 _ _ _ _) rfl ?_
                        refine zw_iload_n 42 f178_41 rfl rfl ?_
                        refine zw_iaload a.toNatClampNeg (A 54 a.toNatClampNeg) 43 f178_42 rfl (hb_54 _ _ _ _) rfl hc1 (zix (by decide) hc1 (show ¬ 8 ≤ a from ix_le hp.1 (by decide) (by decide) hc1 hc2)) rfl ?_
                        refine zw_ixor (c ^^^ (A 54 a.toNatClampNeg)) 44 f178_43 rfl rfl ?_
                        refine zw_aload_n 45 f178_44 rfl rfl ?_
                        refine zw_iload_n 46 f178_45 rfl rfl ?_
                        refine zw_virtual_i 49 0 0 [.ref 52, .int a] [(0, .ref 52), (1, .int a)] f178_46 rfl n178_158 k178_158_12 rfl (hb_52 _ _ _ _) (by decide +kernel) (Nat.le_of_ble_eq_true rfl) rfl rfl (by decide +kernel) (by decide +kernel) rfl (Nat.le_of_ble_eq_true rfl) rfl ?_
                        refine zw_aload_n 1 f126_0 rfl rfl ?_
                        refine zw_getfield 4 f126_1 rfl g126_7_12 (hb_52 _ _ _ _) rfl ?_
                        refine zw_iload_n 5 f126_4 rfl rfl ?_
                        refine zw_iaload a.toNatClampNeg (A 53 a.toNatClampNeg) 6 f126_5 rfl (hb_53 _ _ _ _) rfl hc1 (zix (by decide) hc1 (show ¬ 8 ≤ a from ix_le hp.1 (by decide) (by decide) hc1 hc2)) rfl ?_
                        refine zw_iconst 3 7 f126_6 rfl (by decide +kernel) ?_
                        refine zw_ic_eq_t 20 f126_7 (by decide +kernel) hc12 ?_
                        refine zw_iconst 1 21 f126_20 rfl (by decide +kernel) ?_
                        refine zw_goto 25 f126_21 (by decide +kernel) ?_
                        refine zw_zreturn f126_25 r126 u126 (by decide +kernel) ⟨_, rfl, ?_⟩
                        refine zw_if_eq_f 52 61 f178_49 (by decide +kernel) rfl (by decide +kernel) ?_
                        refine zw_aload_n 53 f178_52 rfl rfl ?_
                        refine zw_getfield 56 f178_53 rfl g178_19_12 (hb_52 _ _ _ _) rfl ?_
                        refine zw_iload_n 57 f178_56 rfl rfl ?_
                        refine zw_iaload a.toNatClampNeg (A 56 a.toNatClampNeg) 58 f178_57 rfl (hb_56 _ _ _ _) rfl hc1 (zix (by decide) hc1 (show ¬ 8 ≤ a from ix_le hp.1 (by decide) (by decide) hc1 hc2)) rfl ?_
                        refine zw_goto 62 f178_58 (by decide +kernel) ?_
                        refine zw_iadd ((c ^^^ (A 54 a.toNatClampNeg)) + (A 56 a.toNatClampNeg)) 63 f178_62 rfl rfl ?_
                        refine zw_aload_n 64 f178_63 rfl rfl ?_
                        refine zw_getfield 67 f178_64 rfl g178_7_12 (hb_52 _ _ _ _) rfl ?_
                        refine zw_iload_n 68 f178_67 rfl rfl ?_
                        refine zw_iaload a.toNatClampNeg (A 53 a.toNatClampNeg) 69 f178_68 rfl (hb_53 _ _ _ _) rfl hc1 (zix (by decide) hc1 (show ¬ 8 ≤ a from ix_le hp.1 (by decide) (by decide) hc1 hc2)) rfl ?_
                        refine zw_iconst 4 70 f178_69 rfl (by decide +kernel) ?_
                        refine zw_ic_ne_t 82 f178_70 (by decide +kernel) hc9 ?_
                        refine zw_iconst 0 83 f178_82 rfl (by decide +kernel) ?_
                        refine zw_iadd (((c ^^^ (A 54 a.toNatClampNeg)) + (A 56 a.toNatClampNeg)) + 0) 84 f178_83 rfl rfl ?_
                        refine zw_ireturn f178_84 r178 u178 ⟨_, rfl, ?_⟩
                        refine zw_isub ((((c + (A 54 a.toNatClampNeg)) * 2) * 3) - (((c ^^^ (A 54 a.toNatClampNeg)) + (A 56 a.toNatClampNeg)) + 0)) 45 f179_44 rfl rfl ?_
                        refine zw_ireturn f179_45 r179 u179 ⟨_, rfl, ?_⟩
                        refine zw_virtual_i 79 0 0 [.ref 52, .int ((((c + (A 54 a.toNatClampNeg)) * 2) * 3) - (((c ^^^ (A 54 a.toNatClampNeg)) + (A 56 a.toNatClampNeg)) + 0))] [(0, .ref 52), (1, .int ((((c + (A 54 a.toNatClampNeg)) * 2) * 3) - (((c ^^^ (A 54 a.toNatClampNeg)) + (A 56 a.toNatClampNeg)) + 0)))] f180_76 rfl n180_205 k180_205_12 rfl (hb_52 _ _ _ _) (by decide +kernel) (Nat.le_of_ble_eq_true rfl) rfl rfl (by decide +kernel) (by decide +kernel) rfl (Nat.le_of_ble_eq_true rfl) rfl ?_
                        refine zw_aload_n 1 f122_0 rfl rfl ?_
                        refine zw_iconst 0 2 f122_1 rfl (by decide +kernel) ?_
                        refine zw_put _ 5 f122_2 rfl g122_111_12 (hb_52 _ _ _ _) rfl (Nat.le_of_ble_eq_true rfl) (by decide +kernel) (hi_52_27 _ _ _ _ _) ?_
                        refine zw_iload_n 6 f122_5 rfl rfl ?_
                        refine zw_ireturn f122_6 r122 u122 ⟨_, rfl, ?_⟩
                        refine zw_ireturn f180_79 r180 u180 ?_
                        exact ⟨_, _, _, _, rfl, (KQ.i rfl (KQ.i rfl (KQ.a rfl (KQ.i rfl (KQ.a rfl (KQ.i rfl (KQ.a rfl (KQ.i rfl (KQ.a rfl (KQ.i rfl (KQ.a rfl (KQ.i rfl (KQ.a rfl (KQ.i rfl KQ.rf)))))))))))))), ⟨hi.1, hi.2.1, 6, by omega, (show _ = nI 6 from rfl)⟩, _, rfl⟩
                      · refine zw_aload_n 11 f126_10 rfl rfl ?_
                        refine zw_getfield 14 f126_11 rfl g126_7_12 (hb_52 _ _ _ _) rfl ?_
                        refine zw_iload_n 15 f126_14 rfl rfl ?_
                        refine zw_iaload a.toNatClampNeg (A 53 a.toNatClampNeg) 16 f126_15 rfl (hb_53 _ _ _ _) rfl hc1 (zix (by decide) hc1 (show ¬ 8 ≤ a from ix_le hp.1 (by decide) (by decide) hc1 hc2)) rfl ?_
                        refine zw_iconst 4 17 f126_16 rfl (by decide +kernel) ?_
                        refine zw_ic_ne_t 24 f126_17 (by decide +kernel) hc9 ?_
                        refine zw_iconst 0 25 f126_24 rfl (by decide +kernel) ?_
                        refine zw_zreturn f126_25 r126 u126 (by decide +kernel) ⟨_, rfl, ?_⟩
                        refine zw_if_eq_t 30 f178_21 (by decide +kernel) (by decide +kernel) ?_
                        refine zw_aload_n 31 f178_30 rfl rfl ?_
                        refine zw_bipush 12 33 f178_31 rfl (by decide +kernel) ?_
                        refine zw_virtual_v 36 0 0 [.ref 52, .int 12] [(0, .ref 52), (1, .int 12)] f178_33 rfl n178_291 k178_291_12 rfl (hb_52 _ _ _ _) (by decide +kernel) (Nat.le_of_ble_eq_true rfl) rfl rfl (by decide +kernel) (by decide +kernel) rfl (Nat.le_of_ble_eq_true rfl) rfl ?_
                        refine zw_aload_n 1 f173_0 rfl rfl ?_
                        refine zw_getI 4 4 f173_1 rfl g173_246_12 (hb_52 _ _ _ _) rfl rfl ?_
                        refine zw_bipush 50 6 f173_4 rfl (by decide +kernel) ?_
                        refine zw_ic_ge_f 9 19 f173_6 (by decide +kernel) rfl (by decide +kernel) ?_
                        refine zw_aload_n 10 f173_9 rfl rfl ?_
                        refine zw_getfield 13 f173_10 rfl g173_74_12 (hb_52 _ _ _ _) rfl ?_
                        refine zw_aload_n 14 f173_13 rfl rfl ?_
                        refine zw_getI 4 17 f173_14 rfl g173_246_12 (hb_52 _ _ _ _) rfl rfl ?_
                        refine zw_iload_n 18 f173_17 rfl rfl ?_
                        refine zw_ast 4 _ 19 f173_18 rfl (hb_71 _ _ _ _) (by decide +kernel) (by decide +kernel) (by decide +kernel) (ha_71 _ _ _ _ _) ?_
                        refine zw_aload_n 20 f173_19 rfl rfl ?_
                        refine zw_dup 21 f173_20 rfl rfl ?_
                        refine zw_getI 4 24 f173_21 rfl g173_246_12 (hb_52 _ _ _ _) rfl rfl ?_
                        refine zw_iconst 1 25 f173_24 rfl (by decide +kernel) ?_
                        refine zw_iadd 5 26 f173_25 rfl (by decide +kernel) ?_
                        refine zw_put _ 29 f173_26 rfl g173_246_12 (hb_52 _ _ _ _) rfl (Nat.le_of_ble_eq_true rfl) (by decide +kernel) (hi_52_29 _ _ _ _ _) ?_
                        refine zw_vreturn f173_29 r173 u173 ⟨rfl, ?_⟩
                        refine zw_iload_n 37 f178_36 rfl rfl ?_
                        refine zw_aload_n 38 f178_37 rfl rfl ?_
                        refine zw_getfield 41 f178_38 rfl g178_13_12 (hb_52 _ _ _ _) rfl ?_
                        refine zw_iload_n 42 f178_41 rfl rfl ?_
                        refine zw_iaload a.toNatClampNeg (A 54 a.toNatClampNeg) 43 f178_42 rfl (hb_54 _ _ _ _) rfl hc1 (zix (by decide) hc1 (show ¬ 8 ≤ a from ix_le hp.1 (by decide) (by decide) hc1 hc2)) rfl ?_
                        refine zw_ixor (c ^^^ (A 54 a.toNatClampNeg)) 44 f178_43 rfl rfl ?_
                        refine zw_aload_n 45 f178_44 rfl rfl ?_
                        refine zw_iload_n 46 f178_45 rfl rfl ?_
                        refine zw_virtual_i 49 0 0 [.ref 52, .int a] [(0, .ref 52), (1, .int a)] f178_46 rfl n178_158 k178_158_12 rfl (hb_52 _ _ _ _) (by decide +kernel) (Nat.le_of_ble_eq_true rfl) rfl rfl (by decide +kernel) (by decide +kernel) rfl (Nat.le_of_ble_eq_true rfl) rfl ?_
                        refine zw_aload_n 1 f126_0 rfl rfl ?_
                        refine zw_getfield 4 f126_1 rfl g126_7_12 (hb_52 _ _ _ _) rfl ?_
                        refine zw_iload_n 5 f126_4 rfl rfl ?_
                        refine zw_iaload a.toNatClampNeg (A 53 a.toNatClampNeg) 6 f126_5 rfl (hb_53 _ _ _ _) rfl hc1 (zix (by decide) hc1 (show ¬ 8 ≤ a from ix_le hp.1 (by decide) (by decide) hc1 hc2)) rfl ?_
                        refine zw_iconst 3 7 f126_6 rfl (by decide +kernel) ?_
                        refine zw_ic_eq_f 10 20 f126_7 (by decide +kernel) rfl hc12 ?_
                        refine zw_aload_n 11 f126_10 rfl rfl ?_
                        refine zw_getfield 14 f126_11 rfl g126_7_12 (hb_52 _ _ _ _) rfl ?_
                        refine zw_iload_n 15 f126_14 rfl rfl ?_
                        refine zw_iaload a.toNatClampNeg (A 53 a.toNatClampNeg) 16 f126_15 rfl (hb_53 _ _ _ _) rfl hc1 (zix (by decide) hc1 (show ¬ 8 ≤ a from ix_le hp.1 (by decide) (by decide) hc1 hc2)) rfl ?_
                        refine zw_iconst 4 17 f126_16 rfl (by decide +kernel) ?_
                        refine zw_ic_ne_t 24 f126_17 (by decide +kernel) hc9 ?_
                        refine zw_iconst 0 25 f126_24 rfl (by decide +kernel) ?_
                        refine zw_zreturn f126_25 r126 u126 (by decide +kernel) ⟨_, rfl, ?_⟩
                        refine zw_if_eq_t 61 f178_49 (by decide +kernel) (by decide +kernel) ?_
                        refine zw_iconst 0 62 f178_61 rfl (by decide +kernel) ?_
                        refine zw_iadd ((c ^^^ (A 54 a.toNatClampNeg)) + 0) 63 f178_62 rfl rfl ?_
                        refine zw_aload_n 64 f178_63 rfl rfl ?_
                        refine zw_getfield 67 f178_64 rfl g178_7_12 (hb_52 _ _ _ _) rfl ?_
                        refine zw_iload_n 68 f178_67 rfl rfl ?_
                        refine zw_iaload a.toNatClampNeg (A 53 a.toNatClampNeg) 69 f178_68 rfl (hb_53 _ _ _ _) rfl hc1 (zix (by decide) hc1 (show ¬ 8 ≤ a from ix_le hp.1 (by decide) (by decide) hc1 hc2)) rfl ?_
                        refine zw_iconst 4 70 f178_69 rfl (by decide +kernel) ?_
                        refine zw_ic_ne_t 82 f178_70 (by decide +kernel) hc9 ?_
                        refine zw_iconst 0 83 f178_82 rfl (by decide +kernel) ?_
                        refine zw_iadd (((c ^^^ (A 54 a.toNatClampNeg)) + 0) + 0) 84 f178_83 rfl rfl ?_
                        refine zw_ireturn f178_84 r178 u178 ⟨_, rfl, ?_⟩
                        refine zw_isub ((((c + (A 54 a.toNatClampNeg)) * 2) * 3) - (((c ^^^ (A 54 a.toNatClampNeg)) + 0) + 0)) 45 f179_44 rfl rfl ?_
                        refine zw_ireturn f179_45 r179 u179 ⟨_, rfl, ?_⟩
                        refine zw_virtual_i 79 0 0 [.ref 52, .int ((((c + (A 54 a.toNatClampNeg)) * 2) * 3) - (((c ^^^ (A 54 a.toNatClampNeg)) + 0) + 0))] [(0, .ref 52), (1, .int ((((c + (A 54 a.toNatClampNeg)) * 2) * 3) - (((c ^^^ (A 54 a.toNatClampNeg)) + 0) + 0)))] f180_76 rfl n180_205 k180_205_12 rfl (hb_52 _ _ _ _) (by decide +kernel) (Nat.le_of_ble_eq_true rfl) rfl rfl (by decide +kernel) (by decide +kernel) rfl (Nat.le_of_ble_eq_true rfl) rfl ?_
                        refine zw_aload_n 1 f122_0 rfl rfl ?_
                        refine zw_iconst 0 2 f122_1 rfl (by decide +kernel) ?_
                        refine zw_put _ 5 f122_2 rfl g122_111_12 (hb_52 _ _ _ _) rfl (Nat.le_of_ble_eq_true rfl) (by decide +kernel) (hi_52_27 _ _ _ _ _) ?_
                        refine zw_iload_n 6 f122_5 rfl rfl ?_
                        refine zw_ireturn f122_6 r122 u122 ⟨_, rfl, ?_⟩
                        refine zw_ireturn f180_79 r180 u180 ?_
                        exact ⟨_, _, _, _, rfl, (KQ.i rfl (KQ.i rfl (KQ.a rfl (KQ.i rfl (KQ.a rfl (KQ.i rfl (KQ.a rfl (KQ.i rfl (KQ.a rfl (KQ.i rfl (KQ.a rfl (KQ.i rfl KQ.rf)))))))))))), ⟨hi.1, hi.2.1, 5, by omega, (show _ = nI 5 from rfl)⟩, _, rfl⟩
                  · refine zw_aload_n 41 f177_40 rfl rfl ?_
                    refine zw_bipush 51 43 f177_41 rfl (by decide +kernel) ?_
                    refine zw_virtual_v 46 0 0 [.ref 52, .int 51] [(0, .ref 52), (1, .int 51)] f177_43 rfl n177_291 k177_291_12 rfl (hb_52 _ _ _ _) (by decide +kernel) (Nat.le_of_ble_eq_true rfl) rfl rfl (by decide +kernel) (by decide +kernel) rfl (Nat.le_of_ble_eq_true rfl) rfl ?_
                    refine zw_aload_n 1 f173_0 rfl rfl ?_
                    refine zw_getI 1 4 f173_1 rfl g173_246_12 (hb_52 _ _ _ _) rfl rfl ?_
                    refine zw_bipush 50 6 f173_4 rfl (by decide +kernel) ?_
                    refine zw_ic_ge_f 9 19 f173_6 (by decide +kernel) rfl (by decide +kernel) ?_
                    refine zw_aload_n 10 f173_9 rfl rfl ?_
                    refine zw_getfield 13 f173_10 rfl g173_74_12 (hb_52 _ _ _ _) rfl ?_
                    refine zw_aload_n 14 f173_13 rfl rfl ?_
                    refine zw_getI 1 17 f173_14 rfl g173_246_12 (hb_52 _ _ _ _) rfl rfl ?_
                    refine zw_iload_n 18 f173_17 rfl rfl ?_
                    refine zw_ast 1 _ 19 f173_18 rfl (hb_71 _ _ _ _) (by decide +kernel) (by decide +kernel) (by decide +kernel) (ha_71 _ _ _ _ _) ?_
                    refine zw_aload_n 20 f173_19 rfl rfl ?_
                    refine zw_dup 21 f173_20 rfl rfl ?_
                    refine zw_getI 1 24 f173_21 rfl g173_246_12 (hb_52 _ _ _ _) rfl rfl ?_
                    refine zw_iconst 1 25 f173_24 rfl (by decide +kernel) ?_
                    refine zw_iadd 2 26 f173_25 rfl (by decide +kernel) ?_
                    refine zw_put _ 29 f173_26 rfl g173_246_12 (hb_52 _ _ _ _) rfl (Nat.le_of_ble_eq_true rfl) (by decide +kernel) (hi_52_29 _ _ _ _ _) ?_
                    refine zw_vreturn f173_29 r173 u173 ⟨rfl, ?_⟩
                    refine zw_aload_n 47 f177_46 rfl rfl ?_
                    refine zw_iload_n 48 f177_47 rfl rfl ?_
                    refine zw_iload_n 49 f177_48 rfl rfl ?_
                    refine zw_virtual_i 52 0 0 [.ref 52, .int a, .int c] [(0, .ref 52), (1, .int a), (2, .int c)] f177_49 rfl n177_301 k177_301_12 rfl (hb_52 _ _ _ _) (by decide +kernel) (Nat.le_of_ble_eq_true rfl) rfl rfl (by decide +kernel) (by decide +kernel) rfl (Nat.le_of_ble_eq_true rfl) rfl ?_
                    refine zw_aload_n 1 f176_0 rfl rfl ?_
                    refine zw_bipush 11 3 f176_1 rfl (by decide +kernel) ?_
                    refine zw_virtual_v 6 0 0 [.ref 52, .int 11] [(0, .ref 52), (1, .int 11)] f176_3 rfl n176_291 k176_291_12 rfl (hb_52 _ _ _ _) (by decide +kernel) (Nat.le_of_ble_eq_true rfl) rfl rfl (by decide +kernel) (by decide +kernel) rfl (Nat.le_of_ble_eq_true rfl) rfl ?_
                    refine zw_aload_n 1 f173_0 rfl rfl ?_
                    refine zw_getI 2 4 f173_1 rfl g173_246_12 (hb_52 _ _ _ _) rfl rfl ?_
                    refine zw_bipush 50 6 f173_4 rfl (by decide +kernel) ?_
                    refine zw_ic_ge_f 9 19 f173_6 (by decide +kernel) rfl (by decide +kernel) ?_
                    refine zw_aload_n 10 f173_9 rfl rfl ?_
                    refine zw_getfield 13 f173_10 rfl g173_74_12 (hb_52 _ _ _ _) rfl ?_
                    refine zw_aload_n 14 f173_13 rfl rfl ?_
                    refine zw_getI 2 17 f173_14 rfl g173_246_12 (hb_52 _ _ _ _) rfl rfl ?_
                    refine zw_iload_n 18 f173_17 rfl rfl ?_
                    refine zw_ast 2 _ 19 f173_18 rfl (hb_71 _ _ _ _) (by decide +kernel) (by decide +kernel) (by decide +kernel) (ha_71 _ _ _ _ _) ?_
                    refine zw_aload_n 20 f173_19 rfl rfl ?_
                    refine zw_dup 21 f173_20 rfl rfl ?_
                    refine zw_getI 2 24 f173_21 rfl g173_246_12 (hb_52 _ _ _ _) rfl rfl ?_
                    refine zw_iconst 1 25 f173_24 rfl (by decide +kernel) ?_
                    refine zw_iadd 3 26 f173_25 rfl (by decide +kernel) ?_
                    refine zw_put _ 29 f173_26 rfl g173_246_12 (hb_52 _ _ _ _) rfl (Nat.le_of_ble_eq_true rfl) (by decide +kernel) (hi_52_29 _ _ _ _ _) ?_
                    refine zw_vreturn f173_29 r173 u173 ⟨rfl, ?_⟩
                    refine zw_aload_n 7 f176_6 rfl rfl ?_
                    refine zw_iload_n 8 f176_7 rfl rfl ?_
                    refine zw_iload_n 9 f176_8 rfl rfl ?_
                    refine zw_virtual_i 12 0 0 [.ref 52, .int a, .int c] [(0, .ref 52), (1, .int a), (2, .int c)] f176_9 rfl n176_298 k176_298_12 rfl (hb_52 _ _ _ _) (by decide +kernel) (Nat.le_of_ble_eq_true rfl) rfl rfl (by decide +kernel) (by decide +kernel) rfl (Nat.le_of_ble_eq_true rfl) rfl ?_
                    refine zw_aload_n 1 f175_0 rfl rfl ?_
                    refine zw_getfield 4 f175_1 rfl g175_7_12 (hb_52 _ _ _ _) rfl ?_
                    refine zw_iload_n 5 f175_4 rfl rfl ?_
                    refine zw_iaload a.toNatClampNeg (A 53 a.toNatClampNeg) 6 f175_5 rfl (hb_53 _ _ _ _) rfl hc1 (zix (by decide) hc1 (show ¬ 8 ≤ a from ix_le hp.1 (by decide) (by decide) hc1 hc2)) rfl ?_
                    refine zw_iconst 2 7 f175_6 rfl (by decide +kernel) ?_
                    refine zw_ic_ne 10 25 f175_7 (by decide +kernel) rfl (fun hc13 => ?_) (fun hc13 => ?_)
                    · refine zw_aload_n 26 f175_25 rfl rfl ?_
                      refine zw_iload_n 27 f175_26 rfl rfl ?_
                      refine zw_virtual_i 30 0 0 [.ref 52, .int a] [(0, .ref 52), (1, .int a)] f175_27 rfl n175_158 k175_158_12 rfl (hb_52 _ _ _ _) (by decide +kernel) (Nat.le_of_ble_eq_true rfl) rfl rfl (by decide +kernel) (by decide +kernel) rfl (Nat.le_of_ble_eq_true rfl) rfl ?_
                      refine zw_aload_n 1 f126_0 rfl rfl ?_
                      refine zw_getfield 4 f126_1 rfl g126_7_12 (hb_52 _ _ _ _) rfl ?_
                      refine zw_iload_n 5 f126_4 rfl rfl ?_
                      refine zw_iaload a.toNatClampNeg (A 53 a.toNatClampNeg) 6 f126_5 rfl (hb_53 _ _ _ _) rfl hc1 (zix (by decide) hc1 (show ¬ 8 ≤ a from ix_le hp.1 (by decide) (by decide) hc1 hc2)) rfl ?_
                      refine zw_iconst 3 7 f126_6 rfl (by decide +kernel) ?_
                      refine zw_ic_eq 10 20 f126_7 (by decide +kernel) rfl (fun hc14 => ?_) (fun hc14 => ?_)
                      · refine zw_iconst 1 21 f126_20 rfl (by decide +kernel) ?_
                        refine zw_goto 25 f126_21 (by decide +kernel) ?_
                        refine zw_zreturn f126_25 r126 u126 (by decide +kernel) ⟨_, rfl, ?_⟩
                        refine zw_if_eq_f 33 53 f175_30 (by decide +kernel) rfl (by decide +kernel) ?_
                        refine zw_aload_n 34 f175_33 rfl rfl ?_
                        refine zw_bipush 41 36 f175_34 rfl (by decide +kernel) ?_
                        refine zw_virtual_v 39 0 0 [.ref 52, .int 41] [(0, .ref 52), (1, .int 41)] f175_36 rfl n175_291 k175_291_12 rfl (hb_52 _ _ _ _) (by decide +kernel) (Nat.le_of_ble_eq_true rfl) rfl rfl (by decide +kernel) (by decide +kernel) rfl (Nat.le_of_ble_eq_true rfl) rfl ?_
                        refine zw_aload_n 1 f173_0 rfl rfl ?_
                        refine zw_getI 3 4 f173_1 rfl g173_246_12 (hb_52 _ _ _ _) rfl rfl ?_
                        refine zw_bipush 50 6 f173_4 rfl (by decide +kernel) ?_
                        refine zw_ic_ge_f 9 19 f173_6 (by decide +kernel) rfl (by decide +kernel) ?_
                        refine zw_aload_n 10 f173_9 rfl rfl ?_
                        refine zw_getfield 13 f173_10 rfl g173_74_12 (hb_52 _ _ _ _) rfl ?_
                        refine zw_aload_n 14 f173_13 rfl rfl ?_
                        refine zw_getI 3 17 f173_14 rfl g173_246_12 (hb_52 _ _ _ _) rfl rfl ?_
                        refine zw_iload_n 18 f173_17 rfl rfl ?_
                        refine zw_ast 3 _ 19 f173_18 rfl (hb_71 _ _ _ _) (by decide +kernel) (by decide +kernel) (by decide +kernel) (ha_71 _ _ _ _ _) ?_
                        refine zw_aload_n 20 f173_19 rfl rfl ?_
                        refine zw_dup 21 f173_20 rfl rfl ?_
                        refine zw_getI 3 24 f173_21 rfl g173_246_12 (hb_52 _ _ _ _) rfl rfl ?_
                        refine zw_iconst 1 25 f173_24 rfl (by decide +kernel) ?_
                        refine zw_iadd 4 26 f173_25 rfl (by decide +kernel) ?_
                        refine zw_put _ 29 f173_26 rfl g173_246_12 (hb_52 _ _ _ _) rfl (Nat.le_of_ble_eq_true rfl) (by decide +kernel) (hi_52_29 _ _ _ _ _) ?_
                        refine zw_vreturn f173_29 r173 u173 ⟨rfl, ?_⟩
                        refine zw_aload_n 40 f175_39 rfl rfl ?_
                        refine zw_iload_n 41 f175_40 rfl rfl ?_
                        refine zw_iload_n 42 f175_41 rfl rfl ?_
                        refine zw_aload_n 43 f175_42 rfl rfl ?_
                        refine zw_getfield 46 f175_43 rfl g175_16_12 (hb_52 _ _ _ _) rfl ?_
                        refine zw_iload_n 47 f175_46 rfl rfl ?_
                        refine zw_iaload a.toNatClampNeg (A 55 a.toNatClampNeg) 48 f175_47 rfl (hb_55 _ _ _ _) rfl hc1 (zix (by decide) hc1 (show ¬ 8 ≤ a from ix_le hp.1 (by decide) (by decide) hc1 hc2)) rfl ?_
                        refine zw_iadd (c + (A 55 a.toNatClampNeg)) 49 f175_48 rfl rfl ?_
                        refine zw_virtual_i 52 0 0 [.ref 52, .int a, .int (c + (A 55 a.toNatClampNeg))] [(0, .ref 52), (1, .int a), (2, .int (c + (A 55 a.toNatClampNeg)))] f175_49 rfl n175_294 k175_294_12 rfl (hb_52 _ _ _ _) (by decide +kernel) (Nat.le_of_ble_eq_true rfl) rfl rfl (by decide +kernel) (by decide +kernel) rfl (Nat.le_of_ble_eq_true rfl) rfl ?_
                        refine zw_aload_n 1 f174_0 rfl rfl ?_
                        refine zw_bipush 10 3 f174_1 rfl (by decide +kernel) ?_
                        refine zw_virtual_v 6 0 0 [.ref 52, .int 10] [(0, .ref 52), (1, .int 10)] f174_3 rfl n174_291 k174_291_12 rfl (hb_52 _ _ _ _) (by decide +kernel) (Nat.le_of_ble_eq_true rfl) rfl rfl (by decide +kernel) (by decide +kernel) rfl (Nat.le_of_ble_eq_true rfl) rfl ?_
                        refine zw_aload_n 1 f173_0 rfl rfl ?_
                        refine zw_getI 4 4 f173_1 rfl g173_246_12 (hb_52 _ _ _ _) rfl rfl ?_
                        refine zw_bipush 50 6 f173_4 rfl (by decide +kernel) ?_
                        refine zw_ic_ge_f 9 19 f173_6 (by decide +kernel) rfl (by decide +kernel) ?_
                        refine zw_aload_n 10 f173_9 rfl rfl ?_
                        refine zw_getfield 13 f173_10 rfl g173_74_12 (hb_52 _ _ _ _) rfl ?_
                        refine zw_aload_n 14 f173_13 rfl rfl ?_
                        refine zw_getI 4 17 f173_14 rfl g173_246_12 (hb_52 _ _ _ _) rfl rfl ?_
                        refine zw_iload_n 18 f173_17 rfl rfl ?_
                        refine zw_ast 4 _ 19 f173_18 rfl (hb_71 _ _ _ _) (by decide +kernel) (by decide +kernel) (by decide +kernel) (ha_71 _ _ _ _ _) ?_
                        refine zw_aload_n 20 f173_19 rfl rfl ?_
                        refine zw_dup 21 f173_20 rfl rfl ?_
                        refine zw_getI 4 24 f173_21 rfl g173_246_12 (hb_52 _ _ _ _) rfl rfl ?_
                        refine zw_iconst 1 25 f173_24 rfl (by decide +kernel) ?_
                        refine zw_iadd 5 26 f173_25 rfl (by decide +kernel) ?_
                        refine zw_put _ 29 f173_26 rfl g173_246_12 (hb_52 _ _ _ _) rfl (Nat.le_of_ble_eq_true rfl) (by decide +kernel) (hi_52_29 _ _ _ _ _) ?_
                        refine zw_vreturn f173_29 r173 u173 ⟨rfl, ?_⟩
                        refine zw_iload_n 7 f174_6 rfl rfl ?_
                        refine zw_aload_n 8 f174_7 rfl rfl ?_
                        refine zw_getfield 11 f174_8 rfl g174_13_12 (hb_52 _ _ _ _) rfl ?_
                        refine zw_iload_n 12 f174_11 rfl rfl ?_
                        refine zw_iaload a.toNatClampNeg (A 54 a.toNatClampNeg) 13 f174_12 rfl (hb_54 _ _ _ _) rfl hc1 (zix (by decide) hc1 (show ¬ 8 ≤ a from ix_le hp.1 (by decide) (by decide) hc1 hc2)) rfl ?_
                        refine zw_iadd ((c + (A 55 a.toNatClampNeg)) + (A 54 a.toNatClampNeg)) 14 f174_13 rfl rfl ?_
                        refine zw_ireturn f174_14 r174 u174 ⟨_, rfl, ?_⟩
                        refine zw_ireturn f175_52 r175 u175 ⟨_, rfl, ?_⟩
                        refine zw_iconst 3 13 f176_12 rfl (by decide +kernel) ?_
                        refine zw_imul (((c + (A 55 a.toNatClampNeg)) + (A 54 a.toNatClampNeg)) * 3) 14 f176_13 rfl rfl ?_
                        refine zw_ireturn f176_14 r176 u176 ⟨_, rfl, ?_⟩
                        refine zw_aload_n 53 f177_52 rfl rfl ?_
                        refine zw_getfield 56 f177_53 rfl g177_55_12 (hb_52 _ _ _ _) rfl ?_
                        refine zw_iload_n 57 f177_56 rfl rfl ?_
                        refine zw_iaload a.toNatClampNeg ((W.2.2.2.2.2.2.2) a.toNatClampNeg) 58 f177_57 rfl (hb_66 _ _ _ _) rfl hc1 (zix (by decide) hc1 (show ¬ 8 ≤ a from ix_le hp.1 (by decide) (by decide) hc1 hc2)) (congrFun (hR.cnt) a.toNatClampNeg) ?_
                        refine zw_ixor ((((c + (A 55 a.toNatClampNeg)) + (A 54 a.toNatClampNeg)) * 3) ^^^ ((W.2.2.2.2.2.2.2) a.toNatClampNeg)) 59 f177_58 rfl rfl ?_
                        refine zw_ireturn f177_59 r177 u177 ⟨_, rfl, ?_⟩
                        refine zw_istore _ 36 f179_34 rfl (by decide +kernel) rfl ?_
                        refine zw_iload 38 f179_36 rfl zl1_eq ?_
                        refine zw_aload_n 39 f179_38 rfl (zl1_ne rfl rfl (zl1_ne rfl rfl rfl)) ?_
                        refine zw_iload_n 40 f179_39 rfl (zl1_ne rfl rfl (zl1_ne rfl rfl rfl)) ?_
                        refine zw_iload_n 41 f179_40 rfl (zl1_ne rfl rfl zl1_eq) ?_
                        refine zw_virtual_i 44 0 0 [.ref 52, .int a, .int c] [(0, .ref 52), (1, .int a), (2, .int c)] f179_41 rfl n179_307 k179_307_12 rfl (hb_52 _ _ _ _) (by decide +kernel) (Nat.le_of_ble_eq_true rfl) rfl rfl (by decide +kernel) (by decide +kernel) rfl (Nat.le_of_ble_eq_true rfl) rfl ?_
                        refine zw_aload_n 1 f178_0 rfl rfl ?_
                        refine zw_getfield 4 f178_1 rfl g178_7_12 (hb_52 _ _ _ _) rfl ?_
                        refine zw_iload_n 5 f178_4 rfl rfl ?_
                        refine zw_iaload a.toNatClampNeg (A 53 a.toNatClampNeg) 6 f178_5 rfl (hb_53 _ _ _ _) rfl hc1 (zix (by decide) hc1 (show ¬ 8 ≤ a from ix_le hp.1 (by decide) (by decide) hc1 hc2)) rfl ?_
                        refine zw_iconst 4 7 f178_6 rfl (by decide +kernel) ?_
                        refine zw_ic_ne_f 10 16 f178_7 (by decide +kernel) rfl hc9 ?_
                        refine zw_aload_n 11 f178_10 rfl rfl ?_
                        refine zw_bipush 50 13 f178_11 rfl (by decide +kernel) ?_
                        refine zw_virtual_v 16 0 0 [.ref 52, .int 50] [(0, .ref 52), (1, .int 50)] f178_13 rfl n178_291 k178_291_12 rfl (hb_52 _ _ _ _) (by decide +kernel) (Nat.le_of_ble_eq_true rfl) rfl rfl (by decide +kernel) (by decide +kernel) rfl (Nat.le_of_ble_eq_true rfl) rfl ?_
                        refine zw_aload_n 1 f173_0 rfl rfl ?_
                        refine zw_getI 5 4 f173_1 rfl g173_246_12 (hb_52 _ _ _ _) rfl rfl ?_
                        refine zw_bipush 50 6 f173_4 rfl (by decide +kernel) ?_
                        refine zw_ic_ge_f 9 19 f173_6 (by decide +kernel) rfl (by decide +kernel) ?_
                        refine zw_aload_n 10 f173_9 rfl rfl ?_
                        refine zw_getfield 13 f173_10 rfl g173_74_12 (hb_52 _ _ _ _) rfl ?_
                        refine zw_aload_n 14 f173_13 rfl rfl ?_
                        refine zw_getI 5 17 f173_14 rfl g173_246_12 (hb_52 _ _ _ _) rfl rfl ?_
                        refine zw_iload_n 18 f173_17 rfl rfl ?_
                        refine zw_ast 5 _ 19 f173_18 rfl (hb_71 _ _ _ _) (by decide +kernel) (by decide +kernel) (by decide +kernel) (ha_71 _ _ _ _ _) ?_
                        refine zw_aload_n 20 f173_19 rfl rfl ?_
                        refine zw_dup 21 f173_20 rfl rfl ?_
                        refine zw_getI 5 24 f173_21 rfl g173_246_12 (hb_52 _ _ _ _) rfl rfl ?_
                        refine zw_iconst 1 25 f173_24 rfl (by decide +kernel) ?_
                        refine zw_iadd 6 26 f173_25 rfl (by decide +kernel) ?_
                        refine zw_put _ 29 f173_26 rfl g173_246_12 (hb_52 _ _ _ _) rfl (Nat.le_of_ble_eq_true rfl) (by decide +kernel) (hi_52_29 _ _ _ _ _) ?_
                        refine zw_vreturn f173_29 r173 u173 ⟨rfl, ?_⟩
                        refine zw_aload_n 17 f178_16 rfl rfl ?_
                        refine zw_iload_n 18 f178_17 rfl rfl ?_
                        refine zw_virtual_i 21 0 0 [.ref 52, .int a] [(0, .ref 52), (1, .int a)] f178_18 rfl n178_158 k178_158_12 rfl (hb_52 _ _ _ _) (by decide +kernel) (Nat.le_of_ble_eq_true rfl) rfl rfl (by decide +kernel) (by decide +kernel) rfl (Nat.le_of_ble_eq_true rfl) rfl ?_
                        refine zw_aload_n 1 f126_0 rfl rfl ?_
                        refine zw_getfield 4 f126_1 rfl g126_7_12 (hb_52 _ _ _ _) rfl ?_
                        refine zw_iload_n 5 f126_4 rfl rfl ?_
                        refine zw_iaload a.toNatClampNeg (A 53 a.toNatClampNeg) 6 f126_5 rfl (hb_53 _ _ _ _) rfl hc1 (zix (by decide) hc1 (show ¬ 8 ≤ a from ix_le hp.1 (by decide) (by decide) hc1 hc2)) rfl ?_
                        refine zw_iconst 3 7 f126_6 rfl (by decide +kernel) ?_
                        refine zw_ic_eq_t 20 f126_7 (by decide +kernel) hc14 ?_
                        refine zw_iconst 1 21 f126_20 rfl (by decide +kernel) ?_
                        refine zw_goto 25 f126_21 (by decide +kernel) ?_
                        refine zw_zreturn f126_25 r126 u126 (by decide +kernel) ⟨_, rfl, ?_⟩
                        refine zw_if_eq_f 24 30 f178_21 (by decide +kernel) rfl (by decide +kernel) ?_
                        refine zw_aload_n 25 f178_24 rfl rfl ?_
                        refine zw_bipush 40 27 f178_25 rfl (by decide +kernel) ?_
                        refine zw_virtual_v 30 0 0 [.ref 52, .int 40] [(0, .ref 52), (1, .int 40)] f178_27 rfl n178_291 k178_291_12 rfl (hb_52 _ _ _ _) (by decide +kernel) (Nat.le_of_ble_eq_true rfl) rfl rfl (by decide +kernel) (by decide +kernel) rfl (Nat.le_of_ble_eq_true rfl) rfl ?_
                        refine zw_aload_n 1 f173_0 rfl rfl ?_
                        refine zw_getI 6 4 f173_1 rfl g173_246_12 (hb_52 _ _ _ _) rfl rfl ?_
                        refine zw_bipush 50 6 f173_4 rfl (by decide +kernel) ?_
                        refine zw_ic_ge_f 9 19 f173_6 (by decide +kernel) rfl (by decide +kernel) ?_
                        refine zw_aload_n 10 f173_9 rfl rfl ?_
                        refine zw_getfield 13 f173_10 rfl g173_74_12 (hb_52 _ _ _ _) rfl ?_
                        refine zw_aload_n 14 f173_13 rfl rfl ?_
                        refine zw_getI 6 17 f173_14 rfl g173_246_12 (hb_52 _ _ _ _) rfl rfl ?_
                        refine zw_iload_n 18 f173_17 rfl rfl ?_
                        refine zw_ast 6 _ 19 f173_18 rfl (hb_71 _ _ _ _) (by decide +kernel) (by decide +kernel) (by decide +kernel) (ha_71 _ _ _ _ _) ?_
                        refine zw_aload_n 20 f173_19 rfl rfl ?_
                        refine zw_dup 21 f173_20 rfl rfl ?_
                        refine zw_getI 6 24 f173_21 rfl g173_246_12 (hb_52 _ _ _ _) rfl rfl ?_
                        refine zw_iconst 1 25 f173_24 rfl (by decide +kernel) ?_
                        refine zw_iadd 7 26 f173_25 rfl (by decide +kernel) ?_
                        refine zw_put _ 29 f173_26 rfl g173_246_12 (hb_52 _ _ _ _) rfl (Nat.le_of_ble_eq_true rfl) (by decide +kernel) (hi_52_29 _ _ _ _ _) ?_
                        refine zw_vreturn f173_29 r173 u173 ⟨rfl, ?_⟩
                        refine zw_aload_n 31 f178_30 rfl rfl ?_
                        refine zw_bipush 12 33 f178_31 rfl (by decide +kernel) ?_
                        refine zw_virtual_v 36 0 0 [.ref 52, .int 12] [(0, .ref 52), (1, .int 12)] f178_33 rfl n178_291 k178_291_12 rfl (hb_52 _ _ _ _) (by decide +kernel) (Nat.le_of_ble_eq_true rfl) rfl rfl (by decide +kernel) (by decide +kernel) rfl (Nat.le_of_ble_eq_true rfl) rfl ?_
                        refine zw_aload_n 1 f173_0 rfl rfl ?_
                        refine zw_getI 7 4 f173_1 rfl g173_246_12 (hb_52 _ _ _ _) rfl rfl ?_
                        refine zw_bipush 50 6 f173_4 rfl (by decide +kernel) ?_
                        refine zw_ic_ge_f 9 19 f173_6 (by decide +kernel) rfl (by decide +kernel) ?_
                        refine zw_aload_n 10 f173_9 rfl rfl ?_
                        refine zw_getfield 13 f173_10 rfl g173_74_12 (hb_52 _ _ _ _) rfl ?_
                        refine zw_aload_n 14 f173_13 rfl rfl ?_
                        refine zw_getI 7 17 f173_14 rfl g173_246_12 (hb_52 _ _ _ _) rfl rfl ?_
                        refine zw_iload_n 18 f173_17 rfl rfl ?_
                        refine zw_ast 7 _ 19 f173_18 rfl (hb_71 _ _ _ _) (by decide +kernel) (by decide +kernel) (by decide +kernel) (ha_71 _ _ _ _ _) ?_
                        refine zw_aload_n 20 f173_19 rfl rfl ?_
                        refine zw_dup 21 f173_20 rfl rfl ?_
                        refine zw_getI 7 24 f173_21 rfl g173_246_12 (hb_52 _ _ _ _) rfl rfl ?_
                        refine zw_iconst 1 25 f173_24 rfl (by decide +kernel) ?_
                        refine zw_iadd 8 26 f173_25 rfl (by decide +kernel) ?_
                        refine zw_put _ 29 f173_26 rfl g173_246_12 (hb_52 _ _ _ _) rfl (Nat.le_of_ble_eq_true rfl) (by decide +kernel) (hi_52_29 _ _ _ _ _) ?_
                        refine zw_vreturn f173_29 r173 u173 ⟨rfl, ?_⟩
                        refine zw_iload_n 37 f178_36 rfl rfl ?_
                        refine zw_aload_n 38 f178_37 rfl rfl ?_
                        refine zw_getfield 41 f178_38 rfl g178_13_12 (hb_52 _ _ _ _) rfl ?_
                        refine zw_iload_n 42 f178_41 rfl rfl ?_
                        refine zw_iaload a.toNatClampNeg (A 54 a.toNatClampNeg) 43 f178_42 rfl (hb_54 _ _ _ _) rfl hc1 (zix (by decide) hc1 (show ¬ 8 ≤ a from ix_le hp.1 (by decide) (by decide) hc1 hc2)) rfl ?_
                        refine zw_ixor (c ^^^ (A 54 a.toNatClampNeg)) 44 f178_43 rfl rfl ?_
                        refine zw_aload_n 45 f178_44 rfl rfl ?_
                        refine zw_iload_n 46 f178_45 rfl rfl ?_
                        refine zw_virtual_i 49 0 0 [.ref 52, .int a] [(0, .ref 52), (1, .int a)] f178_46 rfl n178_158 k178_158_12 rfl (hb_52 _ _ _ _) (by decide +kernel) (Nat.le_of_ble_eq_true rfl) rfl rfl (by decide +kernel) (by decide +kernel) rfl (Nat.le_of_ble_eq_true rfl) rfl ?_
                        refine zw_aload_n 1 f126_0 rfl rfl ?_
                        refine zw_getfield 4 f126_1 rfl g126_7_12 (hb_52 _ _ _ _) rfl ?_
                        refine zw_iload_n 5 f126_4 rfl rfl ?_
                        refine zw_iaload a.toNatClampNeg (A 53 a.toNatClampNeg) 6 f126_5 rfl (hb_53 _ _ _ _) rfl hc1 (zix (by decide) hc1 (show ¬ 8 ≤ a from ix_le hp.1 (by decide) (by decide) hc1 hc2)) rfl ?_
                        refine zw_iconst 3 7 f126_6 rfl (by decide +kernel) ?_
                        refine zw_ic_eq_t 20 f126_7 (by decide +kernel) hc14 ?_
                        refine zw_iconst 1 21 f126_20 rfl (by decide +kernel) ?_
                        refine zw_goto 25 f126_21 (by decide +kernel) ?_
                        refine zw_zreturn f126_25 r126 u126 (by decide +kernel) ⟨_, rfl, ?_⟩
                        refine zw_if_eq_f 52 61 f178_49 (by decide +kernel) rfl (by decide +kernel) ?_
                        refine zw_aload_n 53 f178_52 rfl rfl ?_
                        refine zw_getfield 56 f178_53 rfl g178_19_12 (hb_52 _ _ _ _) rfl ?_
                        refine zw_iload_n 57 f178_56 rfl rfl ?_
                        refine zw_iaload a.toNatClampNeg (A 56 a.toNatClampNeg) 58 f178_57 rfl (hb_56 _ _ _ _) rfl hc1 (zix (by decide) hc1 (show ¬ 8 ≤ a from ix_le hp.1 (by decide) (by decide) hc1 hc2)) rfl ?_
                        refine zw_goto 62 f178_58 (by decide +kernel) ?_
                        refine zw_iadd ((c ^^^ (A 54 a.toNatClampNeg)) + (A 56 a.toNatClampNeg)) 63 f178_62 rfl rfl ?_
                        refine zw_aload_n 64 f178_63 rfl rfl ?_
                        refine zw_getfield 67 f178_64 rfl g178_7_12 (hb_52 _ _ _ _) rfl ?_
                        refine zw_iload_n 68 f178_67 rfl rfl ?_
                        refine zw_iaload a.toNatClampNeg (A 53 a.toNatClampNeg) 69 f178_68 rfl (hb_53 _ _ _ _) rfl hc1 (zix (by decide) hc1 (show ¬ 8 ≤ a from ix_le hp.1 (by decide) (by decide) hc1 hc2)) rfl ?_
                        refine zw_iconst 4 70 f178_69 rfl (by decide +kernel) ?_
                        refine zw_ic_ne_f 73 82 f178_70 (by decide +kernel) rfl hc9 ?_
                        refine zw_aload_n 74 f178_73 rfl rfl ?_
                        refine zw_getfield 77 f178_74 rfl g178_55_12 (hb_52 _ _ _ _) rfl ?_
                        refine zw_iload_n 78 f178_77 rfl rfl ?_
                        refine zw_iaload a.toNatClampNeg ((W.2.2.2.2.2.2.2) a.toNatClampNeg) 79 f178_78 rfl (hb_66 _ _ _ _) rfl hc1 (zix (by decide) hc1 (show ¬ 8 ≤ a from ix_le hp.1 (by decide) (by decide) hc1 hc2)) (congrFun (hR.cnt) a.toNatClampNeg) ?_
                        refine zw_goto 83 f178_79 (by decide +kernel) ?_
                        refine zw_iadd (((c ^^^ (A 54 a.toNatClampNeg)) + (A 56 a.toNatClampNeg)) + ((W.2.2.2.2.2.2.2) a.toNatClampNeg)) 84 f178_83 rfl rfl ?_
                        refine zw_ireturn f178_84 r178 u178 ⟨_, rfl, ?_⟩
                        refine zw_isub (((((c + (A 55 a.toNatClampNeg)) + (A 54 a.toNatClampNeg)) * 3) ^^^ ((W.2.2.2.2.2.2.2) a.toNatClampNeg)) - (((c ^^^ (A 54 a.toNatClampNeg)) + (A 56 a.toNatClampNeg)) + ((W.2.2.2.2.2.2.2) a.toNatClampNeg))) 45 f179_44 rfl rfl ?_
                        refine zw_ireturn f179_45 r179 u179 ⟨_, rfl, ?_⟩
                        refine zw_virtual_i 79 0 0 [.ref 52, .int (((((c + (A 55 a.toNatClampNeg)) + (A 54 a.toNatClampNeg)) * 3) ^^^ ((W.2.2.2.2.2.2.2) a.toNatClampNeg)) - (((c ^^^ (A 54 a.toNatClampNeg)) + (A 56 a.toNatClampNeg)) + ((W.2.2.2.2.2.2.2) a.toNatClampNeg)))] [(0, .ref 52), (1, .int (((((c + (A 55 a.toNatClampNeg)) + (A 54 a.toNatClampNeg)) * 3) ^^^ ((W.2.2.2.2.2.2.2) a.toNatClampNeg)) - (((c ^^^ (A 54 a.toNatClampNeg)) + (A 56 a.toNatClampNeg)) + ((W.2.2.2.2.2.2.2) a.toNatClampNeg))))] f180_76 rfl n180_205 k180_205_12 rfl (hb_52 _ _ _ _) (by decide +kernel) (Nat.le_of_ble_eq_true rfl) rfl rfl (by decide +kernel) (by decide +kernel) rfl (Nat.le_of_ble_eq_true rfl) rfl ?_
                        refine zw_aload_n 1 f122_0 rfl rfl ?_
                        refine zw_iconst 0 2 f122_1 rfl (by decide +kernel) ?_
                        refine zw_put _ 5 f122_2 rfl g122_111_12 (hb_52 _ _ _ _) rfl (Nat.le_of_ble_eq_true rfl) (by decide +kernel) (hi_52_27 _ _ _ _ _) ?_
                        refine zw_iload_n 6 f122_5 rfl rfl ?_
                        refine zw_ireturn f122_6 r122 u122 ⟨_, rfl, ?_⟩
                        refine zw_ireturn f180_79 r180 u180 ?_
                        exact ⟨_, _, _, _, rfl, (KQ.i rfl (KQ.i rfl (KQ.a rfl (KQ.i rfl (KQ.a rfl (KQ.i rfl (KQ.a rfl (KQ.i rfl (KQ.a rfl (KQ.i rfl (KQ.a rfl (KQ.i rfl (KQ.a rfl (KQ.i rfl (KQ.a rfl (KQ.i rfl (KQ.a rfl (KQ.i rfl KQ.rf)))))))))))))))))), ⟨hi.1, hi.2.1, 8, by omega, (show _ = nI 8 from rfl)⟩, _, rfl⟩
                      · refine zw_aload_n 11 f126_10 rfl rfl ?_
                        refine zw_getfield 14 f126_11 rfl g126_7_12 (hb_52 _ _ _ _) rfl ?_
                        refine zw_iload_n 15 f126_14 rfl rfl ?_
                        refine zw_iaload a.toNatClampNeg (A 53 a.toNatClampNeg) 16 f126_15 rfl (hb_53 _ _ _ _) rfl hc1 (zix (by decide) hc1 (show ¬ 8 ≤ a from ix_le hp.1 (by decide) (by decide) hc1 hc2)) rfl ?_
                        refine zw_iconst 4 17 f126_16 rfl (by decide +kernel) ?_
                        refine zw_ic_ne_f 20 24 f126_17 (by decide +kernel) rfl hc9 ?_
                        refine zw_iconst 1 21 f126_20 rfl (by decide +kernel) ?_
                        refine zw_goto 25 f126_21 (by decide +kernel) ?_
                        refine zw_zreturn f126_25 r126 u126 (by decide +kernel) ⟨_, rfl, ?_⟩
                        refine zw_if_eq_f 33 53 f175_30 (by decide +kernel) rfl (by decide +kernel) ?_
                        refine zw_aload_n 34 f175_33 rfl rfl ?_
                        refine zw_bipush 41 36 f175_34 rfl (by decide +kernel) ?_
                        refine zw_virtual_v 39 0 0 [.ref 52, .int 41] [(0, .ref 52), (1, .int 41)] f175_36 rfl n175_291 k175_291_12 rfl (hb_52 _ _ _ _) (by decide +kernel) (Nat.le_of_ble_eq_true rfl) rfl rfl (by decide +kernel) (by decide +kernel) rfl (Nat.le_of_ble_eq_true rfl) rfl ?_
                        refine zw_aload_n 1 f173_0 rfl rfl ?_
                        refine zw_getI 3 4 f173_1 rfl g173_246_12 (hb_52 _ _ _ _) rfl rfl ?_
                        refine zw_bipush 50 6 f173_4 rfl (by decide +kernel) ?_
                        refine zw_ic_ge_f 9 19 f173_6 (by decide +kernel) rfl (by decide +kernel) ?_
                        refine zw_aload_n 10 f173_9 rfl rfl ?_
                        refine zw_getfield 13 f173_10 rfl g173_74_12 (hb_52 _ _ _ _) rfl ?_
                        refine zw_aload_n 14 f173_13 rfl rfl ?_
                        refine zw_getI 3 17 f173_14 rfl g173_246_12 (hb_52 _ _ _ _) rfl rfl ?_
                        refine zw_iload_n 18 f173_17 rfl rfl ?_
                        refine zw_ast 3 _ 19 f173_18 rfl (hb_71 _ _ _ _) (by decide +kernel) (by decide +kernel) (by decide +kernel) (ha_71 _ _ _ _ _) ?_
                        refine zw_aload_n 20 f173_19 rfl rfl ?_
                        refine zw_dup 21 f173_20 rfl rfl ?_
                        refine zw_getI 3 24 f173_21 rfl g173_246_12 (hb_52 _ _ _ _) rfl rfl ?_
                        refine zw_iconst 1 25 f173_24 rfl (by decide +kernel) ?_
                        refine zw_iadd 4 26 f173_25 rfl (by decide +kernel) ?_
                        refine zw_put _ 29 f173_26 rfl g173_246_12 (hb_52 _ _ _ _) rfl (Nat.le_of_ble_eq_true rfl) (by decide +kernel) (hi_52_29 _ _ _ _ _) ?_
                        refine zw_vreturn f173_29 r173 u173 ⟨rfl, ?_⟩
                        refine zw_aload_n 40 f175_39 rfl rfl ?_
                        refine zw_iload_n 41 f175_40 rfl rfl ?_
                        refine zw_iload_n 42 f175_41 rfl rfl ?_
                        refine zw_aload_n 43 f175_42 rfl rfl ?_
                        refine zw_getfield 46 f175_43 rfl g175_16_12 (hb_52 _ _ _ _) rfl ?_
                        refine zw_iload_n 47 f175_46 rfl rfl ?_
                        refine zw_iaload a.toNatClampNeg (A 55 a.toNatClampNeg) 48 f175_47 rfl (hb_55 _ _ _ _) rfl hc1 (zix (by decide) hc1 (show ¬ 8 ≤ a from ix_le hp.1 (by decide) (by decide) hc1 hc2)) rfl ?_
                        refine zw_iadd (c + (A 55 a.toNatClampNeg)) 49 f175_48 rfl rfl ?_
                        refine zw_virtual_i 52 0 0 [.ref 52, .int a, .int (c + (A 55 a.toNatClampNeg))] [(0, .ref 52), (1, .int a), (2, .int (c + (A 55 a.toNatClampNeg)))] f175_49 rfl n175_294 k175_294_12 rfl (hb_52 _ _ _ _) (by decide +kernel) (Nat.le_of_ble_eq_true rfl) rfl rfl (by decide +kernel) (by decide +kernel) rfl (Nat.le_of_ble_eq_true rfl) rfl ?_
                        refine zw_aload_n 1 f174_0 rfl rfl ?_
                        refine zw_bipush 10 3 f174_1 rfl (by decide +kernel) ?_
                        refine zw_virtual_v 6 0 0 [.ref 52, .int 10] [(0, .ref 52), (1, .int 10)] f174_3 rfl n174_291 k174_291_12 rfl (hb_52 _ _ _ _) (by decide +kernel) (Nat.le_of_ble_eq_true rfl) rfl rfl (by decide +kernel) (by decide +kernel) rfl (Nat.le_of_ble_eq_true rfl) rfl ?_
                        refine zw_aload_n 1 f173_0 rfl rfl ?_
                        refine zw_getI 4 4 f173_1 rfl g173_246_12 (hb_52 _ _ _ _) rfl rfl ?_
                        refine zw_bipush 50 6 f173_4 rfl (by decide +kernel) ?_
                        refine zw_ic_ge_f 9 19 f173_6 (by decide +kernel) rfl (by decide +kernel) ?_
                        refine zw_aload_n 10 f173_9 rfl rfl ?_
                        refine zw_getfield 13 f173_10 rfl g173_74_12 (hb_52 _ _ _ _) rfl ?_
                        refine zw_aload_n 14 f173_13 rfl rfl ?_
                        refine zw_getI 4 17 f173_14 rfl g173_246_12 (hb_52 _ _ _ _) rfl rfl ?_
                        refine zw_iload_n 18 f173_17 rfl rfl ?_
                        refine zw_ast 4 _ 19 f173_18 rfl (hb_71 _ _ _ _) (by decide +kernel) (by decide +kernel) (by decide +kernel) (ha_71 _ _ _ _ _) ?_
                        refine zw_aload_n 20 f173_19 rfl rfl ?_
                        refine zw_dup 21 f173_20 rfl rfl ?_
                        refine zw_getI 4 24 f173_21 rfl g173_246_12 (hb_52 _ _ _ _) rfl rfl ?_
                        refine zw_iconst 1 25 f173_24 rfl (by decide +kernel) ?_
                        refine zw_iadd 5 26 f173_25 rfl (by decide +kernel) ?_
                        refine zw_put _ 29 f173_26 rfl g173_246_12 (hb_52 _ _ _ _) rfl (Nat.le_of_ble_eq_true rfl) (by decide +kernel) (hi_52_29 _ _ _ _ _) ?_
                        refine zw_vreturn f173_29 r173 u173 ⟨rfl, ?_⟩
                        refine zw_iload_n 7 f174_6 rfl rfl ?_
                        refine zw_aload_n 8 f174_7 rfl rfl ?_
                        refine zw_getfield 11 f174_8 rfl g174_13_12 (hb_52 _ _ _ _) rfl ?_
                        refine zw_iload_n 12 f174_11 rfl rfl ?_
                        refine zw_iaload a.toNatClampNeg (A 54 a.toNatClampNeg) 13 f174_12 rfl (hb_54 _ _ _ _) rfl hc1 (zix (by decide) hc1 (show ¬ 8 ≤ a from ix_le hp.1 (by decide) (by decide) hc1 hc2)) rfl ?_
                        refine zw_iadd ((c + (A 55 a.toNatClampNeg)) + (A 54 a.toNatClampNeg)) 14 f174_13 rfl rfl ?_
                        refine zw_ireturn f174_14 r174 u174 ⟨_, rfl, ?_⟩
                        refine zw_ireturn f175_52 r175 u175 ⟨_, rfl, ?_⟩
                        refine zw_iconst 3 13 f176_12 rfl (by decide +kernel) ?_
                        refine zw_imul (((c + (A 55 a.toNatClampNeg)) + (A 54 a.toNatClampNeg)) * 3) 14 f176_13 rfl rfl ?_
                        refine zw_ireturn f176_14 r176 u176 ⟨_, rfl, ?_⟩
                        refine zw_aload_n 53 f177_52 rfl rfl ?_
                        refine zw_getfield 56 f177_53 rfl g177_55_12 (hb_52 _ _ _ _) rfl ?_
                        refine zw_iload_n 57 f177_56 rfl rfl ?_
                        refine zw_iaload a.toNatClampNeg ((W.2.2.2.2.2.2.2) a.toNatClampNeg) 58 f177_57 rfl (hb_66 _ _ _ _) rfl hc1 (zix (by decide) hc1 (show ¬ 8 ≤ a from ix_le hp.1 (by decide) (by decide) hc1 hc2)) (congrFun (hR.cnt) a.toNatClampNeg) ?_
                        refine zw_ixor ((((c + (A 55 a.toNatClampNeg)) + (A 54 a.toNatClampNeg)) * 3) ^^^ ((W.2.2.2.2.2.2.2) a.toNatClampNeg)) 59 f177_58 rfl rfl ?_
                        refine zw_ireturn f177_59 r177 u177 ⟨_, rfl, ?_⟩
                        refine zw_istore _ 36 f179_34 rfl (by decide +kernel) rfl ?_
                        refine zw_iload 38 f179_36 rfl zl1_eq ?_
                        refine zw_aload_n 39 f179_38 rfl (zl1_ne rfl rfl (zl1_ne rfl rfl rfl)) ?_
                        refine zw_iload_n 40 f179_39 rfl (zl1_ne rfl rfl (zl1_ne rfl rfl rfl)) ?_
                        refine zw_iload_n 41 f179_40 rfl (zl1_ne rfl rfl zl1_eq) ?_
                        refine zw_virtual_i 44 0 0 [.ref 52, .int a, .int c] [(0, .ref 52), (1, .int a), (2, .int c)] f179_41 rfl n179_307 k179_307_12 rfl (hb_52 _ _ _ _) (by decide +kernel) (Nat.le_of_ble_eq_true rfl) rfl rfl (by decide +kernel) (by decide +kernel) rfl (Nat.le_of_ble_eq_true rfl) rfl ?_
                        refine zw_aload_n 1 f178_0 rfl rfl ?_
                        refine zw_getfield 4 f178_1 rfl g178_7_12 (hb_52 _ _ _ _) rfl ?_
                        refine zw_iload_n 5 f178_4 rfl rfl ?_
                        refine zw_iaload a.toNatClampNeg (A 53 a.toNatClampNeg) 6 f178_5 rfl (hb_53 _ _ _ _) rfl hc1 (zix (by decide) hc1 (show ¬ 8 ≤ a from ix_le hp.1 (by decide) (by decide) hc1 hc2)) rfl ?_
                        refine zw_iconst 4 7 f178_6 rfl (by decide +kernel) ?_
                        refine zw_ic_ne_f 10 16 f178_7 (by decide +kernel) rfl hc9 ?_
                        refine zw_aload_n 11 f178_10 rfl rfl ?_
                        refine zw_bipush 50 13 f178_11 rfl (by decide +kernel) ?_
                        refine zw_virtual_v 16 0 0 [.ref 52, .int 50] [(0, .ref 52), (1, .int 50)] f178_13 rfl n178_291 k178_291_12 rfl (hb_52 _ _ _ _) (by decide +kernel) (Nat.le_of_ble_eq_true rfl) rfl rfl (by decide +kernel) (by decide +kernel) rfl (Nat.le_of_ble_eq_true rfl) rfl ?_
                        refine zw_aload_n 1 f173_0 rfl rfl ?_
                        refine zw_getI 5 4 f173_1 rfl g173_246_12 (hb_52 _ _ _ _) rfl rfl ?_
                        refine zw_bipush 50 6 f173_4 rfl (by decide +kernel) ?_
                        refine zw_ic_ge_f 9 19 f173_6 (by decide +kernel) rfl (by decide +kernel) ?_
                        refine zw_aload_n 10 f173_9 rfl rfl ?_
                        refine zw_getfield 13 f173_10 rfl g173_74_12 (hb_52 _ _ _ _) rfl ?_
                        refine zw_aload_n 14 f173_13 rfl rfl ?_
                        refine zw_getI 5 17 f173_14 rfl g173_246_12 (hb_52 _ _ _ _) rfl rfl ?_
                        refine zw_iload_n 18 f173_17 rfl rfl ?_
                        refine zw_ast 5 _ 19 f173_18 rfl (hb_71 _ _ _ _) (by decide +kernel) (by decide +kernel) (by decide +kernel) (ha_71 _ _ _ _ _) ?_
                        refine zw_aload_n 20 f173_19 rfl rfl ?_
                        refine zw_dup 21 f173_20 rfl rfl ?_
                        refine zw_getI 5 24 f173_21 rfl g173_246_12 (hb_52 _ _ _ _) rfl rfl ?_
                        refine zw_iconst 1 25 f173_24 rfl (by decide +kernel) ?_
                        refine zw_iadd 6 26 f173_25 rfl (by decide +kernel) ?_
                        refine zw_put _ 29 f173_26 rfl g173_246_12 (hb_52 _ _ _ _) rfl (Nat.le_of_ble_eq_true rfl) (by decide +kernel) (hi_52_29 _ _ _ _ _) ?_
                        refine zw_vreturn f173_29 r173 u173 ⟨rfl, ?_⟩
                        refine zw_aload_n 17 f178_16 rfl rfl ?_
                        refine zw_iload_n 18 f178_17 rfl rfl ?_
                        refine zw_virtual_i 21 0 0 [.ref 52, .int a] [(0, .ref 52), (1, .int a)] f178_18 rfl n178_158 k178_158_12 rfl (hb_52 _ _ _ _) (by decide +kernel) (Nat.le_of_ble_eq_true rfl) rfl rfl (by decide +kernel) (by decide +kernel) rfl (Nat.le_of_ble_eq_true rfl) rfl ?_
                        refine zw_aload_n 1 f126_0 rfl rfl ?_
                        refine zw_getfield 4 f126_1 rfl g126_7_12 (hb_52 _ _ _ _) rfl ?_
                        refine zw_iload_n 5 f126_4 rfl rfl ?_
                        refine zw_iaload a.toNatClampNeg (A 53 a.toNatClampNeg) 6 f126_5 rfl (hb_53 _ _ _ _) rfl hc1 (zix (by decide) hc1 (show ¬ 8 ≤ a from ix_le hp.1 (by decide) (by decide) hc1 hc2)) rfl ?_
                        refine zw_iconst 3 7 f126_6 rfl (by decide +kernel) ?_
                        refine zw_ic_eq_f 10 20 f126_7 (by decide +kernel) rfl hc14 ?_
                        refine zw_aload_n 11 f126_10 rfl rfl ?_
                        refine zw_getfield 14 f126_11 rfl g126_7_12 (hb_52 _ _ _ _) rfl ?_
                        refine zw_iload_n 15 f126_14 rfl rfl ?_
                        refine zw_iaload a.toNatClampNeg (A 53 a.toNatClampNeg) 16 f126_15 rfl (hb_53 _ _ _ _) rfl hc1 (zix (by decide) hc1 (show ¬ 8 ≤ a from ix_le hp.1 (by decide) (by decide) hc1 hc2)) rfl ?_
                        refine zw_iconst 4 17 f126_16 rfl (by decide +kernel) ?_
                        refine zw_ic_ne_f 20 24 f126_17 (by decide +kernel) rfl hc9 ?_
                        refine zw_iconst 1 21 f126_20 rfl (by decide +kernel) ?_
                        refine zw_goto 25 f126_21 (by decide +kernel) ?_
                        refine zw_zreturn f126_25 r126 u126 (by decide +kernel) ⟨_, rfl, ?_⟩
                        refine zw_if_eq_f 24 30 f178_21 (by decide +kernel) rfl (by decide +kernel) ?_
                        refine zw_aload_n 25 f178_24 rfl rfl ?_
                        refine zw_bipush 40 27 f178_25 rfl (by decide +kernel) ?_
                        refine zw_virtual_v 30 0 0 [.ref 52, .int 40] [(0, .ref 52), (1, .int 40)] f178_27 rfl n178_291 k178_291_12 rfl (hb_52 _ _ _ _) (by decide +kernel) (Nat.le_of_ble_eq_true rfl) rfl rfl (by decide +kernel) (by decide +kernel) rfl (Nat.le_of_ble_eq_true rfl) rfl ?_
                        refine zw_aload_n 1 f173_0 rfl rfl ?_
                        refine zw_getI 6 4 f173_1 rfl g173_246_12 (hb_52 _ _ _ _) rfl rfl ?_
                        refine zw_bipush 50 6 f173_4 rfl (by decide +kernel) ?_
                        refine zw_ic_ge_f 9 19 f173_6 (by decide +kernel) rfl (by decide +kernel) ?_
                        refine zw_aload_n 10 f173_9 rfl rfl ?_
                        refine zw_getfield 13 f173_10 rfl g173_74_12 (hb_52 _ _ _ _) rfl ?_
                        refine zw_aload_n 14 f173_13 rfl rfl ?_
                        refine zw_getI 6 17 f173_14 rfl g173_246_12 (hb_52 _ _ _ _) rfl rfl ?_
                        refine zw_iload_n 18 f173_17 rfl rfl ?_
                        refine zw_ast 6 _ 19 f173_18 rfl (hb_71 _ _ _ _) (by decide +kernel) (by decide +kernel) (by decide +kernel) (ha_71 _ _ _ _ _) ?_
                        refine zw_aload_n 20 f173_19 rfl rfl ?_
                        refine zw_dup 21 f173_20 rfl rfl ?_
                        refine zw_getI 6 24 f173_21 rfl g173_246_12 (hb_52 _ _ _ _) rfl rfl ?_
                        refine zw_iconst 1 25 f173_24 rfl (by decide +kernel) ?_
                        refine zw_iadd 7 26 f173_25 rfl (by decide +kernel) ?_
                        refine zw_put _ 29 f173_26 rfl g173_246_12 (hb_52 _ _ _ _) rfl (Nat.le_of_ble_eq_true rfl) (by decide +kernel) (hi_52_29 _ _ _ _ _) ?_
                        refine zw_vreturn f173_29 r173 u173 ⟨rfl, ?_⟩
                        refine zw_aload_n 31 f178_30 rfl rfl ?_
                        refine zw_bipush 12 33 f178_31 rfl (by decide +kernel) ?_
                        refine zw_virtual_v 36 0 0 [.ref 52, .int 12] [(0, .ref 52), (1, .int 12)] f178_33 rfl n178_291 k178_291_12 rfl (hb_52 _ _ _ _) (by decide +kernel) (Nat.le_of_ble_eq_true rfl) rfl rfl (by decide +kernel) (by decide +kernel) rfl (Nat.le_of_ble_eq_true rfl) rfl ?_
                        refine zw_aload_n 1 f173_0 rfl rfl ?_
                        refine zw_getI 7 4 f173_1 rfl g173_246_12 (hb_52 _ _ _ _) rfl rfl ?_
                        refine zw_bipush 50 6 f173_4 rfl (by decide +kernel) ?_
                        refine zw_ic_ge_f 9 19 f173_6 (by decide +kernel) rfl (by decide +kernel) ?_
                        refine zw_aload_n 10 f173_9 rfl rfl ?_
                        refine zw_getfield 13 f173_10 rfl g173_74_12 (hb_52 _ _ _ _) rfl ?_
                        refine zw_aload_n 14 f173_13 rfl rfl ?_
                        refine zw_getI 7 17 f173_14 rfl g173_246_12 (hb_52 _ _ _ _) rfl rfl ?_
                        refine zw_iload_n 18 f173_17 rfl rfl ?_
                        refine zw_ast 7 _ 19 f173_18 rfl (hb_71 _ _ _ _) (by decide +kernel) (by decide +kernel) (by decide +kernel) (ha_71 _ _ _ _ _) ?_
                        refine zw_aload_n 20 f173_19 rfl rfl ?_
                        refine zw_dup 21 f173_20 rfl rfl ?_
                        refine zw_getI 7 24 f173_21 rfl g173_246_12 (hb_52 _ _ _ _) rfl rfl ?_
                        refine zw_iconst 1 25 f173_24 rfl (by decide +kernel) ?_
                        refine zw_iadd 8 26 f173_25 rfl (by decide +kernel) ?_
                        refine zw_put _ 29 f173_26 rfl g173_246_12 (hb_52 _ _ _ _) rfl (Nat.le_of_ble_eq_true rfl) (by decide +kernel) (hi_52_29 _ _ _ _ _) ?_
                        refine zw_vreturn f173_29 r173 u173 ⟨rfl, ?_⟩
                        refine zw_iload_n 37 f178_36 rfl rfl ?_
                        refine zw_aload_n 38 f178_37 rfl rfl ?_
                        refine zw_getfield 41 f178_38 rfl g178_13_12 (hb_52 _ _ _ _) rfl ?_
                        refine zw_iload_n 42 f178_41 rfl rfl ?_
                        refine zw_iaload a.toNatClampNeg (A 54 a.toNatClampNeg) 43 f178_42 rfl (hb_54 _ _ _ _) rfl hc1 (zix (by decide) hc1 (show ¬ 8 ≤ a from ix_le hp.1 (by decide) (by decide) hc1 hc2)) rfl ?_
                        refine zw_ixor (c ^^^ (A 54 a.toNatClampNeg)) 44 f178_43 rfl rfl ?_
                        refine zw_aload_n 45 f178_44 rfl rfl ?_
                        refine zw_iload_n 46 f178_45 rfl rfl ?_
                        refine zw_virtual_i 49 0 0 [.ref 52, .int a] [(0, .ref 52), (1, .int a)] f178_46 rfl n178_158 k178_158_12 rfl (hb_52 _ _ _ _) (by decide +kernel) (Nat.le_of_ble_eq_true rfl) rfl rfl (by decide +kernel) (by decide +kernel) rfl (Nat.le_of_ble_eq_true rfl) rfl ?_
                        refine zw_aload_n 1 f126_0 rfl rfl ?_
                        refine zw_getfield 4 f126_1 rfl g126_7_12 (hb_52 _ _ _ _) rfl ?_
                        refine zw_iload_n 5 f126_4 rfl rfl ?_
                        refine zw_iaload a.toNatClampNeg (A 53 a.toNatClampNeg) 6 f126_5 rfl (hb_53 _ _ _ _) rfl hc1 (zix (by decide) hc1 (show ¬ 8 ≤ a from ix_le hp.1 (by decide) (by decide) hc1 hc2)) rfl ?_
                        refine zw_iconst 3 7 f126_6 rfl (by decide +kernel) ?_
                        refine zw_ic_eq_f 10 20 f126_7 (by decide +kernel) rfl hc14 ?_
                        refine zw_aload_n 11 f126_10 rfl rfl ?_
                        refine zw_getfield 14 f126_11 rfl g126_7_12 (hb_52 _ _ _ _) rfl ?_
                        refine zw_iload_n 15 f126_14 rfl rfl ?_
                        refine zw_iaload a.toNatClampNeg (A 53 a.toNatClampNeg) 16 f126_15 rfl (hb_53 _ _ _ _) rfl hc1 (zix (by decide) hc1 (show ¬ 8 ≤ a from ix_le hp.1 (by decide) (by decide) hc1 hc2)) rfl ?_
                        refine zw_iconst 4 17 f126_16 rfl (by decide +kernel) ?_
                        refine zw_ic_ne_f 20 24 f126_17 (by decide +kernel) rfl hc9 ?_
                        refine zw_iconst 1 21 f126_20 rfl (by decide +kernel) ?_
                        refine zw_goto 25 f126_21 (by decide +kernel) ?_
                        refine zw_zreturn f126_25 r126 u126 (by decide +kernel) ⟨_, rfl, ?_⟩
                        refine zw_if_eq_f 52 61 f178_49 (by decide +kernel) rfl (by decide +kernel) ?_
                        refine zw_aload_n 53 f178_52 rfl rfl ?_
                        refine zw_getfield 56 f178_53 rfl g178_19_12 (hb_52 _ _ _ _) rfl ?_
                        refine zw_iload_n 57 f178_56 rfl rfl ?_
                        refine zw_iaload a.toNatClampNeg (A 56 a.toNatClampNeg) 58 f178_57 rfl (hb_56 _ _ _ _) rfl hc1 (zix (by decide) hc1 (show ¬ 8 ≤ a from ix_le hp.1 (by decide) (by decide) hc1 hc2)) rfl ?_
                        refine zw_goto 62 f178_58 (by decide +kernel) ?_
                        refine zw_iadd ((c ^^^ (A 54 a.toNatClampNeg)) + (A 56 a.toNatClampNeg)) 63 f178_62 rfl rfl ?_
                        refine zw_aload_n 64 f178_63 rfl rfl ?_
                        refine zw_getfield 67 f178_64 rfl g178_7_12 (hb_52 _ _ _ _) rfl ?_
                        refine zw_iload_n 68 f178_67 rfl rfl ?_
                        refine zw_iaload a.toNatClampNeg (A 53 a.toNatClampNeg) 69 f178_68 rfl (hb_53 _ _ _ _) rfl hc1 (zix (by decide) hc1 (show ¬ 8 ≤ a from ix_le hp.1 (by decide) (by decide) hc1 hc2)) rfl ?_
                        refine zw_iconst 4 70 f178_69 rfl (by decide +kernel) ?_
                        refine zw_ic_ne_f 73 82 f178_70 (by decide +kernel) rfl hc9 ?_
                        refine zw_aload_n 74 f178_73 rfl rfl ?_
                        refine zw_getfield 77 f178_74 rfl g178_55_12 (hb_52 _ _ _ _) rfl ?_
                        refine zw_iload_n 78 f178_77 rfl rfl ?_
                        refine zw_iaload a.toNatClampNeg ((W.2.2.2.2.2.2.2) a.toNatClampNeg) 79 f178_78 rfl (hb_66 _ _ _ _) rfl hc1 (zix (by decide) hc1 (show ¬ 8 ≤ a from ix_le hp.1 (by decide) (by decide) hc1 hc2)) (congrFun (hR.cnt) a.toNatClampNeg) ?_
                        refine zw_goto 83 f178_79 (by decide +kernel) ?_
                        refine zw_iadd (((c ^^^ (A 54 a.toNatClampNeg)) + (A 56 a.toNatClampNeg)) + ((W.2.2.2.2.2.2.2) a.toNatClampNeg)) 84 f178_83 rfl rfl ?_
                        refine zw_ireturn f178_84 r178 u178 ⟨_, rfl, ?_⟩
                        refine zw_isub (((((c + (A 55 a.toNatClampNeg)) + (A 54 a.toNatClampNeg)) * 3) ^^^ ((W.2.2.2.2.2.2.2) a.toNatClampNeg)) - (((c ^^^ (A 54 a.toNatClampNeg)) + (A 56 a.toNatClampNeg)) + ((W.2.2.2.2.2.2.2) a.toNatClampNeg))) 45 f179_44 rfl rfl ?_
                        refine zw_ireturn f179_45 r179 u179 ⟨_, rfl, ?_⟩
                        refine zw_virtual_i 79 0 0 [.ref 52, .int (((((c + (A 55 a.toNatClampNeg)) + (A 54 a.toNatClampNeg)) * 3) ^^^ ((W.2.2.2.2.2.2.2) a.toNatClampNeg)) - (((c ^^^ (A 54 a.toNatClampNeg)) + (A 56 a.toNatClampNeg)) + ((W.2.2.2.2.2.2.2) a.toNatClampNeg)))] [(0, .ref 52), (1, .int (((((c + (A 55 a.toNatClampNeg)) + (A 54 a.toNatClampNeg)) * 3) ^^^ ((W.2.2.2.2.2.2.2) a.toNatClampNeg)) - (((c ^^^ (A 54 a.toNatClampNeg)) + (A 56 a.toNatClampNeg)) + ((W.2.2.2.2.2.2.2) a.toNatClampNeg))))] f180_76 rfl n180_205 k180_205_12 rfl (hb_52 _ _ _ _) (by decide +kernel) (Nat.le_of_ble_eq_true rfl) rfl rfl (by decide +kernel) (by decide +kernel) rfl (Nat.le_of_ble_eq_true rfl) rfl ?_
                        refine zw_aload_n 1 f122_0 rfl rfl ?_
                        refine zw_iconst 0 2 f122_1 rfl (by decide +kernel) ?_
                        refine zw_put _ 5 f122_2 rfl g122_111_12 (hb_52 _ _ _ _) rfl (Nat.le_of_ble_eq_true rfl) (by decide +kernel) (hi_52_27 _ _ _ _ _) ?_
                        refine zw_iload_n 6 f122_5 rfl rfl ?_
                        refine zw_ireturn f122_6 r122 u122 ⟨_, rfl, ?_⟩
                        refine zw_ireturn f180_79 r180 u180 ?_
                        exact ⟨_, _, _, _, rfl, (KQ.i rfl (KQ.i rfl (KQ.a rfl (KQ.i rfl (KQ.a rfl (KQ.i rfl (KQ.a rfl (KQ.i rfl (KQ.a rfl (KQ.i rfl (KQ.a rfl (KQ.i rfl (KQ.a rfl (KQ.i rfl (KQ.a rfl (KQ.i rfl (KQ.a rfl (KQ.i rfl KQ.rf)))))))))))))))))), ⟨hi.1, hi.2.1, 8, by omega, (show _ = nI 8 from rfl)⟩, _, rfl⟩
                    · refine zw_aload_n 11 f175_10 rfl rfl ?_
                      refine zw_bipush 30 13 f175_11 rfl (by decide +kernel) ?_
                      refine zw_virtual_v 16 0 0 [.ref 52, .int 30] [(0, .ref 52), (1, .int 30)] f175_13 rfl n175_291 k175_291_12 rfl (hb_52 _ _ _ _) (by decide +kernel) (Nat.le_of_ble_eq_true rfl) rfl rfl (by decide +kernel) (by decide +kernel) rfl (Nat.le_of_ble_eq_true rfl) rfl ?_
                      refine zw_aload_n 1 f173_0 rfl rfl ?_
                      refine zw_getI 3 4 f173_1 rfl g173_246_12 (hb_52 _ _ _ _) rfl rfl ?_
                      refine zw_bipush 50 6 f173_4 rfl (by decide +kernel) ?_
                      refine zw_ic_ge_f 9 19 f173_6 (by decide +kernel) rfl (by decide +kernel) ?_
                      refine zw_aload_n 10 f173_9 rfl rfl ?_
                      refine zw_getfield 13 f173_10 rfl g173_74_12 (hb_52 _ _ _ _) rfl ?_
                      refine zw_aload_n 14 f173_13 rfl rfl ?_
                      refine zw_getI 3 17 f173_14 rfl g173_246_12 (hb_52 _ _ _ _) rfl rfl ?_
                      refine zw_iload_n 18 f173_17 rfl rfl ?_
                      refine zw_ast 3 _ 19 f173_18 rfl (hb_71 _ _ _ _) (by decide +kernel) (by decide +kernel) (by decide +kernel) (ha_71 _ _ _ _ _) ?_
                      refine zw_aload_n 20 f173_19 rfl rfl ?_
                      refine zw_dup 21 f173_20 rfl rfl ?_
                      refine zw_getI 3 24 f173_21 rfl g173_246_12 (hb_52 _ _ _ _) rfl rfl ?_
                      refine zw_iconst 1 25 f173_24 rfl (by decide +kernel) ?_
                      refine zw_iadd 4 26 f173_25 rfl (by decide +kernel) ?_
                      refine zw_put _ 29 f173_26 rfl g173_246_12 (hb_52 _ _ _ _) rfl (Nat.le_of_ble_eq_true rfl) (by decide +kernel) (hi_52_29 _ _ _ _ _) ?_
                      refine zw_vreturn f173_29 r173 u173 ⟨rfl, ?_⟩
                      refine zw_aload_n 17 f175_16 rfl rfl ?_
                      refine zw_iload_n 18 f175_17 rfl rfl ?_
                      refine zw_iload_n 19 f175_18 rfl rfl ?_
                      refine zw_virtual_i 22 0 0 [.ref 52, .int a, .int c] [(0, .ref 52), (1, .int a), (2, .int c)] f175_19 rfl n175_294 k175_294_12 rfl (hb_52 _ _ _ _) (by decide +kernel) (Nat.le_of_ble_eq_true rfl) rfl rfl (by decide +kernel) (by decide +kernel) rfl (Nat.le_of_ble_eq_true rfl) rfl ?_
                      refine zw_aload_n 1 f174_0 rfl rfl ?_
                      refine zw_bipush 10 3 f174_1 rfl (by decide +kernel) ?_
                      refine zw_virtual_v 6 0 0 [.ref 52, .int 10] [(0, .ref 52), (1, .int 10)] f174_3 rfl n174_291 k174_291_12 rfl (hb_52 _ _ _ _) (by decide +kernel) (Nat.le_of_ble_eq_true rfl) rfl rfl (by decide +kernel) (by decide +kernel) rfl (Nat.le_of_ble_eq_true rfl) rfl ?_
                      refine zw_aload_n 1 f173_0 rfl rfl ?_
                      refine zw_getI 4 4 f173_1 rfl g173_246_12 (hb_52 _ _ _ _) rfl rfl ?_
                      refine zw_bipush 50 6 f173_4 rfl (by decide +kernel) ?_
                      refine zw_ic_ge_f 9 19 f173_6 (by decide +kernel) rfl (by decide +kernel) ?_
                      refine zw_aload_n 10 f173_9 rfl rfl ?_
                      refine zw_getfield 13 f173_10 rfl g173_74_12 (hb_52 _ _ _ _) rfl ?_
                      refine zw_aload_n 14 f173_13 rfl rfl ?_
                      refine zw_getI 4 17 f173_14 rfl g173_246_12 (hb_52 _ _ _ _) rfl rfl ?_
                      refine zw_iload_n 18 f173_17 rfl rfl ?_
                      refine zw_ast 4 _ 19 f173_18 rfl (hb_71 _ _ _ _) (by decide +kernel) (by decide +kernel) (by decide +kernel) (ha_71 _ _ _ _ _) ?_
                      refine zw_aload_n 20 f173_19 rfl rfl ?_
                      refine zw_dup 21 f173_20 rfl rfl ?_
                      refine zw_getI 4 24 f173_21 rfl g173_246_12 (hb_52 _ _ _ _) rfl rfl ?_
                      refine zw_iconst 1 25 f173_24 rfl (by decide +kernel) ?_
                      refine zw_iadd 5 26 f173_25 rfl (by decide +kernel) ?_
                      refine zw_put _ 29 f173_26 rfl g173_246_12 (hb_52 _ _ _ _) rfl (Nat.le_of_ble_eq_true rfl) (by decide +kernel) (hi_52_29 _ _ _ _ _) ?_
                      refine zw_vreturn f173_29 r173 u173 ⟨rfl, ?_⟩
                      refine zw_iload_n 7 f174_6 rfl rfl ?_
                      refine zw_aload_n 8 f174_7 rfl rfl ?_
                      refine zw_getfield 11 f174_8 rfl g174_13_12 (hb_52 _ _ _ _) rfl ?_
                      refine zw_iload_n 12 f174_11 rfl rfl ?_
                      refine zw_iaload a.toNatClampNeg (A 54 a.toNatClampNeg) 13 f174_12 rfl (hb_54 _ _ _ _) rfl hc1 (zix (by decide) hc1 (show ¬ 8 ≤ a from ix_le hp.1 (by decide) (by decide) hc1 hc2)) rfl ?_
                      refine zw_iadd (c + (A 54 a.toNatClampNeg)) 14 f174_13 rfl rfl ?_
                      refine zw_ireturn f174_14 r174 u174 ⟨_, rfl, ?_⟩
                      refine zw_iconst 2 23 f175_22 rfl (by decide +kernel) ?_
                      refine zw_imul ((c + (A 54 a.toNatClampNeg)) * 2) 24 f175_23 rfl rfl ?_
                      refine zw_ireturn f175_24 r175 u175 ⟨_, rfl, ?_⟩
                      refine zw_iconst 3 13 f176_12 rfl (by decide +kernel) ?_
                      refine zw_imul (((c + (A 54 a.toNatClampNeg)) * 2) * 3) 14 f176_13 rfl rfl ?_
                      refine zw_ireturn f176_14 r176 u176 ⟨_, rfl, ?_⟩
                      refine zw_aload_n 53 f177_52 rfl rfl ?_
                      refine zw_getfield 56 f177_53 rfl g177_55_12 (hb_52 _ _ _ _) rfl ?_
                      refine zw_iload_n 57 f177_56 rfl rfl ?_
                      refine zw_iaload a.toNatClampNeg ((W.2.2.2.2.2.2.2) a.toNatClampNeg) 58 f177_57 rfl (hb_66 _ _ _ _) rfl hc1 (zix (by decide) hc1 (show ¬ 8 ≤ a from ix_le hp.1 (by decide) (by decide) hc1 hc2)) (congrFun (hR.cnt) a.toNatClampNeg) ?_
                      refine zw_ixor ((((c + (A 54 a.toNatClampNeg)) * 2) * 3) ^^^ ((W.2.2.2.2.2.2.2) a.toNatClampNeg)) 59 f177_58 rfl rfl ?_
                      refine zw_ireturn f177_59 r177 u177 ⟨_, rfl, ?_⟩
                      refine zw_istore _ 36 f179_34 rfl (by decide +kernel) rfl ?_
                      refine zw_iload 38 f179_36 rfl zl1_eq ?_
                      refine zw_aload_n 39 f179_38 rfl (zl1_ne rfl rfl (zl1_ne rfl rfl rfl)) ?_
                      refine zw_iload_n 40 f179_39 rfl (zl1_ne rfl rfl (zl1_ne rfl rfl rfl)) ?_
                      refine zw_iload_n 41 f179_40 rfl (zl1_ne rfl rfl zl1_eq) ?_
                      refine zw_virtual_i 44 0 0 [.ref 52, .int a, .int c] [(0, .ref 52), (1, .int a), (2, .int c)] f179_41 rfl n179_307 k179_307_12 rfl (hb_52 _ _ _ _) (by decide +kernel) (Nat.le_of_ble_eq_true rfl) rfl rfl (by decide +kernel) (by decide +kernel) rfl (Nat.le_of_ble_eq_true rfl) rfl ?_
                      refine zw_aload_n 1 f178_0 rfl rfl ?_
                      refine zw_getfield 4 f178_1 rfl g178_7_12 (hb_52 _ _ _ _) rfl ?_
                      refine zw_iload_n 5 f178_4 rfl rfl ?_
                      refine zw_iaload a.toNatClampNeg (A 53 a.toNatClampNeg) 6 f178_5 rfl (hb_53 _ _ _ _) rfl hc1 (zix (by decide) hc1 (show ¬ 8 ≤ a from ix_le hp.1 (by decide) (by decide) hc1 hc2)) rfl ?_
                      refine zw_iconst 4 7 f178_6 rfl (by decide +kernel) ?_
                      refine zw_ic_ne_f 10 16 f178_7 (by decide +kernel) rfl hc9 ?_
                      refine zw_aload_n 11 f178_10 rfl rfl ?_
                      refine zw_bipush 50 13 f178_11 rfl (by decide +kernel) ?_
                      refine zw_virtual_v 16 0 0 [.ref 52, .int 50] [(0, .ref 52), (1, .int 50)] f178_13 rfl n178_291 k178_291_12 rfl (hb_52 _ _ _ _) (by decide +kernel) (Nat.le_of_ble_eq_true rfl) rfl rfl (by decide +kernel) (by decide +kernel) rfl (Nat.le_of_ble_eq_true rfl) rfl ?_
                      refine zw_aload_n 1 f173_0 rfl rfl ?_
                      refine zw_getI 5 4 f173_1 rfl g173_246_12 (hb_52 _ _ _ _) rfl rfl ?_
                      refine zw_bipush 50 6 f173_4 rfl (by decide +kernel) ?_
                      refine zw_ic_ge_f 9 19 f173_6 (by decide +kernel) rfl (by decide +kernel) ?_
                      refine zw_aload_n 10 f173_9 rfl rfl ?_
                      refine zw_getfield 13 f173_10 rfl g173_74_12 (hb_52 _ _ _ _) rfl ?_
                      refine zw_aload_n 14 f173_13 rfl rfl ?_
                      refine zw_getI 5 17 f173_14 rfl g173_246_12 (hb_52 _ _ _ _) rfl rfl ?_
                      refine zw_iload_n 18 f173_17 rfl rfl ?_
                      refine zw_ast 5 _ 19 f173_18 rfl (hb_71 _ _ _ _) (by decide +kernel) (by decide +kernel) (by decide +kernel) (ha_71 _ _ _ _ _) ?_
                      refine zw_aload_n 20 f173_19 rfl rfl ?_
                      refine zw_dup 21 f173_20 rfl rfl ?_
                      refine zw_getI 5 24 f173_21 rfl g173_246_12 (hb_52 _ _ _ _) rfl rfl ?_
                      refine zw_iconst 1 25 f173_24 rfl (by decide +kernel) ?_
                      refine zw_iadd 6 26 f173_25 rfl (by decide +kernel) ?_
                      refine zw_put _ 29 f173_26 rfl g173_246_12 (hb_52 _ _ _ _) rfl (Nat.le_of_ble_eq_true rfl) (by decide +kernel) (hi_52_29 _ _ _ _ _) ?_
                      refine zw_vreturn f173_29 r173 u173 ⟨rfl, ?_⟩
                      refine zw_aload_n 17 f178_16 rfl rfl ?_
                      refine zw_iload_n 18 f178_17 rfl rfl ?_
                      refine zw_virtual_i 21 0 0 [.ref 52, .int a] [(0, .ref 52), (1, .int a)] f178_18 rfl n178_158 k178_158_12 rfl (hb_52 _ _ _ _) (by decide +kernel) (Nat.le_of_ble_eq_true rfl) rfl rfl (by decide +kernel) (by decide +kernel) rfl (Nat.le_of_ble_eq_true rfl) rfl ?_
                      refine zw_aload_n 1 f126_0 rfl rfl ?_
                      refine zw_getfield 4 f126_1 rfl g126_7_12 (hb_52 _ _ _ _) rfl ?_
                      refine zw_iload_n 5 f126_4 rfl rfl ?_
                      refine zw_iaload a.toNatClampNeg (A 53 a.toNatClampNeg) 6 f126_5 rfl (hb_53 _ _ _ _) rfl hc1 (zix (by decide) hc1 (show ¬ 8 ≤ a from ix_le hp.1 (by decide) (by decide) hc1 hc2)) rfl ?_
                      refine zw_iconst 3 7 f126_6 rfl (by decide +kernel) ?_
                      refine zw_ic_eq 10 20 f126_7 (by decide +kernel) rfl (fun hc15 => ?_) (fun hc15 => ?_)
                      · refine zw_iconst 1 21 f126_20 rfl (by decide +kernel) ?_
                        refine zw_goto 25 f126_21 (by decide +kernel) ?_
                        refine zw_zreturn f126_25 r126 u126 (by decide +kernel) ⟨_, rfl, ?_⟩
                        refine zw_if_eq_f 24 30 f178_21 (by decide +kernel) rfl (by decide +kernel) ?_
                        refine zw_aload_n 25 f178_24 rfl rfl ?_
                        refine zw_bipush 40 27 f178_25 rfl (by decide +kernel) ?_
                        refine zw_virtual_v 30 0 0 [.ref 52, .int 40] [(0, .ref 52), (1, .int 40)] f178_27 rfl n178_291 k178_291_12 rfl (hb_52 _ _ _ _) (by decide +kernel) (Nat.le_of_ble_eq_true rfl) rfl rfl (by decide +kernel) (by decide +kernel) rfl (Nat.le_of_ble_eq_true rfl) rfl ?_
                        refine zw_aload_n 1 f173_0 rfl rfl ?_
                        refine zw_getI 6 4 f173_1 rfl g173_246_12 (hb_52 _ _ _ _) rfl rfl ?_
                        refine zw_bipush 50 6 f173_4 rfl (by decide +kernel) ?_
                        refine zw_ic_ge_f 9 19 f173_6 (by decide +kernel) rfl (by decide +kernel) ?_
                        refine zw_aload_n 10 f173_9 rfl rfl ?_
                        refine zw_getfield 13 f173_10 rfl g173_74_12 (hb_52 _ _ _ _) rfl ?_
                        refine zw_aload_n 14 f173_13 rfl rfl ?_
                        refine zw_getI 6 17 f173_14 rfl g173_246_12 (hb_52 _ _ _ _) rfl rfl ?_
                        refine zw_iload_n 18 f173_17 rfl rfl ?_
                        refine zw_ast 6 _ 19 f173_18 rfl (hb_71 _ _ _ _) (by decide +kernel) (by decide +kernel) (by decide +kernel) (ha_71 _ _ _ _ _) ?_
                        refine zw_aload_n 20 f173_19 rfl rfl ?_
                        refine zw_dup 21 f173_20 rfl rfl ?_
                        refine zw_getI 6 24 f173_21 rfl g173_246_12 (hb_52 _ _ _ _) rfl rfl ?_
                        refine zw_iconst 1 25 f173_24 rfl (by decide +kernel) ?_
                        refine zw_iadd 7 26 f173_25 rfl (by decide +kernel) ?_
                        refine zw_put _ 29 f173_26 rfl g173_246_12 (hb_52 _ _ _ _) rfl (Nat.le_of_ble_eq_true rfl) (by decide +kernel) (hi_52_29 _ _ _ _ _) ?_
                        refine zw_vreturn f173_29 r173 u173 ⟨rfl, ?_⟩
                        refine zw_aload_n 31 f178_30 rfl rfl ?_
                        refine zw_bipush 12 33 f178_31 rfl (by decide +kernel) ?_
                        refine zw_virtual_v 36 0 0 [.ref 52, .int 12] [(0, .ref 52), (1, .int 12)] f178_33 rfl n178_291 k178_291_12 rfl (hb_52 _ _ _ _) (by decide +kernel) (Nat.le_of_ble_eq_true rfl) rfl rfl (by decide +kernel) (by decide +kernel) rfl (Nat.le_of_ble_eq_true rfl) rfl ?_
                        refine zw_aload_n 1 f173_0 rfl rfl ?_
                        refine zw_getI 7 4 f173_1 rfl g173_246_12 (hb_52 _ _ _ _) rfl rfl ?_
                        refine zw_bipush 50 6 f173_4 rfl (by decide +kernel) ?_
                        refine zw_ic_ge_f 9 19 f173_6 (by decide +kernel) rfl (by decide +kernel) ?_
                        refine zw_aload_n 10 f173_9 rfl rfl ?_
                        refine zw_getfield 13 f173_10 rfl g173_74_12 (hb_52 _ _ _ _) rfl ?_
                        refine zw_aload_n 14 f173_13 rfl rfl ?_
                        refine zw_getI 7 17 f173_14 rfl g173_246_12 (hb_52 _ _ _ _) rfl rfl ?_
                        refine zw_iload_n 18 f173_17 rfl rfl ?_
                        refine zw_ast 7 _ 19 f173_18 rfl (hb_71 _ _ _ _) (by decide +kernel) (by decide +kernel) (by decide +kernel) (ha_71 _ _ _ _ _) ?_
                        refine zw_aload_n 20 f173_19 rfl rfl ?_
                        refine zw_dup 21 f173_20 rfl rfl ?_
                        refine zw_getI 7 24 f173_21 rfl g173_246_12 (hb_52 _ _ _ _) rfl rfl ?_
                        refine zw_iconst 1 25 f173_24 rfl (by decide +kernel) ?_
                        refine zw_iadd 8 26 f173_25 rfl (by decide +kernel) ?_
                        refine zw_put _ 29 f173_26 rfl g173_246_12 (hb_52 _ _ _ _) rfl (Nat.le_of_ble_eq_true rfl) (by decide +kernel) (hi_52_29 _ _ _ _ _) ?_
                        refine zw_vreturn f173_29 r173 u173 ⟨rfl, ?_⟩
                        refine zw_iload_n 37 f178_36 rfl rfl ?_
                        refine zw_aload_n 38 f178_37 rfl rfl ?_
                        refine zw_getfield 41 f178_38 rfl g178_13_12 (hb_52 _ _ _ _) rfl ?_
                        refine zw_iload_n 42 f178_41 rfl rfl ?_
                        refine zw_iaload a.toNatClampNeg (A 54 a.toNatClampNeg) 43 f178_42 rfl (hb_54 _ _ _ _) rfl hc1 (zix (by decide) hc1 (show ¬ 8 ≤ a from ix_le hp.1 (by decide) (by decide) hc1 hc2)) rfl ?_
                        refine zw_ixor (c ^^^ (A 54 a.toNatClampNeg)) 44 f178_43 rfl rfl ?_
                        refine zw_aload_n 45 f178_44 rfl rfl ?_
                        refine zw_iload_n 46 f178_45 rfl rfl ?_
                        refine zw_virtual_i 49 0 0 [.ref 52, .int a] [(0, .ref 52), (1, .int a)] f178_46 rfl n178_158 k178_158_12 rfl (hb_52 _ _ _ _) (by decide +kernel) (Nat.le_of_ble_eq_true rfl) rfl rfl (by decide +kernel) (by decide +kernel) rfl (Nat.le_of_ble_eq_true rfl) rfl ?_
                        refine zw_aload_n 1 f126_0 rfl rfl ?_
                        refine zw_getfield 4 f126_1 rfl g126_7_12 (hb_52 _ _ _ _) rfl ?_
                        refine zw_iload_n 5 f126_4 rfl rfl ?_
                        refine zw_iaload a.toNatClampNeg (A 53 a.toNatClampNeg) 6 f126_5 rfl (hb_53 _ _ _ _) rfl hc1 (zix (by decide) hc1 (show ¬ 8 ≤ a from ix_le hp.1 (by decide) (by decide) hc1 hc2)) rfl ?_
                        refine zw_iconst 3 7 f126_6 rfl (by decide +kernel) ?_
                        refine zw_ic_eq_t 20 f126_7 (by decide +kernel) hc15 ?_
                        refine zw_iconst 1 21 f126_20 rfl (by decide +kernel) ?_
                        refine zw_goto 25 f126_21 (by decide +kernel) ?_
                        refine zw_zreturn f126_25 r126 u126 (by decide +kernel) ⟨_, rfl, ?_⟩
                        refine zw_if_eq_f 52 61 f178_49 (by decide +kernel) rfl (by decide +kernel) ?_
                        refine zw_aload_n 53 f178_52 rfl rfl ?_
                        refine zw_getfield 56 f178_53 rfl g178_19_12 (hb_52 _ _ _ _) rfl ?_
                        refine zw_iload_n 57 f178_56 rfl rfl ?_
                        refine zw_iaload a.toNatClampNeg (A 56 a.toNatClampNeg) 58 f178_57 rfl (hb_56 _ _ _ _) rfl hc1 (zix (by decide) hc1 (show ¬ 8 ≤ a from ix_le hp.1 (by decide) (by decide) hc1 hc2)) rfl ?_
                        refine zw_goto 62 f178_58 (by decide +kernel) ?_
                        refine zw_iadd ((c ^^^ (A 54 a.toNatClampNeg)) + (A 56 a.toNatClampNeg)) 63 f178_62 rfl rfl ?_
                        refine zw_aload_n 64 f178_63 rfl rfl ?_
                        refine zw_getfield 67 f178_64 rfl g178_7_12 (hb_52 _ _ _ _) rfl ?_
                        refine zw_iload_n 68 f178_67 rfl rfl ?_
                        refine zw_iaload a.toNatClampNeg (A 53 a.toNatClampNeg) 69 f178_68 rfl (hb_53 _ _ _ _) rfl hc1 (zix (by decide) hc1 (show ¬ 8 ≤ a from ix_le hp.1 (by decide) (by decide) hc1 hc2)) rfl ?_
                        refine zw_iconst 4 70 f178_69 rfl (by decide +kernel) ?_
                        refine zw_ic_ne_f 73 82 f178_70 (by decide +kernel) rfl hc9 ?_
                        refine zw_aload_n 74 f178_73 rfl rfl ?_
                        refine zw_getfield 77 f178_74 rfl g178_55_12 (hb_52 _ _ _ _) rfl ?_
                        refine zw_iload_n 78 f178_77 rfl rfl ?_
                        refine zw_iaload a.toNatClampNeg ((W.2.2.2.2.2.2.2) a.toNatClampNeg) 79 f178_78 rfl (hb_66 _ _ _ _) rfl hc1 (zix (by decide) hc1 (show ¬ 8 ≤ a from ix_le hp.1 (by decide) (by decide) hc1 hc2)) (congrFun (hR.cnt) a.toNatClampNeg) ?_
                        refine zw_goto 83 f178_79 (by decide +kernel) ?_
                        refine zw_iadd (((c ^^^ (A 54 a.toNatClampNeg)) + (A 56 a.toNatClampNeg)) + ((W.2.2.2.2.2.2.2) a.toNatClampNeg)) 84 f178_83 rfl rfl ?_
                        refine zw_ireturn f178_84 r178 u178 ⟨_, rfl, ?_⟩
                        refine zw_isub (((((c + (A 54 a.toNatClampNeg)) * 2) * 3) ^^^ ((W.2.2.2.2.2.2.2) a.toNatClampNeg)) - (((c ^^^ (A 54 a.toNatClampNeg)) + (A 56 a.toNatClampNeg)) + ((W.2.2.2.2.2.2.2) a.toNatClampNeg))) 45 f179_44 rfl rfl ?_
                        refine zw_ireturn f179_45 r179 u179 ⟨_, rfl, ?_⟩
                        refine zw_virtual_i 79 0 0 [.ref 52, .int (((((c + (A 54 a.toNatClampNeg)) * 2) * 3) ^^^ ((W.2.2.2.2.2.2.2) a.toNatClampNeg)) - (((c ^^^ (A 54 a.toNatClampNeg)) + (A 56 a.toNatClampNeg)) + ((W.2.2.2.2.2.2.2) a.toNatClampNeg)))] [(0, .ref 52), (1, .int (((((c + (A 54 a.toNatClampNeg)) * 2) * 3) ^^^ ((W.2.2.2.2.2.2.2) a.toNatClampNeg)) - (((c ^^^ (A 54 a.toNatClampNeg)) + (A 56 a.toNatClampNeg)) + ((W.2.2.2.2.2.2.2) a.toNatClampNeg))))] f180_76 rfl n180_205 k180_205_12 rfl (hb_52 _ _ _ _) (by decide +kernel) (Nat.le_of_ble_eq_true rfl) rfl rfl (by decide +kernel) (by decide +kernel) rfl (Nat.le_of_ble_eq_true rfl) rfl ?_
                        refine zw_aload_n 1 f122_0 rfl rfl ?_
                        refine zw_iconst 0 2 f122_1 rfl (by decide +kernel) ?_
                        refine zw_put _ 5 f122_2 rfl g122_111_12 (hb_52 _ _ _ _) rfl (Nat.le_of_ble_eq_true rfl) (by decide +kernel) (hi_52_27 _ _ _ _ _) ?_
                        refine zw_iload_n 6 f122_5 rfl rfl ?_
                        refine zw_ireturn f122_6 r122 u122 ⟨_, rfl, ?_⟩
                        refine zw_ireturn f180_79 r180 u180 ?_
                        exact ⟨_, _, _, _, rfl, (KQ.i rfl (KQ.i rfl (KQ.a rfl (KQ.i rfl (KQ.a rfl (KQ.i rfl (KQ.a rfl (KQ.i rfl (KQ.a rfl (KQ.i rfl (KQ.a rfl (KQ.i rfl (KQ.a rfl (KQ.i rfl (KQ.a rfl (KQ.i rfl (KQ.a rfl (KQ.i rfl KQ.rf)))))))))))))))))), ⟨hi.1, hi.2.1, 8, by omega, (show _ = nI 8 from rfl)⟩, _, rfl⟩
                      · refine zw_aload_n 11 f126_10 rfl rfl ?_
                        refine zw_getfield 14 f126_11 rfl g126_7_12 (hb_52 _ _ _ _) rfl ?_
                        refine zw_iload_n 15 f126_14 rfl rfl ?_
                        refine zw_iaload a.toNatClampNeg (A 53 a.toNatClampNeg) 16 f126_15 rfl (hb_53 _ _ _ _) rfl hc1 (zix (by decide) hc1 (show ¬ 8 ≤ a from ix_le hp.1 (by decide) (by decide) hc1 hc2)) rfl ?_
                        refine zw_iconst 4 17 f126_16 rfl (by decide +kernel) ?_
                        refine zw_ic_ne_f 20 24 f126_17 (by decide +kernel) rfl hc9 ?_
                        refine zw_iconst 1 21 f126_20 rfl (by decide +kernel) ?_
                        refine zw_goto 25 f126_21 (by decide +kernel) ?_
                        refine zw_zreturn f126_25 r126 u126 (by decide +kernel) ⟨_, rfl, ?_⟩
                        refine zw_if_eq_f 24 30 f178_21 (by decide +kernel) rfl (by decide +kernel) ?_
                        refine zw_aload_n 25 f178_24 rfl rfl ?_
                        refine zw_bipush 40 27 f178_25 rfl (by decide +kernel) ?_
                        refine zw_virtual_v 30 0 0 [.ref 52, .int 40] [(0, .ref 52), (1, .int 40)] f178_27 rfl n178_291 k178_291_12 rfl (hb_52 _ _ _ _) (by decide +kernel) (Nat.le_of_ble_eq_true rfl) rfl rfl (by decide +kernel) (by decide +kernel) rfl (Nat.le_of_ble_eq_true rfl) rfl ?_
                        refine zw_aload_n 1 f173_0 rfl rfl ?_
                        refine zw_getI 6 4 f173_1 rfl g173_246_12 (hb_52 _ _ _ _) rfl rfl ?_
                        refine zw_bipush 50 6 f173_4 rfl (by decide +kernel) ?_
                        refine zw_ic_ge_f 9 19 f173_6 (by decide +kernel) rfl (by decide +kernel) ?_
                        refine zw_aload_n 10 f173_9 rfl rfl ?_
                        refine zw_getfield 13 f173_10 rfl g173_74_12 (hb_52 _ _ _ _) rfl ?_
                        refine zw_aload_n 14 f173_13 rfl rfl ?_
                        refine zw_getI 6 17 f173_14 rfl g173_246_12 (hb_52 _ _ _ _) rfl rfl ?_
                        refine zw_iload_n 18 f173_17 rfl rfl ?_
                        refine zw_ast 6 _ 19 f173_18 rfl (hb_71 _ _ _ _) (by decide +kernel) (by decide +kernel) (by decide +kernel) (ha_71 _ _ _ _ _) ?_
                        refine zw_aload_n 20 f173_19 rfl rfl ?_
                        refine zw_dup 21 f173_20 rfl rfl ?_
                        refine zw_getI 6 24 f173_21 rfl g173_246_12 (hb_52 _ _ _ _) rfl rfl ?_
                        refine zw_iconst 1 25 f173_24 rfl (by decide +kernel) ?_
                        refine zw_iadd 7 26 f173_25 rfl (by decide +kernel) ?_
                        refine zw_put _ 29 f173_26 rfl g173_246_12 (hb_52 _ _ _ _) rfl (Nat.le_of_ble_eq_true rfl) (by decide +kernel) (hi_52_29 _ _ _ _ _) ?_
                        refine zw_vreturn f173_29 r173 u173 ⟨rfl, ?_⟩
                        refine zw_aload_n 31 f178_30 rfl rfl ?_
                        refine zw_bipush 12 33 f178_31 rfl (by decide +kernel) ?_
                        refine zw_virtual_v 36 0 0 [.ref 52, .int 12] [(0, .ref 52), (1, .int 12)] f178_33 rfl n178_291 k178_291_12 rfl (hb_52 _ _ _ _) (by decide +kernel) (Nat.le_of_ble_eq_true rfl) rfl rfl (by decide +kernel) (by decide +kernel) rfl (Nat.le_of_ble_eq_true rfl) rfl ?_
                        refine zw_aload_n 1 f173_0 rfl rfl ?_
                        refine zw_getI 7 4 f173_1 rfl g173_246_12 (hb_52 _ _ _ _) rfl rfl ?_
                        refine zw_bipush 50 6 f173_4 rfl (by decide +kernel) ?_
                        refine zw_ic_ge_f 9 19 f173_6 (by decide +kernel) rfl (by decide +kernel) ?_
                        refine zw_aload_n 10 f173_9 rfl rfl ?_
                        refine zw_getfield 13 f173_10 rfl g173_74_12 (hb_52 _ _ _ _) rfl ?_
                        refine zw_aload_n 14 f173_13 rfl rfl ?_
                        refine zw_getI 7 17 f173_14 rfl g173_246_12 (hb_52 _ _ _ _) rfl rfl ?_
                        refine zw_iload_n 18 f173_17 rfl rfl ?_
                        refine zw_ast 7 _ 19 f173_18 rfl (hb_71 _ _ _ _) (by decide +kernel) (by decide +kernel) (by decide +kernel) (ha_71 _ _ _ _ _) ?_
                        refine zw_aload_n 20 f173_19 rfl rfl ?_
                        refine zw_dup 21 f173_20 rfl rfl ?_
                        refine zw_getI 7 24 f173_21 rfl g173_246_12 (hb_52 _ _ _ _) rfl rfl ?_
                        refine zw_iconst 1 25 f173_24 rfl (by decide +kernel) ?_
                        refine zw_iadd 8 26 f173_25 rfl (by decide +kernel) ?_
                        refine zw_put _ 29 f173_26 rfl g173_246_12 (hb_52 _ _ _ _) rfl (Nat.le_of_ble_eq_true rfl) (by decide +kernel) (hi_52_29 _ _ _ _ _) ?_
                        refine zw_vreturn f173_29 r173 u173 ⟨rfl, ?_⟩
                        refine zw_iload_n 37 f178_36 rfl rfl ?_
                        refine zw_aload_n 38 f178_37 rfl rfl ?_
                        refine zw_getfield 41 f178_38 rfl g178_13_12 (hb_52 _ _ _ _) rfl ?_
                        refine zw_iload_n 42 f178_41 rfl rfl ?_
                        refine zw_iaload a.toNatClampNeg (A 54 a.toNatClampNeg) 43 f178_42 rfl (hb_54 _ _ _ _) rfl hc1 (zix (by decide) hc1 (show ¬ 8 ≤ a from ix_le hp.1 (by decide) (by decide) hc1 hc2)) rfl ?_
                        refine zw_ixor (c ^^^ (A 54 a.toNatClampNeg)) 44 f178_43 rfl rfl ?_
                        refine zw_aload_n 45 f178_44 rfl rfl ?_
                        refine zw_iload_n 46 f178_45 rfl rfl ?_
                        refine zw_virtual_i 49 0 0 [.ref 52, .int a] [(0, .ref 52), (1, .int a)] f178_46 rfl n178_158 k178_158_12 rfl (hb_52 _ _ _ _) (by decide +kernel) (Nat.le_of_ble_eq_true rfl) rfl rfl (by decide +kernel) (by decide +kernel) rfl (Nat.le_of_ble_eq_true rfl) rfl ?_
                        refine zw_aload_n 1 f126_0 rfl rfl ?_
                        refine zw_getfield 4 f126_1 rfl g126_7_12 (hb_52 _ _ _ _) rfl ?_
                        refine zw_iload_n 5 f126_4 rfl rfl ?_
                        refine zw_iaload a.toNatClampNeg (A 53 a.toNatClampNeg) 6 f126_5 rfl (hb_53 _ _ _ _) rfl hc1 (zix (by decide) hc1 (show ¬ 8 ≤ a from ix_le hp.1 (by decide) (by decide) hc1 hc2)) rfl ?_
                        refine zw_iconst 3 7 f126_6 rfl (by decide +kernel) ?_
                        refine zw_ic_eq_f 10 20 f126_7 (by decide +kernel) rfl hc15 ?_
                        refine zw_aload_n 11 f126_10 rfl rfl ?_
                        refine zw_getfield 14 f126_11 rfl g126_7_12 (hb_52 _ _ _ _) rfl ?_
                        refine zw_iload_n 15 f126_14 rfl rfl ?_
                        refine zw_iaload a.toNatClampNeg (A 53 a.toNatClampNeg) 16 f126_15 rfl (hb_53 _ _ _ _) rfl hc1 (zix (by decide) hc1 (show ¬ 8 ≤ a from ix_le hp.1 (by decide) (by decide) hc1 hc2)) rfl ?_
                        refine zw_iconst 4 17 f126_16 rfl (by decide +kernel) ?_
                        refine zw_ic_ne_f 20 24 f126_17 (by decide +kernel) rfl hc9 ?_
                        refine zw_iconst 1 21 f126_20 rfl (by decide +kernel) ?_
                        refine zw_goto 25 f126_21 (by decide +kernel) ?_
                        refine zw_zreturn f126_25 r126 u126 (by decide +kernel) ⟨_, rfl, ?_⟩
                        refine zw_if_eq_f 52 61 f178_49 (by decide +kernel) rfl (by decide +kernel) ?_
                        refine zw_aload_n 53 f178_52 rfl rfl ?_
                        refine zw_getfield 56 f178_53 rfl g178_19_12 (hb_52 _ _ _ _) rfl ?_
                        refine zw_iload_n 57 f178_56 rfl rfl ?_
                        refine zw_iaload a.toNatClampNeg (A 56 a.toNatClampNeg) 58 f178_57 rfl (hb_56 _ _ _ _) rfl hc1 (zix (by decide) hc1 (show ¬ 8 ≤ a from ix_le hp.1 (by decide) (by decide) hc1 hc2)) rfl ?_
                        refine zw_goto 62 f178_58 (by decide +kernel) ?_
                        refine zw_iadd ((c ^^^ (A 54 a.toNatClampNeg)) + (A 56 a.toNatClampNeg)) 63 f178_62 rfl rfl ?_
                        refine zw_aload_n 64 f178_63 rfl rfl ?_
                        refine zw_getfield 67 f178_64 rfl g178_7_12 (hb_52 _ _ _ _) rfl ?_
                        refine zw_iload_n 68 f178_67 rfl rfl ?_
                        refine zw_iaload a.toNatClampNeg (A 53 a.toNatClampNeg) 69 f178_68 rfl (hb_53 _ _ _ _) rfl hc1 (zix (by decide) hc1 (show ¬ 8 ≤ a from ix_le hp.1 (by decide) (by decide) hc1 hc2)) rfl ?_
                        refine zw_iconst 4 70 f178_69 rfl (by decide +kernel) ?_
                        refine zw_ic_ne_f 73 82 f178_70 (by decide +kernel) rfl hc9 ?_
                        refine zw_aload_n 74 f178_73 rfl rfl ?_
                        refine zw_getfield 77 f178_74 rfl g178_55_12 (hb_52 _ _ _ _) rfl ?_
                        refine zw_iload_n 78 f178_77 rfl rfl ?_
                        refine zw_iaload a.toNatClampNeg ((W.2.2.2.2.2.2.2) a.toNatClampNeg) 79 f178_78 rfl (hb_66 _ _ _ _) rfl hc1 (zix (by decide) hc1 (show ¬ 8 ≤ a from ix_le hp.1 (by decide) (by decide) hc1 hc2)) (congrFun (hR.cnt) a.toNatClampNeg) ?_
                        refine zw_goto 83 f178_79 (by decide +kernel) ?_
                        refine zw_iadd (((c ^^^ (A 54 a.toNatClampNeg)) + (A 56 a.toNatClampNeg)) + ((W.2.2.2.2.2.2.2) a.toNatClampNeg)) 84 f178_83 rfl rfl ?_
                        refine zw_ireturn f178_84 r178 u178 ⟨_, rfl, ?_⟩
                        refine zw_isub (((((c + (A 54 a.toNatClampNeg)) * 2) * 3) ^^^ ((W.2.2.2.2.2.2.2) a.toNatClampNeg)) - (((c ^^^ (A 54 a.toNatClampNeg)) + (A 56 a.toNatClampNeg)) + ((W.2.2.2.2.2.2.2) a.toNatClampNeg))) 45 f179_44 rfl rfl ?_
                        refine zw_ireturn f179_45 r179 u179 ⟨_, rfl, ?_⟩
                        refine zw_virtual_i 79 0 0 [.ref 52, .int (((((c + (A 54 a.toNatClampNeg)) * 2) * 3) ^^^ ((W.2.2.2.2.2.2.2) a.toNatClampNeg)) - (((c ^^^ (A 54 a.toNatClampNeg)) + (A 56 a.toNatClampNeg)) + ((W.2.2.2.2.2.2.2) a.toNatClampNeg)))] [(0, .ref 52), (1, .int (((((c + (A 54 a.toNatClampNeg)) * 2) * 3) ^^^ ((W.2.2.2.2.2.2.2) a.toNatClampNeg)) - (((c ^^^ (A 54 a.toNatClampNeg)) + (A 56 a.toNatClampNeg)) + ((W.2.2.2.2.2.2.2) a.toNatClampNeg))))] f180_76 rfl n180_205 k180_205_12 rfl (hb_52 _ _ _ _) (by decide +kernel) (Nat.le_of_ble_eq_true rfl) rfl rfl (by decide +kernel) (by decide +kernel) rfl (Nat.le_of_ble_eq_true rfl) rfl ?_
                        refine zw_aload_n 1 f122_0 rfl rfl ?_
                        refine zw_iconst 0 2 f122_1 rfl (by decide +kernel) ?_
                        refine zw_put _ 5 f122_2 rfl g122_111_12 (hb_52 _ _ _ _) rfl (Nat.le_of_ble_eq_true rfl) (by decide +kernel) (hi_52_27 _ _ _ _ _) ?_
                        refine zw_iload_n 6 f122_5 rfl rfl ?_
                        refine zw_ireturn f122_6 r122 u122 ⟨_, rfl, ?_⟩
                        refine zw_ireturn f180_79 r180 u180 ?_
                        exact ⟨_, _, _, _, rfl, (KQ.i rfl (KQ.i rfl (KQ.a rfl (KQ.i rfl (KQ.a rfl (KQ.i rfl (KQ.a rfl (KQ.i rfl (KQ.a rfl (KQ.i rfl (KQ.a rfl (KQ.i rfl (KQ.a rfl (KQ.i rfl (KQ.a rfl (KQ.i rfl (KQ.a rfl (KQ.i rfl KQ.rf)))))))))))))))))), ⟨hi.1, hi.2.1, 8, by omega, (show _ = nI 8 from rfl)⟩, _, rfl⟩
                · refine zw_aload_n 13 f179_12 rfl (zl1_ne rfl rfl rfl) ?_
                  refine zw_bipush 21 15 f179_13 rfl (by decide +kernel) ?_
                  refine zw_virtual_v 18 0 0 [.ref 52, .int 21] [(0, .ref 52), (1, .int 21)] f179_15 rfl n179_291 k179_291_12 rfl (hb_52 _ _ _ _) (by decide +kernel) (Nat.le_of_ble_eq_true rfl) rfl rfl (by decide +kernel) (by decide +kernel) rfl (Nat.le_of_ble_eq_true rfl) rfl ?_
                  refine zw_aload_n 1 f173_0 rfl rfl ?_
                  refine zw_getI 0 4 f173_1 rfl g173_246_12 (hb_52 _ _ _ _) rfl rfl ?_
                  refine zw_bipush 50 6 f173_4 rfl (by decide +kernel) ?_
                  refine zw_ic_ge_f 9 19 f173_6 (by decide +kernel) rfl (by decide +kernel) ?_
                  refine zw_aload_n 10 f173_9 rfl rfl ?_
                  refine zw_getfield 13 f173_10 rfl g173_74_12 (hb_52 _ _ _ _) rfl ?_
                  refine zw_aload_n 14 f173_13 rfl rfl ?_
                  refine zw_getI 0 17 f173_14 rfl g173_246_12 (hb_52 _ _ _ _) rfl rfl ?_
                  refine zw_iload_n 18 f173_17 rfl rfl ?_
                  refine zw_ast 0 _ 19 f173_18 rfl (hb_71 _ _ _ _) (by decide +kernel) (by decide +kernel) (by decide +kernel) (ha_71 _ _ _ _ _) ?_
                  refine zw_aload_n 20 f173_19 rfl rfl ?_
                  refine zw_dup 21 f173_20 rfl rfl ?_
                  refine zw_getI 0 24 f173_21 rfl g173_246_12 (hb_52 _ _ _ _) rfl rfl ?_
                  refine zw_iconst 1 25 f173_24 rfl (by decide +kernel) ?_
                  refine zw_iadd 1 26 f173_25 rfl (by decide +kernel) ?_
                  refine zw_put _ 29 f173_26 rfl g173_246_12 (hb_52 _ _ _ _) rfl (Nat.le_of_ble_eq_true rfl) (by decide +kernel) (hi_52_29 _ _ _ _ _) ?_
                  refine zw_vreturn f173_29 r173 u173 ⟨rfl, ?_⟩
                  refine zw_iload_n 19 f179_18 rfl (zl1_ne rfl rfl rfl) ?_
                  refine zw_iconst 2 20 f179_19 rfl (by decide +kernel) ?_
                  refine zw_imul (c * 2) 21 f179_20 rfl rfl ?_
                  refine zw_istore_n _ 22 f179_21 rfl (by decide +kernel) rfl ?_
                  refine zw_aload_n 23 f179_22 rfl (zl1_ne rfl rfl (zl1_ne rfl rfl rfl)) ?_
                  refine zw_bipush 13 25 f179_23 rfl (by decide +kernel) ?_
                  refine zw_virtual_v 28 0 0 [.ref 52, .int 13] [(0, .ref 52), (1, .int 13)] f179_25 rfl n179_291 k179_291_12 rfl (hb_52 _ _ _ _) (by decide +kernel) (Nat.le_of_ble_eq_true rfl) rfl rfl (by decide +kernel) (by decide +kernel) rfl (Nat.le_of_ble_eq_true rfl) rfl ?_
                  refine zw_aload_n 1 f173_0 rfl rfl ?_
                  refine zw_getI 1 4 f173_1 rfl g173_246_12 (hb_52 _ _ _ _) rfl rfl ?_
                  refine zw_bipush 50 6 f173_4 rfl (by decide +kernel) ?_
                  refine zw_ic_ge_f 9 19 f173_6 (by decide +kernel) rfl (by decide +kernel) ?_
                  refine zw_aload_n 10 f173_9 rfl rfl ?_
                  refine zw_getfield 13 f173_10 rfl g173_74_12 (hb_52 _ _ _ _) rfl ?_
                  refine zw_aload_n 14 f173_13 rfl rfl ?_
                  refine zw_getI 1 17 f173_14 rfl g173_246_12 (hb_52 _ _ _ _) rfl rfl ?_
                  refine zw_iload_n 18 f173_17 rfl rfl ?_
                  refine zw_ast 1 _ 19 f173_18 rfl (hb_71 _ _ _ _) (by decide +kernel) (by decide +kernel) (by decide +kernel) (ha_71 _ _ _ _ _) ?_
                  refine zw_aload_n 20 f173_19 rfl rfl ?_
                  refine zw_dup 21 f173_20 rfl rfl ?_
                  refine zw_getI 1 24 f173_21 rfl g173_246_12 (hb_52 _ _ _ _) rfl rfl ?_
                  refine zw_iconst 1 25 f173_24 rfl (by decide +kernel) ?_
                  refine zw_iadd 2 26 f173_25 rfl (by decide +kernel) ?_
                  refine zw_put _ 29 f173_26 rfl g173_246_12 (hb_52 _ _ _ _) rfl (Nat.le_of_ble_eq_true rfl) (by decide +kernel) (hi_52_29 _ _ _ _ _) ?_
                  refine zw_vreturn f173_29 r173 u173 ⟨rfl, ?_⟩
                  refine zw_aload_n 29 f179_28 rfl (zl1_ne rfl rfl (zl1_ne rfl rfl rfl)) ?_
                  refine zw_iload_n 30 f179_29 rfl (zl1_ne rfl rfl (zl1_ne rfl rfl rfl)) ?_
                  refine zw_iload_n 31 f179_30 rfl zl1_eq ?_
                  refine zw_virtual_i 34 0 0 [.ref 52, .int a, .int (c * 2)] [(0, .ref 52), (1, .int a), (2, .int (c * 2))] f179_31 rfl n179_304 k179_304_12 rfl (hb_52 _ _ _ _) (by decide +kernel) (Nat.le_of_ble_eq_true rfl) rfl rfl (by decide +kernel) (by decide +kernel) rfl (Nat.le_of_ble_eq_true rfl) rfl ?_
                  refine zw_aload_n 1 f177_0 rfl rfl ?_
                  refine zw_getfield 4 f177_1 rfl g177_7_12 (hb_52 _ _ _ _) rfl ?_
                  refine zw_iload_n 5 f177_4 rfl rfl ?_
                  refine zw_iaload a.toNatClampNeg (A 53 a.toNatClampNeg) 6 f177_5 rfl (hb_53 _ _ _ _) rfl hc1 (zix (by decide) hc1 (show ¬ 8 ≤ a from ix_le hp.1 (by decide) (by decide) hc1 hc2)) rfl ?_
                  refine zw_iconst 1 7 f177_6 rfl (by decide +kernel) ?_
                  refine zw_ic_ne_f 10 30 f177_7 (by decide +kernel) rfl hc8 ?_
                  refine zw_aload_n 11 f177_10 rfl rfl ?_
                  refine zw_bipush 20 13 f177_11 rfl (by decide +kernel) ?_
                  refine zw_virtual_v 16 0 0 [.ref 52, .int 20] [(0, .ref 52), (1, .int 20)] f177_13 rfl n177_291 k177_291_12 rfl (hb_52 _ _ _ _) (by decide +kernel) (Nat.le_of_ble_eq_true rfl) rfl rfl (by decide +kernel) (by decide +kernel) rfl (Nat.le_of_ble_eq_true rfl) rfl ?_
                  refine zw_aload_n 1 f173_0 rfl rfl ?_
                  refine zw_getI 2 4 f173_1 rfl g173_246_12 (hb_52 _ _ _ _) rfl rfl ?_
                  refine zw_bipush 50 6 f173_4 rfl (by decide +kernel) ?_
                  refine zw_ic_ge_f 9 19 f173_6 (by decide +kernel) rfl (by decide +kernel) ?_
                  refine zw_aload_n 10 f173_9 rfl rfl ?_
                  refine zw_getfield 13 f173_10 rfl g173_74_12 (hb_52 _ _ _ _) rfl ?_
                  refine zw_aload_n 14 f173_13 rfl rfl ?_
                  refine zw_getI 2 17 f173_14 rfl g173_246_12 (hb_52 _ _ _ _) rfl rfl ?_
                  refine zw_iload_n 18 f173_17 rfl rfl ?_
                  refine zw_ast 2 _ 19 f173_18 rfl (hb_71 _ _ _ _) (by decide +kernel) (by decide +kernel) (by decide +kernel) (ha_71 _ _ _ _ _) ?_
                  refine zw_aload_n 20 f173_19 rfl rfl ?_
                  refine zw_dup 21 f173_20 rfl rfl ?_
                  refine zw_getI 2 24 f173_21 rfl g173_246_12 (hb_52 _ _ _ _) rfl rfl ?_
                  refine zw_iconst 1 25 f173_24 rfl (by decide +kernel) ?_
                  refine zw_iadd 3 26 f173_25 rfl (by decide +kernel) ?_
                  refine zw_put _ 29 f173_26 rfl g173_246_12 (hb_52 _ _ _ _) rfl (Nat.le_of_ble_eq_true rfl) (by decide +kernel) (hi_52_29 _ _ _ _ _) ?_
                  refine zw_vreturn f173_29 r173 u173 ⟨rfl, ?_⟩
                  refine zw_aload_n 17 f177_16 rfl rfl ?_
                  refine zw_iload_n 18 f177_17 rfl rfl ?_
                  refine zw_iload_n 19 f177_18 rfl rfl ?_
                  refine zw_virtual_i 22 0 0 [.ref 52, .int a, .int (c * 2)] [(0, .ref 52), (1, .int a), (2, .int (c * 2))] f177_19 rfl n177_301 k177_301_12 rfl (hb_52 _ _ _ _) (by decide +kernel) (Nat.le_of_ble_eq_true rfl) rfl rfl (by decide +kernel) (by decide +kernel) rfl (Nat.le_of_ble_eq_true rfl) rfl ?_
                  refine zw_aload_n 1 f176_0 rfl rfl ?_
                  refine zw_bipush 11 3 f176_1 rfl (by decide +kernel) ?_
                  refine zw_virtual_v 6 0 0 [.ref 52, .int 11] [(0, .ref 52), (1, .int 11)] f176_3 rfl n176_291 k176_291_12 rfl (hb_52 _ _ _ _) (by decide +kernel) (Nat.le_of_ble_eq_true rfl) rfl rfl (by decide +kernel) (by decide +kernel) rfl (Nat.le_of_ble_eq_true rfl) rfl ?_
                  refine zw_aload_n 1 f173_0 rfl rfl ?_
                  refine zw_getI 3 4 f173_1 rfl g173_246_12 (hb_52 _ _ _ _) rfl rfl ?_
                  refine zw_bipush 50 6 f173_4 rfl (by decide +kernel) ?_
                  refine zw_ic_ge_f 9 19 f173_6 (by decide +kernel) rfl (by decide +kernel) ?_
                  refine zw_aload_n 10 f173_9 rfl rfl ?_
                  refine zw_getfield 13 f173_10 rfl g173_74_12 (hb_52 _ _ _ _) rfl ?_
                  refine zw_aload_n 14 f173_13 rfl rfl ?_
                  refine zw_getI 3 17 f173_14 rfl g173_246_12 (hb_52 _ _ _ _) rfl rfl ?_
                  refine zw_iload_n 18 f173_17 rfl rfl ?_
                  refine zw_ast 3 _ 19 f173_18 rfl (hb_71 _ _ _ _) (by decide +kernel) (by decide +kernel) (by decide +kernel) (ha_71 _ _ _ _ _) ?_
                  refine zw_aload_n 20 f173_19 rfl rfl ?_
                  refine zw_dup 21 f173_20 rfl rfl ?_
                  refine zw_getI 3 24 f173_21 rfl g173_246_12 (hb_52 _ _ _ _) rfl rfl ?_
                  refine zw_iconst 1 25 f173_24 rfl (by decide +kernel) ?_
                  refine zw_iadd 4 26 f173_25 rfl (by decide +kernel) ?_
                  refine zw_put _ 29 f173_26 rfl g173_246_12 (hb_52 _ _ _ _) rfl (Nat.le_of_ble_eq_true rfl) (by decide +kernel) (hi_52_29 _ _ _ _ _) ?_
                  refine zw_vreturn f173_29 r173 u173 ⟨rfl, ?_⟩
                  refine zw_aload_n 7 f176_6 rfl rfl ?_
                  refine zw_iload_n 8 f176_7 rfl rfl ?_
                  refine zw_iload_n 9 f176_8 rfl rfl ?_
                  refine zw_virtual_i 12 0 0 [.ref 52, .int a, .int (c * 2)] [(0, .ref 52), (1, .int a), (2, .int (c * 2))] f176_9 rfl n176_298 k176_298_12 rfl (hb_52 _ _ _ _) (by decide +kernel) (Nat.le_of_ble_eq_true rfl) rfl rfl (by decide +kernel) (by decide +kernel) rfl (Nat.le_of_ble_eq_true rfl) rfl ?_
                  refine zw_aload_n 1 f175_0 rfl rfl ?_
                  refine zw_getfield 4 f175_1 rfl g175_7_12 (hb_52 _ _ _ _) rfl ?_
                  refine zw_iload_n 5 f175_4 rfl rfl ?_
                  refine zw_iaload a.toNatClampNeg (A 53 a.toNatClampNeg) 6 f175_5 rfl (hb_53 _ _ _ _) rfl hc1 (zix (by decide) hc1 (show ¬ 8 ≤ a from ix_le hp.1 (by decide) (by decide) hc1 hc2)) rfl ?_
                  refine zw_iconst 2 7 f175_6 rfl (by decide +kernel) ?_
                  refine zw_ic_ne 10 25 f175_7 (by decide +kernel) rfl (fun hc16 => ?_) (fun hc16 => ?_)
                  · refine zw_aload_n 26 f175_25 rfl rfl ?_
                    refine zw_iload_n 27 f175_26 rfl rfl ?_
                    refine zw_virtual_i 30 0 0 [.ref 52, .int a] [(0, .ref 52), (1, .int a)] f175_27 rfl n175_158 k175_158_12 rfl (hb_52 _ _ _ _) (by decide +kernel) (Nat.le_of_ble_eq_true rfl) rfl rfl (by decide +kernel) (by decide +kernel) rfl (Nat.le_of_ble_eq_true rfl) rfl ?_
                    refine zw_aload_n 1 f126_0 rfl rfl ?_
                    refine zw_getfield 4 f126_1 rfl g126_7_12 (hb_52 _ _ _ _) rfl ?_
                    refine zw_iload_n 5 f126_4 rfl rfl ?_
                    refine zw_iaload a.toNatClampNeg (A 53 a.toNatClampNeg) 6 f126_5 rfl (hb_53 _ _ _ _) rfl hc1 (zix (by decide) hc1 (show ¬ 8 ≤ a from ix_le hp.1 (by decide) (by decide) hc1 hc2)) rfl ?_
                    refine zw_iconst 3 7 f126_6 rfl (by decide +kernel) ?_
                    refine zw_ic_eq 10 20 f126_7 (by decide +kernel) rfl (fun hc17 => ?_) (fun hc17 => ?_)
                    · refine zw_iconst 1 21 f126_20 rfl (by decide +kernel) ?_
                      refine zw_goto 25 f126_21 (by decide +kernel) ?_
                      refine zw_zreturn f126_25 r126 u126 (by decide +kernel) ⟨_, rfl, ?_⟩
                      refine zw_if_eq_f 33 53 f175_30 (by decide +kernel) rfl (by decide +kernel) ?_
                      refine zw_aload_n 34 f175_33 rfl rfl ?_
                      refine zw_bipush 41 36 f175_34 rfl (by decide +kernel) ?_
                      refine zw_virtual_v 39 0 0 [.ref 52, .int 41] [(0, .ref 52), (1, .int 41)] f175_36 rfl n175_291 k175_291_12 rfl (hb_52 _ _ _ _) (by decide +kernel) (Nat.le_of_ble_eq_true rfl) rfl rfl (by decide +kernel) (by decide +kernel) rfl (Nat.le_of_ble_eq_true rfl) rfl ?_
                      refine zw_aload_n 1 f173_0 rfl rfl ?_
                      refine zw_getI 4 4 f173_1 rfl g173_246_12 (hb_52 _ _ _ _) rfl rfl ?_
                      refine zw_bipush 50 6 f173_4 rfl (by decide +kernel) ?_
                      refine zw_ic_ge_f 9 19 f173_6 (by decide +kernel) rfl (by decide +kernel) ?_
                      refine zw_aload_n 10 f173_9 rfl rfl ?_
                      refine zw_getfield 13 f173_10 rfl g173_74_12 (hb_52 _ _ _ _) rfl ?_
                      refine zw_aload_n 14 f173_13 rfl rfl ?_
                      refine zw_getI 4 17 f173_14 rfl g173_246_12 (hb_52 _ _ _ _) rfl rfl ?_
                      refine zw_iload_n 18 f173_17 rfl rfl ?_
                      refine zw_ast 4 _ 19 f173_18 rfl (hb_71 _ _ _ _) (by decide +kernel) (by decide +kernel) (by decide +kernel) (ha_71 _ _ _ _ _) ?_
                      refine zw_aload_n 20 f173_19 rfl rfl ?_
                      refine zw_dup 21 f173_20 rfl rfl ?_
                      refine zw_getI 4 24 f173_21 rfl g173_246_12 (hb_52 _ _ _ _) rfl rfl ?_
                      refine zw_iconst 1 25 f173_24 rfl (by decide +kernel) ?_
                      refine zw_iadd 5 26 f173_25 rfl (by decide +kernel) ?_
                      refine zw_put _ 29 f173_26 rfl g173_246_12 (hb_52 _ _ _ _) rfl (Nat.le_of_ble_eq_true rfl) (by decide +kernel) (hi_52_29 _ _ _ _ _) ?_
                      refine zw_vreturn f173_29 r173 u173 ⟨rfl, ?_⟩
                      refine zw_aload_n 40 f175_39 rfl rfl ?_
                      refine zw_iload_n 41 f175_40 rfl rfl ?_
                      refine zw_iload_n 42 f175_41 rfl rfl ?_
                      refine zw_aload_n 43 f175_42 rfl rfl ?_
                      refine zw_getfield 46 f175_43 rfl g175_16_12 (hb_52 _ _ _ _) rfl ?_
                      refine zw_iload_n 47 f175_46 rfl rfl ?_
                      refine zw_iaload a.toNatClampNeg (A 55 a.toNatClampNeg) 48 f175_47 rfl (hb_55 _ _ _ _) rfl hc1 (zix (by decide) hc1 (show ¬ 8 ≤ a from ix_le hp.1 (by decide) (by decide) hc1 hc2)) rfl ?_
                      refine zw_iadd ((c * 2) + (A 55 a.toNatClampNeg)) 49 f175_48 rfl rfl ?_
                      refine zw_virtual_i 52 0 0 [.ref 52, .int a, .int ((c * 2) + (A 55 a.toNatClampNeg))] [(0, .ref 52), (1, .int a), (2, .int ((c * 2) + (A 55 a.toNatClampNeg)))] f175_49 rfl n175_294 k175_294_12 rfl (hb_52 _ _ _ _) (by decide +kernel) (Nat.le_of_ble_eq_true rfl) rfl rfl (by decide +kernel) (by decide +kernel) rfl (Nat.le_of_ble_eq_true rfl) rfl ?_
                      refine zw_aload_n 1 f174_0 rfl rfl ?_
                      refine zw_bipush 10 3 f174_1 rfl (by decide +kernel) ?_
                      refine zw_virtual_v 6 0 0 [.ref 52, .int 10] [(0, .ref 52), (1, .int 10)] f174_3 rfl n174_291 k174_291_12 rfl (hb_52 _ _ _ _) (by decide +kernel) (Nat.le_of_ble_eq_true rfl) rfl rfl (by decide +kernel) (by decide +kernel) rfl (Nat.le_of_ble_eq_true rfl) rfl ?_
                      refine zw_aload_n 1 f173_0 rfl rfl ?_
                      refine zw_getI 5 4 f173_1 rfl g173_246_12 (hb_52 _ _ _ _) rfl rfl ?_
                      refine zw_bipush 50 6 f173_4 rfl (by decide +kernel) ?_
                      refine zw_ic_ge_f 9 19 f173_6 (by decide +kernel) rfl (by decide +kernel) ?_
                      refine zw_aload_n 10 f173_9 rfl rfl ?_
                      refine zw_getfield 13 f173_10 rfl g173_74_12 (hb_52 _ _ _ _) rfl ?_
                      refine zw_aload_n 14 f173_13 rfl rfl ?_
                      refine zw_getI 5 17 f173_14 rfl g173_246_12 (hb_52 _ _ _ _) rfl rfl ?_
                      refine zw_iload_n 18 f173_17 rfl rfl ?_
                      refine zw_ast 5 _ 19 f173_18 rfl (hb_71 _ _ _ _) (by decide +kernel) (by decide +kernel) (by decide +kernel) (ha_71 _ _ _ _ _) ?_
                      refine zw_aload_n 20 f173_19 rfl rfl ?_
                      refine zw_dup 21 f173_20 rfl rfl ?_
                      refine zw_getI 5 24 f173_21 rfl g173_246_12 (hb_52 _ _ _ _) rfl rfl ?_
                      refine zw_iconst 1 25 f173_24 rfl (by decide +kernel) ?_
                      refine zw_iadd 6 26 f173_25 rfl (by decide +kernel) ?_
                      refine zw_put _ 29 f173_26 rfl g173_246_12 (hb_52 _ _ _ _) rfl (Nat.le_of_ble_eq_true rfl) (by decide +kernel) (hi_52_29 _ _ _ _ _) ?_
                      refine zw_vreturn f173_29 r173 u173 ⟨rfl, ?_⟩
                      refine zw_iload_n 7 f174_6 rfl rfl ?_
                      refine zw_aload_n 8 f174_7 rfl rfl ?_
                      refine zw_getfield 11 f174_8 rfl g174_13_12 (hb_52 _ _ _ _) rfl ?_
                      refine zw_iload_n 12 f174_11 rfl rfl ?_
                      refine zw_iaload a.toNatClampNeg (A 54 a.toNatClampNeg) 13 f174_12 rfl (hb_54 _ _ _ _) rfl hc1 (zix (by decide) hc1 (show ¬ 8 ≤ a from ix_le hp.1 (by decide) (by decide) hc1 hc2)) rfl ?_
                      refine zw_iadd (((c * 2) + (A 55 a.toNatClampNeg)) + (A 54 a.toNatClampNeg)) 14 f174_13 rfl rfl ?_
                      refine zw_ireturn f174_14 r174 u174 ⟨_, rfl, ?_⟩
                      refine zw_ireturn f175_52 r175 u175 ⟨_, rfl, ?_⟩
                      refine zw_iconst 3 13 f176_12 rfl (by decide +kernel) ?_
                      refine zw_imul ((((c * 2) + (A 55 a.toNatClampNeg)) + (A 54 a.toNatClampNeg)) * 3) 14 f176_13 rfl rfl ?_
                      refine zw_ireturn f176_14 r176 u176 ⟨_, rfl, ?_⟩
                      refine zw_aload_n 23 f177_22 rfl rfl ?_
                      refine zw_getfield 26 f177_23 rfl g177_16_12 (hb_52 _ _ _ _) rfl ?_
                      refine zw_iload_n 27 f177_26 rfl rfl ?_
                      refine zw_iaload a.toNatClampNeg (A 55 a.toNatClampNeg) 28 f177_27 rfl (hb_55 _ _ _ _) rfl hc1 (zix (by decide) hc1 (show ¬ 8 ≤ a from ix_le hp.1 (by decide) (by decide) hc1 hc2)) rfl ?_
                      refine zw_iadd (((((c * 2) + (A 55 a.toNatClampNeg)) + (A 54 a.toNatClampNeg)) * 3) + (A 55 a.toNatClampNeg)) 29 f177_28 rfl rfl ?_
                      refine zw_ireturn f177_29 r177 u177 ⟨_, rfl, ?_⟩
                      refine zw_istore _ 36 f179_34 rfl (by decide +kernel) rfl ?_
                      refine zw_iload 38 f179_36 rfl zl1_eq ?_
                      refine zw_aload_n 39 f179_38 rfl (zl1_ne rfl rfl (zl1_ne rfl rfl (zl1_ne rfl rfl rfl))) ?_
                      refine zw_iload_n 40 f179_39 rfl (zl1_ne rfl rfl (zl1_ne rfl rfl (zl1_ne rfl rfl rfl))) ?_
                      refine zw_iload_n 41 f179_40 rfl (zl1_ne rfl rfl zl1_eq) ?_
                      refine zw_virtual_i 44 0 0 [.ref 52, .int a, .int (c * 2)] [(0, .ref 52), (1, .int a), (2, .int (c * 2))] f179_41 rfl n179_307 k179_307_12 rfl (hb_52 _ _ _ _) (by decide +kernel) (Nat.le_of_ble_eq_true rfl) rfl rfl (by decide +kernel) (by decide +kernel) rfl (Nat.le_of_ble_eq_true rfl) rfl ?_
                      refine zw_aload_n 1 f178_0 rfl rfl ?_
                      refine zw_getfield 4 f178_1 rfl g178_7_12 (hb_52 _ _ _ _) rfl ?_
                      refine zw_iload_n 5 f178_4 rfl rfl ?_
                      refine zw_iaload a.toNatClampNeg (A 53 a.toNatClampNeg) 6 f178_5 rfl (hb_53 _ _ _ _) rfl hc1 (zix (by decide) hc1 (show ¬ 8 ≤ a from ix_le hp.1 (by decide) (by decide) hc1 hc2)) rfl ?_
                      refine zw_iconst 4 7 f178_6 rfl (by decide +kernel) ?_
                      refine zw_ic_ne 10 16 f178_7 (by decide +kernel) rfl (fun hc18 => ?_) (fun hc18 => ?_)
                      · refine zw_aload_n 17 f178_16 rfl rfl ?_
                        refine zw_iload_n 18 f178_17 rfl rfl ?_
                        refine zw_virtual_i 21 0 0 [.ref 52, .int a] [(0, .ref 52), (1, .int a)] f178_18 rfl n178_158 k178_158_12 rfl (hb_52 _ _ _ _) (by decide +kernel) (Nat.le_of_ble_eq_true rfl) rfl rfl (by decide +kernel) (by decide +kernel) rfl (Nat.le_of_ble_eq_true rfl) rfl ?_
                        refine zw_aload_n 1 f126_0 rfl rfl ?_
                        refine zw_getfield 4 f126_1 rfl g126_7_12 (hb_52 _ _ _ _) rfl ?_
                        refine zw_iload_n 5 f126_4 rfl rfl ?_
                        refine zw_iaload a.toNatClampNeg (A 53 a.toNatClampNeg) 6 f126_5 rfl (hb_53 _ _ _ _) rfl hc1 (zix (by decide) hc1 (show ¬ 8 ≤ a from ix_le hp.1 (by decide) (by decide) hc1 hc2)) rfl ?_
                        refine zw_iconst 3 7 f126_6 rfl (by decide +kernel) ?_
                        refine zw_ic_eq_t 20 f126_7 (by decide +kernel) hc17 ?_
                        refine zw_iconst 1 21 f126_20 rfl (by decide +kernel) ?_
                        refine zw_goto 25 f126_21 (by decide +kernel) ?_
                        refine zw_zreturn f126_25 r126 u126 (by decide +kernel) ⟨_, rfl, ?_⟩
                        refine zw_if_eq_f 24 30 f178_21 (by decide +kernel) rfl (by decide +kernel) ?_
                        refine zw_aload_n 25 f178_24 rfl rfl ?_
                        refine zw_bipush 40 27 f178_25 rfl (by decide +kernel) ?_
                        refine zw_virtual_v 30 0 0 [.ref 52, .int 40] [(0, .ref 52), (1, .int 40)] f178_27 rfl n178_291 k178_291_12 rfl (hb_52 _ _ _ _) (by decide +kernel) (Nat.le_of_ble_eq_true rfl) rfl rfl (by decide +kernel) (by decide +kernel) rfl (Nat.le_of_ble_eq_true rfl) rfl ?_
                        refine zw_aload_n 1 f173_0 rfl rfl ?_
                        refine zw_getI 6 4 f173_1 rfl g173_246_12 (hb_52 _ _ _ _) rfl rfl ?_
                        refine zw_bipush 50 6 f173_4 rfl (by decide +kernel) ?_
                        refine zw_ic_ge_f 9 19 f173_6 (by decide +kernel) rfl (by decide +kernel) ?_
                        refine zw_aload_n 10 f173_9 rfl rfl ?_
                        refine zw_getfield 13 f173_10 rfl g173_74_12 (hb_52 _ _ _ _) rfl ?_
                        refine zw_aload_n 14 f173_13 rfl rfl ?_
                        refine zw_getI 6 17 f173_14 rfl g173_246_12 (hb_52 _ _ _ _) rfl rfl ?_
                        refine zw_iload_n 18 f173_17 rfl rfl ?_
                        refine zw_ast 6 _ 19 f173_18 rfl (hb_71 _ _ _ _) (by decide +kernel) (by decide +kernel) (by decide +kernel) (ha_71 _ _ _ _ _) ?_
                        refine zw_aload_n 20 f173_19 rfl rfl ?_
                        refine zw_dup 21 f173_20 rfl rfl ?_
                        refine zw_getI 6 24 f173_21 rfl g173_246_12 (hb_52 _ _ _ _) rfl rfl ?_
                        refine zw_iconst 1 25 f173_24 rfl (by decide +kernel) ?_
                        refine zw_iadd 7 26 f173_25 rfl (by decide +kernel) ?_
                        refine zw_put _ 29 f173_26 rfl g173_246_12 (hb_52 _ _ _ _) rfl (Nat.le_of_ble_eq_true rfl) (by decide +kernel) (hi_52_29 _ _ _ _ _) ?_
                        refine zw_vreturn f173_29 r173 u173 ⟨rfl, ?_⟩
                        refine zw_aload_n 31 f178_30 rfl rfl ?_
                        refine zw_bipush 12 33 f178_31 rfl (by decide +kernel) ?_
                        refine zw_virtual_v 36 0 0 [.ref 52, .int 12] [(0, .ref 52), (1, .int 12)] f178_33 rfl n178_291 k178_291_12 rfl (hb_52 _ _ _ _) (by decide +kernel) (Nat.le_of_ble_eq_true rfl) rfl rfl (by decide +kernel) (by decide +kernel) rfl (Nat.le_of_ble_eq_true rfl) rfl ?_
                        refine zw_aload_n 1 f173_0 rfl rfl ?_
                        refine zw_getI 7 4 f173_1 rfl g173_246_12 (hb_52 _ _ _ _) rfl rfl ?_
                        refine zw_bipush 50 6 f173_4 rfl (by decide +kernel) ?_
                        refine zw_ic_ge_f 9 19 f173_6 (by decide +kernel) rfl (by decide +kernel) ?_
                        refine zw_aload_n 10 f173_9 rfl rfl ?_
                        refine zw_getfield 13 f173_10 rfl g173_74_12 (hb_52 _ _ _ _) rfl ?_
                        refine zw_aload_n 14 f173_13 rfl rfl ?_
                        refine zw_getI 7 17 f173_14 rfl g173_246_12 (hb_52 _ _ _ _) rfl rfl ?_
                        refine zw_iload_n 18 f173_17 rfl rfl ?_
                        refine zw_ast 7 _ 19 f173_18 rfl (hb_71 _ _ _ _) (by decide +kernel) (by decide +kernel) (by decide +kernel) (ha_71 _ _ _ _ _) ?_
                        refine zw_aload_n 20 f173_19 rfl rfl ?_
                        refine zw_dup 21 f173_20 rfl rfl ?_
                        refine zw_getI 7 24 f173_21 rfl g173_246_12 (hb_52 _ _ _ _) rfl rfl ?_
                        refine zw_iconst 1 25 f173_24 rfl (by decide +kernel) ?_
                        refine zw_iadd 8 26 f173_25 rfl (by decide +kernel) ?_
                        refine zw_put _ 29 f173_26 rfl g173_246_12 (hb_52 _ _ _ _) rfl (Nat.le_of_ble_eq_true rfl) (by decide +kernel) (hi_52_29 _ _ _ _ _) ?_
                        refine zw_vreturn f173_29 r173 u173 ⟨rfl, ?_⟩
                        refine zw_iload_n 37 f178_36 rfl rfl ?_
                        refine zw_aload_n 38 f178_37 rfl rfl ?_
                        refine zw_getfield 41 f178_38 rfl g178_13_12 (hb_52 _ _ _ _) rfl ?_
                        refine zw_iload_n 42 f178_41 rfl rfl ?_
                        refine zw_iaload a.toNatClampNeg (A 54 a.toNatClampNeg) 43 f178_42 rfl (hb_54 _ _ _ _) rfl hc1 (zix (by decide) hc1 (show ¬ 8 ≤ a from ix_le hp.1 (by decide) (by decide) hc1 hc2)) rfl ?_
                        refine zw_ixor ((c * 2) ^^^ (A 54 a.toNatClampNeg)) 44 f178_43 rfl rfl ?_
                        refine zw_aload_n 45 f178_44 rfl rfl ?_
                        refine zw_iload_n 46 f178_45 rfl rfl ?_
                        refine zw_virtual_i 49 0 0 [.ref 52, .int a] [(0, .ref 52), (1, .int a)] f178_46 rfl n178_158 k178_158_12 rfl (hb_52 _ _ _ _) (by decide +kernel) (Nat.le_of_ble_eq_true rfl) rfl rfl (by decide +kernel) (by decide +kernel) rfl (Nat.le_of_ble_eq_true rfl) rfl ?_
                        refine zw_aload_n 1 f126_0 rfl rfl ?_
                        refine zw_getfield 4 f126_1 rfl g126_7_12 (hb_52 _ _ _ _) rfl ?_
                        refine zw_iload_n 5 f126_4 rfl rfl ?_
                        refine zw_iaload a.toNatClampNeg (A 53 a.toNatClampNeg) 6 f126_5 rfl (hb_53 _ _ _ _) rfl hc1 (zix (by decide) hc1 (show ¬ 8 ≤ a from ix_le hp.1 (by decide) (by decide) hc1 hc2)) rfl ?_
                        refine zw_iconst 3 7 f126_6 rfl (by decide +kernel) ?_
                        refine zw_ic_eq_t 20 f126_7 (by decide +kernel) hc17 ?_
                        refine zw_iconst 1 21 f126_20 rfl (by decide +kernel) ?_
                        refine zw_goto 25 f126_21 (by decide +kernel) ?_
                        refine zw_zreturn f126_25 r126 u126 (by decide +kernel) ⟨_, rfl, ?_⟩
                        refine zw_if_eq_f 52 61 f178_49 (by decide +kernel) rfl (by decide +kernel) ?_
                        refine zw_aload_n 53 f178_52 rfl rfl ?_
                        refine zw_getfield 56 f178_53 rfl g178_19_12 (hb_52 _ _ _ _) rfl ?_
                        refine zw_iload_n 57 f178_56 rfl rfl ?_
                        refine zw_iaload a.toNatClampNeg (A 56 a.toNatClampNeg) 58 f178_57 rfl (hb_56 _ _ _ _) rfl hc1 (zix (by decide) hc1 (show ¬ 8 ≤ a from ix_le hp.1 (by decide) (by decide) hc1 hc2)) rfl ?_
                        refine zw_goto 62 f178_58 (by decide +kernel) ?_
                        refine zw_iadd (((c * 2) ^^^ (A 54 a.toNatClampNeg)) + (A 56 a.toNatClampNeg)) 63 f178_62 rfl rfl ?_
                        refine zw_aload_n 64 f178_63 rfl rfl ?_
                        refine zw_getfield 67 f178_64 rfl g178_7_12 (hb_52 _ _ _ _) rfl ?_
                        refine zw_iload_n 68 f178_67 rfl rfl ?_
                        refine zw_iaload a.toNatClampNeg (A 53 a.toNatClampNeg) 69 f178_68 rfl (hb_53 _ _ _ _) rfl hc1 (zix (by decide) hc1 (show ¬ 8 ≤ a from ix_le hp.1 (by decide) (by decide) hc1 hc2)) rfl ?_
                        refine zw_iconst 4 70 f178_69 rfl (by decide +kernel) ?_
                        refine zw_ic_ne_t 82 f178_70 (by decide +kernel) hc18 ?_
                        refine zw_iconst 0 83 f178_82 rfl (by decide +kernel) ?_
                        refine zw_iadd ((((c * 2) ^^^ (A 54 a.toNatClampNeg)) + (A 56 a.toNatClampNeg)) + 0) 84 f178_83 rfl rfl ?_
                        refine zw_ireturn f178_84 r178 u178 ⟨_, rfl, ?_⟩
                        refine zw_isub ((((((c * 2) + (A 55 a.toNatClampNeg)) + (A 54 a.toNatClampNeg)) * 3) + (A 55 a.toNatClampNeg)) - ((((c * 2) ^^^ (A 54 a.toNatClampNeg)) + (A 56 a.toNatClampNeg)) + 0)) 45 f179_44 rfl rfl ?_
                        refine zw_ireturn f179_45 r179 u179 ⟨_, rfl, ?_⟩
                        refine zw_virtual_i 79 0 0 [.ref 52, .int ((((((c * 2) + (A 55 a.toNatClampNeg)) + (A 54 a.toNatClampNeg)) * 3) + (A 55 a.toNatClampNeg)) - ((((c * 2) ^^^ (A 54 a.toNatClampNeg)) + (A 56 a.toNatClampNeg)) + 0))] [(0, .ref 52), (1, .int ((((((c * 2) + (A 55 a.toNatClampNeg)) + (A 54 a.toNatClampNeg)) * 3) + (A 55 a.toNatClampNeg)) - ((((c * 2) ^^^ (A 54 a.toNatClampNeg)) + (A 56 a.toNatClampNeg)) + 0)))] f180_76 rfl n180_205 k180_205_12 rfl (hb_52 _ _ _ _) (by decide +kernel) (Nat.le_of_ble_eq_true rfl) rfl rfl (by decide +kernel) (by decide +kernel) rfl (Nat.le_of_ble_eq_true rfl) rfl ?_
                        refine zw_aload_n 1 f122_0 rfl rfl ?_
                        refine zw_iconst 0 2 f122_1 rfl (by decide +kernel) ?_
                        refine zw_put _ 5 f122_2 rfl g122_111_12 (hb_52 _ _ _ _) rfl (Nat.le_of_ble_eq_true rfl) (by decide +kernel) (hi_52_27 _ _ _ _ _) ?_
                        refine zw_iload_n 6 f122_5 rfl rfl ?_
                        refine zw_ireturn f122_6 r122 u122 ⟨_, rfl, ?_⟩
                        refine zw_ireturn f180_79 r180 u180 ?_
                        exact ⟨_, _, _, _, rfl, (KQ.i rfl (KQ.i rfl (KQ.a rfl (KQ.i rfl (KQ.a rfl (KQ.i rfl (KQ.a rfl (KQ.i rfl (KQ.a rfl (KQ.i rfl (KQ.a rfl (KQ.i rfl (KQ.a rfl (KQ.i rfl (KQ.a rfl (KQ.i rfl (KQ.a rfl (KQ.i rfl KQ.rf)))))))))))))))))), ⟨hi.1, hi.2.1, 8, by omega, (show _ = nI 8 from rfl)⟩, _, rfl⟩
                      · refine zw_aload_n 11 f178_10 rfl rfl ?_
                        refine zw_bipush 50 13 f178_11 rfl (by decide +kernel) ?_
                        refine zw_virtual_v 16 0 0 [.ref 52, .int 50] [(0, .ref 52), (1, .int 50)] f178_13 rfl n178_291 k178_291_12 rfl (hb_52 _ _ _ _) (by decide +kernel) (Nat.le_of_ble_eq_true rfl) rfl rfl (by decide +kernel) (by decide +kernel) rfl (Nat.le_of_ble_eq_true rfl) rfl ?_
                        refine zw_aload_n 1 f173_0 rfl rfl ?_
                        refine zw_getI 6 4 f173_1 rfl g173_246_12 (hb_52 _ _ _ _) rfl rfl ?_
                        refine zw_bipush 50 6 f173_4 rfl (by decide +kernel) ?_
                        refine zw_ic_ge_f 9 19 f173_6 (by decide +kernel) rfl (by decide +kernel) ?_
                        refine zw_aload_n 10 f173_9 rfl rfl ?_
                        refine zw_getfield 13 f173_10 rfl g173_74_12 (hb_52 _ _ _ _) rfl ?_
                        refine zw_aload_n 14 f173_13 rfl rfl ?_
                        refine zw_getI 6 17 f173_14 rfl g173_246_12 (hb_52 _ _ _ _) rfl rfl ?_
                        refine zw_iload_n 18 f173_17 rfl rfl ?_
                        refine zw_ast 6 _ 19 f173_18 rfl (hb_71 _ _ _ _) (by decide +kernel) (by decide +kernel) (by decide +kernel) (ha_71 _ _ _ _ _) ?_
                        refine zw_aload_n 20 f173_19 rfl rfl ?_
                        refine zw_dup 21 f173_20 rfl rfl ?_
                        refine zw_getI 6 24 f173_21 rfl g173_246_12 (hb_52 _ _ _ _) rfl rfl ?_
                        refine zw_iconst 1 25 f173_24 rfl (by decide +kernel) ?_
                        refine zw_iadd 7 26 f173_25 rfl (by decide +kernel) ?_
                        refine zw_put _ 29 f173_26 rfl g173_246_12 (hb_52 _ _ _ _) rfl (Nat.le_of_ble_eq_true rfl) (by decide +kernel) (hi_52_29 _ _ _ _ _) ?_
                        refine zw_vreturn f173_29 r173 u173 ⟨rfl, ?_⟩
                        refine zw_aload_n 17 f178_16 rfl rfl ?_
                        refine zw_iload_n 18 f178_17 rfl rfl ?_
                        refine zw_virtual_i 21 0 0 [.ref 52, .int a] [(0, .ref 52), (1, .int a)] f178_18 rfl n178_158 k178_158_12 rfl (hb_52 _ _ _ _) (by decide +kernel) (Nat.le_of_ble_eq_true rfl) rfl rfl (by decide +kernel) (by decide +kernel) rfl (Nat.le_of_ble_eq_true rfl) rfl ?_
                        refine zw_aload_n 1 f126_0 rfl rfl ?_
                        refine zw_getfield 4 f126_1 rfl g126_7_12 (hb_52 _ _ _ _) rfl ?_
                        refine zw_iload_n 5 f126_4 rfl rfl ?_
                        refine zw_iaload a.toNatClampNeg (A 53 a.toNatClampNeg) 6 f126_5 rfl (hb_53 _ _ _ _) rfl hc1 (zix (by decide) hc1 (show ¬ 8 ≤ a from ix_le hp.1 (by decide) (by decide) hc1 hc2)) rfl ?_
                        refine zw_iconst 3 7 f126_6 rfl (by decide +kernel) ?_
                        refine zw_ic_eq_t 20 f126_7 (by decide +kernel) hc17 ?_
                        refine zw_iconst 1 21 f126_20 rfl (by decide +kernel) ?_
                        refine zw_goto 25 f126_21 (by decide +kernel) ?_
                        refine zw_zreturn f126_25 r126 u126 (by decide +kernel) ⟨_, rfl, ?_⟩
                        refine zw_if_eq_f 24 30 f178_21 (by decide +kernel) rfl (by decide +kernel) ?_
                        refine zw_aload_n 25 f178_24 rfl rfl ?_
                        refine zw_bipush 40 27 f178_25 rfl (by decide +kernel) ?_
                        refine zw_virtual_v 30 0 0 [.ref 52, .int 40] [(0, .ref 52), (1, .int 40)] f178_27 rfl n178_291 k178_291_12 rfl (hb_52 _ _ _ _) (by decide +kernel) (Nat.le_of_ble_eq_true rfl) rfl rfl (by decide +kernel) (by decide +kernel) rfl (Nat.le_of_ble_eq_true rfl) rfl ?_
                        refine zw_aload_n 1 f173_0 rfl rfl ?_
                        refine zw_getI 7 4 f173_1 rfl g173_246_12 (hb_52 _ _ _ _) rfl rfl ?_
                        refine zw_bipush 50 6 f173_4 rfl (by decide +kernel) ?_
                        refine zw_ic_ge_f 9 19 f173_6 (by decide +kernel) rfl (by decide +kernel) ?_
                        refine zw_aload_n 10 f173_9 rfl rfl ?_
                        refine zw_getfield 13 f173_10 rfl g173_74_12 (hb_52 _ _ _ _) rfl ?_
                        refine zw_aload_n 14 f173_13 rfl rfl ?_
                        refine zw_getI 7 17 f173_14 rfl g173_246_12 (hb_52 _ _ _ _) rfl rfl ?_
                        refine zw_iload_n 18 f173_17 rfl rfl ?_
                        refine zw_ast 7 _ 19 f173_18 rfl (hb_71 _ _ _ _) (by decide +kernel) (by decide +kernel) (by decide +kernel) (ha_71 _ _ _ _ _) ?_
                        refine zw_aload_n 20 f173_19 rfl rfl ?_
                        refine zw_dup 21 f173_20 rfl rfl ?_
                        refine zw_getI 7 24 f173_21 rfl g173_246_12 (hb_52 _ _ _ _) rfl rfl ?_
                        refine zw_iconst 1 25 f173_24 rfl (by decide +kernel) ?_
                        refine zw_iadd 8 26 f173_25 rfl (by decide +kernel) ?_
                        refine zw_put _ 29 f173_26 rfl g173_246_12 (hb_52 _ _ _ _) rfl (Nat.le_of_ble_eq_true rfl) (by decide +kernel) (hi_52_29 _ _ _ _ _) ?_
                        refine zw_vreturn f173_29 r173 u173 ⟨rfl, ?_⟩
                        refine zw_aload_n 31 f178_30 rfl rfl ?_
                        refine zw_bipush 12 33 f178_31 rfl (by decide +kernel) ?_
                        refine zw_virtual_v 36 0 0 [.ref 52, .int 12] [(0, .ref 52), (1, .int 12)] f178_33 rfl n178_291 k178_291_12 rfl (hb_52 _ _ _ _) (by decide +kernel) (Nat.le_of_ble_eq_true rfl) rfl rfl (by decide +kernel) (by decide +kernel) rfl (Nat.le_of_ble_eq_true rfl) rfl ?_
                        refine zw_aload_n 1 f173_0 rfl rfl ?_
                        refine zw_getI 8 4 f173_1 rfl g173_246_12 (hb_52 _ _ _ _) rfl rfl ?_
                        refine zw_bipush 50 6 f173_4 rfl (by decide +kernel) ?_
                        refine zw_ic_ge_f 9 19 f173_6 (by decide +kernel) rfl (by decide +kernel) ?_
                        refine zw_aload_n 10 f173_9 rfl rfl ?_
                        refine zw_getfield 13 f173_10 rfl g173_74_12 (hb_52 _ _ _ _) rfl ?_
                        refine zw_aload_n 14 f173_13 rfl rfl ?_
                        refine zw_getI 8 17 f173_14 rfl g173_246_12 (hb_52 _ _ _ _) rfl rfl ?_
                        refine zw_iload_n 18 f173_17 rfl rfl ?_
                        refine zw_ast 8 _ 19 f173_18 rfl (hb_71 _ _ _ _) (by decide +kernel) (by decide +kernel) (by decide +kernel) (ha_71 _ _ _ _ _) ?_
                        refine zw_aload_n 20 f173_19 rfl rfl ?_
                        refine zw_dup 21 f173_20 rfl rfl ?_
                        refine zw_getI 8 24 f173_21 rfl g173_246_12 (hb_52 _ _ _ _) rfl rfl ?_
                        refine zw_iconst 1 25 f173_24 rfl (by decide +kernel) ?_
                        refine zw_iadd 9 26 f173_25 rfl (by decide +kernel) ?_
                        refine zw_put _ 29 f173_26 rfl g173_246_12 (hb_52 _ _ _ _) rfl (Nat.le_of_ble_eq_true rfl) (by decide +kernel) (hi_52_29 _ _ _ _ _) ?_
                        refine zw_vreturn f173_29 r173 u173 ⟨rfl, ?_⟩
                        refine zw_iload_n 37 f178_36 rfl rfl ?_
                        refine zw_aload_n 38 f178_37 rfl rfl ?_
                        refine zw_getfield 41 f178_38 rfl g178_13_12 (hb_52 _ _ _ _) rfl ?_
                        refine zw_iload_n 42 f178_41 rfl rfl ?_
                        refine zw_iaload a.toNatClampNeg (A 54 a.toNatClampNeg) 43 f178_42 rfl (hb_54 _ _ _ _) rfl hc1 (zix (by decide) hc1 (show ¬ 8 ≤ a from ix_le hp.1 (by decide) (by decide) hc1 hc2)) rfl ?_
                        refine zw_ixor ((c * 2) ^^^ (A 54 a.toNatClampNeg)) 44 f178_43 rfl rfl ?_
                        refine zw_aload_n 45 f178_44 rfl rfl ?_
                        refine zw_iload_n 46 f178_45 rfl rfl ?_
                        refine zw_virtual_i 49 0 0 [.ref 52, .int a] [(0, .ref 52), (1, .int a)] f178_46 rfl n178_158 k178_158_12 rfl (hb_52 _ _ _ _) (by decide +kernel) (Nat.le_of_ble_eq_true rfl) rfl rfl (by decide +kernel) (by decide +kernel) rfl (Nat.le_of_ble_eq_true rfl) rfl ?_
                        refine zw_aload_n 1 f126_0 rfl rfl ?_
                        refine zw_getfield 4 f126_1 rfl g126_7_12 (hb_52 _ _ _ _) rfl ?_
                        refine zw_iload_n 5 f126_4 rfl rfl ?_
                        refine zw_iaload a.toNatClampNeg (A 53 a.toNatClampNeg) 6 f126_5 rfl (hb_53 _ _ _ _) rfl hc1 (zix (by decide) hc1 (show ¬ 8 ≤ a from ix_le hp.1 (by decide) (by decide) hc1 hc2)) rfl ?_
                        refine zw_iconst 3 7 f126_6 rfl (by decide +kernel) ?_
                        refine zw_ic_eq_t 20 f126_7 (by decide +kernel) hc17 ?_
                        refine zw_iconst 1 21 f126_20 rfl (by decide +kernel) ?_
                        refine zw_goto 25 f126_21 (by decide +kernel) ?_
                        refine zw_zreturn f126_25 r126 u126 (by decide +kernel) ⟨_, rfl, ?_⟩
                        refine zw_if_eq_f 52 61 f178_49 (by decide +kernel) rfl (by decide +kernel) ?_
                        refine zw_aload_n 53 f178_52 rfl rfl ?_
                        refine zw_getfield 56 f178_53 rfl g178_19_12 (hb_52 _ _ _ _) rfl ?_
                        refine zw_iload_n 57 f178_56 rfl rfl ?_
                        refine zw_iaload a.toNatClampNeg (A 56 a.toNatClampNeg) 58 f178_57 rfl (hb_56 _ _ _ _) rfl hc1 (zix (by decide) hc1 (show ¬ 8 ≤ a from ix_le hp.1 (by decide) (by decide) hc1 hc2)) rfl ?_
                        refine zw_goto 62 f178_58 (by decide +kernel) ?_
                        refine zw_iadd (((c * 2) ^^^ (A 54 a.toNatClampNeg)) + (A 56 a.toNatClampNeg)) 63 f178_62 rfl rfl ?_
                        refine zw_aload_n 64 f178_63 rfl rfl ?_
                        refine zw_getfield 67 f178_64 rfl g178_7_12 (hb_52 _ _ _ _) rfl ?_
                        refine zw_iload_n 68 f178_67 rfl rfl ?_
                        refine zw_iaload a.toNatClampNeg (A 53 a.toNatClampNeg) 69 f178_68 rfl (hb_53 _ _ _ _) rfl hc1 (zix (by decide) hc1 (show ¬ 8 ≤ a from ix_le hp.1 (by decide) (by decide) hc1 hc2)) rfl ?_
                        refine zw_iconst 4 70 f178_69 rfl (by decide +kernel) ?_
                        refine zw_ic_ne_f 73 82 f178_70 (by decide +kernel) rfl hc18 ?_
                        refine zw_aload_n 74 f178_73 rfl rfl ?_
                        refine zw_getfield 77 f178_74 rfl g178_55_12 (hb_52 _ _ _ _) rfl ?_
                        refine zw_iload_n 78 f178_77 rfl rfl ?_
                        refine zw_iaload a.toNatClampNeg ((W.2.2.2.2.2.2.2) a.toNatClampNeg) 79 f178_78 rfl (hb_66 _ _ _ _) rfl hc1 (zix (by decide) hc1 (show ¬ 8 ≤ a from ix_le hp.1 (by decide) (by decide) hc1 hc2)) (congrFun (hR.cnt) a.toNatClampNeg) ?_
                        refine zw_goto 83 f178_79 (by decide +kernel) ?_
                        refine zw_iadd ((((c * 2) ^^^ (A 54 a.toNatClampNeg)) + (A 56 a.toNatClampNeg)) + ((W.2.2.2.2.2.2.2) a.toNatClampNeg)) 84 f178_83 rfl rfl ?_
                        refine zw_ireturn f178_84 r178 u178 ⟨_, rfl, ?_⟩
                        refine zw_isub ((((((c * 2) + (A 55 a.toNatClampNeg)) + (A 54 a.toNatClampNeg)) * 3) + (A 55 a.toNatClampNeg)) - ((((c * 2) ^^^ (A 54 a.toNatClampNeg)) + (A 56 a.toNatClampNeg)) + ((W.2.2.2.2.2.2.2) a.toNatClampNeg))) 45 f179_44 rfl rfl ?_
                        refine zw_ireturn f179_45 r179 u179 ⟨_, rfl, ?_⟩
                        refine zw_virtual_i 79 0 0 [.ref 52, .int ((((((c * 2) + (A 55 a.toNatClampNeg)) + (A 54 a.toNatClampNeg)) * 3) + (A 55 a.toNatClampNeg)) - ((((c * 2) ^^^ (A 54 a.toNatClampNeg)) + (A 56 a.toNatClampNeg)) + ((W.2.2.2.2.2.2.2) a.toNatClampNeg)))] [(0, .ref 52), (1, .int ((((((c * 2) + (A 55 a.toNatClampNeg)) + (A 54 a.toNatClampNeg)) * 3) + (A 55 a.toNatClampNeg)) - ((((c * 2) ^^^ (A 54 a.toNatClampNeg)) + (A 56 a.toNatClampNeg)) + ((W.2.2.2.2.2.2.2) a.toNatClampNeg))))] f180_76 rfl n180_205 k180_205_12 rfl (hb_52 _ _ _ _) (by decide +kernel) (Nat.le_of_ble_eq_true rfl) rfl rfl (by decide +kernel) (by decide +kernel) rfl (Nat.le_of_ble_eq_true rfl) rfl ?_
                        refine zw_aload_n 1 f122_0 rfl rfl ?_
                        refine zw_iconst 0 2 f122_1 rfl (by decide +kernel) ?_
                        refine zw_put _ 5 f122_2 rfl g122_111_12 (hb_52 _ _ _ _) rfl (Nat.le_of_ble_eq_true rfl) (by decide +kernel) (hi_52_27 _ _ _ _ _) ?_
                        refine zw_iload_n 6 f122_5 rfl rfl ?_
                        refine zw_ireturn f122_6 r122 u122 ⟨_, rfl, ?_⟩
                        refine zw_ireturn f180_79 r180 u180 ?_
                        exact ⟨_, _, _, _, rfl, (KQ.i rfl (KQ.i rfl (KQ.a rfl (KQ.i rfl (KQ.a rfl (KQ.i rfl (KQ.a rfl (KQ.i rfl (KQ.a rfl (KQ.i rfl (KQ.a rfl (KQ.i rfl (KQ.a rfl (KQ.i rfl (KQ.a rfl (KQ.i rfl (KQ.a rfl (KQ.i rfl (KQ.a rfl (KQ.i rfl KQ.rf)))))))))))))))))))), ⟨hi.1, hi.2.1, 9, by omega, (show _ = nI 9 from rfl)⟩, _, rfl⟩
                    · refine zw_aload_n 11 f126_10 rfl rfl ?_
                      refine zw_getfield 14 f126_11 rfl g126_7_12 (hb_52 _ _ _ _) rfl ?_
                      refine zw_iload_n 15 f126_14 rfl rfl ?_
                      refine zw_iaload a.toNatClampNeg (A 53 a.toNatClampNeg) 16 f126_15 rfl (hb_53 _ _ _ _) rfl hc1 (zix (by decide) hc1 (show ¬ 8 ≤ a from ix_le hp.1 (by decide) (by decide) hc1 hc2)) rfl ?_
                      refine zw_iconst 4 17 f126_16 rfl (by decide +kernel) ?_
                      refine zw_ic_ne 20 24 f126_17 (by decide +kernel) rfl (fun hc19 => ?_) (fun hc19 => ?_)
                      · refine zw_iconst 0 25 f126_24 rfl (by decide +kernel) ?_
                        refine zw_zreturn f126_25 r126 u126 (by decide +kernel) ⟨_, rfl, ?_⟩
                        refine zw_if_eq_t 53 f175_30 (by decide +kernel) (by decide +kernel) ?_
                        refine zw_aload_n 54 f175_53 rfl rfl ?_
                        refine zw_iload_n 55 f175_54 rfl rfl ?_
                        refine zw_iload_n 56 f175_55 rfl rfl ?_
                        refine zw_virtual_i 59 0 0 [.ref 52, .int a, .int (c * 2)] [(0, .ref 52), (1, .int a), (2, .int (c * 2))] f175_56 rfl n175_294 k175_294_12 rfl (hb_52 _ _ _ _) (by decide +kernel) (Nat.le_of_ble_eq_true rfl) rfl rfl (by decide +kernel) (by decide +kernel) rfl (Nat.le_of_ble_eq_true rfl) rfl ?_
                        refine zw_aload_n 1 f174_0 rfl rfl ?_
                        refine zw_bipush 10 3 f174_1 rfl (by decide +kernel) ?_
                        refine zw_virtual_v 6 0 0 [.ref 52, .int 10] [(0, .ref 52), (1, .int 10)] f174_3 rfl n174_291 k174_291_12 rfl (hb_52 _ _ _ _) (by decide +kernel) (Nat.le_of_ble_eq_true rfl) rfl rfl (by decide +kernel) (by decide +kernel) rfl (Nat.le_of_ble_eq_true rfl) rfl ?_
                        refine zw_aload_n 1 f173_0 rfl rfl ?_
                        refine zw_getI 4 4 f173_1 rfl g173_246_12 (hb_52 _ _ _ _) rfl rfl ?_
                        refine zw_bipush 50 6 f173_4 rfl (by decide +kernel) ?_
                        refine zw_ic_ge_f 9 19 f173_6 (by decide +kernel) rfl (by decide +kernel) ?_
                        refine zw_aload_n 10 f173_9 rfl rfl ?_
                        refine zw_getfield 13 f173_10 rfl g173_74_12 (hb_52 _ _ _ _) rfl ?_
                        refine zw_aload_n 14 f173_13 rfl rfl ?_
                        refine zw_getI 4 17 f173_14 rfl g173_246_12 (hb_52 _ _ _ _) rfl rfl ?_
                        refine zw_iload_n 18 f173_17 rfl rfl ?_
                        refine zw_ast 4 _ 19 f173_18 rfl (hb_71 _ _ _ _) (by decide +kernel) (by decide +kernel) (by decide +kernel) (ha_71 _ _ _ _ _) ?_
                        refine zw_aload_n 20 f173_19 rfl rfl ?_
                        refine zw_dup 21 f173_20 rfl rfl ?_
                        refine zw_getI 4 24 f173_21 rfl g173_246_12 (hb_52 _ _ _ _) rfl rfl ?_
                        refine zw_iconst 1 25 f173_24 rfl (by decide +kernel) ?_
                        refine zw_iadd 5 26 f173_25 rfl (by decide +kernel) ?_
                        refine zw_put _ 29 f173_26 rfl g173_246_12 (hb_52 _ _ _ _) rfl (Nat.le_of_ble_eq_true rfl) (by decide +kernel) (hi_52_29 _ _ _ _ _) ?_
                        refine zw_vreturn f173_29 r173 u173 ⟨rfl, ?_⟩
                        refine zw_iload_n 7 f174_6 rfl rfl ?_
                        refine zw_aload_n 8 f174_7 rfl rfl ?_
                        refine zw_getfield 11 f174_8 rfl g174_13_12 (hb_52 _ _ _ _) rfl ?_
                        refine zw_iload_n 12 f174_11 rfl rfl ?_
                        refine zw_iaload a.toNatClampNeg (A 54 a.toNatClampNeg) 13 f174_12 rfl (hb_54 _ _ _ _) rfl hc1 (zix (by decide) hc1 (show ¬ 8 ≤ a from ix_le hp.1 (by decide) (by decide) hc1 hc2)) rfl ?_
                        refine zw_iadd ((c * 2) + (A 54 a.toNatClampNeg)) 14 f174_13 rfl rfl ?_
                        refine zw_ireturn f174_14 r174 u174 ⟨_, rfl, ?_⟩
                        refine zw_ireturn f175_59 r175 u175 ⟨_, rfl, ?_⟩
                        refine zw_iconst 3 13 f176_12 rfl (by decide +kernel) ?_
                        refine zw_imul (((c * 2) + (A 54 a.toNatClampNeg)) * 3) 14 f176_13 rfl rfl ?_
                        refine zw_ireturn f176_14 r176 u176 ⟨_, rfl, ?_⟩
                        refine zw_aload_n 23 f177_22 rfl rfl ?_
                        refine zw_getfield 26 f177_23 rfl g177_16_12 (hb_52 _ _ _ _) rfl ?_
                        refine zw_iload_n 27 f177_26 rfl rfl ?_
                        refine zw_iaload a.toNatClampNeg (A 55 a.toNatClampNeg) 28 f177_27 rfl (hb_55 _ _ _ _) rfl hc1 (zix (by decide) hc1 (show ¬ 8 ≤ a from ix_le hp.1 (by decide) (by decide) hc1 hc2)) rfl ?_
                        refine zw_iadd ((((c * 2) + (A 54 a.toNatClampNeg)) * 3) + (A 55 a.toNatClampNeg)) 29 f177_28 rfl rfl ?_
                        refine zw_ireturn f177_29 r177 u177 ⟨_, rfl, ?_⟩
                        refine zw_istore _ 36 f179_34 rfl (by decide +kernel) rfl ?_
                        refine zw_iload 38 f179_36 rfl zl1_eq ?_
                        refine zw_aload_n 39 f179_38 rfl (zl1_ne rfl rfl (zl1_ne rfl rfl (zl1_ne rfl rfl rfl))) ?_
                        refine zw_iload_n 40 f179_39 rfl (zl1_ne rfl rfl (zl1_ne rfl rfl (zl1_ne rfl rfl rfl))) ?_
                        refine zw_iload_n 41 f179_40 rfl (zl1_ne rfl rfl zl1_eq) ?_
                        refine zw_virtual_i 44 0 0 [.ref 52, .int a, .int (c * 2)] [(0, .ref 52), (1, .int a), (2, .int (c * 2))] f179_41 rfl n179_307 k179_307_12 rfl (hb_52 _ _ _ _) (by decide +kernel) (Nat.le_of_ble_eq_true rfl) rfl rfl (by decide +kernel) (by decide +kernel) rfl (Nat.le_of_ble_eq_true rfl) rfl ?_
                        refine zw_aload_n 1 f178_0 rfl rfl ?_
                        refine zw_getfield 4 f178_1 rfl g178_7_12 (hb_52 _ _ _ _) rfl ?_
                        refine zw_iload_n 5 f178_4 rfl rfl ?_
                        refine zw_iaload a.toNatClampNeg (A 53 a.toNatClampNeg) 6 f178_5 rfl (hb_53 _ _ _ _) rfl hc1 (zix (by decide) hc1 (show ¬ 8 ≤ a from ix_le hp.1 (by decide) (by decide) hc1 hc2)) rfl ?_
                        refine zw_iconst 4 7 f178_6 rfl (by decide +kernel) ?_
                        refine zw_ic_ne_t 16 f178_7 (by decide +kernel) hc19 ?_
                        refine zw_aload_n 17 f178_16 rfl rfl ?_
                        refine zw_iload_n 18 f178_17 rfl rfl ?_
                        refine zw_virtual_i 21 0 0 [.ref 52, .int a] [(0, .ref 52), (1, .int a)] f178_18 rfl n178_158 k178_158_12 rfl (hb_52 _ _ _ _) (by decide +kernel) (Nat.le_of_ble_eq_true rfl) rfl rfl (by decide +kernel) (by decide +kernel) rfl (Nat.le_of_ble_eq_true rfl) rfl ?_
                        refine zw_aload_n 1 f126_0 rfl rfl ?_
                        refine zw_getfield 4 f126_1 rfl g126_7_12 (hb_52 _ _ _ _) rfl ?_
                        refine zw_iload_n 5 f126_4 rfl rfl ?_
                        refine zw_iaload a.toNatClampNeg (A 53 a.toNatClampNeg) 6 f126_5 rfl (hb_53 _ _ _ _) rfl hc1 (zix (by decide) hc1 (show ¬ 8 ≤ a from ix_le hp.1 (by decide) (by decide) hc1 hc2)) rfl ?_
                        refine zw_iconst 3 7 f126_6 rfl (by decide +kernel) ?_
                        refine zw_ic_eq_f 10 20 f126_7 (by decide +kernel) rfl hc17 ?_
                        refine zw_aload_n 11 f126_10 rfl rfl ?_
                        refine zw_getfield 14 f126_11 rfl g126_7_12 (hb_52 _ _ _ _) rfl ?_
                        refine zw_iload_n 15 f126_14 rfl rfl ?_
                        refine zw_iaload a.toNatClampNeg (A 53 a.toNatClampNeg) 16 f126_15 rfl (hb_53 _ _ _ _) rfl hc1 (zix (by decide) hc1 (show ¬ 8 ≤ a from ix_le hp.1 (by decide) (by decide) hc1 hc2)) rfl ?_
                        refine zw_iconst 4 17 f126_16 rfl (by decide +kernel) ?_
                        refine zw_ic_ne_t 24 f126_17 (by decide +kernel) hc19 ?_
                        refine zw_iconst 0 25 f126_24 rfl (by decide +kernel) ?_
                        refine zw_zreturn f126_25 r126 u126 (by decide +kernel) ⟨_, rfl, ?_⟩
                        refine zw_if_eq_t 30 f178_21 (by decide +kernel) (by decide +kernel) ?_
                        refine zw_aload_n 31 f178_30 rfl rfl ?_
                        refine zw_bipush 12 33 f178_31 rfl (by decide +kernel) ?_
                        refine zw_virtual_v 36 0 0 [.ref 52, .int 12] [(0, .ref 52), (1, .int 12)] f178_33 rfl n178_291 k178_291_12 rfl (hb_52 _ _ _ _) (by decide +kernel) (Nat.le_of_ble_eq_true rfl) rfl rfl (by decide +kernel) (by decide +kernel) rfl (Nat.le_of_ble_eq_true rfl) rfl ?_
                        refine zw_aload_n 1 f173_0 rfl rfl ?_
                        refine zw_getI 5 4 f173_1 rfl g173_246_12 (hb_52 _ _ _ _) rfl rfl ?_
                        refine zw_bipush 50 6 f173_4 rfl (by decide +kernel) ?_
                        refine zw_ic_ge_f 9 19 f173_6 (by decide +kernel) rfl (by decide +kernel) ?_
                        refine zw_aload_n 10 f173_9 rfl rfl ?_
                        refine zw_getfield 13 f173_10 rfl g173_74_12 (hb_52 _ _ _ _) rfl ?_
                        refine zw_aload_n 14 f173_13 rfl rfl ?_
                        refine zw_getI 5 17 f173_14 rfl g173_246_12 (hb_52 _ _ _ _) rfl rfl ?_
                        refine zw_iload_n 18 f173_17 rfl rfl ?_
                        refine zw_ast 5 _ 19 f173_18 rfl (hb_71 _ _ _ _) (by decide +kernel) (by decide +kernel) (by decide +kernel) (ha_71 _ _ _ _ _) ?_
                        refine zw_aload_n 20 f173_19 rfl rfl ?_
                        refine zw_dup 21 f173_20 rfl rfl ?_
                        refine zw_getI 5 24 f173_21 rfl g173_246_12 (hb_52 _ _ _ _) rfl rfl ?_
                        refine zw_iconst 1 25 f173_24 rfl (by decide +kernel) ?_
                        refine zw_iadd 6 26 f173_25 rfl (by decide +kernel) ?_
                        refine zw_put _ 29 f173_26 rfl g173_246_12 (hb_52 _ _ _ _) rfl (Nat.le_of_ble_eq_true rfl) (by decide +kernel) (hi_52_29 _ _ _ _ _) ?_
                        refine zw_vreturn f173_29 r173 u173 ⟨rfl, ?_⟩
                        refine zw_iload_n 37 f178_36 rfl rfl ?_
                        refine zw_aload_n 38 f178_37 rfl rfl ?_
                        refine zw_getfield 41 f178_38 rfl g178_13_12 (hb_52 _ _ _ _) rfl ?_
                        refine zw_iload_n 42 f178_41 rfl rfl ?_
                        refine zw_iaload a.toNatClampNeg (A 54 a.toNatClampNeg) 43 f178_42 rfl (hb_54 _ _ _ _) rfl hc1 (zix (by decide) hc1 (show ¬ 8 ≤ a from ix_le hp.1 (by decide) (by decide) hc1 hc2)) rfl ?_
                        refine zw_ixor ((c * 2) ^^^ (A 54 a.toNatClampNeg)) 44 f178_43 rfl rfl ?_
                        refine zw_aload_n 45 f178_44 rfl rfl ?_
                        refine zw_iload_n 46 f178_45 rfl rfl ?_
                        refine zw_virtual_i 49 0 0 [.ref 52, .int a] [(0, .ref 52), (1, .int a)] f178_46 rfl n178_158 k178_158_12 rfl (hb_52 _ _ _ _) (by decide +kernel) (Nat.le_of_ble_eq_true rfl) rfl rfl (by decide +kernel) (by decide +kernel) rfl (Nat.le_of_ble_eq_true rfl) rfl ?_
                        refine zw_aload_n 1 f126_0 rfl rfl ?_
                        refine zw_getfield 4 f126_1 rfl g126_7_12 (hb_52 _ _ _ _) rfl ?_
                        refine zw_iload_n 5 f126_4 rfl rfl ?_
                        refine zw_iaload a.toNatClampNeg (A 53 a.toNatClampNeg) 6 f126_5 rfl (hb_53 _ _ _ _) rfl hc1 (zix (by decide) hc1 (show ¬ 8 ≤ a from ix_le hp.1 (by decide) (by decide) hc1 hc2)) rfl ?_
                        refine zw_iconst 3 7 f126_6 rfl (by decide +kernel) ?_
                        refine zw_ic_eq_f 10 20 f126_7 (by decide +kernel) rfl hc17 ?_
                        refine zw_aload_n 11 f126_10 rfl rfl ?_
                        refine zw_getfield 14 f126_11 rfl g126_7_12 (hb_52 _ _ _ _) rfl ?_
                        refine zw_iload_n 15 f126_14 rfl rfl ?_
                        refine zw_iaload a.toNatClampNeg (A 53 a.toNatClampNeg) 16 f126_15 rfl (hb_53 _ _ _ _) rfl hc1 (zix (by decide) hc1 (show ¬ 8 ≤ a from ix_le hp.1 (by decide) (by decide) hc1 hc2)) rfl ?_
                        refine zw_iconst 4 17 f126_16 rfl (by decide +kernel) ?_
                        refine zw_ic_ne_t 24 f126_17 (by decide +kernel) hc19 ?_
                        refine zw_iconst 0 25 f126_24 rfl (by decide +kernel) ?_
                        refine zw_zreturn f126_25 r126 u126 (by decide +kernel) ⟨_, rfl, ?_⟩
                        refine zw_if_eq_t 61 f178_49 (by decide +kernel) (by decide +kernel) ?_
                        refine zw_iconst 0 62 f178_61 rfl (by decide +kernel) ?_
                        refine zw_iadd (((c * 2) ^^^ (A 54 a.toNatClampNeg)) + 0) 63 f178_62 rfl rfl ?_
                        refine zw_aload_n 64 f178_63 rfl rfl ?_
                        refine zw_getfield 67 f178_64 rfl g178_7_12 (hb_52 _ _ _ _) rfl ?_
                        refine zw_iload_n 68 f178_67 rfl rfl ?_
                        refine zw_iaload a.toNatClampNeg (A 53 a.toNatClampNeg) 69 f178_68 rfl (hb_53 _ _ _ _) rfl hc1 (zix (by decide) hc1 (show ¬ 8 ≤ a from ix_le hp.1 (by decide) (by decide) hc1 hc2)) rfl ?_
                        refine zw_iconst 4 70 f178_69 rfl (by decide +kernel) ?_
                        refine zw_ic_ne_t 82 f178_70 (by decide +kernel) hc19 ?_
                        refine zw_iconst 0 83 f178_82 rfl (by decide +kernel) ?_
                        refine zw_iadd ((((c * 2) ^^^ (A 54 a.toNatClampNeg)) + 0) + 0) 84 f178_83 rfl rfl ?_
                        refine zw_ireturn f178_84 r178 u178 ⟨_, rfl, ?_⟩
                        refine zw_isub (((((c * 2) + (A 54 a.toNatClampNeg)) * 3) + (A 55 a.toNatClampNeg)) - ((((c * 2) ^^^ (A 54 a.toNatClampNeg)) + 0) + 0)) 45 f179_44 rfl rfl ?_
                        refine zw_ireturn f179_45 r179 u179 ⟨_, rfl, ?_⟩
                        refine zw_virtual_i 79 0 0 [.ref 52, .int (((((c * 2) + (A 54 a.toNatClampNeg)) * 3) + (A 55 a.toNatClampNeg)) - ((((c * 2) ^^^ (A 54 a.toNatClampNeg)) + 0) + 0))] [(0, .ref 52), (1, .int (((((c * 2) + (A 54 a.toNatClampNeg)) * 3) + (A 55 a.toNatClampNeg)) - ((((c * 2) ^^^ (A 54 a.toNatClampNeg)) + 0) + 0)))] f180_76 rfl n180_205 k180_205_12 rfl (hb_52 _ _ _ _) (by decide +kernel) (Nat.le_of_ble_eq_true rfl) rfl rfl (by decide +kernel) (by decide +kernel) rfl (Nat.le_of_ble_eq_true rfl) rfl ?_
                        refine zw_aload_n 1 f122_0 rfl rfl ?_
                        refine zw_iconst 0 2 f122_1 rfl (by decide +kernel) ?_
                        refine zw_put _ 5 f122_2 rfl g122_111_12 (hb_52 _ _ _ _) rfl (Nat.le_of_ble_eq_true rfl) (by decide +kernel) (hi_52_27 _ _ _ _ _) ?_
                        refine zw_iload_n 6 f122_5 rfl rfl ?_
                        refine zw_ireturn f122_6 r122 u122 ⟨_, rfl, ?_⟩
                        refine zw_ireturn f180_79 r180 u180 ?_
                        exact ⟨_, _, _, _, rfl, (KQ.i rfl (KQ.i rfl (KQ.a rfl (KQ.i rfl (KQ.a rfl (KQ.i rfl (KQ.a rfl (KQ.i rfl (KQ.a rfl (KQ.i rfl (KQ.a rfl (KQ.i rfl (KQ.a rfl (KQ.i rfl KQ.rf)))))))))))))), ⟨hi.1, hi.2.1, 6, by omega, (show _ = nI 6 from rfl)⟩, _, rfl⟩
                      · refine zw_iconst 1 21 f126_20 rfl (by decide +kernel) ?_
                        refine zw_goto 25 f126_21 (by decide +kernel) ?_
                        refine zw_zreturn f126_25 r126 u126 (by decide +kernel) ⟨_, rfl, ?_⟩
                        refine zw_if_eq_f 33 53 f175_30 (by decide +kernel) rfl (by decide +kernel) ?_
                        refine zw_aload_n 34 f175_33 rfl rfl ?_
                        refine zw_bipush 41 36 f175_34 rfl (by decide +kernel) ?_
                        refine zw_virtual_v 39 0 0 [.ref 52, .int 41] [(0, .ref 52), (1, .int 41)] f175_36 rfl n175_291 k175_291_12 rfl (hb_52 _ _ _ _) (by decide +kernel) (Nat.le_of_ble_eq_true rfl) rfl rfl (by decide +kernel) (by decide +kernel) rfl (Nat.le_of_ble_eq_true rfl) rfl ?_
                        refine zw_aload_n 1 f173_0 rfl rfl ?_
                        refine zw_getI 4 4 f173_1 rfl g173_246_12 (hb_52 _ _ _ _) rfl rfl ?_
                        refine zw_bipush 50 6 f173_4 rfl (by decide +kernel) ?_
                        refine zw_ic_ge_f 9 19 f173_6 (by decide +kernel) rfl (by decide +kernel) ?_
                        refine zw_aload_n 10 f173_9 rfl rfl ?_
                        refine zw_getfield 13 f173_10 rfl g173_74_12 (hb_52 _ _ _ _) rfl ?_
                        refine zw_aload_n 14 f173_13 rfl rfl ?_
                        refine zw_getI 4 17 f173_14 rfl g173_246_12 (hb_52 _ _ _ _) rfl rfl ?_
                        refine zw_iload_n 18 f173_17 rfl rfl ?_
                        refine zw_ast 4 _ 19 f173_18 rfl (hb_71 _ _ _ _) (by decide +kernel) (by decide +kernel) (by decide +kernel) (ha_71 _ _ _ _ _) ?_
                        refine zw_aload_n 20 f173_19 rfl rfl ?_
                        refine zw_dup 21 f173_20 rfl rfl ?_
                        refine zw_getI 4 24 f173_21 rfl g173_246_12 (hb_52 _ _ _ _) rfl rfl ?_
                        refine zw_iconst 1 25 f173_24 rfl (by decide +kernel) ?_
                        refine zw_iadd 5 26 f173_25 rfl (by decide +kernel) ?_
                        refine zw_put _ 29 f173_26 rfl g173_246_12 (hb_52 _ _ _ _) rfl (Nat.le_of_ble_eq_true rfl) (by decide +kernel) (hi_52_29 _ _ _ _ _) ?_
                        refine zw_vreturn f173_29 r173 u173 ⟨rfl, ?_⟩
                        refine zw_aload_n 40 f175_39 rfl rfl ?_
                        refine zw_iload_n 41 f175_40 rfl rfl ?_
                        refine zw_iload_n 42 f175_41 rfl rfl ?_
                        refine zw_aload_n 43 f175_42 rfl rfl ?_
                        refine zw_getfield 46 f175_43 rfl g175_16_12 (hb_52 _ _ _ _) rfl ?_
                        refine zw_iload_n 47 f175_46 rfl rfl ?_
                        refine zw_iaload a.toNatClampNeg (A 55 a.toNatClampNeg) 48 f175_47 rfl (hb_55 _ _ _ _) rfl hc1 (zix (by decide) hc1 (show ¬ 8 ≤ a from ix_le hp.1 (by decide) (by decide) hc1 hc2)) rfl ?_
                        refine zw_iadd ((c * 2) + (A 55 a.toNatClampNeg)) 49 f175_48 rfl rfl ?_
                        refine zw_virtual_i 52 0 0 [.ref 52, .int a, .int ((c * 2) + (A 55 a.toNatClampNeg))] [(0, .ref 52), (1, .int a), (2, .int ((c * 2) + (A 55 a.toNatClampNeg)))] f175_49 rfl n175_294 k175_294_12 rfl (hb_52 _ _ _ _) (by decide +kernel) (Nat.le_of_ble_eq_true rfl) rfl rfl (by decide +kernel) (by decide +kernel) rfl (Nat.le_of_ble_eq_true rfl) rfl ?_
                        refine zw_aload_n 1 f174_0 rfl rfl ?_
                        refine zw_bipush 10 3 f174_1 rfl (by decide +kernel) ?_
                        refine zw_virtual_v 6 0 0 [.ref 52, .int 10] [(0, .ref 52), (1, .int 10)] f174_3 rfl n174_291 k174_291_12 rfl (hb_52 _ _ _ _) (by decide +kernel) (Nat.le_of_ble_eq_true rfl) rfl rfl (by decide +kernel) (by decide +kernel) rfl (Nat.le_of_ble_eq_true rfl) rfl ?_
                        refine zw_aload_n 1 f173_0 rfl rfl ?_
                        refine zw_getI 5 4 f173_1 rfl g173_246_12 (hb_52 _ _ _ _) rfl rfl ?_
                        refine zw_bipush 50 6 f173_4 rfl (by decide +kernel) ?_
                        refine zw_ic_ge_f 9 19 f173_6 (by decide +kernel) rfl (by decide +kernel) ?_
                        refine zw_aload_n 10 f173_9 rfl rfl ?_
                        refine zw_getfield 13 f173_10 rfl g173_74_12 (hb_52 _ _ _ _) rfl ?_
                        refine zw_aload_n 14 f173_13 rfl rfl ?_
                        refine zw_getI 5 17 f173_14 rfl g173_246_12 (hb_52 _ _ _ _) rfl rfl ?_
                        refine zw_iload_n 18 f173_17 rfl rfl ?_
                        refine zw_ast 5 _ 19 f173_18 rfl (hb_71 _ _ _ _) (by decide +kernel) (by decide +kernel) (by decide +kernel) (ha_71 _ _ _ _ _) ?_
                        refine zw_aload_n 20 f173_19 rfl rfl ?_
                        refine zw_dup 21 f173_20 rfl rfl ?_
                        refine zw_getI 5 24 f173_21 rfl g173_246_12 (hb_52 _ _ _ _) rfl rfl ?_
                        refine zw_iconst 1 25 f173_24 rfl (by decide +kernel) ?_
                        refine zw_iadd 6 26 f173_25 rfl (by decide +kernel) ?_
                        refine zw_put _ 29 f173_26 rfl g173_246_12 (hb_52 _ _ _ _) rfl (Nat.le_of_ble_eq_true rfl) (by decide +kernel) (hi_52_29 _ _ _ _ _) ?_
                        refine zw_vreturn f173_29 r173 u173 ⟨rfl, ?_⟩
                        refine zw_iload_n 7 f174_6 rfl rfl ?_
                        refine zw_aload_n 8 f174_7 rfl rfl ?_
                        refine zw_getfield 11 f174_8 rfl g174_13_12 (hb_52 _ _ _ _) rfl ?_
                        refine zw_iload_n 12 f174_11 rfl rfl ?_
                        refine zw_iaload a.toNatClampNeg (A 54 a.toNatClampNeg) 13 f174_12 rfl (hb_54 _ _ _ _) rfl hc1 (zix (by decide) hc1 (show ¬ 8 ≤ a from ix_le hp.1 (by decide) (by decide) hc1 hc2)) rfl ?_
                        refine zw_iadd (((c * 2) + (A 55 a.toNatClampNeg)) + (A 54 a.toNatClampNeg)) 14 f174_13 rfl rfl ?_
                        refine zw_ireturn f174_14 r174 u174 ⟨_, rfl, ?_⟩
                        refine zw_ireturn f175_52 r175 u175 ⟨_, rfl, ?_⟩
                        refine zw_iconst 3 13 f176_12 rfl (by decide +kernel) ?_
                        refine zw_imul ((((c * 2) + (A 55 a.toNatClampNeg)) + (A 54 a.toNatClampNeg)) * 3) 14 f176_13 rfl rfl ?_
                        refine zw_ireturn f176_14 r176 u176 ⟨_, rfl, ?_⟩
                        refine zw_aload_n 23 f177_22 rfl rfl ?_
                        refine zw_getfield 26 f177_23 rfl g177_16_12 (hb_52 _ _ _ _) rfl ?_
                        refine zw_iload_n 27 f177_26 rfl rfl ?_
                        refine zw_iaload a.toNatClampNeg (A 55 a.toNatClampNeg) 28 f177_27 rfl (hb_55 _ _ _ _) rfl hc1 (zix (by decide) hc1 (show ¬ 8 ≤ a from ix_le hp.1 (by decide) (by decide) hc1 hc2)) rfl ?_
                        refine zw_iadd (((((c * 2) + (A 55 a.toNatClampNeg)) + (A 54 a.toNatClampNeg)) * 3) + (A 55 a.toNatClampNeg)) 29 f177_28 rfl rfl ?_
                        refine zw_ireturn f177_29 r177 u177 ⟨_, rfl, ?_⟩
                        refine zw_istore _ 36 f179_34 rfl (by decide +kernel) rfl ?_
                        refine zw_iload 38 f179_36 rfl zl1_eq ?_
                        refine zw_aload_n 39 f179_38 rfl (zl1_ne rfl rfl (zl1_ne rfl rfl (zl1_ne rfl rfl rfl))) ?_
                        refine zw_iload_n 40 f179_39 rfl (zl1_ne rfl rfl (zl1_ne rfl rfl (zl1_ne rfl rfl rfl))) ?_
                        refine zw_iload_n 41 f179_40 rfl (zl1_ne rfl rfl zl1_eq) ?_
                        refine zw_virtual_i 44 0 0 [.ref 52, .int a, .int (c * 2)] [(0, .ref 52), (1, .int a), (2, .int (c * 2))] f179_41 rfl n179_307 k179_307_12 rfl (hb_52 _ _ _ _) (by decide +kernel) (Nat.le_of_ble_eq_true rfl) rfl rfl (by decide +kernel) (by decide +kernel) rfl (Nat.le_of_ble_eq_true rfl) rfl ?_
                        refine zw_aload_n 1 f178_0 rfl rfl ?_
                        refine zw_getfield 4 f178_1 rfl g178_7_12 (hb_52 _ _ _ _) rfl ?_
                        refine zw_iload_n 5 f178_4 rfl rfl ?_
                        refine zw_iaload a.toNatClampNeg (A 53 a.toNatClampNeg) 6 f178_5 rfl (hb_53 _ _ _ _) rfl hc1 (zix (by decide) hc1 (show ¬ 8 ≤ a from ix_le hp.1 (by decide) (by decide) hc1 hc2)) rfl ?_
                        refine zw_iconst 4 7 f178_6 rfl (by decide +kernel) ?_
                        refine zw_ic_ne_f 10 16 f178_7 (by decide +kernel) rfl hc19 ?_
                        refine zw_aload_n 11 f178_10 rfl rfl ?_
                        refine zw_bipush 50 13 f178_11 rfl (by decide +kernel) ?_
                        refine zw_virtual_v 16 0 0 [.ref 52, .int 50] [(0, .ref 52), (1, .int 50)] f178_13 rfl n178_291 k178_291_12 rfl (hb_52 _ _ _ _) (by decide +kernel) (Nat.le_of_ble_eq_true rfl) rfl rfl (by decide +kernel) (by decide +kernel) rfl (Nat.le_of_ble_eq_true rfl) rfl ?_
                        refine zw_aload_n 1 f173_0 rfl rfl ?_
                        refine zw_getI 6 4 f173_1 rfl g173_246_12 (hb_52 _ _ _ _) rfl rfl ?_
                        refine zw_bipush 50 6 f173_4 rfl (by decide +kernel) ?_
                        refine zw_ic_ge_f 9 19 f173_6 (by decide +kernel) rfl (by decide +kernel) ?_
                        refine zw_aload_n 10 f173_9 rfl rfl ?_
                        refine zw_getfield 13 f173_10 rfl g173_74_12 (hb_52 _ _ _ _) rfl ?_
                        refine zw_aload_n 14 f173_13 rfl rfl ?_
                        refine zw_getI 6 17 f173_14 rfl g173_246_12 (hb_52 _ _ _ _) rfl rfl ?_
                        refine zw_iload_n 18 f173_17 rfl rfl ?_
                        refine zw_ast 6 _ 19 f173_18 rfl (hb_71 _ _ _ _) (by decide +kernel) (by decide +kernel) (by decide +kernel) (ha_71 _ _ _ _ _) ?_
                        refine zw_aload_n 20 f173_19 rfl rfl ?_
                        refine zw_dup 21 f173_20 rfl rfl ?_
                        refine zw_getI 6 24 f173_21 rfl g173_246_12 (hb_52 _ _ _ _) rfl rfl ?_
                        refine zw_iconst 1 25 f173_24 rfl (by decide +kernel) ?_
                        refine zw_iadd 7 26 f173_25 rfl (by decide +kernel) ?_
                        refine zw_put _ 29 f173_26 rfl g173_246_12 (hb_52 _ _ _ _) rfl (Nat.le_of_ble_eq_true rfl) (by decide +kernel) (hi_52_29 _ _ _ _ _) ?_
                        refine zw_vreturn f173_29 r173 u173 ⟨rfl, ?_⟩
                        refine zw_aload_n 17 f178_16 rfl rfl ?_
                        refine zw_iload_n 18 f178_17 rfl rfl ?_
                        refine zw_virtual_i 21 0 0 [.ref 52, .int a] [(0, .ref 52), (1, .int a)] f178_18 rfl n178_158 k178_158_12 rfl (hb_52 _ _ _ _) (by decide +kernel) (Nat.le_of_ble_eq_true rfl) rfl rfl (by decide +kernel) (by decide +kernel) rfl (Nat.le_of_ble_eq_true rfl) rfl ?_
                        refine zw_aload_n 1 f126_0 rfl rfl ?_
                        refine zw_getfield 4 f126_1 rfl g126_7_12 (hb_52 _ _ _ _) rfl ?_
                        refine zw_iload_n 5 f126_4 rfl rfl ?_
                        refine zw_iaload a.toNatClampNeg (A 53 a.toNatClampNeg) 6 f126_5 rfl (hb_53 _ _ _ _) rfl hc1 (zix (by decide) hc1 (show ¬ 8 ≤ a from ix_le hp.1 (by decide) (by decide) hc1 hc2)) rfl ?_
                        refine zw_iconst 3 7 f126_6 rfl (by decide +kernel) ?_
                        refine zw_ic_eq_f 10 20 f126_7 (by decide +kernel) rfl hc17 ?_
                        refine zw_aload_n 11 f126_10 rfl rfl ?_
                        refine zw_getfield 14 f126_11 rfl g126_7_12 (hb_52 _ _ _ _) rfl ?_
                        refine zw_iload_n 15 f126_14 rfl rfl ?_
                        refine zw_iaload a.toNatClampNeg (A 53 a.toNatClampNeg) 16 f126_15 rfl (hb_53 _ _ _ _) rfl hc1 (zix (by decide) hc1 (show ¬ 8 ≤ a from ix_le hp.1 (by decide) (by decide) hc1 hc2)) rfl ?_
                        refine zw_iconst 4 17 f126_16 rfl (by decide +kernel) ?_
                        refine zw_ic_ne_f 20 24 f126_17 (by decide +kernel) rfl hc19 ?_
                        refine zw_iconst 1 21 f126_20 rfl (by decide +kernel) ?_
                        refine zw_goto 25 f126_21 (by decide +kernel) ?_
                        refine zw_zreturn f126_25 r126 u126 (by decide +kernel) ⟨_, rfl, ?_⟩
                        refine zw_if_eq_f 24 30 f178_21 (by decide +kernel) rfl (by decide +kernel) ?_
                        refine zw_aload_n 25 f178_24 rfl rfl ?_
                        refine zw_bipush 40 27 f178_25 rfl (by decide +kernel) ?_
                        refine zw_virtual_v 30 0 0 [.ref 52, .int 40] [(0, .ref 52), (1, .int 40)] f178_27 rfl n178_291 k178_291_12 rfl (hb_52 _ _ _ _) (by decide +kernel) (Nat.le_of_ble_eq_true rfl) rfl rfl (by decide +kernel) (by decide +kernel) rfl (Nat.le_of_ble_eq_true rfl) rfl ?_
                        refine zw_aload_n 1 f173_0 rfl rfl ?_
                        refine zw_getI 7 4 f173_1 rfl g173_246_12 (hb_52 _ _ _ _) rfl rfl ?_
                        refine zw_bipush 50 6 f173_4 rfl (by decide +kernel) ?_
                        refine zw_ic_ge_f 9 19 f173_6 (by decide +kernel) rfl (by decide +kernel) ?_
                        refine zw_aload_n 10 f173_9 rfl rfl ?_
                        refine zw_getfield 13 f173_10 rfl g173_74_12 (hb_52 _ _ _ _) rfl ?_
                        refine zw_aload_n 14 f173_13 rfl rfl ?_
                        refine zw_getI 7 17 f173_14 rfl g173_246_12 (hb_52 _ _ _ _) rfl rfl ?_
                        refine zw_iload_n 18 f173_17 rfl rfl ?_
                        refine zw_ast 7 _ 19 f173_18 rfl (hb_71 _ _ _ _) (by decide +kernel) (by decide +kernel) (by decide +kernel) (ha_71 _ _ _ _ _) ?_
                        refine zw_aload_n 20 f173_19 rfl rfl ?_
                        refine zw_dup 21 f173_20 rfl rfl ?_
                        refine zw_getI 7 24 f173_21 rfl g173_246_12 (hb_52 _ _ _ _) rfl rfl ?_
                        refine zw_iconst 1 25 f173_24 rfl (by decide +kernel) ?_
                        refine zw_iadd 8 26 f173_25 rfl (by decide +kernel) ?_
                        refine zw_put _ 29 f173_26 rfl g173_246_12 (hb_52 _ _ _ _) rfl (Nat.le_of_ble_eq_true rfl) (by decide +kernel) (hi_52_29 _ _ _ _ _) ?_
                        refine zw_vreturn f173_29 r173 u173 ⟨rfl, ?_⟩
                        refine zw_aload_n 31 f178_30 rfl rfl ?_
                        refine zw_bipush 12 33 f178_31 rfl (by decide +kernel) ?_
                        refine zw_virtual_v 36 0 0 [.ref 52, .int 12] [(0, .ref 52), (1, .int 12)] f178_33 rfl n178_291 k178_291_12 rfl (hb_52 _ _ _ _) (by decide +kernel) (Nat.le_of_ble_eq_true rfl) rfl rfl (by decide +kernel) (by decide +kernel) rfl (Nat.le_of_ble_eq_true rfl) rfl ?_
                        refine zw_aload_n 1 f173_0 rfl rfl ?_
                        refine zw_getI 8 4 f173_1 rfl g173_246_12 (hb_52 _ _ _ _) rfl rfl ?_
                        refine zw_bipush 50 6 f173_4 rfl (by decide +kernel) ?_
                        refine zw_ic_ge_f 9 19 f173_6 (by decide +kernel) rfl (by decide +kernel) ?_
                        refine zw_aload_n 10 f173_9 rfl rfl ?_
                        refine zw_getfield 13 f173_10 rfl g173_74_12 (hb_52 _ _ _ _) rfl ?_
                        refine zw_aload_n 14 f173_13 rfl rfl ?_
                        refine zw_getI 8 17 f173_14 rfl g173_246_12 (hb_52 _ _ _ _) rfl rfl ?_
                        refine zw_iload_n 18 f173_17 rfl rfl ?_
                        refine zw_ast 8 _ 19 f173_18 rfl (hb_71 _ _ _ _) (by decide +kernel) (by decide +kernel) (by decide +kernel) (ha_71 _ _ _ _ _) ?_
                        refine zw_aload_n 20 f173_19 rfl rfl ?_
                        refine zw_dup 21 f173_20 rfl rfl ?_
                        refine zw_getI 8 24 f173_21 rfl g173_246_12 (hb_52 _ _ _ _) rfl rfl ?_
                        refine zw_iconst 1 25 f173_24 rfl (by decide +kernel) ?_
                        refine zw_iadd 9 26 f173_25 rfl (by decide +kernel) ?_
                        refine zw_put _ 29 f173_26 rfl g173_246_12 (hb_52 _ _ _ _) rfl (Nat.le_of_ble_eq_true rfl) (by decide +kernel) (hi_52_29 _ _ _ _ _) ?_
                        refine zw_vreturn f173_29 r173 u173 ⟨rfl, ?_⟩
                        refine zw_iload_n 37 f178_36 rfl rfl ?_
                        refine zw_aload_n 38 f178_37 rfl rfl ?_
                        refine zw_getfield 41 f178_38 rfl g178_13_12 (hb_52 _ _ _ _) rfl ?_
                        refine zw_iload_n 42 f178_41 rfl rfl ?_
                        refine zw_iaload a.toNatClampNeg (A 54 a.toNatClampNeg) 43 f178_42 rfl (hb_54 _ _ _ _) rfl hc1 (zix (by decide) hc1 (show ¬ 8 ≤ a from ix_le hp.1 (by decide) (by decide) hc1 hc2)) rfl ?_
                        refine zw_ixor ((c * 2) ^^^ (A 54 a.toNatClampNeg)) 44 f178_43 rfl rfl ?_
                        refine zw_aload_n 45 f178_44 rfl rfl ?_
                        refine zw_iload_n 46 f178_45 rfl rfl ?_
                        refine zw_virtual_i 49 0 0 [.ref 52, .int a] [(0, .ref 52), (1, .int a)] f178_46 rfl n178_158 k178_158_12 rfl (hb_52 _ _ _ _) (by decide +kernel) (Nat.le_of_ble_eq_true rfl) rfl rfl (by decide +kernel) (by decide +kernel) rfl (Nat.le_of_ble_eq_true rfl) rfl ?_
                        refine zw_aload_n 1 f126_0 rfl rfl ?_
                        refine zw_getfield 4 f126_1 rfl g126_7_12 (hb_52 _ _ _ _) rfl ?_
                        refine zw_iload_n 5 f126_4 rfl rfl ?_
                        refine zw_iaload a.toNatClampNeg (A 53 a.toNatClampNeg) 6 f126_5 rfl (hb_53 _ _ _ _) rfl hc1 (zix (by decide) hc1 (show ¬ 8 ≤ a from ix_le hp.1 (by decide) (by decide) hc1 hc2)) rfl ?_
                        refine zw_iconst 3 7 f126_6 rfl (by decide +kernel) ?_
                        refine zw_ic_eq_f 10 20 f126_7 (by decide +kernel) rfl hc17 ?_
                        refine zw_aload_n 11 f126_10 rfl rfl ?_
                        refine zw_getfield 14 f126_11 rfl g126_7_12 (hb_52 _ _ _ _) rfl ?_
                        refine zw_iload_n 15 f126_14 rfl rfl ?_
                        refine zw_iaload a.toNatClampNeg (A 53 a.toNatClampNeg) 16 f126_15 rfl (hb_53 _ _ _ _) rfl hc1 (zix (by decide) hc1 (show ¬ 8 ≤ a from ix_le hp.1 (by decide) (by decide) hc1 hc2)) rfl ?_
                        refine zw_iconst 4 17 f126_16 rfl (by decide +kernel) ?_
                        refine zw_ic_ne_f 20 24 f126_17 (by decide +kernel) rfl hc19 ?_
                        refine zw_iconst 1 21 f126_20 rfl (by decide +kernel) ?_
                        refine zw_goto 25 f126_21 (by decide +kernel) ?_
                        refine zw_zreturn f126_25 r126 u126 (by decide +kernel) ⟨_, rfl, ?_⟩
                        refine zw_if_eq_f 52 61 f178_49 (by decide +kernel) rfl (by decide +kernel) ?_
                        refine zw_aload_n 53 f178_52 rfl rfl ?_
                        refine zw_getfield 56 f178_53 rfl g178_19_12 (hb_52 _ _ _ _) rfl ?_
                        refine zw_iload_n 57 f178_56 rfl rfl ?_
                        refine zw_iaload a.toNatClampNeg (A 56 a.toNatClampNeg) 58 f178_57 rfl (hb_56 _ _ _ _) rfl hc1 (zix (by decide) hc1 (show ¬ 8 ≤ a from ix_le hp.1 (by decide) (by decide) hc1 hc2)) rfl ?_
                        refine zw_goto 62 f178_58 (by decide +kernel) ?_
                        refine zw_iadd (((c * 2) ^^^ (A 54 a.toNatClampNeg)) + (A 56 a.toNatClampNeg)) 63 f178_62 rfl rfl ?_
                        refine zw_aload_n 64 f178_63 rfl rfl ?_
                        refine zw_getfield 67 f178_64 rfl g178_7_12 (hb_52 _ _ _ _) rfl ?_
                        refine zw_iload_n 68 f178_67 rfl rfl ?_
                        refine zw_iaload a.toNatClampNeg (A 53 a.toNatClampNeg) 69 f178_68 rfl (hb_53 _ _ _ _) rfl hc1 (zix (by decide) hc1 (show ¬ 8 ≤ a from ix_le hp.1 (by decide) (by decide) hc1 hc2)) rfl ?_
                        refine zw_iconst 4 70 f178_69 rfl (by decide +kernel) ?_
                        refine zw_ic_ne_f 73 82 f178_70 (by decide +kernel) rfl hc19 ?_
                        refine zw_aload_n 74 f178_73 rfl rfl ?_
                        refine zw_getfield 77 f178_74 rfl g178_55_12 (hb_52 _ _ _ _) rfl ?_
                        refine zw_iload_n 78 f178_77 rfl rfl ?_
                        refine zw_iaload a.toNatClampNeg ((W.2.2.2.2.2.2.2) a.toNatClampNeg) 79 f178_78 rfl (hb_66 _ _ _ _) rfl hc1 (zix (by decide) hc1 (show ¬ 8 ≤ a from ix_le hp.1 (by decide) (by decide) hc1 hc2)) (congrFun (hR.cnt) a.toNatClampNeg) ?_
                        refine zw_goto 83 f178_79 (by decide +kernel) ?_
                        refine zw_iadd ((((c * 2) ^^^ (A 54 a.toNatClampNeg)) + (A 56 a.toNatClampNeg)) + ((W.2.2.2.2.2.2.2) a.toNatClampNeg)) 84 f178_83 rfl rfl ?_
                        refine zw_ireturn f178_84 r178 u178 ⟨_, rfl, ?_⟩
                        refine zw_isub ((((((c * 2) + (A 55 a.toNatClampNeg)) + (A 54 a.toNatClampNeg)) * 3) + (A 55 a.toNatClampNeg)) - ((((c * 2) ^^^ (A 54 a.toNatClampNeg)) + (A 56 a.toNatClampNeg)) + ((W.2.2.2.2.2.2.2) a.toNatClampNeg))) 45 f179_44 rfl rfl ?_
                        refine zw_ireturn f179_45 r179 u179 ⟨_, rfl, ?_⟩
                        refine zw_virtual_i 79 0 0 [.ref 52, .int ((((((c * 2) + (A 55 a.toNatClampNeg)) + (A 54 a.toNatClampNeg)) * 3) + (A 55 a.toNatClampNeg)) - ((((c * 2) ^^^ (A 54 a.toNatClampNeg)) + (A 56 a.toNatClampNeg)) + ((W.2.2.2.2.2.2.2) a.toNatClampNeg)))] [(0, .ref 52), (1, .int ((((((c * 2) + (A 55 a.toNatClampNeg)) + (A 54 a.toNatClampNeg)) * 3) + (A 55 a.toNatClampNeg)) - ((((c * 2) ^^^ (A 54 a.toNatClampNeg)) + (A 56 a.toNatClampNeg)) + ((W.2.2.2.2.2.2.2) a.toNatClampNeg))))] f180_76 rfl n180_205 k180_205_12 rfl (hb_52 _ _ _ _) (by decide +kernel) (Nat.le_of_ble_eq_true rfl) rfl rfl (by decide +kernel) (by decide +kernel) rfl (Nat.le_of_ble_eq_true rfl) rfl ?_
                        refine zw_aload_n 1 f122_0 rfl rfl ?_
                        refine zw_iconst 0 2 f122_1 rfl (by decide +kernel) ?_
                        refine zw_put _ 5 f122_2 rfl g122_111_12 (hb_52 _ _ _ _) rfl (Nat.le_of_ble_eq_true rfl) (by decide +kernel) (hi_52_27 _ _ _ _ _) ?_
                        refine zw_iload_n 6 f122_5 rfl rfl ?_
                        refine zw_ireturn f122_6 r122 u122 ⟨_, rfl, ?_⟩
                        refine zw_ireturn f180_79 r180 u180 ?_
                        exact ⟨_, _, _, _, rfl, (KQ.i rfl (KQ.i rfl (KQ.a rfl (KQ.i rfl (KQ.a rfl (KQ.i rfl (KQ.a rfl (KQ.i rfl (KQ.a rfl (KQ.i rfl (KQ.a rfl (KQ.i rfl (KQ.a rfl (KQ.i rfl (KQ.a rfl (KQ.i rfl (KQ.a rfl (KQ.i rfl (KQ.a rfl (KQ.i rfl KQ.rf)))))))))))))))))))), ⟨hi.1, hi.2.1, 9, by omega, (show _ = nI 9 from rfl)⟩, _, rfl⟩
                  · refine zw_aload_n 11 f175_10 rfl rfl ?_
                    refine zw_bipush 30 13 f175_11 rfl (by decide +kernel) ?_
                    refine zw_virtual_v 16 0 0 [.ref 52, .int 30] [(0, .ref 52), (1, .int 30)] f175_13 rfl n175_291 k175_291_12 rfl (hb_52 _ _ _ _) (by decide +kernel) (Nat.le_of_ble_eq_true rfl) rfl rfl (by decide +kernel) (by decide +kernel) rfl (Nat.le_of_ble_eq_true rfl) rfl ?_
                    refine zw_aload_n 1 f173_0 rfl rfl ?_
                    refine zw_getI 4 4 f173_1 rfl g173_246_12 (hb_52 _ _ _ _) rfl rfl ?_
                    refine zw_bipush 50 6 f173_4 rfl (by decide +kernel) ?_
                    refine zw_ic_ge_f 9 19 f173_6 (by decide +kernel) rfl (by decide +kernel) ?_
                    refine zw_aload_n 10 f173_9 rfl rfl ?_
                    refine zw_getfield 13 f173_10 rfl g173_74_12 (hb_52 _ _ _ _) rfl ?_
                    refine zw_aload_n 14 f173_13 rfl rfl ?_
                    refine zw_getI 4 17 f173_14 rfl g173_246_12 (hb_52 _ _ _ _) rfl rfl ?_
                    refine zw_iload_n 18 f173_17 rfl rfl ?_
                    refine zw_ast 4 _ 19 f173_18 rfl (hb_71 _ _ _ _) (by decide +kernel) (by decide +kernel) (by decide +kernel) (ha_71 _ _ _ _ _) ?_
                    refine zw_aload_n 20 f173_19 rfl rfl ?_
                    refine zw_dup 21 f173_20 rfl rfl ?_
                    refine zw_getI 4 24 f173_21 rfl g173_246_12 (hb_52 _ _ _ _) rfl rfl ?_
                    refine zw_iconst 1 25 f173_24 rfl (by decide +kernel) ?_
                    refine zw_iadd 5 26 f173_25 rfl (by decide +kernel) ?_
                    refine zw_put _ 29 f173_26 rfl g173_246_12 (hb_52 _ _ _ _) rfl (Nat.le_of_ble_eq_true rfl) (by decide +kernel) (hi_52_29 _ _ _ _ _) ?_
                    refine zw_vreturn f173_29 r173 u173 ⟨rfl, ?_⟩
                    refine zw_aload_n 17 f175_16 rfl rfl ?_
                    refine zw_iload_n 18 f175_17 rfl rfl ?_
                    refine zw_iload_n 19 f175_18 rfl rfl ?_
                    refine zw_virtual_i 22 0 0 [.ref 52, .int a, .int (c * 2)] [(0, .ref 52), (1, .int a), (2, .int (c * 2))] f175_19 rfl n175_294 k175_294_12 rfl (hb_52 _ _ _ _) (by decide +kernel) (Nat.le_of_ble_eq_true rfl) rfl rfl (by decide +kernel) (by decide +kernel) rfl (Nat.le_of_ble_eq_true rfl) rfl ?_
                    refine zw_aload_n 1 f174_0 rfl rfl ?_
                    refine zw_bipush 10 3 f174_1 rfl (by decide +kernel) ?_
                    refine zw_virtual_v 6 0 0 [.ref 52, .int 10] [(0, .ref 52), (1, .int 10)] f174_3 rfl n174_291 k174_291_12 rfl (hb_52 _ _ _ _) (by decide +kernel) (Nat.le_of_ble_eq_true rfl) rfl rfl (by decide +kernel) (by decide +kernel) rfl (Nat.le_of_ble_eq_true rfl) rfl ?_
                    refine zw_aload_n 1 f173_0 rfl rfl ?_
                    refine zw_getI 5 4 f173_1 rfl g173_246_12 (hb_52 _ _ _ _) rfl rfl ?_
                    refine zw_bipush 50 6 f173_4 rfl (by decide +kernel) ?_
                    refine zw_ic_ge_f 9 19 f173_6 (by decide +kernel) rfl (by decide +kernel) ?_
                    refine zw_aload_n 10 f173_9 rfl rfl ?_
                    refine zw_getfield 13 f173_10 rfl g173_74_12 (hb_52 _ _ _ _) rfl ?_
                    refine zw_aload_n 14 f173_13 rfl rfl ?_
                    refine zw_getI 5 17 f173_14 rfl g173_246_12 (hb_52 _ _ _ _) rfl rfl ?_
                    refine zw_iload_n 18 f173_17 rfl rfl ?_
                    refine zw_ast 5 _ 19 f173_18 rfl (hb_71 _ _ _ _) (by decide +kernel) (by decide +kernel) (by decide +kernel) (ha_71 _ _ _ _ _) ?_
                    refine zw_aload_n 20 f173_19 rfl rfl ?_
                    refine zw_dup 21 f173_20 rfl rfl ?_
                    refine zw_getI 5 24 f173_21 rfl g173_246_12 (hb_52 _ _ _ _) rfl rfl ?_
                    refine zw_iconst 1 25 f173_24 rfl (by decide +kernel) ?_
                    refine zw_iadd 6 26 f173_25 rfl (by decide +kernel) ?_
                    refine zw_put _ 29 f173_26 rfl g173_246_12 (hb_52 _ _ _ _) rfl (Nat.le_of_ble_eq_true rfl) (by decide +kernel) (hi_52_29 _ _ _ _ _) ?_
                    refine zw_vreturn f173_29 r173 u173 ⟨rfl, ?_⟩
                    refine zw_iload_n 7 f174_6 rfl rfl ?_
                    refine zw_aload_n 8 f174_7 rfl rfl ?_
                    refine zw_getfield 11 f174_8 rfl g174_13_12 (hb_52 _ _ _ _) rfl ?_
                    refine zw_iload_n 12 f174_11 rfl rfl ?_
                    refine zw_iaload a.toNatClampNeg (A 54 a.toNatClampNeg) 13 f174_12 rfl (hb_54 _ _ _ _) rfl hc1 (zix (by decide) hc1 (show ¬ 8 ≤ a from ix_le hp.1 (by decide) (by decide) hc1 hc2)) rfl ?_
                    refine zw_iadd ((c * 2) + (A 54 a.toNatClampNeg)) 14 f174_13 rfl rfl ?_
                    refine zw_ireturn f174_14 r174 u174 ⟨_, rfl, ?_⟩
                    refine zw_iconst 2 23 f175_22 rfl (by decide +kernel) ?_
                    refine zw_imul (((c * 2) + (A 54 a.toNatClampNeg)) * 2) 24 f175_23 rfl rfl ?_
                    refine zw_ireturn f175_24 r175 u175 ⟨_, rfl, ?_⟩
                    refine zw_iconst 3 13 f176_12 rfl (by decide +kernel) ?_
                    refine zw_imul ((((c * 2) + (A 54 a.toNatClampNeg)) * 2) * 3) 14 f176_13 rfl rfl ?_
                    refine zw_ireturn f176_14 r176 u176 ⟨_, rfl, ?_⟩
                    refine zw_aload_n 23 f177_22 rfl rfl ?_
                    refine zw_getfield 26 f177_23 rfl g177_16_12 (hb_52 _ _ _ _) rfl ?_
                    refine zw_iload_n 27 f177_26 rfl rfl ?_
                    refine zw_iaload a.toNatClampNeg (A 55 a.toNatClampNeg) 28 f177_27 rfl (hb_55 _ _ _ _) rfl hc1 (zix (by decide) hc1 (show ¬ 8 ≤ a from ix_le hp.1 (by decide) (by decide) hc1 hc2)) rfl ?_
                    refine zw_iadd (((((c * 2) + (A 54 a.toNatClampNeg)) * 2) * 3) + (A 55 a.toNatClampNeg)) 29 f177_28 rfl rfl ?_
                    refine zw_ireturn f177_29 r177 u177 ⟨_, rfl, ?_⟩
                    refine zw_istore _ 36 f179_34 rfl (by decide +kernel) rfl ?_
                    refine zw_iload 38 f179_36 rfl zl1_eq ?_
                    refine zw_aload_n 39 f179_38 rfl (zl1_ne rfl rfl (zl1_ne rfl rfl (zl1_ne rfl rfl rfl))) ?_
                    refine zw_iload_n 40 f179_39 rfl (zl1_ne rfl rfl (zl1_ne rfl rfl (zl1_ne rfl rfl rfl))) ?_
                    refine zw_iload_n 41 f179_40 rfl (zl1_ne rfl rfl zl1_eq) ?_
                    refine zw_virtual_i 44 0 0 [.ref 52, .int a, .int (c * 2)] [(0, .ref 52), (1, .int a), (2, .int (c * 2))] f179_41 rfl n179_307 k179_307_12 rfl (hb_52 _ _ _ _) (by decide +kernel) (Nat.le_of_ble_eq_true rfl) rfl rfl (by decide +kernel) (by decide +kernel) rfl (Nat.le_of_ble_eq_true rfl) rfl ?_
                    refine zw_aload_n 1 f178_0 rfl rfl ?_
                    refine zw_getfield 4 f178_1 rfl g178_7_12 (hb_52 _ _ _ _) rfl ?_
                    refine zw_iload_n 5 f178_4 rfl rfl ?_
                    refine zw_iaload a.toNatClampNeg (A 53 a.toNatClampNeg) 6 f178_5 rfl (hb_53 _ _ _ _) rfl hc1 (zix (by decide) hc1 (show ¬ 8 ≤ a from ix_le hp.1 (by decide) (by decide) hc1 hc2)) rfl ?_
                    refine zw_iconst 4 7 f178_6 rfl (by decide +kernel) ?_
                    refine zw_ic_ne 10 16 f178_7 (by decide +kernel) rfl (fun hc20 => ?_) (fun hc20 => ?_)
                    · refine zw_aload_n 17 f178_16 rfl rfl ?_
                      refine zw_iload_n 18 f178_17 rfl rfl ?_
                      refine zw_virtual_i 21 0 0 [.ref 52, .int a] [(0, .ref 52), (1, .int a)] f178_18 rfl n178_158 k178_158_12 rfl (hb_52 _ _ _ _) (by decide +kernel) (Nat.le_of_ble_eq_true rfl) rfl rfl (by decide +kernel) (by decide +kernel) rfl (Nat.le_of_ble_eq_true rfl) rfl ?_
                      refine zw_aload_n 1 f126_0 rfl rfl ?_
                      refine zw_getfield 4 f126_1 rfl g126_7_12 (hb_52 _ _ _ _) rfl ?_
                      refine zw_iload_n 5 f126_4 rfl rfl ?_
                      refine zw_iaload a.toNatClampNeg (A 53 a.toNatClampNeg) 6 f126_5 rfl (hb_53 _ _ _ _) rfl hc1 (zix (by decide) hc1 (show ¬ 8 ≤ a from ix_le hp.1 (by decide) (by decide) hc1 hc2)) rfl ?_
                      refine zw_iconst 3 7 f126_6 rfl (by decide +kernel) ?_
                      refine zw_ic_eq 10 20 f126_7 (by decide +kernel) rfl (fun hc21 => ?_) (fun hc21 => ?_)
                      · refine zw_iconst 1 21 f126_20 rfl (by decide +kernel) ?_
                        refine zw_goto 25 f126_21 (by decide +kernel) ?_
                        refine zw_zreturn f126_25 r126 u126 (by decide +kernel) ⟨_, rfl, ?_⟩
                        refine zw_if_eq_f 24 30 f178_21 (by decide +kernel) rfl (by decide +kernel) ?_
                        refine zw_aload_n 25 f178_24 rfl rfl ?_
                        refine zw_bipush 40 27 f178_25 rfl (by decide +kernel) ?_
                        refine zw_virtual_v 30 0 0 [.ref 52, .int 40] [(0, .ref 52), (1, .int 40)] f178_27 rfl n178_291 k178_291_12 rfl (hb_52 _ _ _ _) (by decide +kernel) (Nat.le_of_ble_eq_true rfl) rfl rfl (by decide +kernel) (by decide +kernel) rfl (Nat.le_of_ble_eq_true rfl) rfl ?_
                        refine zw_aload_n 1 f173_0 rfl rfl ?_
                        refine zw_getI 6 4 f173_1 rfl g173_246_12 (hb_52 _ _ _ _) rfl rfl ?_
                        refine zw_bipush 50 6 f173_4 rfl (by decide +kernel) ?_
                        refine zw_ic_ge_f 9 19 f173_6 (by decide +kernel) rfl (by decide +kernel) ?_
                        refine zw_aload_n 10 f173_9 rfl rfl ?_
                        refine zw_getfield 13 f173_10 rfl g173_74_12 (hb_52 _ _ _ _) rfl ?_
                        refine zw_aload_n 14 f173_13 rfl rfl ?_
                        refine zw_getI 6 17 f173_14 rfl g173_246_12 (hb_52 _ _ _ _) rfl rfl ?_
                        refine zw_iload_n 18 f173_17 rfl rfl ?_
                        refine zw_ast 6 _ 19 f173_18 rfl (hb_71 _ _ _ _) (by decide +kernel) (by decide +kernel) (by decide +kernel) (ha_71 _ _ _ _ _) ?_
                        refine zw_aload_n 20 f173_19 rfl rfl ?_
                        refine zw_dup 21 f173_20 rfl rfl ?_
                        refine zw_getI 6 24 f173_21 rfl g173_246_12 (hb_52 _ _ _ _) rfl rfl ?_
                        refine zw_iconst 1 25 f173_24 rfl (by decide +kernel) ?_
                        refine zw_iadd 7 26 f173_25 rfl (by decide +kernel) ?_
                        refine zw_put _ 29 f173_26 rfl g173_246_12 (hb_52 _ _ _ _) rfl (Nat.le_of_ble_eq_true rfl) (by decide +kernel) (hi_52_29 _ _ _ _ _) ?_
                        refine zw_vreturn f173_29 r173 u173 ⟨rfl, ?_⟩
                        refine zw_aload_n 31 f178_30 rfl rfl ?_
                        refine zw_bipush 12 33 f178_31 rfl (by decide +kernel) ?_
                        refine zw_virtual_v 36 0 0 [.ref 52, .int 12] [(0, .ref 52), (1, .int 12)] f178_33 rfl n178_291 k178_291_12 rfl (hb_52 _ _ _ _) (by decide +kernel) (Nat.le_of_ble_eq_true rfl) rfl rfl (by decide +kernel) (by decide +kernel) rfl (Nat.le_of_ble_eq_true rfl) rfl ?_
                        refine zw_aload_n 1 f173_0 rfl rfl ?_
                        refine zw_getI 7 4 f173_1 rfl g173_246_12 (hb_52 _ _ _ _) rfl rfl ?_
                        refine zw_bipush 50 6 f173_4 rfl (by decide +kernel) ?_
                        refine zw_ic_ge_f 9 19 f173_6 (by decide +kernel) rfl (by decide +kernel) ?_
                        refine zw_aload_n 10 f173_9 rfl rfl ?_
                        refine zw_getfield 13 f173_10 rfl g173_74_12 (hb_52 _ _ _ _) rfl ?_
                        refine zw_aload_n 14 f173_13 rfl rfl ?_
                        refine zw_getI 7 17 f173_14 rfl g173_246_12 (hb_52 _ _ _ _) rfl rfl ?_
                        refine zw_iload_n 18 f173_17 rfl rfl ?_
                        refine zw_ast 7 _ 19 f173_18 rfl (hb_71 _ _ _ _) (by decide +kernel) (by decide +kernel) (by decide +kernel) (ha_71 _ _ _ _ _) ?_
                        refine zw_aload_n 20 f173_19 rfl rfl ?_
                        refine zw_dup 21 f173_20 rfl rfl ?_
                        refine zw_getI 7 24 f173_21 rfl g173_246_12 (hb_52 _ _ _ _) rfl rfl ?_
                        refine zw_iconst 1 25 f173_24 rfl (by decide +kernel) ?_
                        refine zw_iadd 8 26 f173_25 rfl (by decide +kernel) ?_
                        refine zw_put _ 29 f173_26 rfl g173_246_12 (hb_52 _ _ _ _) rfl (Nat.le_of_ble_eq_true rfl) (by decide +kernel) (hi_52_29 _ _ _ _ _) ?_
                        refine zw_vreturn f173_29 r173 u173 ⟨rfl, ?_⟩
                        refine zw_iload_n 37 f178_36 rfl rfl ?_
                        refine zw_aload_n 38 f178_37 rfl rfl ?_
                        refine zw_getfield 41 f178_38 rfl g178_13_12 (hb_52 _ _ _ _) rfl ?_
                        refine zw_iload_n 42 f178_41 rfl rfl ?_
                        refine zw_iaload a.toNatClampNeg (A 54 a.toNatClampNeg) 43 f178_42 rfl (hb_54 _ _ _ _) rfl hc1 (zix (by decide) hc1 (show ¬ 8 ≤ a from ix_le hp.1 (by decide) (by decide) hc1 hc2)) rfl ?_
                        refine zw_ixor ((c * 2) ^^^ (A 54 a.toNatClampNeg)) 44 f178_43 rfl rfl ?_
                        refine zw_aload_n 45 f178_44 rfl rfl ?_
                        refine zw_iload_n 46 f178_45 rfl rfl ?_
                        refine zw_virtual_i 49 0 0 [.ref 52, .int a] [(0, .ref 52), (1, .int a)] f178_46 rfl n178_158 k178_158_12 rfl (hb_52 _ _ _ _) (by decide +kernel) (Nat.le_of_ble_eq_true rfl) rfl rfl (by decide +kernel) (by decide +kernel) rfl (Nat.le_of_ble_eq_true rfl) rfl ?_
                        refine zw_aload_n 1 f126_0 rfl rfl ?_
                        refine zw_getfield 4 f126_1 rfl g126_7_12 (hb_52 _ _ _ _) rfl ?_
                        refine zw_iload_n 5 f126_4 rfl rfl ?_
                        refine zw_iaload a.toNatClampNeg (A 53 a.toNatClampNeg) 6 f126_5 rfl (hb_53 _ _ _ _) rfl hc1 (zix (by decide) hc1 (show ¬ 8 ≤ a from ix_le hp.1 (by decide) (by decide) hc1 hc2)) rfl ?_
                        refine zw_iconst 3 7 f126_6 rfl (by decide +kernel) ?_
                        refine zw_ic_eq_t 20 f126_7 (by decide +kernel) hc21 ?_
                        refine zw_iconst 1 21 f126_20 rfl (by decide +kernel) ?_
                        refine zw_goto 25 f126_21 (by decide +kernel) ?_
                        refine zw_zreturn f126_25 r126 u126 (by decide +kernel) ⟨_, rfl, ?_⟩
                        refine zw_if_eq_f 52 61 f178_49 (by decide +kernel) rfl (by decide +kernel) ?_
                        refine zw_aload_n 53 f178_52 rfl rfl ?_
                        refine zw_getfield 56 f178_53 rfl g178_19_12 (hb_52 _ _ _ _) rfl ?_
                        refine zw_iload_n 57 f178_56 rfl rfl ?_
                        refine zw_iaload a.toNatClampNeg (A 56 a.toNatClampNeg) 58 f178_57 rfl (hb_56 _ _ _ _) rfl hc1 (zix (by decide) hc1 (show ¬ 8 ≤ a from ix_le hp.1 (by decide) (by decide) hc1 hc2)) rfl ?_
                        refine zw_goto 62 f178_58 (by decide +kernel) ?_
                        refine zw_iadd (((c * 2) ^^^ (A 54 a.toNatClampNeg)) + (A 56 a.toNatClampNeg)) 63 f178_62 rfl rfl ?_
                        refine zw_aload_n 64 f178_63 rfl rfl ?_
                        refine zw_getfield 67 f178_64 rfl g178_7_12 (hb_52 _ _ _ _) rfl ?_
                        refine zw_iload_n 68 f178_67 rfl rfl ?_
                        refine zw_iaload a.toNatClampNeg (A 53 a.toNatClampNeg) 69 f178_68 rfl (hb_53 _ _ _ _) rfl hc1 (zix (by decide) hc1 (show ¬ 8 ≤ a from ix_le hp.1 (by decide) (by decide) hc1 hc2)) rfl ?_
                        refine zw_iconst 4 70 f178_69 rfl (by decide +kernel) ?_
                        refine zw_ic_ne_t 82 f178_70 (by decide +kernel) hc20 ?_
                        refine zw_iconst 0 83 f178_82 rfl (by decide +kernel) ?_
                        refine zw_iadd ((((c * 2) ^^^ (A 54 a.toNatClampNeg)) + (A 56 a.toNatClampNeg)) + 0) 84 f178_83 rfl rfl ?_
                        refine zw_ireturn f178_84 r178 u178 ⟨_, rfl, ?_⟩
                        refine zw_isub ((((((c * 2) + (A 54 a.toNatClampNeg)) * 2) * 3) + (A 55 a.toNatClampNeg)) - ((((c * 2) ^^^ (A 54 a.toNatClampNeg)) + (A 56 a.toNatClampNeg)) + 0)) 45 f179_44 rfl rfl ?_
                        refine zw_ireturn f179_45 r179 u179 ⟨_, rfl, ?_⟩
                        refine zw_virtual_i 79 0 0 [.ref 52, .int ((((((c * 2) + (A 54 a.toNatClampNeg)) * 2) * 3) + (A 55 a.toNatClampNeg)) - ((((c * 2) ^^^ (A 54 a.toNatClampNeg)) + (A 56 a.toNatClampNeg)) + 0))] [(0, .ref 52), (1, .int ((((((c * 2) + (A 54 a.toNatClampNeg)) * 2) * 3) + (A 55 a.toNatClampNeg)) - ((((c * 2) ^^^ (A 54 a.toNatClampNeg)) + (A 56 a.toNatClampNeg)) + 0)))] f180_76 rfl n180_205 k180_205_12 rfl (hb_52 _ _ _ _) (by decide +kernel) (Nat.le_of_ble_eq_true rfl) rfl rfl (by decide +kernel) (by decide +kernel) rfl (Nat.le_of_ble_eq_true rfl) rfl ?_
                        refine zw_aload_n 1 f122_0 rfl rfl ?_
                        refine zw_iconst 0 2 f122_1 rfl (by decide +kernel) ?_
                        refine zw_put _ 5 f122_2 rfl g122_111_12 (hb_52 _ _ _ _) rfl (Nat.le_of_ble_eq_true rfl) (by decide +kernel) (hi_52_27 _ _ _ _ _) ?_
                        refine zw_iload_n 6 f122_5 rfl rfl ?_
                        refine zw_ireturn f122_6 r122 u122 ⟨_, rfl, ?_⟩
                        refine zw_ireturn f180_79 r180 u180 ?_
                        exact ⟨_, _, _, _, rfl, (KQ.i rfl (KQ.i rfl (KQ.a rfl (KQ.i rfl (KQ.a rfl (KQ.i rfl (KQ.a rfl (KQ.i rfl (KQ.a rfl (KQ.i rfl (KQ.a rfl (KQ.i rfl (KQ.a rfl (KQ.i rfl (KQ.a rfl (KQ.i rfl (KQ.a rfl (KQ.i rfl KQ.rf)))))))))))))))))), ⟨hi.1, hi.2.1, 8, by omega, (show _ = nI 8 from rfl)⟩, _, rfl⟩
                      · refine zw_aload_n 11 f126_10 rfl rfl ?_
                        refine zw_getfield 14 f126_11 rfl g126_7_12 (hb_52 _ _ _ _) rfl ?_
                        refine zw_iload_n 15 f126_14 rfl rfl ?_
                        refine zw_iaload a.toNatClampNeg (A 53 a.toNatClampNeg) 16 f126_15 rfl (hb_53 _ _ _ _) rfl hc1 (zix (by decide) hc1 (show ¬ 8 ≤ a from ix_le hp.1 (by decide) (by decide) hc1 hc2)) rfl ?_
                        refine zw_iconst 4 17 f126_16 rfl (by decide +kernel) ?_
                        refine zw_ic_ne_t 24 f126_17 (by decide +kernel) hc20 ?_
                        refine zw_iconst 0 25 f126_24 rfl (by decide +kernel) ?_
                        refine zw_zreturn f126_25 r126 u126 (by decide +kernel) ⟨_, rfl, ?_⟩
                        refine zw_if_eq_t 30 f178_21 (by decide +kernel) (by decide +kernel) ?_
                        refine zw_aload_n 31 f178_30 rfl rfl ?_
                        refine zw_bipush 12 33 f178_31 rfl (by decide +kernel) ?_
                        refine zw_virtual_v 36 0 0 [.ref 52, .int 12] [(0, .ref 52), (1, .int 12)] f178_33 rfl n178_291 k178_291_12 rfl (hb_52 _ _ _ _) (by decide +kernel) (Nat.le_of_ble_eq_true rfl) rfl rfl (by decide +kernel) (by decide +kernel) rfl (Nat.le_of_ble_eq_true rfl) rfl ?_
                        refine zw_aload_n 1 f173_0 rfl rfl ?_
                        refine zw_getI 6 4 f173_1 rfl g173_246_12 (hb_52 _ _ _ _) rfl rfl ?_
                        refine zw_bipush 50 6 f173_4 rfl (by decide +kernel) ?_
                        refine zw_ic_ge_f 9 19 f173_6 (by decide +kernel) rfl (by decide +kernel) ?_
                        refine zw_aload_n 10 f173_9 rfl rfl ?_
                        refine zw_getfield 13 f173_10 rfl g173_74_12 (hb_52 _ _ _ _) rfl ?_
                        refine zw_aload_n 14 f173_13 rfl rfl ?_
                        refine zw_getI 6 17 f173_14 rfl g173_246_12 (hb_52 _ _ _ _) rfl rfl ?_
                        refine zw_iload_n 18 f173_17 rfl rfl ?_
                        refine zw_ast 6 _ 19 f173_18 rfl (hb_71 _ _ _ _) (by decide +kernel) (by decide +kernel) (by decide +kernel) (ha_71 _ _ _ _ _) ?_
                        refine zw_aload_n 20 f173_19 rfl rfl ?_
                        refine zw_dup 21 f173_20 rfl rfl ?_
                        refine zw_getI 6 24 f173_21 rfl g173_246_12 (hb_52 _ _ _ _) rfl rfl ?_
                        refine zw_iconst 1 25 f173_24 rfl (by decide +kernel) ?_
                        refine zw_iadd 7 26 f173_25 rfl (by decide +kernel) ?_
                        refine zw_put _ 29 f173_26 rfl g173_246_12 (hb_52 _ _ _ _) rfl (Nat.le_of_ble_eq_true rfl) (by decide +kernel) (hi_52_29 _ _ _ _ _) ?_
                        refine zw_vreturn f173_29 r173 u173 ⟨rfl, ?_⟩
                        refine zw_iload_n 37 f178_36 rfl rfl ?_
                        refine zw_aload_n 38 f178_37 rfl rfl ?_
                        refine zw_getfield 41 f178_38 rfl g178_13_12 (hb_52 _ _ _ _) rfl ?_
                        refine zw_iload_n 42 f178_41 rfl rfl ?_
                        refine zw_iaload a.toNatClampNeg (A 54 a.toNatClampNeg) 43 f178_42 rfl (hb_54 _ _ _ _) rfl hc1 (zix (by decide) hc1 (show ¬ 8 ≤ a from ix_le hp.1 (by decide) (by decide) hc1 hc2)) rfl ?_
                        refine zw_ixor ((c * 2) ^^^ (A 54 a.toNatClampNeg)) 44 f178_43 rfl rfl ?_
                        refine zw_aload_n 45 f178_44 rfl rfl ?_
                        refine zw_iload_n 46 f178_45 rfl rfl ?_
                        refine zw_virtual_i 49 0 0 [.ref 52, .int a] [(0, .ref 52), (1, .int a)] f178_46 rfl n178_158 k178_158_12 rfl (hb_52 _ _ _ _) (by decide +kernel) (Nat.le_of_ble_eq_true rfl) rfl rfl (by decide +kernel) (by decide +kernel) rfl (Nat.le_of_ble_eq_true rfl) rfl ?_
                        refine zw_aload_n 1 f126_0 rfl rfl ?_
                        refine zw_getfield 4 f126_1 rfl g126_7_12 (hb_52 _ _ _ _) rfl ?_
                        refine zw_iload_n 5 f126_4 rfl rfl ?_
                        refine zw_iaload a.toNatClampNeg (A 53 a.toNatClampNeg) 6 f126_5 rfl (hb_53 _ _ _ _) rfl hc1 (zix (by decide) hc1 (show ¬ 8 ≤ a from ix_le hp.1 (by decide) (by decide) hc1 hc2)) rfl ?_
                        refine zw_iconst 3 7 f126_6 rfl (by decide +kernel) ?_
                        refine zw_ic_eq_f 10 20 f126_7 (by decide +kernel) rfl hc21 ?_
                        refine zw_aload_n 11 f126_10 rfl rfl ?_
                        refine zw_getfield 14 f126_11 rfl g126_7_12 (hb_52 _ _ _ _) rfl ?_
                        refine zw_iload_n 15 f126_14 rfl rfl ?_
                        refine zw_iaload a.toNatClampNeg (A 53 a.toNatClampNeg) 16 f126_15 rfl (hb_53 _ _ _ _) rfl hc1 (zix (by decide) hc1 (show ¬ 8 ≤ a from ix_le hp.1 (by decide) (by decide) hc1 hc2)) rfl ?_
                        refine zw_iconst 4 17 f126_16 rfl (by decide +kernel) ?_
                        refine zw_ic_ne_t 24 f126_17 (by decide +kernel) hc20 ?_
                        refine zw_iconst 0 25 f126_24 rfl (by decide +kernel) ?_
                        refine zw_zreturn f126_25 r126 u126 (by decide +kernel) ⟨_, rfl, ?_⟩
                        refine zw_if_eq_t 61 f178_49 (by decide +kernel) (by decide +kernel) ?_
                        refine zw_iconst 0 62 f178_61 rfl (by decide +kernel) ?_
                        refine zw_iadd (((c * 2) ^^^ (A 54 a.toNatClampNeg)) + 0) 63 f178_62 rfl rfl ?_
                        refine zw_aload_n 64 f178_63 rfl rfl ?_
                        refine zw_getfield 67 f178_64 rfl g178_7_12 (hb_52 _ _ _ _) rfl ?_
                        refine zw_iload_n 68 f178_67 rfl rfl ?_
                        refine zw_iaload a.toNatClampNeg (A 53 a.toNatClampNeg) 69 f178_68 rfl (hb_53 _ _ _ _) rfl hc1 (zix (by decide) hc1 (show ¬ 8 ≤ a from ix_le hp.1 (by decide) (by decide) hc1 hc2)) rfl ?_
                        refine zw_iconst 4 70 f178_69 rfl (by decide +kernel) ?_
                        refine zw_ic_ne_t 82 f178_70 (by decide +kernel) hc20 ?_
                        refine zw_iconst 0 83 f178_82 rfl (by decide +kernel) ?_
                        refine zw_iadd ((((c * 2) ^^^ (A 54 a.toNatClampNeg)) + 0) + 0) 84 f178_83 rfl rfl ?_
                        refine zw_ireturn f178_84 r178 u178 ⟨_, rfl, ?_⟩
                        refine zw_isub ((((((c * 2) + (A 54 a.toNatClampNeg)) * 2) * 3) + (A 55 a.toNatClampNeg)) - ((((c * 2) ^^^ (A 54 a.toNatClampNeg)) + 0) + 0)) 45 f179_44 rfl rfl ?_
                        refine zw_ireturn f179_45 r179 u179 ⟨_, rfl, ?_⟩
                        refine zw_virtual_i 79 0 0 [.ref 52, .int ((((((c * 2) + (A 54 a.toNatClampNeg)) * 2) * 3) + (A 55 a.toNatClampNeg)) - ((((c * 2) ^^^ (A 54 a.toNatClampNeg)) + 0) + 0))] [(0, .ref 52), (1, .int ((((((c * 2) + (A 54 a.toNatClampNeg)) * 2) * 3) + (A 55 a.toNatClampNeg)) - ((((c * 2) ^^^ (A 54 a.toNatClampNeg)) + 0) + 0)))] f180_76 rfl n180_205 k180_205_12 rfl (hb_52 _ _ _ _) (by decide +kernel) (Nat.le_of_ble_eq_true rfl) rfl rfl (by decide +kernel) (by decide +kernel) rfl (Nat.le_of_ble_eq_true rfl) rfl ?_
                        refine zw_aload_n 1 f122_0 rfl rfl ?_
                        refine zw_iconst 0 2 f122_1 rfl (by decide +kernel) ?_
                        refine zw_put _ 5 f122_2 rfl g122_111_12 (hb_52 _ _ _ _) rfl (Nat.le_of_ble_eq_true rfl) (by decide +kernel) (hi_52_27 _ _ _ _ _) ?_
                        refine zw_iload_n 6 f122_5 rfl rfl ?_
                        refine zw_ireturn f122_6 r122 u122 ⟨_, rfl, ?_⟩
                        refine zw_ireturn f180_79 r180 u180 ?_
                        exact ⟨_, _, _, _, rfl, (KQ.i rfl (KQ.i rfl (KQ.a rfl (KQ.i rfl (KQ.a rfl (KQ.i rfl (KQ.a rfl (KQ.i rfl (KQ.a rfl (KQ.i rfl (KQ.a rfl (KQ.i rfl (KQ.a rfl (KQ.i rfl (KQ.a rfl (KQ.i rfl KQ.rf)))))))))))))))), ⟨hi.1, hi.2.1, 7, by omega, (show _ = nI 7 from rfl)⟩, _, rfl⟩
                    · refine zw_aload_n 11 f178_10 rfl rfl ?_
                      refine zw_bipush 50 13 f178_11 rfl (by decide +kernel) ?_
                      refine zw_virtual_v 16 0 0 [.ref 52, .int 50] [(0, .ref 52), (1, .int 50)] f178_13 rfl n178_291 k178_291_12 rfl (hb_52 _ _ _ _) (by decide +kernel) (Nat.le_of_ble_eq_true rfl) rfl rfl (by decide +kernel) (by decide +kernel) rfl (Nat.le_of_ble_eq_true rfl) rfl ?_
                      refine zw_aload_n 1 f173_0 rfl rfl ?_
                      refine zw_getI 6 4 f173_1 rfl g173_246_12 (hb_52 _ _ _ _) rfl rfl ?_
                      refine zw_bipush 50 6 f173_4 rfl (by decide +kernel) ?_
                      refine zw_ic_ge_f 9 19 f173_6 (by decide +kernel) rfl (by decide +kernel) ?_
                      refine zw_aload_n 10 f173_9 rfl rfl ?_
                      refine zw_getfield 13 f173_10 rfl g173_74_12 (hb_52 _ _ _ _) rfl ?_
                      refine zw_aload_n 14 f173_13 rfl rfl ?_
                      refine zw_getI 6 17 f173_14 rfl g173_246_12 (hb_52 _ _ _ _) rfl rfl ?_
                      refine zw_iload_n 18 f173_17 rfl rfl ?_
                      refine zw_ast 6 _ 19 f173_18 rfl (hb_71 _ _ _ _) (by decide +kernel) (by decide +kernel) (by decide +kernel) (ha_71 _ _ _ _ _) ?_
                      refine zw_aload_n 20 f173_19 rfl rfl ?_
                      refine zw_dup 21 f173_20 rfl rfl ?_
                      refine zw_getI 6 24 f173_21 rfl g173_246_12 (hb_52 _ _ _ _) rfl rfl ?_
                      refine zw_iconst 1 25 f173_24 rfl (by decide +kernel) ?_
                      refine zw_iadd 7 26 f173_25 rfl (by decide +kernel) ?_
                      refine zw_put _ 29 f173_26 rfl g173_246_12 (hb_52 _ _ _ _) rfl (Nat.le_of_ble_eq_true rfl) (by decide +kernel) (hi_52_29 _ _ _ _ _) ?_
                      refine zw_vreturn f173_29 r173 u173 ⟨rfl, ?_⟩
                      refine zw_aload_n 17 f178_16 rfl rfl ?_
                      refine zw_iload_n 18 f178_17 rfl rfl ?_
                      refine zw_virtual_i 21 0 0 [.ref 52, .int a] [(0, .ref 52), (1, .int a)] f178_18 rfl n178_158 k178_158_12 rfl (hb_52 _ _ _ _) (by decide +kernel) (Nat.le_of_ble_eq_true rfl) rfl rfl (by decide +kernel) (by decide +kernel) rfl (Nat.le_of_ble_eq_true rfl) rfl ?_
                      refine zw_aload_n 1 f126_0 rfl rfl ?_
                      refine zw_getfield 4 f126_1 rfl g126_7_12 (hb_52 _ _ _ _) rfl ?_
                      refine zw_iload_n 5 f126_4 rfl rfl ?_
                      refine zw_iaload a.toNatClampNeg (A 53 a.toNatClampNeg) 6 f126_5 rfl (hb_53 _ _ _ _) rfl hc1 (zix (by decide) hc1 (show ¬ 8 ≤ a from ix_le hp.1 (by decide) (by decide) hc1 hc2)) rfl ?_
                      refine zw_iconst 3 7 f126_6 rfl (by decide +kernel) ?_
                      refine zw_ic_eq 10 20 f126_7 (by decide +kernel) rfl (fun hc22 => ?_) (fun hc22 => ?_)
                      · refine zw_iconst 1 21 f126_20 rfl (by decide +kernel) ?_
                        refine zw_goto 25 f126_21 (by decide +kernel) ?_
                        refine zw_zreturn f126_25 r126 u126 (by decide +kernel) ⟨_, rfl, ?_⟩
                        refine zw_if_eq_f 24 30 f178_21 (by decide +kernel) rfl (by decide +kernel) ?_
                        refine zw_aload_n 25 f178_24 rfl rfl ?_
                        refine zw_bipush 40 27 f178_25 rfl (by decide +kernel) ?_
                        refine zw_virtual_v 30 0 0 [.ref 52, .int 40] [(0, .ref 52), (1, .int 40)] f178_27 rfl n178_291 k178_291_12 rfl (hb_52 _ _ _ _) (by decide +kernel) (Nat.le_of_ble_eq_true rfl) rfl rfl (by decide +kernel) (by decide +kernel) rfl (Nat.le_of_ble_eq_true rfl) rfl ?_
                        refine zw_aload_n 1 f173_0 rfl rfl ?_
                        refine zw_getI 7 4 f173_1 rfl g173_246_12 (hb_52 _ _ _ _) rfl rfl ?_
                        refine zw_bipush 50 6 f173_4 rfl (by decide +kernel) ?_
                        refine zw_ic_ge_f 9 19 f173_6 (by decide +kernel) rfl (by decide +kernel) ?_
                        refine zw_aload_n 10 f173_9 rfl rfl ?_
                        refine zw_getfield 13 f173_10 rfl g173_74_12 (hb_52 _ _ _ _) rfl ?_
                        refine zw_aload_n 14 f173_13 rfl rfl ?_
                        refine zw_getI 7 17 f173_14 rfl g173_246_12 (hb_52 _ _ _ _) rfl rfl ?_
                        refine zw_iload_n 18 f173_17 rfl rfl ?_
                        refine zw_ast 7 _ 19 f173_18 rfl (hb_71 _ _ _ _) (by decide +kernel) (by decide +kernel) (by decide +kernel) (ha_71 _ _ _ _ _) ?_
                        refine zw_aload_n 20 f173_19 rfl rfl ?_
                        refine zw_dup 21 f173_20 rfl rfl ?_
                        refine zw_getI 7 24 f173_21 rfl g173_246_12 (hb_52 _ _ _ _) rfl rfl ?_
                        refine zw_iconst 1 25 f173_24 rfl (by decide +kernel) ?_
                        refine zw_iadd 8 26 f173_25 rfl (by decide +kernel) ?_
                        refine zw_put _ 29 f173_26 rfl g173_246_12 (hb_52 _ _ _ _) rfl (Nat.le_of_ble_eq_true rfl) (by decide +kernel) (hi_52_29 _ _ _ _ _) ?_
                        refine zw_vreturn f173_29 r173 u173 ⟨rfl, ?_⟩
                        refine zw_aload_n 31 f178_30 rfl rfl ?_
                        refine zw_bipush 12 33 f178_31 rfl (by decide +kernel) ?_
                        refine zw_virtual_v 36 0 0 [.ref 52, .int 12] [(0, .ref 52), (1, .int 12)] f178_33 rfl n178_291 k178_291_12 rfl (hb_52 _ _ _ _) (by decide +kernel) (Nat.le_of_ble_eq_true rfl) rfl rfl (by decide +kernel) (by decide +kernel) rfl (Nat.le_of_ble_eq_true rfl) rfl ?_
                        refine zw_aload_n 1 f173_0 rfl rfl ?_
                        refine zw_getI 8 4 f173_1 rfl g173_246_12 (hb_52 _ _ _ _) rfl rfl ?_
                        refine zw_bipush 50 6 f173_4 rfl (by decide +kernel) ?_
                        refine zw_ic_ge_f 9 19 f173_6 (by decide +kernel) rfl (by decide +kernel) ?_
                        refine zw_aload_n 10 f173_9 rfl rfl ?_
                        refine zw_getfield 13 f173_10 rfl g173_74_12 (hb_52 _ _ _ _) rfl ?_
                        refine zw_aload_n 14 f173_13 rfl rfl ?_
                        refine zw_getI 8 17 f173_14 rfl g173_246_12 (hb_52 _ _ _ _) rfl rfl ?_
                        refine zw_iload_n 18 f173_17 rfl rfl ?_
                        refine zw_ast 8 _ 19 f173_18 rfl (hb_71 _ _ _ _) (by decide +kernel) (by decide +kernel) (by decide +kernel) (ha_71 _ _ _ _ _) ?_
                        refine zw_aload_n 20 f173_19 rfl rfl ?_
                        refine zw_dup 21 f173_20 rfl rfl ?_
                        refine zw_getI 8 24 f173_21 rfl g173_246_12 (hb_52 _ _ _ _) rfl rfl ?_
                        refine zw_iconst 1 25 f173_24 rfl (by decide +kernel) ?_
                        refine zw_iadd 9 26 f173_25 rfl (by decide +kernel) ?_
                        refine zw_put _ 29 f173_26 rfl g173_246_12 (hb_52 _ _ _ _) rfl (Nat.le_of_ble_eq_true rfl) (by decide +kernel) (hi_52_29 _ _ _ _ _) ?_
                        refine zw_vreturn f173_29 r173 u173 ⟨rfl, ?_⟩
                        refine zw_iload_n 37 f178_36 rfl rfl ?_
                        refine zw_aload_n 38 f178_37 rfl rfl ?_
                        refine zw_getfield 41 f178_38 rfl g178_13_12 (hb_52 _ _ _ _) rfl ?_
                        refine zw_iload_n 42 f178_41 rfl rfl ?_
                        refine zw_iaload a.toNatClampNeg (A 54 a.toNatClampNeg) 43 f178_42 rfl (hb_54 _ _ _ _) rfl hc1 (zix (by decide) hc1 (show ¬ 8 ≤ a from ix_le hp.1 (by decide) (by decide) hc1 hc2)) rfl ?_
                        refine zw_ixor ((c * 2) ^^^ (A 54 a.toNatClampNeg)) 44 f178_43 rfl rfl ?_
                        refine zw_aload_n 45 f178_44 rfl rfl ?_
                        refine zw_iload_n 46 f178_45 rfl rfl ?_
                        refine zw_virtual_i 49 0 0 [.ref 52, .int a] [(0, .ref 52), (1, .int a)] f178_46 rfl n178_158 k178_158_12 rfl (hb_52 _ _ _ _) (by decide +kernel) (Nat.le_of_ble_eq_true rfl) rfl rfl (by decide +kernel) (by decide +kernel) rfl (Nat.le_of_ble_eq_true rfl) rfl ?_
                        refine zw_aload_n 1 f126_0 rfl rfl ?_
                        refine zw_getfield 4 f126_1 rfl g126_7_12 (hb_52 _ _ _ _) rfl ?_
                        refine zw_iload_n 5 f126_4 rfl rfl ?_
                        refine zw_iaload a.toNatClampNeg (A 53 a.toNatClampNeg) 6 f126_5 rfl (hb_53 _ _ _ _) rfl hc1 (zix (by decide) hc1 (show ¬ 8 ≤ a from ix_le hp.1 (by decide) (by decide) hc1 hc2)) rfl ?_
                        refine zw_iconst 3 7 f126_6 rfl (by decide +kernel) ?_
                        refine zw_ic_eq_t 20 f126_7 (by decide +kernel) hc22 ?_
                        refine zw_iconst 1 21 f126_20 rfl (by decide +kernel) ?_
                        refine zw_goto 25 f126_21 (by decide +kernel) ?_
                        refine zw_zreturn f126_25 r126 u126 (by decide +kernel) ⟨_, rfl, ?_⟩
                        refine zw_if_eq_f 52 61 f178_49 (by decide +kernel) rfl (by decide +kernel) ?_
                        refine zw_aload_n 53 f178_52 rfl rfl ?_
                        refine zw_getfield 56 f178_53 rfl g178_19_12 (hb_52 _ _ _ _) rfl ?_
                        refine zw_iload_n 57 f178_56 rfl rfl ?_
                        refine zw_iaload a.toNatClampNeg (A 56 a.toNatClampNeg) 58 f178_57 rfl (hb_56 _ _ _ _) rfl hc1 (zix (by decide) hc1 (show ¬ 8 ≤ a from ix_le hp.1 (by decide) (by decide) hc1 hc2)) rfl ?_
                        refine zw_goto 62 f178_58 (by decide +kernel) ?_
                        refine zw_iadd (((c * 2) ^^^ (A 54 a.toNatClampNeg)) + (A 56 a.toNatClampNeg)) 63 f178_62 rfl rfl ?_
                        refine zw_aload_n 64 f178_63 rfl rfl ?_
                        refine zw_getfield 67 f178_64 rfl g178_7_12 (hb_52 _ _ _ _) rfl ?_
                        refine zw_iload_n 68 f178_67 rfl rfl ?_
                        refine zw_iaload a.toNatClampNeg (A 53 a.toNatClampNeg) 69 f178_68 rfl (hb_53 _ _ _ _) rfl hc1 (zix (by decide) hc1 (show ¬ 8 ≤ a from ix_le hp.1 (by decide) (by decide) hc1 hc2)) rfl ?_
                        refine zw_iconst 4 70 f178_69 rfl (by decide +kernel) ?_
                        refine zw_ic_ne_f 73 82 f178_70 (by decide +kernel) rfl hc20 ?_
                        refine zw_aload_n 74 f178_73 rfl rfl ?_
                        refine zw_getfield 77 f178_74 rfl g178_55_12 (hb_52 _ _ _ _) rfl ?_
                        refine zw_iload_n 78 f178_77 rfl rfl ?_
                        refine zw_iaload a.toNatClampNeg ((W.2.2.2.2.2.2.2) a.toNatClampNeg) 79 f178_78 rfl (hb_66 _ _ _ _) rfl hc1 (zix (by decide) hc1 (show ¬ 8 ≤ a from ix_le hp.1 (by decide) (by decide) hc1 hc2)) (congrFun (hR.cnt) a.toNatClampNeg) ?_
                        refine zw_goto 83 f178_79 (by decide +kernel) ?_
                        refine zw_iadd ((((c * 2) ^^^ (A 54 a.toNatClampNeg)) + (A 56 a.toNatClampNeg)) + ((W.2.2.2.2.2.2.2) a.toNatClampNeg)) 84 f178_83 rfl rfl ?_
                        refine zw_ireturn f178_84 r178 u178 ⟨_, rfl, ?_⟩
                        refine zw_isub ((((((c * 2) + (A 54 a.toNatClampNeg)) * 2) * 3) + (A 55 a.toNatClampNeg)) - ((((c * 2) ^^^ (A 54 a.toNatClampNeg)) + (A 56 a.toNatClampNeg)) + ((W.2.2.2.2.2.2.2) a.toNatClampNeg))) 45 f179_44 rfl rfl ?_
                        refine zw_ireturn f179_45 r179 u179 ⟨_, rfl, ?_⟩
                        refine zw_virtual_i 79 0 0 [.ref 52, .int ((((((c * 2) + (A 54 a.toNatClampNeg)) * 2) * 3) + (A 55 a.toNatClampNeg)) - ((((c * 2) ^^^ (A 54 a.toNatClampNeg)) + (A 56 a.toNatClampNeg)) + ((W.2.2.2.2.2.2.2) a.toNatClampNeg)))] [(0, .ref 52), (1, .int ((((((c * 2) + (A 54 a.toNatClampNeg)) * 2) * 3) + (A 55 a.toNatClampNeg)) - ((((c * 2) ^^^ (A 54 a.toNatClampNeg)) + (A 56 a.toNatClampNeg)) + ((W.2.2.2.2.2.2.2) a.toNatClampNeg))))] f180_76 rfl n180_205 k180_205_12 rfl (hb_52 _ _ _ _) (by decide +kernel) (Nat.le_of_ble_eq_true rfl) rfl rfl (by decide +kernel) (by decide +kernel) rfl (Nat.le_of_ble_eq_true rfl) rfl ?_
                        refine zw_aload_n 1 f122_0 rfl rfl ?_
                        refine zw_iconst 0 2 f122_1 rfl (by decide +kernel) ?_
                        refine zw_put _ 5 f122_2 rfl g122_111_12 (hb_52 _ _ _ _) rfl (Nat.le_of_ble_eq_true rfl) (by decide +kernel) (hi_52_27 _ _ _ _ _) ?_
                        refine zw_iload_n 6 f122_5 rfl rfl ?_
                        refine zw_ireturn f122_6 r122 u122 ⟨_, rfl, ?_⟩
                        refine zw_ireturn f180_79 r180 u180 ?_
                        exact ⟨_, _, _, _, rfl, (KQ.i rfl (KQ.i rfl (KQ.a rfl (KQ.i rfl (KQ.a rfl (KQ.i rfl (KQ.a rfl (KQ.i rfl (KQ.a rfl (KQ.i rfl (KQ.a rfl (KQ.i rfl (KQ.a rfl (KQ.i rfl (KQ.a rfl (KQ.i rfl (KQ.a rfl (KQ.i rfl (KQ.a rfl (KQ.i rfl KQ.rf)))))))))))))))))))), ⟨hi.1, hi.2.1, 9, by omega, (show _ = nI 9 from rfl)⟩, _, rfl⟩
                      · refine zw_aload_n 11 f126_10 rfl rfl ?_
                        refine zw_getfield 14 f126_11 rfl g126_7_12 (hb_52 _ _ _ _) rfl ?_
                        refine zw_iload_n 15 f126_14 rfl rfl ?_
                        refine zw_iaload a.toNatClampNeg (A 53 a.toNatClampNeg) 16 f126_15 rfl (hb_53 _ _ _ _) rfl hc1 (zix (by decide) hc1 (show ¬ 8 ≤ a from ix_le hp.1 (by decide) (by decide) hc1 hc2)) rfl ?_
                        refine zw_iconst 4 17 f126_16 rfl (by decide +kernel) ?_
                        refine zw_ic_ne_f 20 24 f126_17 (by decide +kernel) rfl hc20 ?_
                        refine zw_iconst 1 21 f126_20 rfl (by decide +kernel) ?_
                        refine zw_goto 25 f126_21 (by decide +kernel) ?_
                        refine zw_zreturn f126_25 r126 u126 (by decide +kernel) ⟨_, rfl, ?_⟩
                        refine zw_if_eq_f 24 30 f178_21 (by decide +kernel) rfl (by decide +kernel) ?_
                        refine zw_aload_n 25 f178_24 rfl rfl ?_
                        refine zw_bipush 40 27 f178_25 rfl (by decide +kernel) ?_
                        refine zw_virtual_v 30 0 0 [.ref 52, .int 40] [(0, .ref 52), (1, .int 40)] f178_27 rfl n178_291 k178_291_12 rfl (hb_52 _ _ _ _) (by decide +kernel) (Nat.le_of_ble_eq_true rfl) rfl rfl (by decide +kernel) (by decide +kernel) rfl (Nat.le_of_ble_eq_true rfl) rfl ?_
                        refine zw_aload_n 1 f173_0 rfl rfl ?_
                        refine zw_getI 7 4 f173_1 rfl g173_246_12 (hb_52 _ _ _ _) rfl rfl ?_
                        refine zw_bipush 50 6 f173_4 rfl (by decide +kernel) ?_
                        refine zw_ic_ge_f 9 19 f173_6 (by decide +kernel) rfl (by decide +kernel) ?_
                        refine zw_aload_n 10 f173_9 rfl rfl ?_
                        refine zw_getfield 13 f173_10 rfl g173_74_12 (hb_52 _ _ _ _) rfl ?_
                        refine zw_aload_n 14 f173_13 rfl rfl ?_
                        refine zw_getI 7 17 f173_14 rfl g173_246_12 (hb_52 _ _ _ _) rfl rfl ?_
                        refine zw_iload_n 18 f173_17 rfl rfl ?_
                        refine zw_ast 7 _ 19 f173_18 rfl (hb_71 _ _ _ _) (by decide +kernel) (by decide +kernel) (by decide +kernel) (ha_71 _ _ _ _ _) ?_
                        refine zw_aload_n 20 f173_19 rfl rfl ?_
                        refine zw_dup 21 f173_20 rfl rfl ?_
                        refine zw_getI 7 24 f173_21 rfl g173_246_12 (hb_52 _ _ _ _) rfl rfl ?_
                        refine zw_iconst 1 25 f173_24 rfl (by decide +kernel) ?_
                        refine zw_iadd 8 26 f173_25 rfl (by decide +kernel) ?_
                        refine zw_put _ 29 f173_26 rfl g173_246_12 (hb_52 _ _ _ _) rfl (Nat.le_of_ble_eq_true rfl) (by decide +kernel) (hi_52_29 _ _ _ _ _) ?_
                        refine zw_vreturn f173_29 r173 u173 ⟨rfl, ?_⟩
                        refine zw_aload_n 31 f178_30 rfl rfl ?_
                        refine zw_bipush 12 33 f178_31 rfl (by decide +kernel) ?_
                        refine zw_virtual_v 36 0 0 [.ref 52, .int 12] [(0, .ref 52), (1, .int 12)] f178_33 rfl n178_291 k178_291_12 rfl (hb_52 _ _ _ _) (by decide +kernel) (Nat.le_of_ble_eq_true rfl) rfl rfl (by decide +kernel) (by decide +kernel) rfl (Nat.le_of_ble_eq_true rfl) rfl ?_
                        refine zw_aload_n 1 f173_0 rfl rfl ?_
                        refine zw_getI 8 4 f173_1 rfl g173_246_12 (hb_52 _ _ _ _) rfl rfl ?_
                        refine zw_bipush 50 6 f173_4 rfl (by decide +kernel) ?_
                        refine zw_ic_ge_f 9 19 f173_6 (by decide +kernel) rfl (by decide +kernel) ?_
                        refine zw_aload_n 10 f173_9 rfl rfl ?_
                        refine zw_getfield 13 f173_10 rfl g173_74_12 (hb_52 _ _ _ _) rfl ?_
                        refine zw_aload_n 14 f173_13 rfl rfl ?_
                        refine zw_getI 8 17 f173_14 rfl g173_246_12 (hb_52 _ _ _ _) rfl rfl ?_
                        refine zw_iload_n 18 f173_17 rfl rfl ?_
                        refine zw_ast 8 _ 19 f173_18 rfl (hb_71 _ _ _ _) (by decide +kernel) (by decide +kernel) (by decide +kernel) (ha_71 _ _ _ _ _) ?_
                        refine zw_aload_n 20 f173_19 rfl rfl ?_
                        refine zw_dup 21 f173_20 rfl rfl ?_
                        refine zw_getI 8 24 f173_21 rfl g173_246_12 (hb_52 _ _ _ _) rfl rfl ?_
                        refine zw_iconst 1 25 f173_24 rfl (by decide +kernel) ?_
                        refine zw_iadd 9 26 f173_25 rfl (by decide +kernel) ?_
                        refine zw_put _ 29 f173_26 rfl g173_246_12 (hb_52 _ _ _ _) rfl (Nat.le_of_ble_eq_true rfl) (by decide +kernel) (hi_52_29 _ _ _ _ _) ?_
                        refine zw_vreturn f173_29 r173 u173 ⟨rfl, ?_⟩
                        refine zw_iload_n 37 f178_36 rfl rfl ?_
                        refine zw_aload_n 38 f178_37 rfl rfl ?_
                        refine zw_getfield 41 f178_38 rfl g178_13_12 (hb_52 _ _ _ _) rfl ?_
                        refine zw_iload_n 42 f178_41 rfl rfl ?_
                        refine zw_iaload a.toNatClampNeg (A 54 a.toNatClampNeg) 43 f178_42 rfl (hb_54 _ _ _ _) rfl hc1 (zix (by decide) hc1 (show ¬ 8 ≤ a from ix_le hp.1 (by decide) (by decide) hc1 hc2)) rfl ?_
                        refine zw_ixor ((c * 2) ^^^ (A 54 a.toNatClampNeg)) 44 f178_43 rfl rfl ?_
                        refine zw_aload_n 45 f178_44 rfl rfl ?_
                        refine zw_iload_n 46 f178_45 rfl rfl ?_
                        refine zw_virtual_i 49 0 0 [.ref 52, .int a] [(0, .ref 52), (1, .int a)] f178_46 rfl n178_158 k178_158_12 rfl (hb_52 _ _ _ _) (by decide +kernel) (Nat.le_of_ble_eq_true rfl) rfl rfl (by decide +kernel) (by decide +kernel) rfl (Nat.le_of_ble_eq_true rfl) rfl ?_
                        refine zw_aload_n 1 f126_0 rfl rfl ?_
                        refine zw_getfield 4 f126_1 rfl g126_7_12 (hb_52 _ _ _ _) rfl ?_
                        refine zw_iload_n 5 f126_4 rfl rfl ?_
                        refine zw_iaload a.toNatClampNeg (A 53 a.toNatClampNeg) 6 f126_5 rfl (hb_53 _ _ _ _) rfl hc1 (zix (by decide) hc1 (show ¬ 8 ≤ a from ix_le hp.1 (by decide) (by decide) hc1 hc2)) rfl ?_
                        refine zw_iconst 3 7 f126_6 rfl (by decide +kernel) ?_
                        refine zw_ic_eq_f 10 20 f126_7 (by decide +kernel) rfl hc22 ?_
                        refine zw_aload_n 11 f126_10 rfl rfl ?_
                        refine zw_getfield 14 f126_11 rfl g126_7_12 (hb_52 _ _ _ _) rfl ?_
                        refine zw_iload_n 15 f126_14 rfl rfl ?_
                        refine zw_iaload a.toNatClampNeg (A 53 a.toNatClampNeg) 16 f126_15 rfl (hb_53 _ _ _ _) rfl hc1 (zix (by decide) hc1 (show ¬ 8 ≤ a from ix_le hp.1 (by decide) (by decide) hc1 hc2)) rfl ?_
                        refine zw_iconst 4 17 f126_16 rfl (by decide +kernel) ?_
                        refine zw_ic_ne_f 20 24 f126_17 (by decide +kernel) rfl hc20 ?_
                        refine zw_iconst 1 21 f126_20 rfl (by decide +kernel) ?_
                        refine zw_goto 25 f126_21 (by decide +kernel) ?_
                        refine zw_zreturn f126_25 r126 u126 (by decide +kernel) ⟨_, rfl, ?_⟩
                        refine zw_if_eq_f 52 61 f178_49 (by decide +kernel) rfl (by decide +kernel) ?_
                        refine zw_aload_n 53 f178_52 rfl rfl ?_
                        refine zw_getfield 56 f178_53 rfl g178_19_12 (hb_52 _ _ _ _) rfl ?_
                        refine zw_iload_n 57 f178_56 rfl rfl ?_
                        refine zw_iaload a.toNatClampNeg (A 56 a.toNatClampNeg) 58 f178_57 rfl (hb_56 _ _ _ _) rfl hc1 (zix (by decide) hc1 (show ¬ 8 ≤ a from ix_le hp.1 (by decide) (by decide) hc1 hc2)) rfl ?_
                        refine zw_goto 62 f178_58 (by decide +kernel) ?_
                        refine zw_iadd (((c * 2) ^^^ (A 54 a.toNatClampNeg)) + (A 56 a.toNatClampNeg)) 63 f178_62 rfl rfl ?_
                        refine zw_aload_n 64 f178_63 rfl rfl ?_
                        refine zw_getfield 67 f178_64 rfl g178_7_12 (hb_52 _ _ _ _) rfl ?_
                        refine zw_iload_n 68 f178_67 rfl rfl ?_
                        refine zw_iaload a.toNatClampNeg (A 53 a.toNatClampNeg) 69 f178_68 rfl (hb_53 _ _ _ _) rfl hc1 (zix (by decide) hc1 (show ¬ 8 ≤ a from ix_le hp.1 (by decide) (by decide) hc1 hc2)) rfl ?_
                        refine zw_iconst 4 70 f178_69 rfl (by decide +kernel) ?_
                        refine zw_ic_ne_f 73 82 f178_70 (by decide +kernel) rfl hc20 ?_
                        refine zw_aload_n 74 f178_73 rfl rfl ?_
                        refine zw_getfield 77 f178_74 rfl g178_55_12 (hb_52 _ _ _ _) rfl ?_
                        refine zw_iload_n 78 f178_77 rfl rfl ?_
                        refine zw_iaload a.toNatClampNeg ((W.2.2.2.2.2.2.2) a.toNatClampNeg) 79 f178_78 rfl (hb_66 _ _ _ _) rfl hc1 (zix (by decide) hc1 (show ¬ 8 ≤ a from ix_le hp.1 (by decide) (by decide) hc1 hc2)) (congrFun (hR.cnt) a.toNatClampNeg) ?_
                        refine zw_goto 83 f178_79 (by decide +kernel) ?_
                        refine zw_iadd ((((c * 2) ^^^ (A 54 a.toNatClampNeg)) + (A 56 a.toNatClampNeg)) + ((W.2.2.2.2.2.2.2) a.toNatClampNeg)) 84 f178_83 rfl rfl ?_
                        refine zw_ireturn f178_84 r178 u178 ⟨_, rfl, ?_⟩
                        refine zw_isub ((((((c * 2) + (A 54 a.toNatClampNeg)) * 2) * 3) + (A 55 a.toNatClampNeg)) - ((((c * 2) ^^^ (A 54 a.toNatClampNeg)) + (A 56 a.toNatClampNeg)) + ((W.2.2.2.2.2.2.2) a.toNatClampNeg))) 45 f179_44 rfl rfl ?_
                        refine zw_ireturn f179_45 r179 u179 ⟨_, rfl, ?_⟩
                        refine zw_virtual_i 79 0 0 [.ref 52, .int ((((((c * 2) + (A 54 a.toNatClampNeg)) * 2) * 3) + (A 55 a.toNatClampNeg)) - ((((c * 2) ^^^ (A 54 a.toNatClampNeg)) + (A 56 a.toNatClampNeg)) + ((W.2.2.2.2.2.2.2) a.toNatClampNeg)))] [(0, .ref 52), (1, .int ((((((c * 2) + (A 54 a.toNatClampNeg)) * 2) * 3) + (A 55 a.toNatClampNeg)) - ((((c * 2) ^^^ (A 54 a.toNatClampNeg)) + (A 56 a.toNatClampNeg)) + ((W.2.2.2.2.2.2.2) a.toNatClampNeg))))] f180_76 rfl n180_205 k180_205_12 rfl (hb_52 _ _ _ _) (by decide +kernel) (Nat.le_of_ble_eq_true rfl) rfl rfl (by decide +kernel) (by decide +kernel) rfl (Nat.le_of_ble_eq_true rfl) rfl ?_
                        refine zw_aload_n 1 f122_0 rfl rfl ?_
                        refine zw_iconst 0 2 f122_1 rfl (by decide +kernel) ?_
                        refine zw_put _ 5 f122_2 rfl g122_111_12 (hb_52 _ _ _ _) rfl (Nat.le_of_ble_eq_true rfl) (by decide +kernel) (hi_52_27 _ _ _ _ _) ?_
                        refine zw_iload_n 6 f122_5 rfl rfl ?_
                        refine zw_ireturn f122_6 r122 u122 ⟨_, rfl, ?_⟩
                        refine zw_ireturn f180_79 r180 u180 ?_
                        exact ⟨_, _, _, _, rfl, (KQ.i rfl (KQ.i rfl (KQ.a rfl (KQ.i rfl (KQ.a rfl (KQ.i rfl (KQ.a rfl (KQ.i rfl (KQ.a rfl (KQ.i rfl (KQ.a rfl (KQ.i rfl (KQ.a rfl (KQ.i rfl (KQ.a rfl (KQ.i rfl (KQ.a rfl (KQ.i rfl (KQ.a rfl (KQ.i rfl KQ.rf)))))))))))))))))))), ⟨hi.1, hi.2.1, 9, by omega, (show _ = nI 9 from rfl)⟩, _, rfl⟩
              · refine zw_aload_n 62 f180_61 rfl rfl ?_
                refine zw_iload_n 63 f180_62 rfl rfl ?_
                refine zw_iload_n 64 f180_63 rfl rfl ?_
                refine zw_virtual_i 67 0 0 [.ref 52, .int a, .int c] [(0, .ref 52), (1, .int a), (2, .int c)] f180_64 rfl n180_307 k180_307_12 rfl (hb_52 _ _ _ _) (by decide +kernel) (Nat.le_of_ble_eq_true rfl) rfl rfl (by decide +kernel) (by decide +kernel) rfl (Nat.le_of_ble_eq_true rfl) rfl ?_
                refine zw_aload_n 1 f178_0 rfl rfl ?_
                refine zw_getfield 4 f178_1 rfl g178_7_12 (hb_52 _ _ _ _) rfl ?_
                refine zw_iload_n 5 f178_4 rfl rfl ?_
                refine zw_iaload a.toNatClampNeg (A 53 a.toNatClampNeg) 6 f178_5 rfl (hb_53 _ _ _ _) rfl hc1 (zix (by decide) hc1 (show ¬ 8 ≤ a from ix_le hp.1 (by decide) (by decide) hc1 hc2)) rfl ?_
                refine zw_iconst 4 7 f178_6 rfl (by decide +kernel) ?_
                refine zw_ic_ne 10 16 f178_7 (by decide +kernel) rfl (fun hc23 => ?_) (fun hc23 => ?_)
                · refine zw_aload_n 17 f178_16 rfl rfl ?_
                  refine zw_iload_n 18 f178_17 rfl rfl ?_
                  refine zw_virtual_i 21 0 0 [.ref 52, .int a] [(0, .ref 52), (1, .int a)] f178_18 rfl n178_158 k178_158_12 rfl (hb_52 _ _ _ _) (by decide +kernel) (Nat.le_of_ble_eq_true rfl) rfl rfl (by decide +kernel) (by decide +kernel) rfl (Nat.le_of_ble_eq_true rfl) rfl ?_
                  refine zw_aload_n 1 f126_0 rfl rfl ?_
                  refine zw_getfield 4 f126_1 rfl g126_7_12 (hb_52 _ _ _ _) rfl ?_
                  refine zw_iload_n 5 f126_4 rfl rfl ?_
                  refine zw_iaload a.toNatClampNeg (A 53 a.toNatClampNeg) 6 f126_5 rfl (hb_53 _ _ _ _) rfl hc1 (zix (by decide) hc1 (show ¬ 8 ≤ a from ix_le hp.1 (by decide) (by decide) hc1 hc2)) rfl ?_
                  refine zw_iconst 3 7 f126_6 rfl (by decide +kernel) ?_
                  refine zw_ic_eq 10 20 f126_7 (by decide +kernel) rfl (fun hc24 => ?_) (fun hc24 => ?_)
                  · refine zw_iconst 1 21 f126_20 rfl (by decide +kernel) ?_
                    refine zw_goto 25 f126_21 (by decide +kernel) ?_
                    refine zw_zreturn f126_25 r126 u126 (by decide +kernel) ⟨_, rfl, ?_⟩
                    refine zw_if_eq_f 24 30 f178_21 (by decide +kernel) rfl (by decide +kernel) ?_
                    refine zw_aload_n 25 f178_24 rfl rfl ?_
                    refine zw_bipush 40 27 f178_25 rfl (by decide +kernel) ?_
                    refine zw_virtual_v 30 0 0 [.ref 52, .int 40] [(0, .ref 52), (1, .int 40)] f178_27 rfl n178_291 k178_291_12 rfl (hb_52 _ _ _ _) (by decide +kernel) (Nat.le_of_ble_eq_true rfl) rfl rfl (by decide +kernel) (by decide +kernel) rfl (Nat.le_of_ble_eq_true rfl) rfl ?_
                    refine zw_aload_n 1 f173_0 rfl rfl ?_
                    refine zw_getI 0 4 f173_1 rfl g173_246_12 (hb_52 _ _ _ _) rfl rfl ?_
                    refine zw_bipush 50 6 f173_4 rfl (by decide +kernel) ?_
                    refine zw_ic_ge_f 9 19 f173_6 (by decide +kernel) rfl (by decide +kernel) ?_
                    refine zw_aload_n 10 f173_9 rfl rfl ?_
                    refine zw_getfield 13 f173_10 rfl g173_74_12 (hb_52 _ _ _ _) rfl ?_
                    refine zw_aload_n 14 f173_13 rfl rfl ?_
                    refine zw_getI 0 17 f173_14 rfl g173_246_12 (hb_52 _ _ _ _) rfl rfl ?_
                    refine zw_iload_n 18 f173_17 rfl rfl ?_
                    refine zw_ast 0 _ 19 f173_18 rfl (hb_71 _ _ _ _) (by decide +kernel) (by decide +kernel) (by decide +kernel) (ha_71 _ _ _ _ _) ?_
                    refine zw_aload_n 20 f173_19 rfl rfl ?_
                    refine zw_dup 21 f173_20 rfl rfl ?_
                    refine zw_getI 0 24 f173_21 rfl g173_246_12 (hb_52 _ _ _ _) rfl rfl ?_
                    refine zw_iconst 1 25 f173_24 rfl (by decide +kernel) ?_
                    refine zw_iadd 1 26 f173_25 rfl (by decide +kernel) ?_
                    refine zw_put _ 29 f173_26 rfl g173_246_12 (hb_52 _ _ _ _) rfl (Nat.le_of_ble_eq_true rfl) (by decide +kernel) (hi_52_29 _ _ _ _ _) ?_
                    refine zw_vreturn f173_29 r173 u173 ⟨rfl, ?_⟩
                    refine zw_aload_n 31 f178_30 rfl rfl ?_
                    refine zw_bipush 12 33 f178_31 rfl (by decide +kernel) ?_
                    refine zw_virtual_v 36 0 0 [.ref 52, .int 12] [(0, .ref 52), (1, .int 12)] f178_33 rfl n178_291 k178_291_12 rfl (hb_52 _ _ _ _) (by decide +kernel) (Nat.le_of_ble_eq_true rfl) rfl rfl (by decide +kernel) (by decide +kernel) rfl (Nat.le_of_ble_eq_true rfl) rfl ?_
                    refine zw_aload_n 1 f173_0 rfl rfl ?_
                    refine zw_getI 1 4 f173_1 rfl g173_246_12 (hb_52 _ _ _ _) rfl rfl ?_
                    refine zw_bipush 50 6 f173_4 rfl (by decide +kernel) ?_
                    refine zw_ic_ge_f 9 19 f173_6 (by decide +kernel) rfl (by decide +kernel) ?_
                    refine zw_aload_n 10 f173_9 rfl rfl ?_
                    refine zw_getfield 13 f173_10 rfl g173_74_12 (hb_52 _ _ _ _) rfl ?_
                    refine zw_aload_n 14 f173_13 rfl rfl ?_
                    refine zw_getI 1 17 f173_14 rfl g173_246_12 (hb_52 _ _ _ _) rfl rfl ?_
                    refine zw_iload_n 18 f173_17 rfl rfl ?_
                    refine zw_ast 1 _ 19 f173_18 rfl (hb_71 _ _ _ _) (by decide +kernel) (by decide +kernel) (by decide +kernel) (ha_71 _ _ _ _ _) ?_
                    refine zw_aload_n 20 f173_19 rfl rfl ?_
                    refine zw_dup 21 f173_20 rfl rfl ?_
                    refine zw_getI 1 24 f173_21 rfl g173_246_12 (hb_52 _ _ _ _) rfl rfl ?_
                    refine zw_iconst 1 25 f173_24 rfl (by decide +kernel) ?_
                    refine zw_iadd 2 26 f173_25 rfl (by decide +kernel) ?_
                    refine zw_put _ 29 f173_26 rfl g173_246_12 (hb_52 _ _ _ _) rfl (Nat.le_of_ble_eq_true rfl) (by decide +kernel) (hi_52_29 _ _ _ _ _) ?_
                    refine zw_vreturn f173_29 r173 u173 ⟨rfl, ?_⟩
                    refine zw_iload_n 37 f178_36 rfl rfl ?_
                    refine zw_aload_n 38 f178_37 rfl rfl ?_
                    refine zw_getfield 41 f178_38 rfl g178_13_12 (hb_52 _ _ _ _) rfl ?_
                    refine zw_iload_n 42 f178_41 rfl rfl ?_
                    refine zw_iaload a.toNatClampNeg (A 54 a.toNatClampNeg) 43 f178_42 rfl (hb_54 _ _ _ _) rfl hc1 (zix (by decide) hc1 (show ¬ 8 ≤ a from ix_le hp.1 (by decide) (by decide) hc1 hc2)) rfl ?_
                    refine zw_ixor (c ^^^ (A 54 a.toNatClampNeg)) 44 f178_43 rfl rfl ?_
                    refine zw_aload_n 45 f178_44 rfl rfl ?_
                    refine zw_iload_n 46 f178_45 rfl rfl ?_
                    refine zw_virtual_i 49 0 0 [.ref 52, .int a] [(0, .ref 52), (1, .int a)] f178_46 rfl n178_158 k178_158_12 rfl (hb_52 _ _ _ _) (by decide +kernel) (Nat.le_of_ble_eq_true rfl) rfl rfl (by decide +kernel) (by decide +kernel) rfl (Nat.le_of_ble_eq_true rfl) rfl ?_
                    refine zw_aload_n 1 f126_0 rfl rfl ?_
                    refine zw_getfield 4 f126_1 rfl g126_7_12 (hb_52 _ _ _ _) rfl ?_
                    refine zw_iload_n 5 f126_4 rfl rfl ?_
                    refine zw_iaload a.toNatClampNeg (A 53 a.toNatClampNeg) 6 f126_5 rfl (hb_53 _ _ _ _) rfl hc1 (zix (by decide) hc1 (show ¬ 8 ≤ a from ix_le hp.1 (by decide) (by decide) hc1 hc2)) rfl ?_
                    refine zw_iconst 3 7 f126_6 rfl (by decide +kernel) ?_
                    refine zw_ic_eq_t 20 f126_7 (by decide +kernel) hc24 ?_
                    refine zw_iconst 1 21 f126_20 rfl (by decide +kernel) ?_
                    refine zw_goto 25 f126_21 (by decide +kernel) ?_
                    refine zw_zreturn f126_25 r126 u126 (by decide +kernel) ⟨_, rfl, ?_⟩
                    refine zw_if_eq_f 52 61 f178_49 (by decide +kernel) rfl (by decide +kernel) ?_
                    refine zw_aload_n 53 f178_52 rfl rfl ?_
                    refine zw_getfield 56 f178_53 rfl g178_19_12 (hb_52 _ _ _ _) rfl ?_
                    refine zw_iload_n 57 f178_56 rfl rfl ?_
                    refine zw_iaload a.toNatClampNeg (A 56 a.toNatClampNeg) 58 f178_57 rfl (hb_56 _ _ _ _) rfl hc1 (zix (by decide) hc1 (show ¬ 8 ≤ a from ix_le hp.1 (by decide) (by decide) hc1 hc2)) rfl ?_
                    refine zw_goto 62 f178_58 (by decide +kernel) ?_
                    refine zw_iadd ((c ^^^ (A 54 a.toNatClampNeg)) + (A 56 a.toNatClampNeg)) 63 f178_62 rfl rfl ?_
                    refine zw_aload_n 64 f178_63 rfl rfl ?_
                    refine zw_getfield 67 f178_64 rfl g178_7_12 (hb_52 _ _ _ _) rfl ?_
                    refine zw_iload_n 68 f178_67 rfl rfl ?_
                    refine zw_iaload a.toNatClampNeg (A 53 a.toNatClampNeg) 69 f178_68 rfl (hb_53 _ _ _ _) rfl hc1 (zix (by decide) hc1 (show ¬ 8 ≤ a from ix_le hp.1 (by decide) (by decide) hc1 hc2)) rfl ?_
                    refine zw_iconst 4 70 f178_69 rfl (by decide +kernel) ?_
                    refine zw_ic_ne_t 82 f178_70 (by decide +kernel) hc23 ?_
                    refine zw_iconst 0 83 f178_82 rfl (by decide +kernel) ?_
                    refine zw_iadd (((c ^^^ (A 54 a.toNatClampNeg)) + (A 56 a.toNatClampNeg)) + 0) 84 f178_83 rfl rfl ?_
                    refine zw_ireturn f178_84 r178 u178 ⟨_, rfl, ?_⟩
                    refine zw_goto 76 f180_67 (by decide +kernel) ?_
                    refine zw_virtual_i 79 0 0 [.ref 52, .int (((c ^^^ (A 54 a.toNatClampNeg)) + (A 56 a.toNatClampNeg)) + 0)] [(0, .ref 52), (1, .int (((c ^^^ (A 54 a.toNatClampNeg)) + (A 56 a.toNatClampNeg)) + 0))] f180_76 rfl n180_205 k180_205_12 rfl (hb_52 _ _ _ _) (by decide +kernel) (Nat.le_of_ble_eq_true rfl) rfl rfl (by decide +kernel) (by decide +kernel) rfl (Nat.le_of_ble_eq_true rfl) rfl ?_
                    refine zw_aload_n 1 f122_0 rfl rfl ?_
                    refine zw_iconst 0 2 f122_1 rfl (by decide +kernel) ?_
                    refine zw_put _ 5 f122_2 rfl g122_111_12 (hb_52 _ _ _ _) rfl (Nat.le_of_ble_eq_true rfl) (by decide +kernel) (hi_52_27 _ _ _ _ _) ?_
                    refine zw_iload_n 6 f122_5 rfl rfl ?_
                    refine zw_ireturn f122_6 r122 u122 ⟨_, rfl, ?_⟩
                    refine zw_ireturn f180_79 r180 u180 ?_
                    exact ⟨_, _, _, _, rfl, (KQ.i rfl (KQ.i rfl (KQ.a rfl (KQ.i rfl (KQ.a rfl (KQ.i rfl KQ.rf)))))), ⟨hi.1, hi.2.1, 2, by omega, (show _ = nI 2 from rfl)⟩, _, rfl⟩
                  · refine zw_aload_n 11 f126_10 rfl rfl ?_
                    refine zw_getfield 14 f126_11 rfl g126_7_12 (hb_52 _ _ _ _) rfl ?_
                    refine zw_iload_n 15 f126_14 rfl rfl ?_
                    refine zw_iaload a.toNatClampNeg (A 53 a.toNatClampNeg) 16 f126_15 rfl (hb_53 _ _ _ _) rfl hc1 (zix (by decide) hc1 (show ¬ 8 ≤ a from ix_le hp.1 (by decide) (by decide) hc1 hc2)) rfl ?_
                    refine zw_iconst 4 17 f126_16 rfl (by decide +kernel) ?_
                    refine zw_ic_ne_t 24 f126_17 (by decide +kernel) hc23 ?_
                    refine zw_iconst 0 25 f126_24 rfl (by decide +kernel) ?_
                    refine zw_zreturn f126_25 r126 u126 (by decide +kernel) ⟨_, rfl, ?_⟩
                    refine zw_if_eq_t 30 f178_21 (by decide +kernel) (by decide +kernel) ?_
                    refine zw_aload_n 31 f178_30 rfl rfl ?_
                    refine zw_bipush 12 33 f178_31 rfl (by decide +kernel) ?_
                    refine zw_virtual_v 36 0 0 [.ref 52, .int 12] [(0, .ref 52), (1, .int 12)] f178_33 rfl n178_291 k178_291_12 rfl (hb_52 _ _ _ _) (by decide +kernel) (Nat.le_of_ble_eq_true rfl) rfl rfl (by decide +kernel) (by decide +kernel) rfl (Nat.le_of_ble_eq_true rfl) rfl ?_
                    refine zw_aload_n 1 f173_0 rfl rfl ?_
                    refine zw_getI 0 4 f173_1 rfl g173_246_12 (hb_52 _ _ _ _) rfl rfl ?_
                    refine zw_bipush 50 6 f173_4 rfl (by decide +kernel) ?_
                    refine zw_ic_ge_f 9 19 f173_6 (by decide +kernel) rfl (by decide +kernel) ?_
                    refine zw_aload_n 10 f173_9 rfl rfl ?_
                    refine zw_getfield 13 f173_10 rfl g173_74_12 (hb_52 _ _ _ _) rfl ?_
                    refine zw_aload_n 14 f173_13 rfl rfl ?_
                    refine zw_getI 0 17 f173_14 rfl g173_246_12 (hb_52 _ _ _ _) rfl rfl ?_
                    refine zw_iload_n 18 f173_17 rfl rfl ?_
                    refine zw_ast 0 _ 19 f173_18 rfl (hb_71 _ _ _ _) (by decide +kernel) (by decide +kernel) (by decide +kernel) (ha_71 _ _ _ _ _) ?_
                    refine zw_aload_n 20 f173_19 rfl rfl ?_
                    refine zw_dup 21 f173_20 rfl rfl ?_
                    refine zw_getI 0 24 f173_21 rfl g173_246_12 (hb_52 _ _ _ _) rfl rfl ?_
                    refine zw_iconst 1 25 f173_24 rfl (by decide +kernel) ?_
                    refine zw_iadd 1 26 f173_25 rfl (by decide +kernel) ?_
                    refine zw_put _ 29 f173_26 rfl g173_246_12 (hb_52 _ _ _ _) rfl (Nat.le_of_ble_eq_true rfl) (by decide +kernel) (hi_52_29 _ _ _ _ _) ?_
                    refine zw_vreturn f173_29 r173 u173 ⟨rfl, ?_⟩
                    refine zw_iload_n 37 f178_36 rfl rfl ?_
                    refine zw_aload_n 38 f178_37 rfl rfl ?_
                    refine zw_getfield 41 f178_38 rfl g178_13_12 (hb_52 _ _ _ _) rfl ?_
                    refine zw_iload_n 42 f178_41 rfl rfl ?_
                    refine zw_iaload a.toNatClampNeg (A 54 a.toNatClampNeg) 43 f178_42 rfl (hb_54 _ _ _ _) rfl hc1 (zix (by decide) hc1 (show ¬ 8 ≤ a from ix_le hp.1 (by decide) (by decide) hc1 hc2)) rfl ?_
                    refine zw_ixor (c ^^^ (A 54 a.toNatClampNeg)) 44 f178_43 rfl rfl ?_
                    refine zw_aload_n 45 f178_44 rfl rfl ?_
                    refine zw_iload_n 46 f178_45 rfl rfl ?_
                    refine zw_virtual_i 49 0 0 [.ref 52, .int a] [(0, .ref 52), (1, .int a)] f178_46 rfl n178_158 k178_158_12 rfl (hb_52 _ _ _ _) (by decide +kernel) (Nat.le_of_ble_eq_true rfl) rfl rfl (by decide +kernel) (by decide +kernel) rfl (Nat.le_of_ble_eq_true rfl) rfl ?_
                    refine zw_aload_n 1 f126_0 rfl rfl ?_
                    refine zw_getfield 4 f126_1 rfl g126_7_12 (hb_52 _ _ _ _) rfl ?_
                    refine zw_iload_n 5 f126_4 rfl rfl ?_
                    refine zw_iaload a.toNatClampNeg (A 53 a.toNatClampNeg) 6 f126_5 rfl (hb_53 _ _ _ _) rfl hc1 (zix (by decide) hc1 (show ¬ 8 ≤ a from ix_le hp.1 (by decide) (by decide) hc1 hc2)) rfl ?_
                    refine zw_iconst 3 7 f126_6 rfl (by decide +kernel) ?_
                    refine zw_ic_eq_f 10 20 f126_7 (by decide +kernel) rfl hc24 ?_
                    refine zw_aload_n 11 f126_10 rfl rfl ?_
                    refine zw_getfield 14 f126_11 rfl g126_7_12 (hb_52 _ _ _ _) rfl ?_
                    refine zw_iload_n 15 f126_14 rfl rfl ?_
                    refine zw_iaload a.toNatClampNeg (A 53 a.toNatClampNeg) 16 f126_15 rfl (hb_53 _ _ _ _) rfl hc1 (zix (by decide) hc1 (show ¬ 8 ≤ a from ix_le hp.1 (by decide) (by decide) hc1 hc2)) rfl ?_
                    refine zw_iconst 4 17 f126_16 rfl (by decide +kernel) ?_
                    refine zw_ic_ne_t 24 f126_17 (by decide +kernel) hc23 ?_
                    refine zw_iconst 0 25 f126_24 rfl (by decide +kernel) ?_
                    refine zw_zreturn f126_25 r126 u126 (by decide +kernel) ⟨_, rfl, ?_⟩
                    refine zw_if_eq_t 61 f178_49 (by decide +kernel) (by decide +kernel) ?_
                    refine zw_iconst 0 62 f178_61 rfl (by decide +kernel) ?_
                    refine zw_iadd ((c ^^^ (A 54 a.toNatClampNeg)) + 0) 63 f178_62 rfl rfl ?_
                    refine zw_aload_n 64 f178_63 rfl rfl ?_
                    refine zw_getfield 67 f178_64 rfl g178_7_12 (hb_52 _ _ _ _) rfl ?_
                    refine zw_iload_n 68 f178_67 rfl rfl ?_
                    refine zw_iaload a.toNatClampNeg (A 53 a.toNatClampNeg) 69 f178_68 rfl (hb_53 _ _ _ _) rfl hc1 (zix (by decide) hc1 (show ¬ 8 ≤ a from ix_le hp.1 (by decide) (by decide) hc1 hc2)) rfl ?_
                    refine zw_iconst 4 70 f178_69 rfl (by decide +kernel) ?_
                    refine zw_ic_ne_t 82 f178_70 (by decide +kernel) hc23 ?_
                    refine zw_iconst 0 83 f178_82 rfl (by decide +kernel) ?_
                    refine zw_iadd (((c ^^^ (A 54 a.toNatClampNeg)) + 0) + 0) 84 f178_83 rfl rfl ?_
                    refine zw_ireturn f178_84 r178 u178 ⟨_, rfl, ?_⟩
                    refine zw_goto 76 f180_67 (by decide +kernel) ?_
                    refine zw_virtual_i 79 0 0 [.ref 52, .int (((c ^^^ (A 54 a.toNatClampNeg)) + 0) + 0)] [(0, .ref 52), (1, .int (((c ^^^ (A 54 a.toNatClampNeg)) + 0) + 0))] f180_76 rfl n180_205 k180_205_12 rfl (hb_52 _ _ _ _) (by decide +kernel) (Nat.le_of_ble_eq_true rfl) rfl rfl (by decide +kernel) (by decide +kernel) rfl (Nat.le_of_ble_eq_true rfl) rfl ?_
                    refine zw_aload_n 1 f122_0 rfl rfl ?_
                    refine zw_iconst 0 2 f122_1 rfl (by decide +kernel) ?_
                    refine zw_put _ 5 f122_2 rfl g122_111_12 (hb_52 _ _ _ _) rfl (Nat.le_of_ble_eq_true rfl) (by decide +kernel) (hi_52_27 _ _ _ _ _) ?_
                    refine zw_iload_n 6 f122_5 rfl rfl ?_
                    refine zw_ireturn f122_6 r122 u122 ⟨_, rfl, ?_⟩
                    refine zw_ireturn f180_79 r180 u180 ?_
                    exact ⟨_, _, _, _, rfl, (KQ.i rfl (KQ.i rfl (KQ.a rfl (KQ.i rfl KQ.rf)))), ⟨hi.1, hi.2.1, 1, by omega, (show _ = nI 1 from rfl)⟩, _, rfl⟩
                · refine zw_aload_n 11 f178_10 rfl rfl ?_
                  refine zw_bipush 50 13 f178_11 rfl (by decide +kernel) ?_
                  refine zw_virtual_v 16 0 0 [.ref 52, .int 50] [(0, .ref 52), (1, .int 50)] f178_13 rfl n178_291 k178_291_12 rfl (hb_52 _ _ _ _) (by decide +kernel) (Nat.le_of_ble_eq_true rfl) rfl rfl (by decide +kernel) (by decide +kernel) rfl (Nat.le_of_ble_eq_true rfl) rfl ?_
                  refine zw_aload_n 1 f173_0 rfl rfl ?_
                  refine zw_getI 0 4 f173_1 rfl g173_246_12 (hb_52 _ _ _ _) rfl rfl ?_
                  refine zw_bipush 50 6 f173_4 rfl (by decide +kernel) ?_
                  refine zw_ic_ge_f 9 19 f173_6 (by decide +kernel) rfl (by decide +kernel) ?_
                  refine zw_aload_n 10 f173_9 rfl rfl ?_
                  refine zw_getfield 13 f173_10 rfl g173_74_12 (hb_52 _ _ _ _) rfl ?_
                  refine zw_aload_n 14 f173_13 rfl rfl ?_
                  refine zw_getI 0 17 f173_14 rfl g173_246_12 (hb_52 _ _ _ _) rfl rfl ?_
                  refine zw_iload_n 18 f173_17 rfl rfl ?_
                  refine zw_ast 0 _ 19 f173_18 rfl (hb_71 _ _ _ _) (by decide +kernel) (by decide +kernel) (by decide +kernel) (ha_71 _ _ _ _ _) ?_
                  refine zw_aload_n 20 f173_19 rfl rfl ?_
                  refine zw_dup 21 f173_20 rfl rfl ?_
                  refine zw_getI 0 24 f173_21 rfl g173_246_12 (hb_52 _ _ _ _) rfl rfl ?_
                  refine zw_iconst 1 25 f173_24 rfl (by decide +kernel) ?_
                  refine zw_iadd 1 26 f173_25 rfl (by decide +kernel) ?_
                  refine zw_put _ 29 f173_26 rfl g173_246_12 (hb_52 _ _ _ _) rfl (Nat.le_of_ble_eq_true rfl) (by decide +kernel) (hi_52_29 _ _ _ _ _) ?_
                  refine zw_vreturn f173_29 r173 u173 ⟨rfl, ?_⟩
                  refine zw_aload_n 17 f178_16 rfl rfl ?_
                  refine zw_iload_n 18 f178_17 rfl rfl ?_
                  refine zw_virtual_i 21 0 0 [.ref 52, .int a] [(0, .ref 52), (1, .int a)] f178_18 rfl n178_158 k178_158_12 rfl (hb_52 _ _ _ _) (by decide +kernel) (Nat.le_of_ble_eq_true rfl) rfl rfl (by decide +kernel) (by decide +kernel) rfl (Nat.le_of_ble_eq_true rfl) rfl ?_
                  refine zw_aload_n 1 f126_0 rfl rfl ?_
                  refine zw_getfield 4 f126_1 rfl g126_7_12 (hb_52 _ _ _ _) rfl ?_
                  refine zw_iload_n 5 f126_4 rfl rfl ?_
                  refine zw_iaload a.toNatClampNeg (A 53 a.toNatClampNeg) 6 f126_5 rfl (hb_53 _ _ _ _) rfl hc1 (zix (by decide) hc1 (show ¬ 8 ≤ a from ix_le hp.1 (by decide) (by decide) hc1 hc2)) rfl ?_
                  refine zw_iconst 3 7 f126_6 rfl (by decide +kernel) ?_
                  refine zw_ic_eq 10 20 f126_7 (by decide +kernel) rfl (fun hc25 => ?_) (fun hc25 => ?_)
                  · refine zw_iconst 1 21 f126_20 rfl (by decide +kernel) ?_
                    refine zw_goto 25 f126_21 (by decide +kernel) ?_
                    refine zw_zreturn f126_25 r126 u126 (by decide +kernel) ⟨_, rfl, ?_⟩
                    refine zw_if_eq_f 24 30 f178_21 (by decide +kernel) rfl (by decide +kernel) ?_
                    refine zw_aload_n 25 f178_24 rfl rfl ?_
                    refine zw_bipush 40 27 f178_25 rfl (by decide +kernel) ?_
                    refine zw_virtual_v 30 0 0 [.ref 52, .int 40] [(0, .ref 52), (1, .int 40)] f178_27 rfl n178_291 k178_291_12 rfl (hb_52 _ _ _ _) (by decide +kernel) (Nat.le_of_ble_eq_true rfl) rfl rfl (by decide +kernel) (by decide +kernel) rfl (Nat.le_of_ble_eq_true rfl) rfl ?_
                    refine zw_aload_n 1 f173_0 rfl rfl ?_
                    refine zw_getI 1 4 f173_1 rfl g173_246_12 (hb_52 _ _ _ _) rfl rfl ?_
                    refine zw_bipush 50 6 f173_4 rfl (by decide +kernel) ?_
                    refine zw_ic_ge_f 9 19 f173_6 (by decide +kernel) rfl (by decide +kernel) ?_
                    refine zw_aload_n 10 f173_9 rfl rfl ?_
                    refine zw_getfield 13 f173_10 rfl g173_74_12 (hb_52 _ _ _ _) rfl ?_
                    refine zw_aload_n 14 f173_13 rfl rfl ?_
                    refine zw_getI 1 17 f173_14 rfl g173_246_12 (hb_52 _ _ _ _) rfl rfl ?_
                    refine zw_iload_n 18 f173_17 rfl rfl ?_
                    refine zw_ast 1 _ 19 f173_18 rfl (hb_71 _ _ _ _) (by decide +kernel) (by decide +kernel) (by decide +kernel) (ha_71 _ _ _ _ _) ?_
                    refine zw_aload_n 20 f173_19 rfl rfl ?_
                    refine zw_dup 21 f173_20 rfl rfl ?_
                    refine zw_getI 1 24 f173_21 rfl g173_246_12 (hb_52 _ _ _ _) rfl rfl ?_
                    refine zw_iconst 1 25 f173_24 rfl (by decide +kernel) ?_
                    refine zw_iadd 2 26 f173_25 rfl (by decide +kernel) ?_
                    refine zw_put _ 29 f173_26 rfl g173_246_12 (hb_52 _ _ _ _) rfl (Nat.le_of_ble_eq_true rfl) (by decide +kernel) (hi_52_29 _ _ _ _ _) ?_
                    refine zw_vreturn f173_29 r173 u173 ⟨rfl, ?_⟩
                    refine zw_aload_n 31 f178_30 rfl rfl ?_
                    refine zw_bipush 12 33 f178_31 rfl (by decide +kernel) ?_
                    refine zw_virtual_v 36 0 0 [.ref 52, .int 12] [(0, .ref 52), (1, .int 12)] f178_33 rfl n178_291 k178_291_12 rfl (hb_52 _ _ _ _) (by decide +kernel) (Nat.le_of_ble_eq_true rfl) rfl rfl (by decide +kernel) (by decide +kernel) rfl (Nat.le_of_ble_eq_true rfl) rfl ?_
                    refine zw_aload_n 1 f173_0 rfl rfl ?_
                    refine zw_getI 2 4 f173_1 rfl g173_246_12 (hb_52 _ _ _ _) rfl rfl ?_
                    refine zw_bipush 50 6 f173_4 rfl (by decide +kernel) ?_
                    refine zw_ic_ge_f 9 19 f173_6 (by decide +kernel) rfl (by decide +kernel) ?_
                    refine zw_aload_n 10 f173_9 rfl rfl ?_
                    refine zw_getfield 13 f173_10 rfl g173_74_12 (hb_52 _ _ _ _) rfl ?_
                    refine zw_aload_n 14 f173_13 rfl rfl ?_
                    refine zw_getI 2 17 f173_14 rfl g173_246_12 (hb_52 _ _ _ _) rfl rfl ?_
                    refine zw_iload_n 18 f173_17 rfl rfl ?_
                    refine zw_ast 2 _ 19 f173_18 rfl (hb_71 _ _ _ _) (by decide +kernel) (by decide +kernel) (by decide +kernel) (ha_71 _ _ _ _ _) ?_
                    refine zw_aload_n 20 f173_19 rfl rfl ?_
                    refine zw_dup 21 f173_20 rfl rfl ?_
                    refine zw_getI 2 24 f173_21 rfl g173_246_12 (hb_52 _ _ _ _) rfl rfl ?_
                    refine zw_iconst 1 25 f173_24 rfl (by decide +kernel) ?_
                    refine zw_iadd 3 26 f173_25 rfl (by decide +kernel) ?_
                    refine zw_put _ 29 f173_26 rfl g173_246_12 (hb_52 _ _ _ _) rfl (Nat.le_of_ble_eq_true rfl) (by decide +kernel) (hi_52_29 _ _ _ _ _) ?_
                    refine zw_vreturn f173_29 r173 u173 ⟨rfl, ?_⟩
                    refine zw_iload_n 37 f178_36 rfl rfl ?_
                    refine zw_aload_n 38 f178_37 rfl rfl ?_
                    refine zw_getfield 41 f178_38 rfl g178_13_12 (hb_52 _ _ _ _) rfl ?_
                    refine zw_iload_n 42 f178_41 rfl rfl ?_
                    refine zw_iaload a.toNatClampNeg (A 54 a.toNatClampNeg) 43 f178_42 rfl (hb_54 _ _ _ _) rfl hc1 (zix (by decide) hc1 (show ¬ 8 ≤ a from ix_le hp.1 (by decide) (by decide) hc1 hc2)) rfl ?_
                    refine zw_ixor (c ^^^ (A 54 a.toNatClampNeg)) 44 f178_43 rfl rfl ?_
                    refine zw_aload_n 45 f178_44 rfl rfl ?_
                    refine zw_iload_n 46 f178_45 rfl rfl ?_
                    refine zw_virtual_i 49 0 0 [.ref 52, .int a] [(0, .ref 52), (1, .int a)] f178_46 rfl n178_158 k178_158_12 rfl (hb_52 _ _ _ _) (by decide +kernel) (Nat.le_of_ble_eq_true rfl) rfl rfl (by decide +kernel) (by decide +kernel) rfl (Nat.le_of_ble_eq_true rfl) rfl ?_
                    refine zw_aload_n 1 f126_0 rfl rfl ?_
                    refine zw_getfield 4 f126_1 rfl g126_7_12 (hb_52 _ _ _ _) rfl ?_
                    refine zw_iload_n 5 f126_4 rfl rfl ?_
                    refine zw_iaload a.toNatClampNeg (A 53 a.toNatClampNeg) 6 f126_5 rfl (hb_53 _ _ _ _) rfl hc1 (zix (by decide) hc1 (show ¬ 8 ≤ a from ix_le hp.1 (by decide) (by decide) hc1 hc2)) rfl ?_
                    refine zw_iconst 3 7 f126_6 rfl (by decide +kernel) ?_
                    refine zw_ic_eq_t 20 f126_7 (by decide +kernel) hc25 ?_
                    refine zw_iconst 1 21 f126_20 rfl (by decide +kernel) ?_
                    refine zw_goto 25 f126_21 (by decide +kernel) ?_
                    refine zw_zreturn f126_25 r126 u126 (by decide +kernel) ⟨_, rfl, ?_⟩
                    refine zw_if_eq_f 52 61 f178_49 (by decide +kernel) rfl (by decide +kernel) ?_
                    refine zw_aload_n 53 f178_52 rfl rfl ?_
                    refine zw_getfield 56 f178_53 rfl g178_19_12 (hb_52 _ _ _ _) rfl ?_
                    refine zw_iload_n 57 f178_56 rfl rfl ?_
                    refine zw_iaload a.toNatClampNeg (A 56 a.toNatClampNeg) 58 f178_57 rfl (hb_56 _ _ _ _) rfl hc1 (zix (by decide) hc1 (show ¬ 8 ≤ a from ix_le hp.1 (by decide) (by decide) hc1 hc2)) rfl ?_
                    refine zw_goto 62 f178_58 (by decide +kernel) ?_
                    refine zw_iadd ((c ^^^ (A 54 a.toNatClampNeg)) + (A 56 a.toNatClampNeg)) 63 f178_62 rfl rfl ?_
                    refine zw_aload_n 64 f178_63 rfl rfl ?_
                    refine zw_getfield 67 f178_64 rfl g178_7_12 (hb_52 _ _ _ _) rfl ?_
                    refine zw_iload_n 68 f178_67 rfl rfl ?_
                    refine zw_iaload a.toNatClampNeg (A 53 a.toNatClampNeg) 69 f178_68 rfl (hb_53 _ _ _ _) rfl hc1 (zix (by decide) hc1 (show ¬ 8 ≤ a from ix_le hp.1 (by decide) (by decide) hc1 hc2)) rfl ?_
                    refine zw_iconst 4 70 f178_69 rfl (by decide +kernel) ?_
                    refine zw_ic_ne_f 73 82 f178_70 (by decide +kernel) rfl hc23 ?_
                    refine zw_aload_n 74 f178_73 rfl rfl ?_
                    refine zw_getfield 77 f178_74 rfl g178_55_12 (hb_52 _ _ _ _) rfl ?_
                    refine zw_iload_n 78 f178_77 rfl rfl ?_
                    refine zw_iaload a.toNatClampNeg ((W.2.2.2.2.2.2.2) a.toNatClampNeg) 79 f178_78 rfl (hb_66 _ _ _ _) rfl hc1 (zix (by decide) hc1 (show ¬ 8 ≤ a from ix_le hp.1 (by decide) (by decide) hc1 hc2)) (congrFun (hR.cnt) a.toNatClampNeg) ?_
                    refine zw_goto 83 f178_79 (by decide +kernel) ?_
                    refine zw_iadd (((c ^^^ (A 54 a.toNatClampNeg)) + (A 56 a.toNatClampNeg)) + ((W.2.2.2.2.2.2.2) a.toNatClampNeg)) 84 f178_83 rfl rfl ?_
                    refine zw_ireturn f178_84 r178 u178 ⟨_, rfl, ?_⟩
                    refine zw_goto 76 f180_67 (by decide +kernel) ?_
                    refine zw_virtual_i 79 0 0 [.ref 52, .int (((c ^^^ (A 54 a.toNatClampNeg)) + (A 56 a.toNatClampNeg)) + ((W.2.2.2.2.2.2.2) a.toNatClampNeg))] [(0, .ref 52), (1, .int (((c ^^^ (A 54 a.toNatClampNeg)) + (A 56 a.toNatClampNeg)) + ((W.2.2.2.2.2.2.2) a.toNatClampNeg)))] f180_76 rfl n180_205 k180_205_12 rfl (hb_52 _ _ _ _) (by decide +kernel) (Nat.le_of_ble_eq_true rfl) rfl rfl (by decide +kernel) (by decide +kernel) rfl (Nat.le_of_ble_eq_true rfl) rfl ?_
                    refine zw_aload_n 1 f122_0 rfl rfl ?_
                    refine zw_iconst 0 2 f122_1 rfl (by decide +kernel) ?_
                    refine zw_put _ 5 f122_2 rfl g122_111_12 (hb_52 _ _ _ _) rfl (Nat.le_of_ble_eq_true rfl) (by decide +kernel) (hi_52_27 _ _ _ _ _) ?_
                    refine zw_iload_n 6 f122_5 rfl rfl ?_
                    refine zw_ireturn f122_6 r122 u122 ⟨_, rfl, ?_⟩
                    refine zw_ireturn f180_79 r180 u180 ?_
                    exact ⟨_, _, _, _, rfl, (KQ.i rfl (KQ.i rfl (KQ.a rfl (KQ.i rfl (KQ.a rfl (KQ.i rfl (KQ.a rfl (KQ.i rfl KQ.rf)))))))), ⟨hi.1, hi.2.1, 3, by omega, (show _ = nI 3 from rfl)⟩, _, rfl⟩
                  · refine zw_aload_n 11 f126_10 rfl rfl ?_
                    refine zw_getfield 14 f126_11 rfl g126_7_12 (hb_52 _ _ _ _) rfl ?_
                    refine zw_iload_n 15 f126_14 rfl rfl ?_
                    refine zw_iaload a.toNatClampNeg (A 53 a.toNatClampNeg) 16 f126_15 rfl (hb_53 _ _ _ _) rfl hc1 (zix (by decide) hc1 (show ¬ 8 ≤ a from ix_le hp.1 (by decide) (by decide) hc1 hc2)) rfl ?_
                    refine zw_iconst 4 17 f126_16 rfl (by decide +kernel) ?_
                    refine zw_ic_ne_f 20 24 f126_17 (by decide +kernel) rfl hc23 ?_
                    refine zw_iconst 1 21 f126_20 rfl (by decide +kernel) ?_
                    refine zw_goto 25 f126_21 (by decide +kernel) ?_
                    refine zw_zreturn f126_25 r126 u126 (by decide +kernel) ⟨_, rfl, ?_⟩
                    refine zw_if_eq_f 24 30 f178_21 (by decide +kernel) rfl (by decide +kernel) ?_
                    refine zw_aload_n 25 f178_24 rfl rfl ?_
                    refine zw_bipush 40 27 f178_25 rfl (by decide +kernel) ?_
                    refine zw_virtual_v 30 0 0 [.ref 52, .int 40] [(0, .ref 52), (1, .int 40)] f178_27 rfl n178_291 k178_291_12 rfl (hb_52 _ _ _ _) (by decide +kernel) (Nat.le_of_ble_eq_true rfl) rfl rfl (by decide +kernel) (by decide +kernel) rfl (Nat.le_of_ble_eq_true rfl) rfl ?_
                    refine zw_aload_n 1 f173_0 rfl rfl ?_
                    refine zw_getI 1 4 f173_1 rfl g173_246_12 (hb_52 _ _ _ _) rfl rfl ?_
                    refine zw_bipush 50 6 f173_4 rfl (by decide +kernel) ?_
                    refine zw_ic_ge_f 9 19 f173_6 (by decide +kernel) rfl (by decide +kernel) ?_
                    refine zw_aload_n 10 f173_9 rfl rfl ?_
                    refine zw_getfield 13 f173_10 rfl g173_74_12 (hb_52 _ _ _ _) rfl ?_
                    refine zw_aload_n 14 f173_13 rfl rfl ?_
                    refine zw_getI 1 17 f173_14 rfl g173_246_12 (hb_52 _ _ _ _) rfl rfl ?_
                    refine zw_iload_n 18 f173_17 rfl rfl ?_
                    refine zw_ast 1 _ 19 f173_18 rfl (hb_71 _ _ _ _) (by decide +kernel) (by decide +kernel) (by decide +kernel) (ha_71 _ _ _ _ _) ?_
                    refine zw_aload_n 20 f173_19 rfl rfl ?_
                    refine zw_dup 21 f173_20 rfl rfl ?_
                    refine zw_getI 1 24 f173_21 rfl g173_246_12 (hb_52 _ _ _ _) rfl rfl ?_
                    refine zw_iconst 1 25 f173_24 rfl (by decide +kernel) ?_
                    refine zw_iadd 2 26 f173_25 rfl (by decide +kernel) ?_
                    refine zw_put _ 29 f173_26 rfl g173_246_12 (hb_52 _ _ _ _) rfl (Nat.le_of_ble_eq_true rfl) (by decide +kernel) (hi_52_29 _ _ _ _ _) ?_
                    refine zw_vreturn f173_29 r173 u173 ⟨rfl, ?_⟩
                    refine zw_aload_n 31 f178_30 rfl rfl ?_
                    refine zw_bipush 12 33 f178_31 rfl (by decide +kernel) ?_
                    refine zw_virtual_v 36 0 0 [.ref 52, .int 12] [(0, .ref 52), (1, .int 12)] f178_33 rfl n178_291 k178_291_12 rfl (hb_52 _ _ _ _) (by decide +kernel) (Nat.le_of_ble_eq_true rfl) rfl rfl (by decide +kernel) (by decide +kernel) rfl (Nat.le_of_ble_eq_true rfl) rfl ?_
                    refine zw_aload_n 1 f173_0 rfl rfl ?_
                    refine zw_getI 2 4 f173_1 rfl g173_246_12 (hb_52 _ _ _ _) rfl rfl ?_
                    refine zw_bipush 50 6 f173_4 rfl (by decide +kernel) ?_
                    refine zw_ic_ge_f 9 19 f173_6 (by decide +kernel) rfl (by decide +kernel) ?_
                    refine zw_aload_n 10 f173_9 rfl rfl ?_
                    refine zw_getfield 13 f173_10 rfl g173_74_12 (hb_52 _ _ _ _) rfl ?_
                    refine zw_aload_n 14 f173_13 rfl rfl ?_
                    refine zw_getI 2 17 f173_14 rfl g173_246_12 (hb_52 _ _ _ _) rfl rfl ?_
                    refine zw_iload_n 18 f173_17 rfl rfl ?_
                    refine zw_ast 2 _ 19 f173_18 rfl (hb_71 _ _ _ _) (by decide +kernel) (by decide +kernel) (by decide +kernel) (ha_71 _ _ _ _ _) ?_
                    refine zw_aload_n 20 f173_19 rfl rfl ?_
                    refine zw_dup 21 f173_20 rfl rfl ?_
                    refine zw_getI 2 24 f173_21 rfl g173_246_12 (hb_52 _ _ _ _) rfl rfl ?_
                    refine zw_iconst 1 25 f173_24 rfl (by decide +kernel) ?_
                    refine zw_iadd 3 26 f173_25 rfl (by decide +kernel) ?_
                    refine zw_put _ 29 f173_26 rfl g173_246_12 (hb_52 _ _ _ _) rfl (Nat.le_of_ble_eq_true rfl) (by decide +kernel) (hi_52_29 _ _ _ _ _) ?_
                    refine zw_vreturn f173_29 r173 u173 ⟨rfl, ?_⟩
                    refine zw_iload_n 37 f178_36 rfl rfl ?_
                    refine zw_aload_n 38 f178_37 rfl rfl ?_
                    refine zw_getfield 41 f178_38 rfl g178_13_12 (hb_52 _ _ _ _) rfl ?_
                    refine zw_iload_n 42 f178_41 rfl rfl ?_
                    refine zw_iaload a.toNatClampNeg (A 54 a.toNatClampNeg) 43 f178_42 rfl (hb_54 _ _ _ _) rfl hc1 (zix (by decide) hc1 (show ¬ 8 ≤ a from ix_le hp.1 (by decide) (by decide) hc1 hc2)) rfl ?_
                    refine zw_ixor (c ^^^ (A 54 a.toNatClampNeg)) 44 f178_43 rfl rfl ?_
                    refine zw_aload_n 45 f178_44 rfl rfl ?_
                    refine zw_iload_n 46 f178_45 rfl rfl ?_
                    refine zw_virtual_i 49 0 0 [.ref 52, .int a] [(0, .ref 52), (1, .int a)] f178_46 rfl n178_158 k178_158_12 rfl (hb_52 _ _ _ _) (by decide +kernel) (Nat.le_of_ble_eq_true rfl) rfl rfl (by decide +kernel) (by decide +kernel) rfl (Nat.le_of_ble_eq_true rfl) rfl ?_
                    refine zw_aload_n 1 f126_0 rfl rfl ?_
                    refine zw_getfield 4 f126_1 rfl g126_7_12 (hb_52 _ _ _ _) rfl ?_
                    refine zw_iload_n 5 f126_4 rfl rfl ?_
                    refine zw_iaload a.toNatClampNeg (A 53 a.toNatClampNeg) 6 f126_5 rfl (hb_53 _ _ _ _) rfl hc1 (zix (by decide) hc1 (show ¬ 8 ≤ a from ix_le hp.1 (by decide) (by decide) hc1 hc2)) rfl ?_
                    refine zw_iconst 3 7 f126_6 rfl (by decide +kernel) ?_
                    refine zw_ic_eq_f 10 20 f126_7 (by decide +kernel) rfl hc25 ?_
                    refine zw_aload_n 11 f126_10 rfl rfl ?_
                    refine zw_getfield 14 f126_11 rfl g126_7_12 (hb_52 _ _ _ _) rfl ?_
                    refine zw_iload_n 15 f126_14 rfl rfl ?_
                    refine zw_iaload a.toNatClampNeg (A 53 a.toNatClampNeg) 16 f126_15 rfl (hb_53 _ _ _ _) rfl hc1 (zix (by decide) hc1 (show ¬ 8 ≤ a from ix_le hp.1 (by decide) (by decide) hc1 hc2)) rfl ?_
                    refine zw_iconst 4 17 f126_16 rfl (by decide +kernel) ?_
                    refine zw_ic_ne_f 20 24 f126_17 (by decide +kernel) rfl hc23 ?_
                    refine zw_iconst 1 21 f126_20 rfl (by decide +kernel) ?_
                    refine zw_goto 25 f126_21 (by decide +kernel) ?_
                    refine zw_zreturn f126_25 r126 u126 (by decide +kernel) ⟨_, rfl, ?_⟩
                    refine zw_if_eq_f 52 61 f178_49 (by decide +kernel) rfl (by decide +kernel) ?_
                    refine zw_aload_n 53 f178_52 rfl rfl ?_
                    refine zw_getfield 56 f178_53 rfl g178_19_12 (hb_52 _ _ _ _) rfl ?_
                    refine zw_iload_n 57 f178_56 rfl rfl ?_
                    refine zw_iaload a.toNatClampNeg (A 56 a.toNatClampNeg) 58 f178_57 rfl (hb_56 _ _ _ _) rfl hc1 (zix (by decide) hc1 (show ¬ 8 ≤ a from ix_le hp.1 (by decide) (by decide) hc1 hc2)) rfl ?_
                    refine zw_goto 62 f178_58 (by decide +kernel) ?_
                    refine zw_iadd ((c ^^^ (A 54 a.toNatClampNeg)) + (A 56 a.toNatClampNeg)) 63 f178_62 rfl rfl ?_
                    refine zw_aload_n 64 f178_63 rfl rfl ?_
                    refine zw_getfield 67 f178_64 rfl g178_7_12 (hb_52 _ _ _ _) rfl ?_
                    refine zw_iload_n 68 f178_67 rfl rfl ?_
                    refine zw_iaload a.toNatClampNeg (A 53 a.toNatClampNeg) 69 f178_68 rfl (hb_53 _ _ _ _) rfl hc1 (zix (by decide) hc1 (show ¬ 8 ≤ a from ix_le hp.1 (by decide) (by decide) hc1 hc2)) rfl ?_
                    refine zw_iconst 4 70 f178_69 rfl (by decide +kernel) ?_
                    refine zw_ic_ne_f 73 82 f178_70 (by decide +kernel) rfl hc23 ?_
                    refine zw_aload_n 74 f178_73 rfl rfl ?_
                    refine zw_getfield 77 f178_74 rfl g178_55_12 (hb_52 _ _ _ _) rfl ?_
                    refine zw_iload_n 78 f178_77 rfl rfl ?_
                    refine zw_iaload a.toNatClampNeg ((W.2.2.2.2.2.2.2) a.toNatClampNeg) 79 f178_78 rfl (hb_66 _ _ _ _) rfl hc1 (zix (by decide) hc1 (show ¬ 8 ≤ a from ix_le hp.1 (by decide) (by decide) hc1 hc2)) (congrFun (hR.cnt) a.toNatClampNeg) ?_
                    refine zw_goto 83 f178_79 (by decide +kernel) ?_
                    refine zw_iadd (((c ^^^ (A 54 a.toNatClampNeg)) + (A 56 a.toNatClampNeg)) + ((W.2.2.2.2.2.2.2) a.toNatClampNeg)) 84 f178_83 rfl rfl ?_
                    refine zw_ireturn f178_84 r178 u178 ⟨_, rfl, ?_⟩
                    refine zw_goto 76 f180_67 (by decide +kernel) ?_
                    refine zw_virtual_i 79 0 0 [.ref 52, .int (((c ^^^ (A 54 a.toNatClampNeg)) + (A 56 a.toNatClampNeg)) + ((W.2.2.2.2.2.2.2) a.toNatClampNeg))] [(0, .ref 52), (1, .int (((c ^^^ (A 54 a.toNatClampNeg)) + (A 56 a.toNatClampNeg)) + ((W.2.2.2.2.2.2.2) a.toNatClampNeg)))] f180_76 rfl n180_205 k180_205_12 rfl (hb_52 _ _ _ _) (by decide +kernel) (Nat.le_of_ble_eq_true rfl) rfl rfl (by decide +kernel) (by decide +kernel) rfl (Nat.le_of_ble_eq_true rfl) rfl ?_
                    refine zw_aload_n 1 f122_0 rfl rfl ?_
                    refine zw_iconst 0 2 f122_1 rfl (by decide +kernel) ?_
                    refine zw_put _ 5 f122_2 rfl g122_111_12 (hb_52 _ _ _ _) rfl (Nat.le_of_ble_eq_true rfl) (by decide +kernel) (hi_52_27 _ _ _ _ _) ?_
                    refine zw_iload_n 6 f122_5 rfl rfl ?_
                    refine zw_ireturn f122_6 r122 u122 ⟨_, rfl, ?_⟩
                    refine zw_ireturn f180_79 r180 u180 ?_
                    exact ⟨_, _, _, _, rfl, (KQ.i rfl (KQ.i rfl (KQ.a rfl (KQ.i rfl (KQ.a rfl (KQ.i rfl (KQ.a rfl (KQ.i rfl KQ.rf)))))))), ⟨hi.1, hi.2.1, 3, by omega, (show _ = nI 3 from rfl)⟩, _, rfl⟩
            · refine zw_aload_n 48 f180_47 rfl rfl ?_
              refine zw_iload_n 49 f180_48 rfl rfl ?_
              refine zw_iload_n 50 f180_49 rfl rfl ?_
              refine zw_virtual_i 53 0 0 [.ref 52, .int a, .int c] [(0, .ref 52), (1, .int a), (2, .int c)] f180_50 rfl n180_304 k180_304_12 rfl (hb_52 _ _ _ _) (by decide +kernel) (Nat.le_of_ble_eq_true rfl) rfl rfl (by decide +kernel) (by decide +kernel) rfl (Nat.le_of_ble_eq_true rfl) rfl ?_
              refine zw_aload_n 1 f177_0 rfl rfl ?_
              refine zw_getfield 4 f177_1 rfl g177_7_12 (hb_52 _ _ _ _) rfl ?_
              refine zw_iload_n 5 f177_4 rfl rfl ?_
              refine zw_iaload a.toNatClampNeg (A 53 a.toNatClampNeg) 6 f177_5 rfl (hb_53 _ _ _ _) rfl hc1 (zix (by decide) hc1 (show ¬ 8 ≤ a from ix_le hp.1 (by decide) (by decide) hc1 hc2)) rfl ?_
              refine zw_iconst 1 7 f177_6 rfl (by decide +kernel) ?_
              refine zw_ic_ne 10 30 f177_7 (by decide +kernel) rfl (fun hc26 => ?_) (fun hc26 => ?_)
              · refine zw_aload_n 31 f177_30 rfl rfl ?_
                refine zw_getfield 34 f177_31 rfl g177_7_12 (hb_52 _ _ _ _) rfl ?_
                refine zw_iload_n 35 f177_34 rfl rfl ?_
                refine zw_iaload a.toNatClampNeg (A 53 a.toNatClampNeg) 36 f177_35 rfl (hb_53 _ _ _ _) rfl hc1 (zix (by decide) hc1 (show ¬ 8 ≤ a from ix_le hp.1 (by decide) (by decide) hc1 hc2)) rfl ?_
                refine zw_iconst 4 37 f177_36 rfl (by decide +kernel) ?_
                refine zw_ic_ne 40 60 f177_37 (by decide +kernel) rfl (fun hc27 => ?_) (fun hc27 => ?_)
                · refine zw_aload_n 61 f177_60 rfl rfl ?_
                  refine zw_iload_n 62 f177_61 rfl rfl ?_
                  refine zw_iload_n 63 f177_62 rfl rfl ?_
                  refine zw_virtual_i 66 0 0 [.ref 52, .int a, .int c] [(0, .ref 52), (1, .int a), (2, .int c)] f177_63 rfl n177_301 k177_301_12 rfl (hb_52 _ _ _ _) (by decide +kernel) (Nat.le_of_ble_eq_true rfl) rfl rfl (by decide +kernel) (by decide +kernel) rfl (Nat.le_of_ble_eq_true rfl) rfl ?_
                  refine zw_aload_n 1 f176_0 rfl rfl ?_
                  refine zw_bipush 11 3 f176_1 rfl (by decide +kernel) ?_
                  refine zw_virtual_v 6 0 0 [.ref 52, .int 11] [(0, .ref 52), (1, .int 11)] f176_3 rfl n176_291 k176_291_12 rfl (hb_52 _ _ _ _) (by decide +kernel) (Nat.le_of_ble_eq_true rfl) rfl rfl (by decide +kernel) (by decide +kernel) rfl (Nat.le_of_ble_eq_true rfl) rfl ?_
                  refine zw_aload_n 1 f173_0 rfl rfl ?_
                  refine zw_getI 0 4 f173_1 rfl g173_246_12 (hb_52 _ _ _ _) rfl rfl ?_
                  refine zw_bipush 50 6 f173_4 rfl (by decide +kernel) ?_
                  refine zw_ic_ge_f 9 19 f173_6 (by decide +kernel) rfl (by decide +kernel) ?_
                  refine zw_aload_n 10 f173_9 rfl rfl ?_
                  refine zw_getfield 13 f173_10 rfl g173_74_12 (hb_52 _ _ _ _) rfl ?_
                  refine zw_aload_n 14 f173_13 rfl rfl ?_
                  refine zw_getI 0 17 f173_14 rfl g173_246_12 (hb_52 _ _ _ _) rfl rfl ?_
                  refine zw_iload_n 18 f173_17 rfl rfl ?_
                  refine zw_ast 0 _ 19 f173_18 rfl (hb_71 _ _ _ _) (by decide +kernel) (by decide +kernel) (by decide +kernel) (ha_71 _ _ _ _ _) ?_
                  refine zw_aload_n 20 f173_19 rfl rfl ?_
                  refine zw_dup 21 f173_20 rfl rfl ?_
                  refine zw_getI 0 24 f173_21 rfl g173_246_12 (hb_52 _ _ _ _) rfl rfl ?_
                  refine zw_iconst 1 25 f173_24 rfl (by decide +kernel) ?_
                  refine zw_iadd 1 26 f173_25 rfl (by decide +kernel) ?_
                  refine zw_put _ 29 f173_26 rfl g173_246_12 (hb_52 _ _ _ _) rfl (Nat.le_of_ble_eq_true rfl) (by decide +kernel) (hi_52_29 _ _ _ _ _) ?_
                  refine zw_vreturn f173_29 r173 u173 ⟨rfl, ?_⟩
                  refine zw_aload_n 7 f176_6 rfl rfl ?_
                  refine zw_iload_n 8 f176_7 rfl rfl ?_
                  refine zw_iload_n 9 f176_8 rfl rfl ?_
                  refine zw_virtual_i 12 0 0 [.ref 52, .int a, .int c] [(0, .ref 52), (1, .int a), (2, .int c)] f176_9 rfl n176_298 k176_298_12 rfl (hb_52 _ _ _ _) (by decide +kernel) (Nat.le_of_ble_eq_true rfl) rfl rfl (by decide +kernel) (by decide +kernel) rfl (Nat.le_of_ble_eq_true rfl) rfl ?_
                  refine zw_aload_n 1 f175_0 rfl rfl ?_
                  refine zw_getfield 4 f175_1 rfl g175_7_12 (hb_52 _ _ _ _) rfl ?_
                  refine zw_iload_n 5 f175_4 rfl rfl ?_
                  refine zw_iaload a.toNatClampNeg (A 53 a.toNatClampNeg) 6 f175_5 rfl (hb_53 _ _ _ _) rfl hc1 (zix (by decide) hc1 (show ¬ 8 ≤ a from ix_le hp.1 (by decide) (by decide) hc1 hc2)) rfl ?_
                  refine zw_iconst 2 7 f175_6 rfl (by decide +kernel) ?_
                  refine zw_ic_ne 10 25 f175_7 (by decide +kernel) rfl (fun hc28 => ?_) (fun hc28 => ?_)
                  · refine zw_aload_n 26 f175_25 rfl rfl ?_
                    refine zw_iload_n 27 f175_26 rfl rfl ?_
                    refine zw_virtual_i 30 0 0 [.ref 52, .int a] [(0, .ref 52), (1, .int a)] f175_27 rfl n175_158 k175_158_12 rfl (hb_52 _ _ _ _) (by decide +kernel) (Nat.le_of_ble_eq_true rfl) rfl rfl (by decide +kernel) (by decide +kernel) rfl (Nat.le_of_ble_eq_true rfl) rfl ?_
                    refine zw_aload_n 1 f126_0 rfl rfl ?_
                    refine zw_getfield 4 f126_1 rfl g126_7_12 (hb_52 _ _ _ _) rfl ?_
                    refine zw_iload_n 5 f126_4 rfl rfl ?_
                    refine zw_iaload a.toNatClampNeg (A 53 a.toNatClampNeg) 6 f126_5 rfl (hb_53 _ _ _ _) rfl hc1 (zix (by decide) hc1 (show ¬ 8 ≤ a from ix_le hp.1 (by decide) (by decide) hc1 hc2)) rfl ?_
                    refine zw_iconst 3 7 f126_6 rfl (by decide +kernel) ?_
                    refine zw_ic_eq 10 20 f126_7 (by decide +kernel) rfl (fun hc29 => ?_) (fun hc29 => ?_)
                    · refine zw_iconst 1 21 f126_20 rfl (by decide +kernel) ?_
                      refine zw_goto 25 f126_21 (by decide +kernel) ?_
                      refine zw_zreturn f126_25 r126 u126 (by decide +kernel) ⟨_, rfl, ?_⟩
                      refine zw_if_eq_f 33 53 f175_30 (by decide +kernel) rfl (by decide +kernel) ?_
                      refine zw_aload_n 34 f175_33 rfl rfl ?_
                      refine zw_bipush 41 36 f175_34 rfl (by decide +kernel) ?_
                      refine zw_virtual_v 39 0 0 [.ref 52, .int 41] [(0, .ref 52), (1, .int 41)] f175_36 rfl n175_291 k175_291_12 rfl (hb_52 _ _ _ _) (by decide +kernel) (Nat.le_of_ble_eq_true rfl) rfl rfl (by decide +kernel) (by decide +kernel) rfl (Nat.le_of_ble_eq_true rfl) rfl ?_
                      refine zw_aload_n 1 f173_0 rfl rfl ?_
                      refine zw_getI 1 4 f173_1 rfl g173_246_12 (hb_52 _ _ _ _) rfl rfl ?_
                      refine zw_bipush 50 6 f173_4 rfl (by decide +kernel) ?_
                      refine zw_ic_ge_f 9 19 f173_6 (by decide +kernel) rfl (by decide +kernel) ?_
                      refine zw_aload_n 10 f173_9 rfl rfl ?_
                      refine zw_getfield 13 f173_10 rfl g173_74_12 (hb_52 _ _ _ _) rfl ?_
                      refine zw_aload_n 14 f173_13 rfl rfl ?_
                      refine zw_getI 1 17 f173_14 rfl g173_246_12 (hb_52 _ _ _ _) rfl rfl ?_
                      refine zw_iload_n 18 f173_17 rfl rfl ?_
                      refine zw_ast 1 _ 19 f173_18 rfl (hb_71 _ _ _ _) (by decide +kernel) (by decide +kernel) (by decide +kernel) (ha_71 _ _ _ _ _) ?_
                      refine zw_aload_n 20 f173_19 rfl rfl ?_
                      refine zw_dup 21 f173_20 rfl rfl ?_
                      refine zw_getI 1 24 f173_21 rfl g173_246_12 (hb_52 _ _ _ _) rfl rfl ?_
                      refine zw_iconst 1 25 f173_24 rfl (by decide +kernel) ?_
                      refine zw_iadd 2 26 f173_25 rfl (by decide +kernel) ?_
                      refine zw_put _ 29 f173_26 rfl g173_246_12 (hb_52 _ _ _ _) rfl (Nat.le_of_ble_eq_true rfl) (by decide +kernel) (hi_52_29 _ _ _ _ _) ?_
                      refine zw_vreturn f173_29 r173 u173 ⟨rfl, ?_⟩
                      refine zw_aload_n 40 f175_39 rfl rfl ?_
                      refine zw_iload_n 41 f175_40 rfl rfl ?_
                      refine zw_iload_n 42 f175_41 rfl rfl ?_
                      refine zw_aload_n 43 f175_42 rfl rfl ?_
                      refine zw_getfield 46 f175_43 rfl g175_16_12 (hb_52 _ _ _ _) rfl ?_
                      refine zw_iload_n 47 f175_46 rfl rfl ?_
                      refine zw_iaload a.toNatClampNeg (A 55 a.toNatClampNeg) 48 f175_47 rfl (hb_55 _ _ _ _) rfl hc1 (zix (by decide) hc1 (show ¬ 8 ≤ a from ix_le hp.1 (by decide) (by decide) hc1 hc2)) rfl ?_
                      refine zw_iadd (c + (A 55 a.toNatClampNeg)) 49 f175_48 rfl rfl ?_
                      refine zw_virtual_i 52 0 0 [.ref 52, .int a, .int (c + (A 55 a.toNatClampNeg))] [(0, .ref 52), (1, .int a), (2, .int (c + (A 55 a.toNatClampNeg)))] f175_49 rfl n175_294 k175_294_12 rfl (hb_52 _ _ _ _) (by decide +kernel) (Nat.le_of_ble_eq_true rfl) rfl rfl (by decide +kernel) (by decide +kernel) rfl (Nat.le_of_ble_eq_true rfl) rfl ?_
                      refine zw_aload_n 1 f174_0 rfl rfl ?_
                      refine zw_bipush 10 3 f174_1 rfl (by decide +kernel) ?_
                      refine zw_virtual_v 6 0 0 [.ref 52, .int 10] [(0, .ref 52), (1, .int 10)] f174_3 rfl n174_291 k174_291_12 rfl (hb_52 _ _ _ _) (by decide +kernel) (Nat.le_of_ble_eq_true rfl) rfl rfl (by decide +kernel) (by decide +kernel) rfl (Nat.le_of_ble_eq_true rfl) rfl ?_
                      refine zw_aload_n 1 f173_0 rfl rfl ?_
                      refine zw_getI 2 4 f173_1 rfl g173_246_12 (hb_52 _ _ _ _) rfl rfl ?_
                      refine zw_bipush 50 6 f173_4 rfl (by decide +kernel) ?_
                      refine zw_ic_ge_f 9 19 f173_6 (by decide +kernel) rfl (by decide +kernel) ?_
                      refine zw_aload_n 10 f173_9 rfl rfl ?_
                      refine zw_getfield 13 f173_10 rfl g173_74_12 (hb_52 _ _ _ _) rfl ?_
                      refine zw_aload_n 14 f173_13 rfl rfl ?_
                      refine zw_getI 2 17 f173_14 rfl g173_246_12 (hb_52 _ _ _ _) rfl rfl ?_
                      refine zw_iload_n 18 f173_17 rfl rfl ?_
                      refine zw_ast 2 _ 19 f173_18 rfl (hb_71 _ _ _ _) (by decide +kernel) (by decide +kernel) (by decide +kernel) (ha_71 _ _ _ _ _) ?_
                      refine zw_aload_n 20 f173_19 rfl rfl ?_
                      refine zw_dup 21 f173_20 rfl rfl ?_
                      refine zw_getI 2 24 f173_21 rfl g173_246_12 (hb_52 _ _ _ _) rfl rfl ?_
                      refine zw_iconst 1 25 f173_24 rfl (by decide +kernel) ?_
                      refine zw_iadd 3 26 f173_25 rfl (by decide +kernel) ?_
                      refine zw_put _ 29 f173_26 rfl g173_246_12 (hb_52 _ _ _ _) rfl (Nat.le_of_ble_eq_true rfl) (by decide +kernel) (hi_52_29 _ _ _ _ _) ?_
                      refine zw_vreturn f173_29 r173 u173 ⟨rfl, ?_⟩
                      refine zw_iload_n 7 f174_6 rfl rfl ?_
                      refine zw_aload_n 8 f174_7 rfl rfl ?_
                      refine zw_getfield 11 f174_8 rfl g174_13_12 (hb_52 _ _ _ _) rfl ?_
                      refine zw_iload_n 12 f174_11 rfl rfl ?_
                      refine zw_iaload a.toNatClampNeg (A 54 a.toNatClampNeg) 13 f174_12 rfl (hb_54 _ _ _ _) rfl hc1 (zix (by decide) hc1 (show ¬ 8 ≤ a from ix_le hp.1 (by decide) (by decide) hc1 hc2)) rfl ?_
                      refine zw_iadd ((c + (A 55 a.toNatClampNeg)) + (A 54 a.toNatClampNeg)) 14 f174_13 rfl rfl ?_
                      refine zw_ireturn f174_14 r174 u174 ⟨_, rfl, ?_⟩
                      refine zw_ireturn f175_52 r175 u175 ⟨_, rfl, ?_⟩
                      refine zw_iconst 3 13 f176_12 rfl (by decide +kernel) ?_
                      refine zw_imul (((c + (A 55 a.toNatClampNeg)) + (A 54 a.toNatClampNeg)) * 3) 14 f176_13 rfl rfl ?_
                      refine zw_ireturn f176_14 r176 u176 ⟨_, rfl, ?_⟩
                      refine zw_ireturn f177_66 r177 u177 ⟨_, rfl, ?_⟩
                      refine zw_goto 76 f180_53 (by decide +kernel) ?_
                      refine zw_virtual_i 79 0 0 [.ref 52, .int (((c + (A 55 a.toNatClampNeg)) + (A 54 a.toNatClampNeg)) * 3)] [(0, .ref 52), (1, .int (((c + (A 55 a.toNatClampNeg)) + (A 54 a.toNatClampNeg)) * 3))] f180_76 rfl n180_205 k180_205_12 rfl (hb_52 _ _ _ _) (by decide +kernel) (Nat.le_of_ble_eq_true rfl) rfl rfl (by decide +kernel) (by decide +kernel) rfl (Nat.le_of_ble_eq_true rfl) rfl ?_
                      refine zw_aload_n 1 f122_0 rfl rfl ?_
                      refine zw_iconst 0 2 f122_1 rfl (by decide +kernel) ?_
                      refine zw_put _ 5 f122_2 rfl g122_111_12 (hb_52 _ _ _ _) rfl (Nat.le_of_ble_eq_true rfl) (by decide +kernel) (hi_52_27 _ _ _ _ _) ?_
                      refine zw_iload_n 6 f122_5 rfl rfl ?_
                      refine zw_ireturn f122_6 r122 u122 ⟨_, rfl, ?_⟩
                      refine zw_ireturn f180_79 r180 u180 ?_
                      exact ⟨_, _, _, _, rfl, (KQ.i rfl (KQ.i rfl (KQ.a rfl (KQ.i rfl (KQ.a rfl (KQ.i rfl (KQ.a rfl (KQ.i rfl KQ.rf)))))))), ⟨hi.1, hi.2.1, 3, by omega, (show _ = nI 3 from rfl)⟩, _, rfl⟩
                    · refine zw_aload_n 11 f126_10 rfl rfl ?_
                      refine zw_getfield 14 f126_11 rfl g126_7_12 (hb_52 _ _ _ _) rfl ?_
                      refine zw_iload_n 15 f126_14 rfl rfl ?_
                      refine zw_iaload a.toNatClampNeg (A 53 a.toNatClampNeg) 16 f126_15 rfl (hb_53 _ _ _ _) rfl hc1 (zix (by decide) hc1 (show ¬ 8 ≤ a from ix_le hp.1 (by decide) (by decide) hc1 hc2)) rfl ?_
                      refine zw_iconst 4 17 f126_16 rfl (by decide +kernel) ?_
                      refine zw_ic_ne_t 24 f126_17 (by decide +kernel) hc27 ?_
                      refine zw_iconst 0 25 f126_24 rfl (by decide +kernel) ?_
                      refine zw_zreturn f126_25 r126 u126 (by decide +kernel) ⟨_, rfl, ?_⟩
                      refine zw_if_eq_t 53 f175_30 (by decide +kernel) (by decide +kernel) ?_
                      refine zw_aload_n 54 f175_53 rfl rfl ?_
                      refine zw_iload_n 55 f175_54 rfl rfl ?_
                      refine zw_iload_n 56 f175_55 rfl rfl ?_
                      refine zw_virtual_i 59 0 0 [.ref 52, .int a, .int c] [(0, .ref 52), (1, .int a), (2, .int c)] f175_56 rfl n175_294 k175_294_12 rfl (hb_52 _ _ _ _) (by decide +kernel) (Nat.le_of_ble_eq_true rfl) rfl rfl (by decide +kernel) (by decide +kernel) rfl (Nat.le_of_ble_eq_true rfl) rfl ?_
                      refine zw_aload_n 1 f174_0 rfl rfl ?_
                      refine zw_bipush 10 3 f174_1 rfl (by decide +kernel) ?_
                      refine zw_virtual_v 6 0 0 [.ref 52, .int 10] [(0, .ref 52), (1, .int 10)] f174_3 rfl n174_291 k174_291_12 rfl (hb_52 _ _ _ _) (by decide +kernel) (Nat.le_of_ble_eq_true rfl) rfl rfl (by decide +kernel) (by decide +kernel) rfl (Nat.le_of_ble_eq_true rfl) rfl ?_
                      refine zw_aload_n 1 f173_0 rfl rfl ?_
                      refine zw_getI 1 4 f173_1 rfl g173_246_12 (hb_52 _ _ _ _) rfl rfl ?_
                      refine zw_bipush 50 6 f173_4 rfl (by decide +kernel) ?_
                      refine zw_ic_ge_f 9 19 f173_6 (by decide +kernel) rfl (by decide +kernel) ?_
                      refine zw_aload_n 10 f173_9 rfl rfl ?_
                      refine zw_getfield 13 f173_10 rfl g173_74_12 (hb_52 _ _ _ _) rfl ?_
                      refine zw_aload_n 14 f173_13 rfl rfl ?_
                      refine zw_getI 1 17 f173_14 rfl g173_246_12 (hb_52 _ _ _ _) rfl rfl ?_
                      refine zw_iload_n 18 f173_17 rfl rfl ?_
                      refine zw_ast 1 _ 19 f173_18 rfl (hb_71 _ _ _ _) (by decide +kernel) (by decide +kernel) (by decide +kernel) (ha_71 _ _ _ _ _) ?_
                      refine zw_aload_n 20 f173_19 rfl rfl ?_
                      refine zw_dup 21 f173_20 rfl rfl ?_
                      refine zw_getI 1 24 f173_21 rfl g173_246_12 (hb_52 _ _ _ _) rfl rfl ?_
                      refine zw_iconst 1 25 f173_24 rfl (by decide +kernel) ?_
                      refine zw_iadd 2 26 f173_25 rfl (by decide +kernel) ?_
                      refine zw_put _ 29 f173_26 rfl g173_246_12 (hb_52 _ _ _ _) rfl (Nat.le_of_ble_eq_true rfl) (by decide +kernel) (hi_52_29 _ _ _ _ _) ?_
                      refine zw_vreturn f173_29 r173 u173 ⟨rfl, ?_⟩
                      refine zw_iload_n 7 f174_6 rfl rfl ?_
                      refine zw_aload_n 8 f174_7 rfl rfl ?_
                      refine zw_getfield 11 f174_8 rfl g174_13_12 (hb_52 _ _ _ _) rfl ?_
                      refine zw_iload_n 12 f174_11 rfl rfl ?_
                      refine zw_iaload a.toNatClampNeg (A 54 a.toNatClampNeg) 13 f174_12 rfl (hb_54 _ _ _ _) rfl hc1 (zix (by decide) hc1 (show ¬ 8 ≤ a from ix_le hp.1 (by decide) (by decide) hc1 hc2)) rfl ?_
                      refine zw_iadd (c + (A 54 a.toNatClampNeg)) 14 f174_13 rfl rfl ?_
                      refine zw_ireturn f174_14 r174 u174 ⟨_, rfl, ?_⟩
                      refine zw_ireturn f175_59 r175 u175 ⟨_, rfl, ?_⟩
                      refine zw_iconst 3 13 f176_12 rfl (by decide +kernel) ?_
                      refine zw_imul ((c + (A 54 a.toNatClampNeg)) * 3) 14 f176_13 rfl rfl ?_
                      refine zw_ireturn f176_14 r176 u176 ⟨_, rfl, ?_⟩
                      refine zw_ireturn f177_66 r177 u177 ⟨_, rfl, ?_⟩
                      refine zw_goto 76 f180_53 (by decide +kernel) ?_
                      refine zw_virtual_i 79 0 0 [.ref 52, .int ((c + (A 54 a.toNatClampNeg)) * 3)] [(0, .ref 52), (1, .int ((c + (A 54 a.toNatClampNeg)) * 3))] f180_76 rfl n180_205 k180_205_12 rfl (hb_52 _ _ _ _) (by decide +kernel) (Nat.le_of_ble_eq_true rfl) rfl rfl (by decide +kernel) (by decide +kernel) rfl (Nat.le_of_ble_eq_true rfl) rfl ?_
                      refine zw_aload_n 1 f122_0 rfl rfl ?_
                      refine zw_iconst 0 2 f122_1 rfl (by decide +kernel) ?_
                      refine zw_put _ 5 f122_2 rfl g122_111_12 (hb_52 _ _ _ _) rfl (Nat.le_of_ble_eq_true rfl) (by decide +kernel) (hi_52_27 _ _ _ _ _) ?_
                      refine zw_iload_n 6 f122_5 rfl rfl ?_
                      refine zw_ireturn f122_6 r122 u122 ⟨_, rfl, ?_⟩
                      refine zw_ireturn f180_79 r180 u180 ?_
                      exact ⟨_, _, _, _, rfl, (KQ.i rfl (KQ.i rfl (KQ.a rfl (KQ.i rfl (KQ.a rfl (KQ.i rfl KQ.rf)))))), ⟨hi.1, hi.2.1, 2, by omega, (show _ = nI 2 from rfl)⟩, _, rfl⟩
                  · refine zw_aload_n 11 f175_10 rfl rfl ?_
                    refine zw_bipush 30 13 f175_11 rfl (by decide +kernel) ?_
                    refine zw_virtual_v 16 0 0 [.ref 52, .int 30] [(0, .ref 52), (1, .int 30)] f175_13 rfl n175_291 k175_291_12 rfl (hb_52 _ _ _ _) (by decide +kernel) (Nat.le_of_ble_eq_true rfl) rfl rfl (by decide +kernel) (by decide +kernel) rfl (Nat.le_of_ble_eq_true rfl) rfl ?_
                    refine zw_aload_n 1 f173_0 rfl rfl ?_
                    refine zw_getI 1 4 f173_1 rfl g173_246_12 (hb_52 _ _ _ _) rfl rfl ?_
                    refine zw_bipush 50 6 f173_4 rfl (by decide +kernel) ?_
                    refine zw_ic_ge_f 9 19 f173_6 (by decide +kernel) rfl (by decide +kernel) ?_
                    refine zw_aload_n 10 f173_9 rfl rfl ?_
                    refine zw_getfield 13 f173_10 rfl g173_74_12 (hb_52 _ _ _ _) rfl ?_
                    refine zw_aload_n 14 f173_13 rfl rfl ?_
                    refine zw_getI 1 17 f173_14 rfl g173_246_12 (hb_52 _ _ _ _) rfl rfl ?_
                    refine zw_iload_n 18 f173_17 rfl rfl ?_
                    refine zw_ast 1 _ 19 f173_18 rfl (hb_71 _ _ _ _) (by decide +kernel) (by decide +kernel) (by decide +kernel) (ha_71 _ _ _ _ _) ?_
                    refine zw_aload_n 20 f173_19 rfl rfl ?_
                    refine zw_dup 21 f173_20 rfl rfl ?_
                    refine zw_getI 1 24 f173_21 rfl g173_246_12 (hb_52 _ _ _ _) rfl rfl ?_
                    refine zw_iconst 1 25 f173_24 rfl (by decide +kernel) ?_
                    refine zw_iadd 2 26 f173_25 rfl (by decide +kernel) ?_
                    refine zw_put _ 29 f173_26 rfl g173_246_12 (hb_52 _ _ _ _) rfl (Nat.le_of_ble_eq_true rfl) (by decide +kernel) (hi_52_29 _ _ _ _ _) ?_
                    refine zw_vreturn f173_29 r173 u173 ⟨rfl, ?_⟩
                    refine zw_aload_n 17 f175_16 rfl rfl ?_
                    refine zw_iload_n 18 f175_17 rfl rfl ?_
                    refine zw_iload_n 19 f175_18 rfl rfl ?_
                    refine zw_virtual_i 22 0 0 [.ref 52, .int a, .int c] [(0, .ref 52), (1, .int a), (2, .int c)] f175_19 rfl n175_294 k175_294_12 rfl (hb_52 _ _ _ _) (by decide +kernel) (Nat.le_of_ble_eq_true rfl) rfl rfl (by decide +kernel) (by decide +kernel) rfl (Nat.le_of_ble_eq_true rfl) rfl ?_
                    refine zw_aload_n 1 f174_0 rfl rfl ?_
                    refine zw_bipush 10 3 f174_1 rfl (by decide +kernel) ?_
                    refine zw_virtual_v 6 0 0 [.ref 52, .int 10] [(0, .ref 52), (1, .int 10)] f174_3 rfl n174_291 k174_291_12 rfl (hb_52 _ _ _ _) (by decide +kernel) (Nat.le_of_ble_eq_true rfl) rfl rfl (by decide +kernel) (by decide +kernel) rfl (Nat.le_of_ble_eq_true rfl) rfl ?_
                    refine zw_aload_n 1 f173_0 rfl rfl ?_
                    refine zw_getI 2 4 f173_1 rfl g173_246_12 (hb_52 _ _ _ _) rfl rfl ?_
                    refine zw_bipush 50 6 f173_4 rfl (by decide +kernel) ?_
                    refine zw_ic_ge_f 9 19 f173_6 (by decide +kernel) rfl (by decide +kernel) ?_
                    refine zw_aload_n 10 f173_9 rfl rfl ?_
                    refine zw_getfield 13 f173_10 rfl g173_74_12 (hb_52 _ _ _ _) rfl ?_
                    refine zw_aload_n 14 f173_13 rfl rfl ?_
                    refine zw_getI 2 17 f173_14 rfl g173_246_12 (hb_52 _ _ _ _) rfl rfl ?_
                    refine zw_iload_n 18 f173_17 rfl rfl ?_
                    refine zw_ast 2 _ 19 f173_18 rfl (hb_71 _ _ _ _) (by decide +kernel) (by decide +kernel) (by decide +kernel) (ha_71 _ _ _ _ _) ?_
                    refine zw_aload_n 20 f173_19 rfl rfl ?_
                    refine zw_dup 21 f173_20 rfl rfl ?_
                    refine zw_getI 2 24 f173_21 rfl g173_246_12 (hb_52 _ _ _ _) rfl rfl ?_
                    refine zw_iconst 1 25 f173_24 rfl (by decide +kernel) ?_
                    refine zw_iadd 3 26 f173_25 rfl (by decide +kernel) ?_
                    refine zw_put _ 29 f173_26 rfl g173_246_12 (hb_52 _ _ _ _) rfl (Nat.le_of_ble_eq_true rfl) (by decide +kernel) (hi_52_29 _ _ _ _ _) ?_
                    refine zw_vreturn f173_29 r173 u173 ⟨rfl, ?_⟩
                    refine zw_iload_n 7 f174_6 rfl rfl ?_
                    refine zw_aload_n 8 f174_7 rfl rfl ?_
                    refine zw_getfield 11 f174_8 rfl g174_13_12 (hb_52 _ _ _ _) rfl ?_
                    refine zw_iload_n 12 f174_11 rfl rfl ?_
                    refine zw_iaload a.toNatClampNeg (A 54 a.toNatClampNeg) 13 f174_12 rfl (hb_54 _ _ _ _) rfl hc1 (zix (by decide) hc1 (show ¬ 8 ≤ a from ix_le hp.1 (by decide) (by decide) hc1 hc2)) rfl ?_
                    refine zw_iadd (c + (A 54 a.toNatClampNeg)) 14 f174_13 rfl rfl ?_
                    refine zw_ireturn f174_14 r174 u174 ⟨_, rfl, ?_⟩
                    refine zw_iconst 2 23 f175_22 rfl (by decide +kernel) ?_
                    refine zw_imul ((c + (A 54 a.toNatClampNeg)) * 2) 24 f175_23 rfl rfl ?_
                    refine zw_ireturn f175_24 r175 u175 ⟨_, rfl, ?_⟩
                    refine zw_iconst 3 13 f176_12 rfl (by decide +kernel) ?_
                    refine zw_imul (((c + (A 54 a.toNatClampNeg)) * 2) * 3) 14 f176_13 rfl rfl ?_
                    refine zw_ireturn f176_14 r176 u176 ⟨_, rfl, ?_⟩
                    refine zw_ireturn f177_66 r177 u177 ⟨_, rfl, ?_⟩
                    refine zw_goto 76 f180_53 (by decide +kernel) ?_
                    refine zw_virtual_i 79 0 0 [.ref 52, .int (((c + (A 54 a.toNatClampNeg)) * 2) * 3)] [(0, .ref 52), (1, .int (((c + (A 54 a.toNatClampNeg)) * 2) * 3))] f180_76 rfl n180_205 k180_205_12 rfl (hb_52 _ _ _ _) (by decide +kernel) (Nat.le_of_ble_eq_true rfl) rfl rfl (by decide +kernel) (by decide +kernel) rfl (Nat.le_of_ble_eq_true rfl) rfl ?_
                    refine zw_aload_n 1 f122_0 rfl rfl ?_
                    refine zw_iconst 0 2 f122_1 rfl (by decide +kernel) ?_
                    refine zw_put _ 5 f122_2 rfl g122_111_12 (hb_52 _ _ _ _) rfl (Nat.le_of_ble_eq_true rfl) (by decide +kernel) (hi_52_27 _ _ _ _ _) ?_
                    refine zw_iload_n 6 f122_5 rfl rfl ?_
                    refine zw_ireturn f122_6 r122 u122 ⟨_, rfl, ?_⟩
                    refine zw_ireturn f180_79 r180 u180 ?_
                    exact ⟨_, _, _, _, rfl, (KQ.i rfl (KQ.i rfl (KQ.a rfl (KQ.i rfl (KQ.a rfl (KQ.i rfl (KQ.a rfl (KQ.i rfl KQ.rf)))))))), ⟨hi.1, hi.2.1, 3, by omega, (show _ = nI 3 from rfl)⟩, _, rfl⟩
                · refine zw_aload_n 41 f177_40 rfl rfl ?_
                  refine zw_bipush 51 43 f177_41 rfl (by decide +kernel) ?_
                  refine zw_virtual_v 46 0 0 [.ref 52, .int 51] [(0, .ref 52), (1, .int 51)] f177_43 rfl n177_291 k177_291_12 rfl (hb_52 _ _ _ _) (by decide +kernel) (Nat.le_of_ble_eq_true rfl) rfl rfl (by decide +kernel) (by decide +kernel) rfl (Nat.le_of_ble_eq_true rfl) rfl ?_
                  refine zw_aload_n 1 f173_0 rfl rfl ?_
                  refine zw_getI 0 4 f173_1 rfl g173_246_12 (hb_52 _ _ _ _) rfl rfl ?_
                  refine zw_bipush 50 6 f173_4 rfl (by decide +kernel) ?_
                  refine zw_ic_ge_f 9 19 f173_6 (by decide +kernel) rfl (by decide +kernel) ?_
                  refine zw_aload_n 10 f173_9 rfl rfl ?_
                  refine zw_getfield 13 f173_10 rfl g173_74_12 (hb_52 _ _ _ _) rfl ?_
                  refine zw_aload_n 14 f173_13 rfl rfl ?_
                  refine zw_getI 0 17 f173_14 rfl g173_246_12 (hb_52 _ _ _ _) rfl rfl ?_
                  refine zw_iload_n 18 f173_17 rfl rfl ?_
                  refine zw_ast 0 _ 19 f173_18 rfl (hb_71 _ _ _ _) (by decide +kernel) (by decide +kernel) (by decide +kernel) (ha_71 _ _ _ _ _) ?_
                  refine zw_aload_n 20 f173_19 rfl rfl ?_
                  refine zw_dup 21 f173_20 rfl rfl ?_
                  refine zw_getI 0 24 f173_21 rfl g173_246_12 (hb_52 _ _ _ _) rfl rfl ?_
                  refine zw_iconst 1 25 f173_24 rfl (by decide +kernel) ?_
                  refine zw_iadd 1 26 f173_25 rfl (by decide +kernel) ?_
                  refine zw_put _ 29 f173_26 rfl g173_246_12 (hb_52 _ _ _ _) rfl (Nat.le_of_ble_eq_true rfl) (by decide +kernel) (hi_52_29 _ _ _ _ _) ?_
                  refine zw_vreturn f173_29 r173 u173 ⟨rfl, ?_⟩
                  refine zw_aload_n 47 f177_46 rfl rfl ?_
                  refine zw_iload_n 48 f177_47 rfl rfl ?_
                  refine zw_iload_n 49 f177_48 rfl rfl ?_
                  refine zw_virtual_i 52 0 0 [.ref 52, .int a, .int c] [(0, .ref 52), (1, .int a), (2, .int c)] f177_49 rfl n177_301 k177_301_12 rfl (hb_52 _ _ _ _) (by decide +kernel) (Nat.le_of_ble_eq_true rfl) rfl rfl (by decide +kernel) (by decide +kernel) rfl (Nat.le_of_ble_eq_true rfl) rfl ?_
                  refine zw_aload_n 1 f176_0 rfl rfl ?_
                  refine zw_bipush 11 3 f176_1 rfl (by decide +kernel) ?_
                  refine zw_virtual_v 6 0 0 [.ref 52, .int 11] [(0, .ref 52), (1, .int 11)] f176_3 rfl n176_291 k176_291_12 rfl (hb_52 _ _ _ _) (by decide +kernel) (Nat.le_of_ble_eq_true rfl) rfl rfl (by decide +kernel) (by decide +kernel) rfl (Nat.le_of_ble_eq_true rfl) rfl ?_
                  refine zw_aload_n 1 f173_0 rfl rfl ?_
                  refine zw_getI 1 4 f173_1 rfl g173_246_12 (hb_52 _ _ _ _) rfl rfl ?_
                  refine zw_bipush 50 6 f173_4 rfl (by decide +kernel) ?_
                  refine zw_ic_ge_f 9 19 f173_6 (by decide +kernel) rfl (by decide +kernel) ?_
                  refine zw_aload_n 10 f173_9 rfl rfl ?_
                  refine zw_getfield 13 f173_10 rfl g173_74_12 (hb_52 _ _ _ _) rfl ?_
                  refine zw_aload_n 14 f173_13 rfl rfl ?_
                  refine zw_getI 1 17 f173_14 rfl g173_246_12 (hb_52 _ _ _ _) rfl rfl ?_
                  refine zw_iload_n 18 f173_17 rfl rfl ?_
                  refine zw_ast 1 _ 19 f173_18 rfl (hb_71 _ _ _ _) (by decide +kernel) (by decide +kernel) (by decide +kernel) (ha_71 _ _ _ _ _) ?_
                  refine zw_aload_n 20 f173_19 rfl rfl ?_
                  refine zw_dup 21 f173_20 rfl rfl ?_
                  refine zw_getI 1 24 f173_21 rfl g173_246_12 (hb_52 _ _ _ _) rfl rfl ?_
                  refine zw_iconst 1 25 f173_24 rfl (by decide +kernel) ?_
                  refine zw_iadd 2 26 f173_25 rfl (by decide +kernel) ?_
                  refine zw_put _ 29 f173_26 rfl g173_246_12 (hb_52 _ _ _ _) rfl (Nat.le_of_ble_eq_true rfl) (by decide +kernel) (hi_52_29 _ _ _ _ _) ?_
                  refine zw_vreturn f173_29 r173 u173 ⟨rfl, ?_⟩
                  refine zw_aload_n 7 f176_6 rfl rfl ?_
                  refine zw_iload_n 8 f176_7 rfl rfl ?_
                  refine zw_iload_n 9 f176_8 rfl rfl ?_
                  refine zw_virtual_i 12 0 0 [.ref 52, .int a, .int c] [(0, .ref 52), (1, .int a), (2, .int c)] f176_9 rfl n176_298 k176_298_12 rfl (hb_52 _ _ _ _) (by decide +kernel) (Nat.le_of_ble_eq_true rfl) rfl rfl (by decide +kernel) (by decide +kernel) rfl (Nat.le_of_ble_eq_true rfl) rfl ?_
                  refine zw_aload_n 1 f175_0 rfl rfl ?_
                  refine zw_getfield 4 f175_1 rfl g175_7_12 (hb_52 _ _ _ _) rfl ?_
                  refine zw_iload_n 5 f175_4 rfl rfl ?_
                  refine zw_iaload a.toNatClampNeg (A 53 a.toNatClampNeg) 6 f175_5 rfl (hb_53 _ _ _ _) rfl hc1 (zix (by decide) hc1 (show ¬ 8 ≤ a from ix_le hp.1 (by decide) (by decide) hc1 hc2)) rfl ?_
                  refine zw_iconst 2 7 f175_6 rfl (by decide +kernel) ?_
                  refine zw_ic_ne 10 25 f175_7 (by decide +kernel) rfl (fun hc30 => ?_) (fun hc30 => ?_)
                  · refine zw_aload_n 26 f175_25 rfl rfl ?_
                    refine zw_iload_n 27 f175_26 rfl rfl ?_
                    refine zw_virtual_i 30 0 0 [.ref 52, .int a] [(0, .ref 52), (1, .int a)] f175_27 rfl n175_158 k175_158_12 rfl (hb_52 _ _ _ _) (by decide +kernel) (Nat.le_of_ble_eq_true rfl) rfl rfl (by decide +kernel) (by decide +kernel) rfl (Nat.le_of_ble_eq_true rfl) rfl ?_
                    refine zw_aload_n 1 f126_0 rfl rfl ?_
                    refine zw_getfield 4 f126_1 rfl g126_7_12 (hb_52 _ _ _ _) rfl ?_
                    refine zw_iload_n 5 f126_4 rfl rfl ?_
                    refine zw_iaload a.toNatClampNeg (A 53 a.toNatClampNeg) 6 f126_5 rfl (hb_53 _ _ _ _) rfl hc1 (zix (by decide) hc1 (show ¬ 8 ≤ a from ix_le hp.1 (by decide) (by decide) hc1 hc2)) rfl ?_
                    refine zw_iconst 3 7 f126_6 rfl (by decide +kernel) ?_
                    refine zw_ic_eq 10 20 f126_7 (by decide +kernel) rfl (fun hc31 => ?_) (fun hc31 => ?_)
                    · refine zw_iconst 1 21 f126_20 rfl (by decide +kernel) ?_
                      refine zw_goto 25 f126_21 (by decide +kernel) ?_
                      refine zw_zreturn f126_25 r126 u126 (by decide +kernel) ⟨_, rfl, ?_⟩
                      refine zw_if_eq_f 33 53 f175_30 (by decide +kernel) rfl (by decide +kernel) ?_
                      refine zw_aload_n 34 f175_33 rfl rfl ?_
                      refine zw_bipush 41 36 f175_34 rfl (by decide +kernel) ?_
                      refine zw_virtual_v 39 0 0 [.ref 52, .int 41] [(0, .ref 52), (1, .int 41)] f175_36 rfl n175_291 k175_291_12 rfl (hb_52 _ _ _ _) (by decide +kernel) (Nat.le_of_ble_eq_true rfl) rfl rfl (by decide +kernel) (by decide +kernel) rfl (Nat.le_of_ble_eq_true rfl) rfl ?_
                      refine zw_aload_n 1 f173_0 rfl rfl ?_
                      refine zw_getI 2 4 f173_1 rfl g173_246_12 (hb_52 _ _ _ _) rfl rfl ?_
                      refine zw_bipush 50 6 f173_4 rfl (by decide +kernel) ?_
                      refine zw_ic_ge_f 9 19 f173_6 (by decide +kernel) rfl (by decide +kernel) ?_
                      refine zw_aload_n 10 f173_9 rfl rfl ?_
                      refine zw_getfield 13 f173_10 rfl g173_74_12 (hb_52 _ _ _ _) rfl ?_
                      refine zw_aload_n 14 f173_13 rfl rfl ?_
                      refine zw_getI 2 17 f173_14 rfl g173_246_12 (hb_52 _ _ _ _) rfl rfl ?_
                      refine zw_iload_n 18 f173_17 rfl rfl ?_
                      refine zw_ast 2 _ 19 f173_18 rfl (hb_71 _ _ _ _) (by decide +kernel) (by decide +kernel) (by decide +kernel) (ha_71 _ _ _ _ _) ?_
                      refine zw_aload_n 20 f173_19 rfl rfl ?_
                      refine zw_dup 21 f173_20 rfl rfl ?_
                      refine zw_getI 2 24 f173_21 rfl g173_246_12 (hb_52 _ _ _ _) rfl rfl ?_
                      refine zw_iconst 1 25 f173_24 rfl (by decide +kernel) ?_
                      refine zw_iadd 3 26 f173_25 rfl (by decide +kernel) ?_
                      refine zw_put _ 29 f173_26 rfl g173_246_12 (hb_52 _ _ _ _) rfl (Nat.le_of_ble_eq_true rfl) (by decide +kernel) (hi_52_29 _ _ _ _ _) ?_
                      refine zw_vreturn f173_29 r173 u173 ⟨rfl, ?_⟩
                      refine zw_aload_n 40 f175_39 rfl rfl ?_
                      refine zw_iload_n 41 f175_40 rfl rfl ?_
                      refine zw_iload_n 42 f175_41 rfl rfl ?_
                      refine zw_aload_n 43 f175_42 rfl rfl ?_
                      refine zw_getfield 46 f175_43 rfl g175_16_12 (hb_52 _ _ _ _) rfl ?_
                      refine zw_iload_n 47 f175_46 rfl rfl ?_
                      refine zw_iaload a.toNatClampNeg (A 55 a.toNatClampNeg) 48 f175_47 rfl (hb_55 _ _ _ _) rfl hc1 (zix (by decide) hc1 (show ¬ 8 ≤ a from ix_le hp.1 (by decide) (by decide) hc1 hc2)) rfl ?_
                      refine zw_iadd (c + (A 55 a.toNatClampNeg)) 49 f175_48 rfl rfl ?_
                      refine zw_virtual_i 52 0 0 [.ref 52, .int a, .int (c + (A 55 a.toNatClampNeg))] [(0, .ref 52), (1, .int a), (2, .int (c + (A 55 a.toNatClampNeg)))] f175_49 rfl n175_294 k175_294_12 rfl (hb_52 _ _ _ _) (by decide +kernel) (Nat.le_of_ble_eq_true rfl) rfl rfl (by decide +kernel) (by decide +kernel) rfl (Nat.le_of_ble_eq_true rfl) rfl ?_
                      refine zw_aload_n 1 f174_0 rfl rfl ?_
                      refine zw_bipush 10 3 f174_1 rfl (by decide +kernel) ?_
                      refine zw_virtual_v 6 0 0 [.ref 52, .int 10] [(0, .ref 52), (1, .int 10)] f174_3 rfl n174_291 k174_291_12 rfl (hb_52 _ _ _ _) (by decide +kernel) (Nat.le_of_ble_eq_true rfl) rfl rfl (by decide +kernel) (by decide +kernel) rfl (Nat.le_of_ble_eq_true rfl) rfl ?_
                      refine zw_aload_n 1 f173_0 rfl rfl ?_
                      refine zw_getI 3 4 f173_1 rfl g173_246_12 (hb_52 _ _ _ _) rfl rfl ?_
                      refine zw_bipush 50 6 f173_4 rfl (by decide +kernel) ?_
                      refine zw_ic_ge_f 9 19 f173_6 (by decide +kernel) rfl (by decide +kernel) ?_
                      refine zw_aload_n 10 f173_9 rfl rfl ?_
                      refine zw_getfield 13 f173_10 rfl g173_74_12 (hb_52 _ _ _ _) rfl ?_
                      refine zw_aload_n 14 f173_13 rfl rfl ?_
                      refine zw_getI 3 17 f173_14 rfl g173_246_12 (hb_52 _ _ _ _) rfl rfl ?_
                      refine zw_iload_n 18 f173_17 rfl rfl ?_
                      refine zw_ast 3 _ 19 f173_18 rfl (hb_71 _ _ _ _) (by decide +kernel) (by decide +kernel) (by decide +kernel) (ha_71 _ _ _ _ _) ?_
                      refine zw_aload_n 20 f173_19 rfl rfl ?_
                      refine zw_dup 21 f173_20 rfl rfl ?_
                      refine zw_getI 3 24 f173_21 rfl g173_246_12 (hb_52 _ _ _ _) rfl rfl ?_
                      refine zw_iconst 1 25 f173_24 rfl (by decide +kernel) ?_
                      refine zw_iadd 4 26 f173_25 rfl (by decide +kernel) ?_
                      refine zw_put _ 29 f173_26 rfl g173_246_12 (hb_52 _ _ _ _) rfl (Nat.le_of_ble_eq_true rfl) (by decide +kernel) (hi_52_29 _ _ _ _ _) ?_
                      refine zw_vreturn f173_29 r173 u173 ⟨rfl, ?_⟩
                      refine zw_iload_n 7 f174_6 rfl rfl ?_
                      refine zw_aload_n 8 f174_7 rfl rfl ?_
                      refine zw_getfield 11 f174_8 rfl g174_13_12 (hb_52 _ _ _ _) rfl ?_
                      refine zw_iload_n 12 f174_11 rfl rfl ?_
                      refine zw_iaload a.toNatClampNeg (A 54 a.toNatClampNeg) 13 f174_12 rfl (hb_54 _ _ _ _) rfl hc1 (zix (by decide) hc1 (show ¬ 8 ≤ a from ix_le hp.1 (by decide) (by decide) hc1 hc2)) rfl ?_
                      refine zw_iadd ((c + (A 55 a.toNatClampNeg)) + (A 54 a.toNatClampNeg)) 14 f174_13 rfl rfl ?_
                      refine zw_ireturn f174_14 r174 u174 ⟨_, rfl, ?_⟩
                      refine zw_ireturn f175_52 r175 u175 ⟨_, rfl, ?_⟩
                      refine zw_iconst 3 13 f176_12 rfl (by decide +kernel) ?_
                      refine zw_imul (((c + (A 55 a.toNatClampNeg)) + (A 54 a.toNatClampNeg)) * 3) 14 f176_13 rfl rfl ?_
                      refine zw_ireturn f176_14 r176 u176 ⟨_, rfl, ?_⟩
                      refine zw_aload_n 53 f177_52 rfl rfl ?_
                      refine zw_getfield 56 f177_53 rfl g177_55_12 (hb_52 _ _ _ _) rfl ?_
                      refine zw_iload_n 57 f177_56 rfl rfl ?_
                      refine zw_iaload a.toNatClampNeg ((W.2.2.2.2.2.2.2) a.toNatClampNeg) 58 f177_57 rfl (hb_66 _ _ _ _) rfl hc1 (zix (by decide) hc1 (show ¬ 8 ≤ a from ix_le hp.1 (by decide) (by decide) hc1 hc2)) (congrFun (hR.cnt) a.toNatClampNeg) ?_
                      refine zw_ixor ((((c + (A 55 a.toNatClampNeg)) + (A 54 a.toNatClampNeg)) * 3) ^^^ ((W.2.2.2.2.2.2.2) a.toNatClampNeg)) 59 f177_58 rfl rfl ?_
                      refine zw_ireturn f177_59 r177 u177 ⟨_, rfl, ?_⟩
                      refine zw_goto 76 f180_53 (by decide +kernel) ?_
                      refine zw_virtual_i 79 0 0 [.ref 52, .int ((((c + (A 55 a.toNatClampNeg)) + (A 54 a.toNatClampNeg)) * 3) ^^^ ((W.2.2.2.2.2.2.2) a.toNatClampNeg))] [(0, .ref 52), (1, .int ((((c + (A 55 a.toNatClampNeg)) + (A 54 a.toNatClampNeg)) * 3) ^^^ ((W.2.2.2.2.2.2.2) a.toNatClampNeg)))] f180_76 rfl n180_205 k180_205_12 rfl (hb_52 _ _ _ _) (by decide +kernel) (Nat.le_of_ble_eq_true rfl) rfl rfl (by decide +kernel) (by decide +kernel) rfl (Nat.le_of_ble_eq_true rfl) rfl ?_
                      refine zw_aload_n 1 f122_0 rfl rfl ?_
                      refine zw_iconst 0 2 f122_1 rfl (by decide +kernel) ?_
                      refine zw_put _ 5 f122_2 rfl g122_111_12 (hb_52 _ _ _ _) rfl (Nat.le_of_ble_eq_true rfl) (by decide +kernel) (hi_52_27 _ _ _ _ _) ?_
                      refine zw_iload_n 6 f122_5 rfl rfl ?_
                      refine zw_ireturn f122_6 r122 u122 ⟨_, rfl, ?_⟩
                      refine zw_ireturn f180_79 r180 u180 ?_
                      exact ⟨_, _, _, _, rfl, (KQ.i rfl (KQ.i rfl (KQ.a rfl (KQ.i rfl (KQ.a rfl (KQ.i rfl (KQ.a rfl (KQ.i rfl (KQ.a rfl (KQ.i rfl KQ.rf)))))))))), ⟨hi.1, hi.2.1, 4, by omega, (show _ = nI 4 from rfl)⟩, _, rfl⟩
                    · refine zw_aload_n 11 f126_10 rfl rfl ?_
                      refine zw_getfield 14 f126_11 rfl g126_7_12 (hb_52 _ _ _ _) rfl ?_
                      refine zw_iload_n 15 f126_14 rfl rfl ?_
                      refine zw_iaload a.toNatClampNeg (A 53 a.toNatClampNeg) 16 f126_15 rfl (hb_53 _ _ _ _) rfl hc1 (zix (by decide) hc1 (show ¬ 8 ≤ a from ix_le hp.1 (by decide) (by decide) hc1 hc2)) rfl ?_
                      refine zw_iconst 4 17 f126_16 rfl (by decide +kernel) ?_
                      refine zw_ic_ne_f 20 24 f126_17 (by decide +kernel) rfl hc27 ?_
                      refine zw_iconst 1 21 f126_20 rfl (by decide +kernel) ?_
                      refine zw_goto 25 f126_21 (by decide +kernel) ?_
                      refine zw_zreturn f126_25 r126 u126 (by decide +kernel) ⟨_, rfl, ?_⟩
                      refine zw_if_eq_f 33 53 f175_30 (by decide +kernel) rfl (by decide +kernel) ?_
                      refine zw_aload_n 34 f175_33 rfl rfl ?_
                      refine zw_bipush 41 36 f175_34 rfl (by decide +kernel) ?_
                      refine zw_virtual_v 39 0 0 [.ref 52, .int 41] [(0, .ref 52), (1, .int 41)] f175_36 rfl n175_291 k175_291_12 rfl (hb_52 _ _ _ _) (by decide +kernel) (Nat.le_of_ble_eq_true rfl) rfl rfl (by decide +kernel) (by decide +kernel) rfl (Nat.le_of_ble_eq_true rfl) rfl ?_
                      refine zw_aload_n 1 f173_0 rfl rfl ?_
                      refine zw_getI 2 4 f173_1 rfl g173_246_12 (hb_52 _ _ _ _) rfl rfl ?_
                      refine zw_bipush 50 6 f173_4 rfl (by decide +kernel) ?_
                      refine zw_ic_ge_f 9 19 f173_6 (by decide +kernel) rfl (by decide +kernel) ?_
                      refine zw_aload_n 10 f173_9 rfl rfl ?_
                      refine zw_getfield 13 f173_10 rfl g173_74_12 (hb_52 _ _ _ _) rfl ?_
                      refine zw_aload_n 14 f173_13 rfl rfl ?_
                      refine zw_getI 2 17 f173_14 rfl g173_246_12 (hb_52 _ _ _ _) rfl rfl ?_
                      refine zw_iload_n 18 f173_17 rfl rfl ?_
                      refine zw_ast 2 _ 19 f173_18 rfl (hb_71 _ _ _ _) (by decide +kernel) (by decide +kernel) (by decide +kernel) (ha_71 _ _ _ _ _) ?_
                      refine zw_aload_n 20 f173_19 rfl rfl ?_
                      refine zw_dup 21 f173_20 rfl rfl ?_
                      refine zw_getI 2 24 f173_21 rfl g173_246_12 (hb_52 _ _ _ _) rfl rfl ?_
                      refine zw_iconst 1 25 f173_24 rfl (by decide +kernel) ?_
                      refine zw_iadd 3 26 f173_25 rfl (by decide +kernel) ?_
                      refine zw_put _ 29 f173_26 rfl g173_246_12 (hb_52 _ _ _ _) rfl (Nat.le_of_ble_eq_true rfl) (by decide +kernel) (hi_52_29 _ _ _ _ _) ?_
                      refine zw_vreturn f173_29 r173 u173 ⟨rfl, ?_⟩
                      refine zw_aload_n 40 f175_39 rfl rfl ?_
                      refine zw_iload_n 41 f175_40 rfl rfl ?_
                      refine zw_iload_n 42 f175_41 rfl rfl ?_
                      refine zw_aload_n 43 f175_42 rfl rfl ?_
                      refine zw_getfield 46 f175_43 rfl g175_16_12 (hb_52 _ _ _ _) rfl ?_
                      refine zw_iload_n 47 f175_46 rfl rfl ?_
                      refine zw_iaload a.toNatClampNeg (A 55 a.toNatClampNeg) 48 f175_47 rfl (hb_55 _ _ _ _) rfl hc1 (zix (by decide) hc1 (show ¬ 8 ≤ a from ix_le hp.1 (by decide) (by decide) hc1 hc2)) rfl ?_
                      refine zw_iadd (c + (A 55 a.toNatClampNeg)) 49 f175_48 rfl rfl ?_
                      refine zw_virtual_i 52 0 0 [.ref 52, .int a, .int (c + (A 55 a.toNatClampNeg))] [(0, .ref 52), (1, .int a), (2, .int (c + (A 55 a.toNatClampNeg)))] f175_49 rfl n175_294 k175_294_12 rfl (hb_52 _ _ _ _) (by decide +kernel) (Nat.le_of_ble_eq_true rfl) rfl rfl (by decide +kernel) (by decide +kernel) rfl (Nat.le_of_ble_eq_true rfl) rfl ?_
                      refine zw_aload_n 1 f174_0 rfl rfl ?_
                      refine zw_bipush 10 3 f174_1 rfl (by decide +kernel) ?_
                      refine zw_virtual_v 6 0 0 [.ref 52, .int 10] [(0, .ref 52), (1, .int 10)] f174_3 rfl n174_291 k174_291_12 rfl (hb_52 _ _ _ _) (by decide +kernel) (Nat.le_of_ble_eq_true rfl) rfl rfl (by decide +kernel) (by decide +kernel) rfl (Nat.le_of_ble_eq_true rfl) rfl ?_
                      refine zw_aload_n 1 f173_0 rfl rfl ?_
                      refine zw_getI 3 4 f173_1 rfl g173_246_12 (hb_52 _ _ _ _) rfl rfl ?_
                      refine zw_bipush 50 6 f173_4 rfl (by decide +kernel) ?_
                      refine zw_ic_ge_f 9 19 f173_6 (by decide +kernel) rfl (by decide +kernel) ?_
                      refine zw_aload_n 10 f173_9 rfl rfl ?_
                      refine zw_getfield 13 f173_10 rfl g173_74_12 (hb_52 _ _ _ _) rfl ?_
                      refine zw_aload_n 14 f173_13 rfl rfl ?_
                      refine zw_getI 3 17 f173_14 rfl g173_246_12 (hb_52 _ _ _ _) rfl rfl ?_
                      refine zw_iload_n 18 f173_17 rfl rfl ?_
                      refine zw_ast 3 _ 19 f173_18 rfl (hb_71 _ _ _ _) (by decide +kernel) (by decide +kernel) (by decide +kernel) (ha_71 _ _ _ _ _) ?_
                      refine zw_aload_n 20 f173_19 rfl rfl ?_
                      refine zw_dup 21 f173_20 rfl rfl ?_
                      refine zw_getI 3 24 f173_21 rfl g173_246_12 (hb_52 _ _ _ _) rfl rfl ?_
                      refine zw_iconst 1 25 f173_24 rfl (by decide +kernel) ?_
                      refine zw_iadd 4 26 f173_25 rfl (by decide +kernel) ?_
                      refine zw_put _ 29 f173_26 rfl g173_246_12 (hb_52 _ _ _ _) rfl (Nat.le_of_ble_eq_true rfl) (by decide +kernel) (hi_52_29 _ _ _ _ _) ?_
                      refine zw_vreturn f173_29 r173 u173 ⟨rfl, ?_⟩
                      refine zw_iload_n 7 f174_6 rfl rfl ?_
                      refine zw_aload_n 8 f174_7 rfl rfl ?_
                      refine zw_getfield 11 f174_8 rfl g174_13_12 (hb_52 _ _ _ _) rfl ?_
                      refine zw_iload_n 12 f174_11 rfl rfl ?_
                      refine zw_iaload a.toNatClampNeg (A 54 a.toNatClampNeg) 13 f174_12 rfl (hb_54 _ _ _ _) rfl hc1 (zix (by decide) hc1 (show ¬ 8 ≤ a from ix_le hp.1 (by decide) (by decide) hc1 hc2)) rfl ?_
                      refine zw_iadd ((c + (A 55 a.toNatClampNeg)) + (A 54 a.toNatClampNeg)) 14 f174_13 rfl rfl ?_
                      refine zw_ireturn f174_14 r174 u174 ⟨_, rfl, ?_⟩
                      refine zw_ireturn f175_52 r175 u175 ⟨_, rfl, ?_⟩
                      refine zw_iconst 3 13 f176_12 rfl (by decide +kernel) ?_
                      refine zw_imul (((c + (A 55 a.toNatClampNeg)) + (A 54 a.toNatClampNeg)) * 3) 14 f176_13 rfl rfl ?_
                      refine zw_ireturn f176_14 r176 u176 ⟨_, rfl, ?_⟩
                      refine zw_aload_n 53 f177_52 rfl rfl ?_
                      refine zw_getfield 56 f177_53 rfl g177_55_12 (hb_52 _ _ _ _) rfl ?_
                      refine zw_iload_n 57 f177_56 rfl rfl ?_
                      refine zw_iaload a.toNatClampNeg ((W.2.2.2.2.2.2.2) a.toNatClampNeg) 58 f177_57 rfl (hb_66 _ _ _ _) rfl hc1 (zix (by decide) hc1 (show ¬ 8 ≤ a from ix_le hp.1 (by decide) (by decide) hc1 hc2)) (congrFun (hR.cnt) a.toNatClampNeg) ?_
                      refine zw_ixor ((((c + (A 55 a.toNatClampNeg)) + (A 54 a.toNatClampNeg)) * 3) ^^^ ((W.2.2.2.2.2.2.2) a.toNatClampNeg)) 59 f177_58 rfl rfl ?_
                      refine zw_ireturn f177_59 r177 u177 ⟨_, rfl, ?_⟩
                      refine zw_goto 76 f180_53 (by decide +kernel) ?_
                      refine zw_virtual_i 79 0 0 [.ref 52, .int ((((c + (A 55 a.toNatClampNeg)) + (A 54 a.toNatClampNeg)) * 3) ^^^ ((W.2.2.2.2.2.2.2) a.toNatClampNeg))] [(0, .ref 52), (1, .int ((((c + (A 55 a.toNatClampNeg)) + (A 54 a.toNatClampNeg)) * 3) ^^^ ((W.2.2.2.2.2.2.2) a.toNatClampNeg)))] f180_76 rfl n180_205 k180_205_12 rfl (hb_52 _ _ _ _) (by decide +kernel) (Nat.le_of_ble_eq_true rfl) rfl rfl (by decide +kernel) (by decide +kernel) rfl (Nat.le_of_ble_eq_true rfl) rfl ?_
                      refine zw_aload_n 1 f122_0 rfl rfl ?_
                      refine zw_iconst 0 2 f122_1 rfl (by decide +kernel) ?_
                      refine zw_put _ 5 f122_2 rfl g122_111_12 (hb_52 _ _ _ _) rfl (Nat.le_of_ble_eq_true rfl) (by decide +kernel) (hi_52_27 _ _ _ _ _) ?_
                      refine zw_iload_n 6 f122_5 rfl rfl ?_
                      refine zw_ireturn f122_6 r122 u122 ⟨_, rfl, ?_⟩
                      refine zw_ireturn f180_79 r180 u180 ?_
                      exact ⟨_, _, _, _, rfl, (KQ.i rfl (KQ.i rfl (KQ.a rfl (KQ.i rfl (KQ.a rfl (KQ.i rfl (KQ.a rfl (KQ.i rfl (KQ.a rfl (KQ.i rfl KQ.rf)))))))))), ⟨hi.1, hi.2.1, 4, by omega, (show _ = nI 4 from rfl)⟩, _, rfl⟩
                  · refine zw_aload_n 11 f175_10 rfl rfl ?_
                    refine zw_bipush 30 13 f175_11 rfl (by decide +kernel) ?_
                    refine zw_virtual_v 16 0 0 [.ref 52, .int 30] [(0, .ref 52), (1, .int 30)] f175_13 rfl n175_291 k175_291_12 rfl (hb_52 _ _ _ _) (by decide +kernel) (Nat.le_of_ble_eq_true rfl) rfl rfl (by decide +kernel) (by decide +kernel) rfl (Nat.le_of_ble_eq_true rfl) rfl ?_
                    refine zw_aload_n 1 f173_0 rfl rfl ?_
                    refine zw_getI 2 4 f173_1 rfl g173_246_12 (hb_52 _ _ _ _) rfl rfl ?_
                    refine zw_bipush 50 6 f173_4 rfl (by decide +kernel) ?_
                    refine zw_ic_ge_f 9 19 f173_6 (by decide +kernel) rfl (by decide +kernel) ?_
                    refine zw_aload_n 10 f173_9 rfl rfl ?_
                    refine zw_getfield 13 f173_10 rfl g173_74_12 (hb_52 _ _ _ _) rfl ?_
                    refine zw_aload_n 14 f173_13 rfl rfl ?_
                    refine zw_getI 2 17 f173_14 rfl g173_246_12 (hb_52 _ _ _ _) rfl rfl ?_
                    refine zw_iload_n 18 f173_17 rfl rfl ?_
                    refine zw_ast 2 _ 19 f173_18 rfl (hb_71 _ _ _ _) (by decide +kernel) (by decide +kernel) (by decide +kernel) (ha_71 _ _ _ _ _) ?_
                    refine zw_aload_n 20 f173_19 rfl rfl ?_
                    refine zw_dup 21 f173_20 rfl rfl ?_
                    refine zw_getI 2 24 f173_21 rfl g173_246_12 (hb_52 _ _ _ _) rfl rfl ?_
                    refine zw_iconst 1 25 f173_24 rfl (by decide +kernel) ?_
                    refine zw_iadd 3 26 f173_25 rfl (by decide +kernel) ?_
                    refine zw_put _ 29 f173_26 rfl g173_246_12 (hb_52 _ _ _ _) rfl (Nat.le_of_ble_eq_true rfl) (by decide +kernel) (hi_52_29 _ _ _ _ _) ?_
                    refine zw_vreturn f173_29 r173 u173 ⟨rfl, ?_⟩
                    refine zw_aload_n 17 f175_16 rfl rfl ?_
                    refine zw_iload_n 18 f175_17 rfl rfl ?_
                    refine zw_iload_n 19 f175_18 rfl rfl ?_
                    refine zw_virtual_i 22 0 0 [.ref 52, .int a, .int c] [(0, .ref 52), (1, .int a), (2, .int c)] f175_19 rfl n175_294 k175_294_12 rfl (hb_52 _ _ _ _) (by decide +kernel) (Nat.le_of_ble_eq_true rfl) rfl rfl (by decide +kernel) (by decide +kernel) rfl (Nat.le_of_ble_eq_true rfl) rfl ?_
                    refine zw_aload_n 1 f174_0 rfl rfl ?_
                    refine zw_bipush 10 3 f174_1 rfl (by decide +kernel) ?_
                    refine zw_virtual_v 6 0 0 [.ref 52, .int 10] [(0, .ref 52), (1, .int 10)] f174_3 rfl n174_291 k174_291_12 rfl (hb_52 _ _ _ _) (by decide +kernel) (Nat.le_of_ble_eq_true rfl) rfl rfl (by decide +kernel) (by decide +kernel) rfl (Nat.le_of_ble_eq_true rfl) rfl ?_
                    refine zw_aload_n 1 f173_0 rfl rfl ?_
                    refine zw_getI 3 4 f173_1 rfl g173_246_12 (hb_52 _ _ _ _) rfl rfl ?_
                    refine zw_bipush 50 6 f173_4 rfl (by decide +kernel) ?_
                    refine zw_ic_ge_f 9 19 f173_6 (by decide +kernel) rfl (by decide +kernel) ?_
                    refine zw_aload_n 10 f173_9 rfl rfl ?_
                    refine zw_getfield 13 f173_10 rfl g173_74_12 (hb_52 _ _ _ _) rfl ?_
                    refine zw_aload_n 14 f173_13 rfl rfl ?_
                    refine zw_getI 3 17 f173_14 rfl g173_246_12 (hb_52 _ _ _ _) rfl rfl ?_
                    refine zw_iload_n 18 f173_17 rfl rfl ?_
                    refine zw_ast 3 _ 19 f173_18 rfl (hb_71 _ _ _ _) (by decide +kernel) (by decide +kernel) (by decide +kernel) (ha_71 _ _ _ _ _) ?_
                    refine zw_aload_n 20 f173_19 rfl rfl ?_
                    refine zw_dup 21 f173_20 rfl rfl ?_
                    refine zw_getI 3 24 f173_21 rfl g173_246_12 (hb_52 _ _ _ _) rfl rfl ?_
                    refine zw_iconst 1 25 f173_24 rfl (by decide +kernel) ?_
                    refine zw_iadd 4 26 f173_25 rfl (by decide +kernel) ?_
                    refine zw_put _ 29 f173_26 rfl g173_246_12 (hb_52 _ _ _ _) rfl (Nat.le_of_ble_eq_true rfl) (by decide +kernel) (hi_52_29 _ _ _ _ _) ?_
                    refine zw_vreturn f173_29 r173 u173 ⟨rfl, ?_⟩
                    refine zw_iload_n 7 f174_6 rfl rfl ?_
                    refine zw_aload_n 8 f174_7 rfl rfl ?_
                    refine zw_getfield 11 f174_8 rfl g174_13_12 (hb_52 _ _ _ _) rfl ?_
                    refine zw_iload_n 12 f174_11 rfl rfl ?_
                    refine zw_iaload a.toNatClampNeg (A 54 a.toNatClampNeg) 13 f174_12 rfl (hb_54 _ _ _ _) rfl hc1 (zix (by decide) hc1 (show ¬ 8 ≤ a from ix_le hp.1 (by decide) (by decide) hc1 hc2)) rfl ?_
                    refine zw_iadd (c + (A 54 a.toNatClampNeg)) 14 f174_13 rfl rfl ?_
                    refine zw_ireturn f174_14 r174 u174 ⟨_, rfl, ?_⟩
                    refine zw_iconst 2 23 f175_22 rfl (by decide +kernel) ?_
                    refine zw_imul ((c + (A 54 a.toNatClampNeg)) * 2) 24 f175_23 rfl rfl ?_
                    refine zw_ireturn f175_24 r175 u175 ⟨_, rfl, ?_⟩
                    refine zw_iconst 3 13 f176_12 rfl (by decide +kernel) ?_
                    refine zw_imul (((c + (A 54 a.toNatClampNeg)) * 2) * 3) 14 f176_13 rfl rfl ?_
                    refine zw_ireturn f176_14 r176 u176 ⟨_, rfl, ?_⟩
                    refine zw_aload_n 53 f177_52 rfl rfl ?_
                    refine zw_getfield 56 f177_53 rfl g177_55_12 (hb_52 _ _ _ _) rfl ?_
                    refine zw_iload_n 57 f177_56 rfl rfl ?_
                    refine zw_iaload a.toNatClampNeg ((W.2.2.2.2.2.2.2) a.toNatClampNeg) 58 f177_57 rfl (hb_66 _ _ _ _) rfl hc1 (zix (by decide) hc1 (show ¬ 8 ≤ a from ix_le hp.1 (by decide) (by decide) hc1 hc2)) (congrFun (hR.cnt) a.toNatClampNeg) ?_
                    refine zw_ixor ((((c + (A 54 a.toNatClampNeg)) * 2) * 3) ^^^ ((W.2.2.2.2.2.2.2) a.toNatClampNeg)) 59 f177_58 rfl rfl ?_
                    refine zw_ireturn f177_59 r177 u177 ⟨_, rfl, ?_⟩
                    refine zw_goto 76 f180_53 (by decide +kernel) ?_
                    refine zw_virtual_i 79 0 0 [.ref 52, .int ((((c + (A 54 a.toNatClampNeg)) * 2) * 3) ^^^ ((W.2.2.2.2.2.2.2) a.toNatClampNeg))] [(0, .ref 52), (1, .int ((((c + (A 54 a.toNatClampNeg)) * 2) * 3) ^^^ ((W.2.2.2.2.2.2.2) a.toNatClampNeg)))] f180_76 rfl n180_205 k180_205_12 rfl (hb_52 _ _ _ _) (by decide +kernel) (Nat.le_of_ble_eq_true rfl) rfl rfl (by decide +kernel) (by decide +kernel) rfl (Nat.le_of_ble_eq_true rfl) rfl ?_
                    refine zw_aload_n 1 f122_0 rfl rfl ?_
                    refine zw_iconst 0 2 f122_1 rfl (by decide +kernel) ?_
                    refine zw_put _ 5 f122_2 rfl g122_111_12 (hb_52 _ _ _ _) rfl (Nat.le_of_ble_eq_true rfl) (by decide +kernel) (hi_52_27 _ _ _ _ _) ?_
                    refine zw_iload_n 6 f122_5 rfl rfl ?_
                    refine zw_ireturn f122_6 r122 u122 ⟨_, rfl, ?_⟩
                    refine zw_ireturn f180_79 r180 u180 ?_
                    exact ⟨_, _, _, _, rfl, (KQ.i rfl (KQ.i rfl (KQ.a rfl (KQ.i rfl (KQ.a rfl (KQ.i rfl (KQ.a rfl (KQ.i rfl (KQ.a rfl (KQ.i rfl KQ.rf)))))))))), ⟨hi.1, hi.2.1, 4, by omega, (show _ = nI 4 from rfl)⟩, _, rfl⟩
              · refine zw_aload_n 11 f177_10 rfl rfl ?_
                refine zw_bipush 20 13 f177_11 rfl (by decide +kernel) ?_
                refine zw_virtual_v 16 0 0 [.ref 52, .int 20] [(0, .ref 52), (1, .int 20)] f177_13 rfl n177_291 k177_291_12 rfl (hb_52 _ _ _ _) (by decide +kernel) (Nat.le_of_ble_eq_true rfl) rfl rfl (by decide +kernel) (by decide +kernel) rfl (Nat.le_of_ble_eq_true rfl) rfl ?_
                refine zw_aload_n 1 f173_0 rfl rfl ?_
                refine zw_getI 0 4 f173_1 rfl g173_246_12 (hb_52 _ _ _ _) rfl rfl ?_
                refine zw_bipush 50 6 f173_4 rfl (by decide +kernel) ?_
                refine zw_ic_ge_f 9 19 f173_6 (by decide +kernel) rfl (by decide +kernel) ?_
                refine zw_aload_n 10 f173_9 rfl rfl ?_
                refine zw_getfield 13 f173_10 rfl g173_74_12 (hb_52 _ _ _ _) rfl ?_
                refine zw_aload_n 14 f173_13 rfl rfl ?_
                refine zw_getI 0 17 f173_14 rfl g173_246_12 (hb_52 _ _ _ _) rfl rfl ?_
                refine zw_iload_n 18 f173_17 rfl rfl ?_
                refine zw_ast 0 _ 19 f173_18 rfl (hb_71 _ _ _ _) (by decide +kernel) (by decide +kernel) (by decide +kernel) (ha_71 _ _ _ _ _) ?_
                refine zw_aload_n 20 f173_19 rfl rfl ?_
                refine zw_dup 21 f173_20 rfl rfl ?_
                refine zw_getI 0 24 f173_21 rfl g173_246_12 (hb_52 _ _ _ _) rfl rfl ?_
                refine zw_iconst 1 25 f173_24 rfl (by decide +kernel) ?_
                refine zw_iadd 1 26 f173_25 rfl (by decide +kernel) ?_
                refine zw_put _ 29 f173_26 rfl g173_246_12 (hb_52 _ _ _ _) rfl (Nat.le_of_ble_eq_true rfl) (by decide +kernel) (hi_52_29 _ _ _ _ _) ?_
                refine zw_vreturn f173_29 r173 u173 ⟨rfl, ?_⟩
                refine zw_aload_n 17 f177_16 rfl rfl ?_
                refine zw_iload_n 18 f177_17 rfl rfl ?_
                refine zw_iload_n 19 f177_18 rfl rfl ?_
                refine zw_virtual_i 22 0 0 [.ref 52, .int a, .int c] [(0, .ref 52), (1, .int a), (2, .int c)] f177_19 rfl n177_301 k177_301_12 rfl (hb_52 _ _ _ _) (by decide +kernel) (Nat.le_of_ble_eq_true rfl) rfl rfl (by decide +kernel) (by decide +kernel) rfl (Nat.le_of_ble_eq_true rfl) rfl ?_
                refine zw_aload_n 1 f176_0 rfl rfl ?_
                refine zw_bipush 11 3 f176_1 rfl (by decide +kernel) ?_
                refine zw_virtual_v 6 0 0 [.ref 52, .int 11] [(0, .ref 52), (1, .int 11)] f176_3 rfl n176_291 k176_291_12 rfl (hb_52 _ _ _ _) (by decide +kernel) (Nat.le_of_ble_eq_true rfl) rfl rfl (by decide +kernel) (by decide +kernel) rfl (Nat.le_of_ble_eq_true rfl) rfl ?_
                refine zw_aload_n 1 f173_0 rfl rfl ?_
                refine zw_getI 1 4 f173_1 rfl g173_246_12 (hb_52 _ _ _ _) rfl rfl ?_
                refine zw_bipush 50 6 f173_4 rfl (by decide +kernel) ?_
                refine zw_ic_ge_f 9 19 f173_6 (by decide +kernel) rfl (by decide +kernel) ?_
                refine zw_aload_n 10 f173_9 rfl rfl ?_
                refine zw_getfield 13 f173_10 rfl g173_74_12 (hb_52 _ _ _ _) rfl ?_
                refine zw_aload_n 14 f173_13 rfl rfl ?_
                refine zw_getI 1 17 f173_14 rfl g173_246_12 (hb_52 _ _ _ _) rfl rfl ?_
                refine zw_iload_n 18 f173_17 rfl rfl ?_
                refine zw_ast 1 _ 19 f173_18 rfl (hb_71 _ _ _ _) (by decide +kernel) (by decide +kernel) (by decide +kernel) (ha_71 _ _ _ _ _) ?_
                refine zw_aload_n 20 f173_19 rfl rfl ?_
                refine zw_dup 21 f173_20 rfl rfl ?_
                refine zw_getI 1 24 f173_21 rfl g173_246_12 (hb_52 _ _ _ _) rfl rfl ?_
                refine zw_iconst 1 25 f173_24 rfl (by decide +kernel) ?_
                refine zw_iadd 2 26 f173_25 rfl (by decide +kernel) ?_
                refine zw_put _ 29 f173_26 rfl g173_246_12 (hb_52 _ _ _ _) rfl (Nat.le_of_ble_eq_true rfl) (by decide +kernel) (hi_52_29 _ _ _ _ _) ?_
                refine zw_vreturn f173_29 r173 u173 ⟨rfl, ?_⟩
                refine zw_aload_n 7 f176_6 rfl rfl ?_
                refine zw_iload_n 8 f176_7 rfl rfl ?_
                refine zw_iload_n 9 f176_8 rfl rfl ?_
                refine zw_virtual_i 12 0 0 [.ref 52, .int a, .int c] [(0, .ref 52), (1, .int a), (2, .int c)] f176_9 rfl n176_298 k176_298_12 rfl (hb_52 _ _ _ _) (by decide +kernel) (Nat.le_of_ble_eq_true rfl) rfl rfl (by decide +kernel) (by decide +kernel) rfl (Nat.le_of_ble_eq_true rfl) rfl ?_
                refine zw_aload_n 1 f175_0 rfl rfl ?_
                refine zw_getfield 4 f175_1 rfl g175_7_12 (hb_52 _ _ _ _) rfl ?_
                refine zw_iload_n 5 f175_4 rfl rfl ?_
                refine zw_iaload a.toNatClampNeg (A 53 a.toNatClampNeg) 6 f175_5 rfl (hb_53 _ _ _ _) rfl hc1 (zix (by decide) hc1 (show ¬ 8 ≤ a from ix_le hp.1 (by decide) (by decide) hc1 hc2)) rfl ?_
                refine zw_iconst 2 7 f175_6 rfl (by decide +kernel) ?_
                refine zw_ic_ne 10 25 f175_7 (by decide +kernel) rfl (fun hc32 => ?_) (fun hc32 => ?_)
                · refine zw_aload_n 26 f175_25 rfl rfl ?_
                  refine zw_iload_n 27 f175_26 rfl rfl ?_
                  refine zw_virtual_i 30 0 0 [.ref 52, .int a] [(0, .ref 52), (1, .int a)] f175_27 rfl n175_158 k175_158_12 rfl (hb_52 _ _ _ _) (by decide +kernel) (Nat.le_of_ble_eq_true rfl) rfl rfl (by decide +kernel) (by decide +kernel) rfl (Nat.le_of_ble_eq_true rfl) rfl ?_
                  refine zw_aload_n 1 f126_0 rfl rfl ?_
                  refine zw_getfield 4 f126_1 rfl g126_7_12 (hb_52 _ _ _ _) rfl ?_
                  refine zw_iload_n 5 f126_4 rfl rfl ?_
                  refine zw_iaload a.toNatClampNeg (A 53 a.toNatClampNeg) 6 f126_5 rfl (hb_53 _ _ _ _) rfl hc1 (zix (by decide) hc1 (show ¬ 8 ≤ a from ix_le hp.1 (by decide) (by decide) hc1 hc2)) rfl ?_
                  refine zw_iconst 3 7 f126_6 rfl (by decide +kernel) ?_
                  refine zw_ic_eq 10 20 f126_7 (by decide +kernel) rfl (fun hc33 => ?_) (fun hc33 => ?_)
                  · refine zw_iconst 1 21 f126_20 rfl (by decide +kernel) ?_
                    refine zw_goto 25 f126_21 (by decide +kernel) ?_
                    refine zw_zreturn f126_25 r126 u126 (by decide +kernel) ⟨_, rfl, ?_⟩
                    refine zw_if_eq_f 33 53 f175_30 (by decide +kernel) rfl (by decide +kernel) ?_
                    refine zw_aload_n 34 f175_33 rfl rfl ?_
                    refine zw_bipush 41 36 f175_34 rfl (by decide +kernel) ?_
                    refine zw_virtual_v 39 0 0 [.ref 52, .int 41] [(0, .ref 52), (1, .int 41)] f175_36 rfl n175_291 k175_291_12 rfl (hb_52 _ _ _ _) (by decide +kernel) (Nat.le_of_ble_eq_true rfl) rfl rfl (by decide +kernel) (by decide +kernel) rfl (Nat.le_of_ble_eq_true rfl) rfl ?_
                    refine zw_aload_n 1 f173_0 rfl rfl ?_
                    refine zw_getI 2 4 f173_1 rfl g173_246_12 (hb_52 _ _ _ _) rfl rfl ?_
                    refine zw_bipush 50 6 f173_4 rfl (by decide +kernel) ?_
                    refine zw_ic_ge_f 9 19 f173_6 (by decide +kernel) rfl (by decide +kernel) ?_
                    refine zw_aload_n 10 f173_9 rfl rfl ?_
                    refine zw_getfield 13 f173_10 rfl g173_74_12 (hb_52 _ _ _ _) rfl ?_
                    refine zw_aload_n 14 f173_13 rfl rfl ?_
                    refine zw_getI 2 17 f173_14 rfl g173_246_12 (hb_52 _ _ _ _) rfl rfl ?_
                    refine zw_iload_n 18 f173_17 rfl rfl ?_
                    refine zw_ast 2 _ 19 f173_18 rfl (hb_71 _ _ _ _) (by decide +kernel) (by decide +kernel) (by decide +kernel) (ha_71 _ _ _ _ _) ?_
                    refine zw_aload_n 20 f173_19 rfl rfl ?_
                    refine zw_dup 21 f173_20 rfl rfl ?_
                    refine zw_getI 2 24 f173_21 rfl g173_246_12 (hb_52 _ _ _ _) rfl rfl ?_
                    refine zw_iconst 1 25 f173_24 rfl (by decide +kernel) ?_
                    refine zw_iadd 3 26 f173_25 rfl (by decide +kernel) ?_
                    refine zw_put _ 29 f173_26 rfl g173_246_12 (hb_52 _ _ _ _) rfl (Nat.le_of_ble_eq_true rfl) (by decide +kernel) (hi_52_29 _ _ _ _ _) ?_
                    refine zw_vreturn f173_29 r173 u173 ⟨rfl, ?_⟩
                    refine zw_aload_n 40 f175_39 rfl rfl ?_
                    refine zw_iload_n 41 f175_40 rfl rfl ?_
                    refine zw_iload_n 42 f175_41 rfl rfl ?_
                    refine zw_aload_n 43 f175_42 rfl rfl ?_
                    refine zw_getfield 46 f175_43 rfl g175_16_12 (hb_52 _ _ _ _) rfl ?_
                    refine zw_iload_n 47 f175_46 rfl rfl ?_
                    refine zw_iaload a.toNatClampNeg (A 55 a.toNatClampNeg) 48 f175_47 rfl (hb_55 _ _ _ _) rfl hc1 (zix (by decide) hc1 (show ¬ 8 ≤ a from ix_le hp.1 (by decide) (by decide) hc1 hc2)) rfl ?_
                    refine zw_iadd (c + (A 55 a.toNatClampNeg)) 49 f175_48 rfl rfl ?_
                    refine zw_virtual_i 52 0 0 [.ref 52, .int a, .int (c + (A 55 a.toNatClampNeg))] [(0, .ref 52), (1, .int a), (2, .int (c + (A 55 a.toNatClampNeg)))] f175_49 rfl n175_294 k175_294_12 rfl (hb_52 _ _ _ _) (by decide +kernel) (Nat.le_of_ble_eq_true rfl) rfl rfl (by decide +kernel) (by decide +kernel) rfl (Nat.le_of_ble_eq_true rfl) rfl ?_
                    refine zw_aload_n 1 f174_0 rfl rfl ?_
                    refine zw_bipush 10 3 f174_1 rfl (by decide +kernel) ?_
                    refine zw_virtual_v 6 0 0 [.ref 52, .int 10] [(0, .ref 52), (1, .int 10)] f174_3 rfl n174_291 k174_291_12 rfl (hb_52 _ _ _ _) (by decide +kernel) (Nat.le_of_ble_eq_true rfl) rfl rfl (by decide +kernel) (by decide +kernel) rfl (Nat.le_of_ble_eq_true rfl) rfl ?_
                    refine zw_aload_n 1 f173_0 rfl rfl ?_
                    refine zw_getI 3 4 f173_1 rfl g173_246_12 (hb_52 _ _ _ _) rfl rfl ?_
                    refine zw_bipush 50 6 f173_4 rfl (by decide +kernel) ?_
                    refine zw_ic_ge_f 9 19 f173_6 (by decide +kernel) rfl (by decide +kernel) ?_
                    refine zw_aload_n 10 f173_9 rfl rfl ?_
                    refine zw_getfield 13 f173_10 rfl g173_74_12 (hb_52 _ _ _ _) rfl ?_
                    refine zw_aload_n 14 f173_13 rfl rfl ?_
                    refine zw_getI 3 17 f173_14 rfl g173_246_12 (hb_52 _ _ _ _) rfl rfl ?_
                    refine zw_iload_n 18 f173_17 rfl rfl ?_
                    refine zw_ast 3 _ 19 f173_18 rfl (hb_71 _ _ _ _) (by decide +kernel) (by decide +kernel) (by decide +kernel) (ha_71 _ _ _ _ _) ?_
                    refine zw_aload_n 20 f173_19 rfl rfl ?_
                    refine zw_dup 21 f173_20 rfl rfl ?_
                    refine zw_getI 3 24 f173_21 rfl g173_246_12 (hb_52 _ _ _ _) rfl rfl ?_
                    refine zw_iconst 1 25 f173_24 rfl (by decide +kernel) ?_
                    refine zw_iadd 4 26 f173_25 rfl (by decide +kernel) ?_
                    refine zw_put _ 29 f173_26 rfl g173_246_12 (hb_52 _ _ _ _) rfl (Nat.le_of_ble_eq_true rfl) (by decide +kernel) (hi_52_29 _ _ _ _ _) ?_
                    refine zw_vreturn f173_29 r173 u173 ⟨rfl, ?_⟩
                    refine zw_iload_n 7 f174_6 rfl rfl ?_
                    refine zw_aload_n 8 f174_7 rfl rfl ?_
                    refine zw_getfield 11 f174_8 rfl g174_13_12 (hb_52 _ _ _ _) rfl ?_
                    refine zw_iload_n 12 f174_11 rfl rfl ?_
                    refine zw_iaload a.toNatClampNeg (A 54 a.toNatClampNeg) 13 f174_12 rfl (hb_54 _ _ _ _) rfl hc1 (zix (by decide) hc1 (show ¬ 8 ≤ a from ix_le hp.1 (by decide) (by decide) hc1 hc2)) rfl ?_
                    refine zw_iadd ((c + (A 55 a.toNatClampNeg)) + (A 54 a.toNatClampNeg)) 14 f174_13 rfl rfl ?_
                    refine zw_ireturn f174_14 r174 u174 ⟨_, rfl, ?_⟩
                    refine zw_ireturn f175_52 r175 u175 ⟨_, rfl, ?_⟩
                    refine zw_iconst 3 13 f176_12 rfl (by decide +kernel) ?_
                    refine zw_imul (((c + (A 55 a.toNatClampNeg)) + (A 54 a.toNatClampNeg)) * 3) 14 f176_13 rfl rfl ?_
                    refine zw_ireturn f176_14 r176 u176 ⟨_, rfl, ?_⟩
                    refine zw_aload_n 23 f177_22 rfl rfl ?_
                    refine zw_getfield 26 f177_23 rfl g177_16_12 (hb_52 _ _ _ _) rfl ?_
                    refine zw_iload_n 27 f177_26 rfl rfl ?_
                    refine zw_iaload a.toNatClampNeg (A 55 a.toNatClampNeg) 28 f177_27 rfl (hb_55 _ _ _ _) rfl hc1 (zix (by decide) hc1 (show ¬ 8 ≤ a from ix_le hp.1 (by decide) (by decide) hc1 hc2)) rfl ?_
                    refine zw_iadd ((((c + (A 55 a.toNatClampNeg)) + (A 54 a.toNatClampNeg)) * 3) + (A 55 a.toNatClampNeg)) 29 f177_28 rfl rfl ?_
                    refine zw_ireturn f177_29 r177 u177 ⟨_, rfl, ?_⟩
                    refine zw_goto 76 f180_53 (by decide +kernel) ?_
                    refine zw_virtual_i 79 0 0 [.ref 52, .int ((((c + (A 55 a.toNatClampNeg)) + (A 54 a.toNatClampNeg)) * 3) + (A 55 a.toNatClampNeg))] [(0, .ref 52), (1, .int ((((c + (A 55 a.toNatClampNeg)) + (A 54 a.toNatClampNeg)) * 3) + (A 55 a.toNatClampNeg)))] f180_76 rfl n180_205 k180_205_12 rfl (hb_52 _ _ _ _) (by decide +kernel) (Nat.le_of_ble_eq_true rfl) rfl rfl (by decide +kernel) (by decide +kernel) rfl (Nat.le_of_ble_eq_true rfl) rfl ?_
                    refine zw_aload_n 1 f122_0 rfl rfl ?_
                    refine zw_iconst 0 2 f122_1 rfl (by decide +kernel) ?_
                    refine zw_put _ 5 f122_2 rfl g122_111_12 (hb_52 _ _ _ _) rfl (Nat.le_of_ble_eq_true rfl) (by decide +kernel) (hi_52_27 _ _ _ _ _) ?_
                    refine zw_iload_n 6 f122_5 rfl rfl ?_
                    refine zw_ireturn f122_6 r122 u122 ⟨_, rfl, ?_⟩
                    refine zw_ireturn f180_79 r180 u180 ?_
                    exact ⟨_, _, _, _, rfl, (KQ.i rfl (KQ.i rfl (KQ.a rfl (KQ.i rfl (KQ.a rfl (KQ.i rfl (KQ.a rfl (KQ.i rfl (KQ.a rfl (KQ.i rfl KQ.rf)))))))))), ⟨hi.1, hi.2.1, 4, by omega, (show _ = nI 4 from rfl)⟩, _, rfl⟩
                  · refine zw_aload_n 11 f126_10 rfl rfl ?_
                    refine zw_getfield 14 f126_11 rfl g126_7_12 (hb_52 _ _ _ _) rfl ?_
                    refine zw_iload_n 15 f126_14 rfl rfl ?_
                    refine zw_iaload a.toNatClampNeg (A 53 a.toNatClampNeg) 16 f126_15 rfl (hb_53 _ _ _ _) rfl hc1 (zix (by decide) hc1 (show ¬ 8 ≤ a from ix_le hp.1 (by decide) (by decide) hc1 hc2)) rfl ?_
                    refine zw_iconst 4 17 f126_16 rfl (by decide +kernel) ?_
                    refine zw_ic_ne 20 24 f126_17 (by decide +kernel) rfl (fun hc34 => ?_) (fun hc34 => ?_)
                    · refine zw_iconst 0 25 f126_24 rfl (by decide +kernel) ?_
                      refine zw_zreturn f126_25 r126 u126 (by decide +kernel) ⟨_, rfl, ?_⟩
                      refine zw_if_eq_t 53 f175_30 (by decide +kernel) (by decide +kernel) ?_
                      refine zw_aload_n 54 f175_53 rfl rfl ?_
                      refine zw_iload_n 55 f175_54 rfl rfl ?_
                      refine zw_iload_n 56 f175_55 rfl rfl ?_
                      refine zw_virtual_i 59 0 0 [.ref 52, .int a, .int c] [(0, .ref 52), (1, .int a), (2, .int c)] f175_56 rfl n175_294 k175_294_12 rfl (hb_52 _ _ _ _) (by decide +kernel) (Nat.le_of_ble_eq_true rfl) rfl rfl (by decide +kernel) (by decide +kernel) rfl (Nat.le_of_ble_eq_true rfl) rfl ?_
                      refine zw_aload_n 1 f174_0 rfl rfl ?_
                      refine zw_bipush 10 3 f174_1 rfl (by decide +kernel) ?_
                      refine zw_virtual_v 6 0 0 [.ref 52, .int 10] [(0, .ref 52), (1, .int 10)] f174_3 rfl n174_291 k174_291_12 rfl (hb_52 _ _ _ _) (by decide +kernel) (Nat.le_of_ble_eq_true rfl) rfl rfl (by decide +kernel) (by decide +kernel) rfl (Nat.le_of_ble_eq_true rfl) rfl ?_
                      refine zw_aload_n 1 f173_0 rfl rfl ?_
                      refine zw_getI 2 4 f173_1 rfl g173_246_12 (hb_52 _ _ _ _) rfl rfl ?_
                      refine zw_bipush 50 6 f173_4 rfl (by decide +kernel) ?_
                      refine zw_ic_ge_f 9 19 f173_6 (by decide +kernel) rfl (by decide +kernel) ?_
                      refine zw_aload_n 10 f173_9 rfl rfl ?_
                      refine zw_getfield 13 f173_10 rfl g173_74_12 (hb_52 _ _ _ _) rfl ?_
                      refine zw_aload_n 14 f173_13 rfl rfl ?_
                      refine zw_getI 2 17 f173_14 rfl g173_246_12 (hb_52 _ _ _ _) rfl rfl ?_
                      refine zw_iload_n 18 f173_17 rfl rfl ?_
                      refine zw_ast 2 _ 19 f173_18 rfl (hb_71 _ _ _ _) (by decide +kernel) (by decide +kernel) (by decide +kernel) (ha_71 _ _ _ _ _) ?_
                      refine zw_aload_n 20 f173_19 rfl rfl ?_
                      refine zw_dup 21 f173_20 rfl rfl ?_
                      refine zw_getI 2 24 f173_21 rfl g173_246_12 (hb_52 _ _ _ _) rfl rfl ?_
                      refine zw_iconst 1 25 f173_24 rfl (by decide +kernel) ?_
                      refine zw_iadd 3 26 f173_25 rfl (by decide +kernel) ?_
                      refine zw_put _ 29 f173_26 rfl g173_246_12 (hb_52 _ _ _ _) rfl (Nat.le_of_ble_eq_true rfl) (by decide +kernel) (hi_52_29 _ _ _ _ _) ?_
                      refine zw_vreturn f173_29 r173 u173 ⟨rfl, ?_⟩
                      refine zw_iload_n 7 f174_6 rfl rfl ?_
                      refine zw_aload_n 8 f174_7 rfl rfl ?_
                      refine zw_getfield 11 f174_8 rfl g174_13_12 (hb_52 _ _ _ _) rfl ?_
                      refine zw_iload_n 12 f174_11 rfl rfl ?_
                      refine zw_iaload a.toNatClampNeg (A 54 a.toNatClampNeg) 13 f174_12 rfl (hb_54 _ _ _ _) rfl hc1 (zix (by decide) hc1 (show ¬ 8 ≤ a from ix_le hp.1 (by decide) (by decide) hc1 hc2)) rfl ?_
                      refine zw_iadd (c + (A 54 a.toNatClampNeg)) 14 f174_13 rfl rfl ?_
                      refine zw_ireturn f174_14 r174 u174 ⟨_, rfl, ?_⟩
                      refine zw_ireturn f175_59 r175 u175 ⟨_, rfl, ?_⟩
                      refine zw_iconst 3 13 f176_12 rfl (by decide +kernel) ?_
                      refine zw_imul ((c + (A 54 a.toNatClampNeg)) * 3) 14 f176_13 rfl rfl ?_
                      refine zw_ireturn f176_14 r176 u176 ⟨_, rfl, ?_⟩
                      refine zw_aload_n 23 f177_22 rfl rfl ?_
                      refine zw_getfield 26 f177_23 rfl g177_16_12 (hb_52 _ _ _ _) rfl ?_
                      refine zw_iload_n 27 f177_26 rfl rfl ?_
                      refine zw_iaload a.toNatClampNeg (A 55 a.toNatClampNeg) 28 f177_27 rfl (hb_55 _ _ _ _) rfl hc1 (zix (by decide) hc1 (show ¬ 8 ≤ a from ix_le hp.1 (by decide) (by decide) hc1 hc2)) rfl ?_
                      refine zw_iadd (((c + (A 54 a.toNatClampNeg)) * 3) + (A 55 a.toNatClampNeg)) 29 f177_28 rfl rfl ?_
                      refine zw_ireturn f177_29 r177 u177 ⟨_, rfl, ?_⟩
                      refine zw_goto 76 f180_53 (by decide +kernel) ?_
                      refine zw_virtual_i 79 0 0 [.ref 52, .int (((c + (A 54 a.toNatClampNeg)) * 3) + (A 55 a.toNatClampNeg))] [(0, .ref 52), (1, .int (((c + (A 54 a.toNatClampNeg)) * 3) + (A 55 a.toNatClampNeg)))] f180_76 rfl n180_205 k180_205_12 rfl (hb_52 _ _ _ _) (by decide +kernel) (Nat.le_of_ble_eq_true rfl) rfl rfl (by decide +kernel) (by decide +kernel) rfl (Nat.le_of_ble_eq_true rfl) rfl ?_
                      refine zw_aload_n 1 f122_0 rfl rfl ?_
                      refine zw_iconst 0 2 f122_1 rfl (by decide +kernel) ?_
                      refine zw_put _ 5 f122_2 rfl g122_111_12 (hb_52 _ _ _ _) rfl (Nat.le_of_ble_eq_true rfl) (by decide +kernel) (hi_52_27 _ _ _ _ _) ?_
                      refine zw_iload_n 6 f122_5 rfl rfl ?_
                      refine zw_ireturn f122_6 r122 u122 ⟨_, rfl, ?_⟩
                      refine zw_ireturn f180_79 r180 u180 ?_
                      exact ⟨_, _, _, _, rfl, (KQ.i rfl (KQ.i rfl (KQ.a rfl (KQ.i rfl (KQ.a rfl (KQ.i rfl (KQ.a rfl (KQ.i rfl KQ.rf)))))))), ⟨hi.1, hi.2.1, 3, by omega, (show _ = nI 3 from rfl)⟩, _, rfl⟩
                    · refine zw_iconst 1 21 f126_20 rfl (by decide +kernel) ?_
                      refine zw_goto 25 f126_21 (by decide +kernel) ?_
                      refine zw_zreturn f126_25 r126 u126 (by decide +kernel) ⟨_, rfl, ?_⟩
                      refine zw_if_eq_f 33 53 f175_30 (by decide +kernel) rfl (by decide +kernel) ?_
                      refine zw_aload_n 34 f175_33 rfl rfl ?_
                      refine zw_bipush 41 36 f175_34 rfl (by decide +kernel) ?_
                      refine zw_virtual_v 39 0 0 [.ref 52, .int 41] [(0, .ref 52), (1, .int 41)] f175_36 rfl n175_291 k175_291_12 rfl (hb_52 _ _ _ _) (by decide +kernel) (Nat.le_of_ble_eq_true rfl) rfl rfl (by decide +kernel) (by decide +kernel) rfl (Nat.le_of_ble_eq_true rfl) rfl ?_
                      refine zw_aload_n 1 f173_0 rfl rfl ?_
                      refine zw_getI 2 4 f173_1 rfl g173_246_12 (hb_52 _ _ _ _) rfl rfl ?_
                      refine zw_bipush 50 6 f173_4 rfl (by decide +kernel) ?_
                      refine zw_ic_ge_f 9 19 f173_6 (by decide +kernel) rfl (by decide +kernel) ?_
                      refine zw_aload_n 10 f173_9 rfl rfl ?_
                      refine zw_getfield 13 f173_10 rfl g173_74_12 (hb_52 _ _ _ _) rfl ?_
                      refine zw_aload_n 14 f173_13 rfl rfl ?_
                      refine zw_getI 2 17 f173_14 rfl g173_246_12 (hb_52 _ _ _ _) rfl rfl ?_
                      refine zw_iload_n 18 f173_17 rfl rfl ?_
                      refine zw_ast 2 _ 19 f173_18 rfl (hb_71 _ _ _ _) (by decide +kernel) (by decide +kernel) (by decide +kernel) (ha_71 _ _ _ _ _) ?_
                      refine zw_aload_n 20 f173_19 rfl rfl ?_
                      refine zw_dup 21 f173_20 rfl rfl ?_
                      refine zw_getI 2 24 f173_21 rfl g173_246_12 (hb_52 _ _ _ _) rfl rfl ?_
                      refine zw_iconst 1 25 f173_24 rfl (by decide +kernel) ?_
                      refine zw_iadd 3 26 f173_25 rfl (by decide +kernel) ?_
                      refine zw_put _ 29 f173_26 rfl g173_246_12 (hb_52 _ _ _ _) rfl (Nat.le_of_ble_eq_true rfl) (by decide +kernel) (hi_52_29 _ _ _ _ _) ?_
                      refine zw_vreturn f173_29 r173 u173 ⟨rfl, ?_⟩
                      refine zw_aload_n 40 f175_39 rfl rfl ?_
                      refine zw_iload_n 41 f175_40 rfl rfl ?_
                      refine zw_iload_n 42 f175_41 rfl rfl ?_
                      refine zw_aload_n 43 f175_42 rfl rfl ?_
                      refine zw_getfield 46 f175_43 rfl g175_16_12 (hb_52 _ _ _ _) rfl ?_
                      refine zw_iload_n 47 f175_46 rfl rfl ?_
                      refine zw_iaload a.toNatClampNeg (A 55 a.toNatClampNeg) 48 f175_47 rfl (hb_55 _ _ _ _) rfl hc1 (zix (by decide) hc1 (show ¬ 8 ≤ a from ix_le hp.1 (by decide) (by decide) hc1 hc2)) rfl ?_
                      refine zw_iadd (c + (A 55 a.toNatClampNeg)) 49 f175_48 rfl rfl ?_
                      refine zw_virtual_i 52 0 0 [.ref 52, .int a, .int (c + (A 55 a.toNatClampNeg))] [(0, .ref 52), (1, .int a), (2, .int (c + (A 55 a.toNatClampNeg)))] f175_49 rfl n175_294 k175_294_12 rfl (hb_52 _ _ _ _) (by decide +kernel) (Nat.le_of_ble_eq_true rfl) rfl rfl (by decide +kernel) (by decide +kernel) rfl (Nat.le_of_ble_eq_true rfl) rfl ?_
                      refine zw_aload_n 1 f174_0 rfl rfl ?_
                      refine zw_bipush 10 3 f174_1 rfl (by decide +kernel) ?_
                      refine zw_virtual_v 6 0 0 [.ref 52, .int 10] [(0, .ref 52), (1, .int 10)] f174_3 rfl n174_291 k174_291_12 rfl (hb_52 _ _ _ _) (by decide +kernel) (Nat.le_of_ble_eq_true rfl) rfl rfl (by decide +kernel) (by decide +kernel) rfl (Nat.le_of_ble_eq_true rfl) rfl ?_
                      refine zw_aload_n 1 f173_0 rfl rfl ?_
                      refine zw_getI 3 4 f173_1 rfl g173_246_12 (hb_52 _ _ _ _) rfl rfl ?_
                      refine zw_bipush 50 6 f173_4 rfl (by decide +kernel) ?_
                      refine zw_ic_ge_f 9 19 f173_6 (by decide +kernel) rfl (by decide +kernel) ?_
                      refine zw_aload_n 10 f173_9 rfl rfl ?_
                      refine zw_getfield 13 f173_10 rfl g173_74_12 (hb_52 _ _ _ _) rfl ?_
                      refine zw_aload_n 14 f173_13 rfl rfl ?_
                      refine zw_getI 3 17 f173_14 rfl g173_246_12 (hb_52 _ _ _ _) rfl rfl ?_
                      refine zw_iload_n 18 f173_17 rfl rfl ?_
                      refine zw_ast 3 _ 19 f173_18 rfl (hb_71 _ _ _ _) (by decide +kernel) (by decide +kernel) (by decide +kernel) (ha_71 _ _ _ _ _) ?_
                      refine zw_aload_n 20 f173_19 rfl rfl ?_
                      refine zw_dup 21 f173_20 rfl rfl ?_
                      refine zw_getI 3 24 f173_21 rfl g173_246_12 (hb_52 _ _ _ _) rfl rfl ?_
                      refine zw_iconst 1 25 f173_24 rfl (by decide +kernel) ?_
                      refine zw_iadd 4 26 f173_25 rfl (by decide +kernel) ?_
                      refine zw_put _ 29 f173_26 rfl g173_246_12 (hb_52 _ _ _ _) rfl (Nat.le_of_ble_eq_true rfl) (by decide +kernel) (hi_52_29 _ _ _ _ _) ?_
                      refine zw_vreturn f173_29 r173 u173 ⟨rfl, ?_⟩
                      refine zw_iload_n 7 f174_6 rfl rfl ?_
                      refine zw_aload_n 8 f174_7 rfl rfl ?_
                      refine zw_getfield 11 f174_8 rfl g174_13_12 (hb_52 _ _ _ _) rfl ?_
                      refine zw_iload_n 12 f174_11 rfl rfl ?_
                      refine zw_iaload a.toNatClampNeg (A 54 a.toNatClampNeg) 13 f174_12 rfl (hb_54 _ _ _ _) rfl hc1 (zix (by decide) hc1 (show ¬ 8 ≤ a from ix_le hp.1 (by decide) (by decide) hc1 hc2)) rfl ?_
                      refine zw_iadd ((c + (A 55 a.toNatClampNeg)) + (A 54 a.toNatClampNeg)) 14 f174_13 rfl rfl ?_
                      refine zw_ireturn f174_14 r174 u174 ⟨_, rfl, ?_⟩
                      refine zw_ireturn f175_52 r175 u175 ⟨_, rfl, ?_⟩
                      refine zw_iconst 3 13 f176_12 rfl (by decide +kernel) ?_
                      refine zw_imul (((c + (A 55 a.toNatClampNeg)) + (A 54 a.toNatClampNeg)) * 3) 14 f176_13 rfl rfl ?_
                      refine zw_ireturn f176_14 r176 u176 ⟨_, rfl, ?_⟩
                      refine zw_aload_n 23 f177_22 rfl rfl ?_
                      refine zw_getfield 26 f177_23 rfl g177_16_12 (hb_52 _ _ _ _) rfl ?_
                      refine zw_iload_n 27 f177_26 rfl rfl ?_
                      refine zw_iaload a.toNatClampNeg (A 55 a.toNatClampNeg) 28 f177_27 rfl (hb_55 _ _ _ _) rfl hc1 (zix (by decide) hc1 (show ¬ 8 ≤ a from ix_le hp.1 (by decide) (by decide) hc1 hc2)) rfl ?_
                      refine zw_iadd ((((c + (A 55 a.toNatClampNeg)) + (A 54 a.toNatClampNeg)) * 3) + (A 55 a.toNatClampNeg)) 29 f177_28 rfl rfl ?_
                      refine zw_ireturn f177_29 r177 u177 ⟨_, rfl, ?_⟩
                      refine zw_goto 76 f180_53 (by decide +kernel) ?_
                      refine zw_virtual_i 79 0 0 [.ref 52, .int ((((c + (A 55 a.toNatClampNeg)) + (A 54 a.toNatClampNeg)) * 3) + (A 55 a.toNatClampNeg))] [(0, .ref 52), (1, .int ((((c + (A 55 a.toNatClampNeg)) + (A 54 a.toNatClampNeg)) * 3) + (A 55 a.toNatClampNeg)))] f180_76 rfl n180_205 k180_205_12 rfl (hb_52 _ _ _ _) (by decide +kernel) (Nat.le_of_ble_eq_true rfl) rfl rfl (by decide +kernel) (by decide +kernel) rfl (Nat.le_of_ble_eq_true rfl) rfl ?_
                      refine zw_aload_n 1 f122_0 rfl rfl ?_
                      refine zw_iconst 0 2 f122_1 rfl (by decide +kernel) ?_
                      refine zw_put _ 5 f122_2 rfl g122_111_12 (hb_52 _ _ _ _) rfl (Nat.le_of_ble_eq_true rfl) (by decide +kernel) (hi_52_27 _ _ _ _ _) ?_
                      refine zw_iload_n 6 f122_5 rfl rfl ?_
                      refine zw_ireturn f122_6 r122 u122 ⟨_, rfl, ?_⟩
                      refine zw_ireturn f180_79 r180 u180 ?_
                      exact ⟨_, _, _, _, rfl, (KQ.i rfl (KQ.i rfl (KQ.a rfl (KQ.i rfl (KQ.a rfl (KQ.i rfl (KQ.a rfl (KQ.i rfl (KQ.a rfl (KQ.i rfl KQ.rf)))))))))), ⟨hi.1, hi.2.1, 4, by omega, (show _ = nI 4 from rfl)⟩, _, rfl⟩
                · refine zw_aload_n 11 f175_10 rfl rfl ?_
                  refine zw_bipush 30 13 f175_11 rfl (by decide +kernel) ?_
                  refine zw_virtual_v 16 0 0 [.ref 52, .int 30] [(0, .ref 52), (1, .int 30)] f175_13 rfl n175_291 k175_291_12 rfl (hb_52 _ _ _ _) (by decide +kernel) (Nat.le_of_ble_eq_true rfl) rfl rfl (by decide +kernel) (by decide +kernel) rfl (Nat.le_of_ble_eq_true rfl) rfl ?_
                  refine zw_aload_n 1 f173_0 rfl rfl ?_
                  refine zw_getI 2 4 f173_1 rfl g173_246_12 (hb_52 _ _ _ _) rfl rfl ?_
                  refine zw_bipush 50 6 f173_4 rfl (by decide +kernel) ?_
                  refine zw_ic_ge_f 9 19 f173_6 (by decide +kernel) rfl (by decide +kernel) ?_
                  refine zw_aload_n 10 f173_9 rfl rfl ?_
                  refine zw_getfield 13 f173_10 rfl g173_74_12 (hb_52 _ _ _ _) rfl ?_
                  refine zw_aload_n 14 f173_13 rfl rfl ?_
                  refine zw_getI 2 17 f173_14 rfl g173_246_12 (hb_52 _ _ _ _) rfl rfl ?_
                  refine zw_iload_n 18 f173_17 rfl rfl ?_
                  refine zw_ast 2 _ 19 f173_18 rfl (hb_71 _ _ _ _) (by decide +kernel) (by decide +kernel) (by decide +kernel) (ha_71 _ _ _ _ _) ?_
                  refine zw_aload_n 20 f173_19 rfl rfl ?_
                  refine zw_dup 21 f173_20 rfl rfl ?_
                  refine zw_getI 2 24 f173_21 rfl g173_246_12 (hb_52 _ _ _ _) rfl rfl ?_
                  refine zw_iconst 1 25 f173_24 rfl (by decide +kernel) ?_
                  refine zw_iadd 3 26 f173_25 rfl (by decide +kernel) ?_
                  refine zw_put _ 29 f173_26 rfl g173_246_12 (hb_52 _ _ _ _) rfl (Nat.le_of_ble_eq_true rfl) (by decide +kernel) (hi_52_29 _ _ _ _ _) ?_
                  refine zw_vreturn f173_29 r173 u173 ⟨rfl, ?_⟩
                  refine zw_aload_n 17 f175_16 rfl rfl ?_
                  refine zw_iload_n 18 f175_17 rfl rfl ?_
                  refine zw_iload_n 19 f175_18 rfl rfl ?_
                  refine zw_virtual_i 22 0 0 [.ref 52, .int a, .int c] [(0, .ref 52), (1, .int a), (2, .int c)] f175_19 rfl n175_294 k175_294_12 rfl (hb_52 _ _ _ _) (by decide +kernel) (Nat.le_of_ble_eq_true rfl) rfl rfl (by decide +kernel) (by decide +kernel) rfl (Nat.le_of_ble_eq_true rfl) rfl ?_
                  refine zw_aload_n 1 f174_0 rfl rfl ?_
                  refine zw_bipush 10 3 f174_1 rfl (by decide +kernel) ?_
                  refine zw_virtual_v 6 0 0 [.ref 52, .int 10] [(0, .ref 52), (1, .int 10)] f174_3 rfl n174_291 k174_291_12 rfl (hb_52 _ _ _ _) (by decide +kernel) (Nat.le_of_ble_eq_true rfl) rfl rfl (by decide +kernel) (by decide +kernel) rfl (Nat.le_of_ble_eq_true rfl) rfl ?_
                  refine zw_aload_n 1 f173_0 rfl rfl ?_
                  refine zw_getI 3 4 f173_1 rfl g173_246_12 (hb_52 _ _ _ _) rfl rfl ?_
                  refine zw_bipush 50 6 f173_4 rfl (by decide +kernel) ?_
                  refine zw_ic_ge_f 9 19 f173_6 (by decide +kernel) rfl (by decide +kernel) ?_
                  refine zw_aload_n 10 f173_9 rfl rfl ?_
                  refine zw_getfield 13 f173_10 rfl g173_74_12 (hb_52 _ _ _ _) rfl ?_
                  refine zw_aload_n 14 f173_13 rfl rfl ?_
                  refine zw_getI 3 17 f173_14 rfl g173_246_12 (hb_52 _ _ _ _) rfl rfl ?_
                  refine zw_iload_n 18 f173_17 rfl rfl ?_
                  refine zw_ast 3 _ 19 f173_18 rfl (hb_71 _ _ _ _) (by decide +kernel) (by decide +kernel) (by decide +kernel) (ha_71 _ _ _ _ _) ?_
                  refine zw_aload_n 20 f173_19 rfl rfl ?_
                  refine zw_dup 21 f173_20 rfl rfl ?_
                  refine zw_getI 3 24 f173_21 rfl g173_246_12 (hb_52 _ _ _ _) rfl rfl ?_
                  refine zw_iconst 1 25 f173_24 rfl (by decide +kernel) ?_
                  refine zw_iadd 4 26 f173_25 rfl (by decide +kernel) ?_
                  refine zw_put _ 29 f173_26 rfl g173_246_12 (hb_52 _ _ _ _) rfl (Nat.le_of_ble_eq_true rfl) (by decide +kernel) (hi_52_29 _ _ _ _ _) ?_
                  refine zw_vreturn f173_29 r173 u173 ⟨rfl, ?_⟩
                  refine zw_iload_n 7 f174_6 rfl rfl ?_
                  refine zw_aload_n 8 f174_7 rfl rfl ?_
                  refine zw_getfield 11 f174_8 rfl g174_13_12 (hb_52 _ _ _ _) rfl ?_
                  refine zw_iload_n 12 f174_11 rfl rfl ?_
                  refine zw_iaload a.toNatClampNeg (A 54 a.toNatClampNeg) 13 f174_12 rfl (hb_54 _ _ _ _) rfl hc1 (zix (by decide) hc1 (show ¬ 8 ≤ a from ix_le hp.1 (by decide) (by decide) hc1 hc2)) rfl ?_
                  refine zw_iadd (c + (A 54 a.toNatClampNeg)) 14 f174_13 rfl rfl ?_
                  refine zw_ireturn f174_14 r174 u174 ⟨_, rfl, ?_⟩
                  refine zw_iconst 2 23 f175_22 rfl (by decide +kernel) ?_
                  refine zw_imul ((c + (A 54 a.toNatClampNeg)) * 2) 24 f175_23 rfl rfl ?_
                  refine zw_ireturn f175_24 r175 u175 ⟨_, rfl, ?_⟩
                  refine zw_iconst 3 13 f176_12 rfl (by decide +kernel) ?_
                  refine zw_imul (((c + (A 54 a.toNatClampNeg)) * 2) * 3) 14 f176_13 rfl rfl ?_
                  refine zw_ireturn f176_14 r176 u176 ⟨_, rfl, ?_⟩
                  refine zw_aload_n 23 f177_22 rfl rfl ?_
                  refine zw_getfield 26 f177_23 rfl g177_16_12 (hb_52 _ _ _ _) rfl ?_
                  refine zw_iload_n 27 f177_26 rfl rfl ?_
                  refine zw_iaload a.toNatClampNeg (A 55 a.toNatClampNeg) 28 f177_27 rfl (hb_55 _ _ _ _) rfl hc1 (zix (by decide) hc1 (show ¬ 8 ≤ a from ix_le hp.1 (by decide) (by decide) hc1 hc2)) rfl ?_
                  refine zw_iadd ((((c + (A 54 a.toNatClampNeg)) * 2) * 3) + (A 55 a.toNatClampNeg)) 29 f177_28 rfl rfl ?_
                  refine zw_ireturn f177_29 r177 u177 ⟨_, rfl, ?_⟩
                  refine zw_goto 76 f180_53 (by decide +kernel) ?_
                  refine zw_virtual_i 79 0 0 [.ref 52, .int ((((c + (A 54 a.toNatClampNeg)) * 2) * 3) + (A 55 a.toNatClampNeg))] [(0, .ref 52), (1, .int ((((c + (A 54 a.toNatClampNeg)) * 2) * 3) + (A 55 a.toNatClampNeg)))] f180_76 rfl n180_205 k180_205_12 rfl (hb_52 _ _ _ _) (by decide +kernel) (Nat.le_of_ble_eq_true rfl) rfl rfl (by decide +kernel) (by decide +kernel) rfl (Nat.le_of_ble_eq_true rfl) rfl ?_
                  refine zw_aload_n 1 f122_0 rfl rfl ?_
                  refine zw_iconst 0 2 f122_1 rfl (by decide +kernel) ?_
                  refine zw_put _ 5 f122_2 rfl g122_111_12 (hb_52 _ _ _ _) rfl (Nat.le_of_ble_eq_true rfl) (by decide +kernel) (hi_52_27 _ _ _ _ _) ?_
                  refine zw_iload_n 6 f122_5 rfl rfl ?_
                  refine zw_ireturn f122_6 r122 u122 ⟨_, rfl, ?_⟩
                  refine zw_ireturn f180_79 r180 u180 ?_
                  exact ⟨_, _, _, _, rfl, (KQ.i rfl (KQ.i rfl (KQ.a rfl (KQ.i rfl (KQ.a rfl (KQ.i rfl (KQ.a rfl (KQ.i rfl (KQ.a rfl (KQ.i rfl KQ.rf)))))))))), ⟨hi.1, hi.2.1, 4, by omega, (show _ = nI 4 from rfl)⟩, _, rfl⟩
          · refine zw_aload_n 34 f180_33 rfl rfl ?_
            refine zw_iload_n 35 f180_34 rfl rfl ?_
            refine zw_iload_n 36 f180_35 rfl rfl ?_
            refine zw_virtual_i 39 0 0 [.ref 52, .int a, .int c] [(0, .ref 52), (1, .int a), (2, .int c)] f180_36 rfl n180_298 k180_298_12 rfl (hb_52 _ _ _ _) (by decide +kernel) (Nat.le_of_ble_eq_true rfl) rfl rfl (by decide +kernel) (by decide +kernel) rfl (Nat.le_of_ble_eq_true rfl) rfl ?_
            refine zw_aload_n 1 f175_0 rfl rfl ?_
            refine zw_getfield 4 f175_1 rfl g175_7_12 (hb_52 _ _ _ _) rfl ?_
            refine zw_iload_n 5 f175_4 rfl rfl ?_
            refine zw_iaload a.toNatClampNeg (A 53 a.toNatClampNeg) 6 f175_5 rfl (hb_53 _ _ _ _) rfl hc1 (zix (by decide) hc1 (show ¬ 8 ≤ a from ix_le hp.1 (by decide) (by decide) hc1 hc2)) rfl ?_
            refine zw_iconst 2 7 f175_6 rfl (by decide +kernel) ?_
            refine zw_ic_ne 10 25 f175_7 (by decide +kernel) rfl (fun hc35 => ?_) (fun hc35 => ?_)
            · refine zw_aload_n 26 f175_25 rfl rfl ?_
              refine zw_iload_n 27 f175_26 rfl rfl ?_
              refine zw_virtual_i 30 0 0 [.ref 52, .int a] [(0, .ref 52), (1, .int a)] f175_27 rfl n175_158 k175_158_12 rfl (hb_52 _ _ _ _) (by decide +kernel) (Nat.le_of_ble_eq_true rfl) rfl rfl (by decide +kernel) (by decide +kernel) rfl (Nat.le_of_ble_eq_true rfl) rfl ?_
              refine zw_aload_n 1 f126_0 rfl rfl ?_
              refine zw_getfield 4 f126_1 rfl g126_7_12 (hb_52 _ _ _ _) rfl ?_
              refine zw_iload_n 5 f126_4 rfl rfl ?_
              refine zw_iaload a.toNatClampNeg (A 53 a.toNatClampNeg) 6 f126_5 rfl (hb_53 _ _ _ _) rfl hc1 (zix (by decide) hc1 (show ¬ 8 ≤ a from ix_le hp.1 (by decide) (by decide) hc1 hc2)) rfl ?_
              refine zw_iconst 3 7 f126_6 rfl (by decide +kernel) ?_
              refine zw_ic_eq 10 20 f126_7 (by decide +kernel) rfl (fun hc36 => ?_) (fun hc36 => ?_)
              · refine zw_iconst 1 21 f126_20 rfl (by decide +kernel) ?_
                refine zw_goto 25 f126_21 (by decide +kernel) ?_
                refine zw_zreturn f126_25 r126 u126 (by decide +kernel) ⟨_, rfl, ?_⟩
                refine zw_if_eq_f 33 53 f175_30 (by decide +kernel) rfl (by decide +kernel) ?_
                refine zw_aload_n 34 f175_33 rfl rfl ?_
                refine zw_bipush 41 36 f175_34 rfl (by decide +kernel) ?_
                refine zw_virtual_v 39 0 0 [.ref 52, .int 41] [(0, .ref 52), (1, .int 41)] f175_36 rfl n175_291 k175_291_12 rfl (hb_52 _ _ _ _) (by decide +kernel) (Nat.le_of_ble_eq_true rfl) rfl rfl (by decide +kernel) (by decide +kernel) rfl (Nat.le_of_ble_eq_true rfl) rfl ?_
                refine zw_aload_n 1 f173_0 rfl rfl ?_
                refine zw_getI 0 4 f173_1 rfl g173_246_12 (hb_52 _ _ _ _) rfl rfl ?_
                refine zw_bipush 50 6 f173_4 rfl (by decide +kernel) ?_
                refine zw_ic_ge_f 9 19 f173_6 (by decide +kernel) rfl (by decide +kernel) ?_
                refine zw_aload_n 10 f173_9 rfl rfl ?_
                refine zw_getfield 13 f173_10 rfl g173_74_12 (hb_52 _ _ _ _) rfl ?_
                refine zw_aload_n 14 f173_13 rfl rfl ?_
                refine zw_getI 0 17 f173_14 rfl g173_246_12 (hb_52 _ _ _ _) rfl rfl ?_
                refine zw_iload_n 18 f173_17 rfl rfl ?_
                refine zw_ast 0 _ 19 f173_18 rfl (hb_71 _ _ _ _) (by decide +kernel) (by decide +kernel) (by decide +kernel) (ha_71 _ _ _ _ _) ?_
                refine zw_aload_n 20 f173_19 rfl rfl ?_
                refine zw_dup 21 f173_20 rfl rfl ?_
                refine zw_getI 0 24 f173_21 rfl g173_246_12 (hb_52 _ _ _ _) rfl rfl ?_
                refine zw_iconst 1 25 f173_24 rfl (by decide +kernel) ?_
                refine zw_iadd 1 26 f173_25 rfl (by decide +kernel) ?_
                refine zw_put _ 29 f173_26 rfl g173_246_12 (hb_52 _ _ _ _) rfl (Nat.le_of_ble_eq_true rfl) (by decide +kernel) (hi_52_29 _ _ _ _ _) ?_
                refine zw_vreturn f173_29 r173 u173 ⟨rfl, ?_⟩
                refine zw_aload_n 40 f175_39 rfl rfl ?_
                refine zw_iload_n 41 f175_40 rfl rfl ?_
                refine zw_iload_n 42 f175_41 rfl rfl ?_
                refine zw_aload_n 43 f175_42 rfl rfl ?_
                refine zw_getfield 46 f175_43 rfl g175_16_12 (hb_52 _ _ _ _) rfl ?_
                refine zw_iload_n 47 f175_46 rfl rfl ?_
                refine zw_iaload a.toNatClampNeg (A 55 a.toNatClampNeg) 48 f175_47 rfl (hb_55 _ _ _ _) rfl hc1 (zix (by decide) hc1 (show ¬ 8 ≤ a from ix_le hp.1 (by decide) (by decide) hc1 hc2)) rfl ?_
                refine zw_iadd (c + (A 55 a.toNatClampNeg)) 49 f175_48 rfl rfl ?_
                refine zw_virtual_i 52 0 0 [.ref 52, .int a, .int (c + (A 55 a.toNatClampNeg))] [(0, .ref 52), (1, .int a), (2, .int (c + (A 55 a.toNatClampNeg)))] f175_49 rfl n175_294 k175_294_12 rfl (hb_52 _ _ _ _) (by decide +kernel) (Nat.le_of_ble_eq_true rfl) rfl rfl (by decide +kernel) (by decide +kernel) rfl (Nat.le_of_ble_eq_true rfl) rfl ?_
                refine zw_aload_n 1 f174_0 rfl rfl ?_
                refine zw_bipush 10 3 f174_1 rfl (by decide +kernel) ?_
                refine zw_virtual_v 6 0 0 [.ref 52, .int 10] [(0, .ref 52), (1, .int 10)] f174_3 rfl n174_291 k174_291_12 rfl (hb_52 _ _ _ _) (by decide +kernel) (Nat.le_of_ble_eq_true rfl) rfl rfl (by decide +kernel) (by decide +kernel) rfl (Nat.le_of_ble_eq_true rfl) rfl ?_
                refine zw_aload_n 1 f173_0 rfl rfl ?_
                refine zw_getI 1 4 f173_1 rfl g173_246_12 (hb_52 _ _ _ _) rfl rfl ?_
                refine zw_bipush 50 6 f173_4 rfl (by decide +kernel) ?_
                refine zw_ic_ge_f 9 19 f173_6 (by decide +kernel) rfl (by decide +kernel) ?_
                refine zw_aload_n 10 f173_9 rfl rfl ?_
                refine zw_getfield 13 f173_10 rfl g173_74_12 (hb_52 _ _ _ _) rfl ?_
                refine zw_aload_n 14 f173_13 rfl rfl ?_
                refine zw_getI 1 17 f173_14 rfl g173_246_12 (hb_52 _ _ _ _) rfl rfl ?_
                refine zw_iload_n 18 f173_17 rfl rfl ?_
                refine zw_ast 1 _ 19 f173_18 rfl (hb_71 _ _ _ _) (by decide +kernel) (by decide +kernel) (by decide +kernel) (ha_71 _ _ _ _ _) ?_
                refine zw_aload_n 20 f173_19 rfl rfl ?_
                refine zw_dup 21 f173_20 rfl rfl ?_
                refine zw_getI 1 24 f173_21 rfl g173_246_12 (hb_52 _ _ _ _) rfl rfl ?_
                refine zw_iconst 1 25 f173_24 rfl (by decide +kernel) ?_
                refine zw_iadd 2 26 f173_25 rfl (by decide +kernel) ?_
                refine zw_put _ 29 f173_26 rfl g173_246_12 (hb_52 _ _ _ _) rfl (Nat.le_of_ble_eq_true rfl) (by decide +kernel) (hi_52_29 _ _ _ _ _) ?_
                refine zw_vreturn f173_29 r173 u173 ⟨rfl, ?_⟩
                refine zw_iload_n 7 f174_6 rfl rfl ?_
                refine zw_aload_n 8 f174_7 rfl rfl ?_
                refine zw_getfield 11 f174_8 rfl g174_13_12 (hb_52 _ _ _ _) rfl ?_
                refine zw_iload_n 12 f174_11 rfl rfl ?_
                refine zw_iaload a.toNatClampNeg (A 54 a.toNatClampNeg) 13 f174_12 rfl (hb_54 _ _ _ _) rfl hc1 (zix (by decide) hc1 (show ¬ 8 ≤ a from ix_le hp.1 (by decide) (by decide) hc1 hc2)) rfl ?_
                refine zw_iadd ((c + (A 55 a.toNatClampNeg)) + (A 54 a.toNatClampNeg)) 14 f174_13 rfl rfl ?_
                refine zw_ireturn f174_14 r174 u174 ⟨_, rfl, ?_⟩
                refine zw_ireturn f175_52 r175 u175 ⟨_, rfl, ?_⟩
                refine zw_goto 76 f180_39 (by decide +kernel) ?_
                refine zw_virtual_i 79 0 0 [.ref 52, .int ((c + (A 55 a.toNatClampNeg)) + (A 54 a.toNatClampNeg))] [(0, .ref 52), (1, .int ((c + (A 55 a.toNatClampNeg)) + (A 54 a.toNatClampNeg)))] f180_76 rfl n180_205 k180_205_12 rfl (hb_52 _ _ _ _) (by decide +kernel) (Nat.le_of_ble_eq_true rfl) rfl rfl (by decide +kernel) (by decide +kernel) rfl (Nat.le_of_ble_eq_true rfl) rfl ?_
                refine zw_aload_n 1 f122_0 rfl rfl ?_
                refine zw_iconst 0 2 f122_1 rfl (by decide +kernel) ?_
                refine zw_put _ 5 f122_2 rfl g122_111_12 (hb_52 _ _ _ _) rfl (Nat.le_of_ble_eq_true rfl) (by decide +kernel) (hi_52_27 _ _ _ _ _) ?_
                refine zw_iload_n 6 f122_5 rfl rfl ?_
                refine zw_ireturn f122_6 r122 u122 ⟨_, rfl, ?_⟩
                refine zw_ireturn f180_79 r180 u180 ?_
                exact ⟨_, _, _, _, rfl, (KQ.i rfl (KQ.i rfl (KQ.a rfl (KQ.i rfl (KQ.a rfl (KQ.i rfl KQ.rf)))))), ⟨hi.1, hi.2.1, 2, by omega, (show _ = nI 2 from rfl)⟩, _, rfl⟩
              · refine zw_aload_n 11 f126_10 rfl rfl ?_
                refine zw_getfield 14 f126_11 rfl g126_7_12 (hb_52 _ _ _ _) rfl ?_
                refine zw_iload_n 15 f126_14 rfl rfl ?_
                refine zw_iaload a.toNatClampNeg (A 53 a.toNatClampNeg) 16 f126_15 rfl (hb_53 _ _ _ _) rfl hc1 (zix (by decide) hc1 (show ¬ 8 ≤ a from ix_le hp.1 (by decide) (by decide) hc1 hc2)) rfl ?_
                refine zw_iconst 4 17 f126_16 rfl (by decide +kernel) ?_
                refine zw_ic_ne 20 24 f126_17 (by decide +kernel) rfl (fun hc37 => ?_) (fun hc37 => ?_)
                · refine zw_iconst 0 25 f126_24 rfl (by decide +kernel) ?_
                  refine zw_zreturn f126_25 r126 u126 (by decide +kernel) ⟨_, rfl, ?_⟩
                  refine zw_if_eq_t 53 f175_30 (by decide +kernel) (by decide +kernel) ?_
                  refine zw_aload_n 54 f175_53 rfl rfl ?_
                  refine zw_iload_n 55 f175_54 rfl rfl ?_
                  refine zw_iload_n 56 f175_55 rfl rfl ?_
                  refine zw_virtual_i 59 0 0 [.ref 52, .int a, .int c] [(0, .ref 52), (1, .int a), (2, .int c)] f175_56 rfl n175_294 k175_294_12 rfl (hb_52 _ _ _ _) (by decide +kernel) (Nat.le_of_ble_eq_true rfl) rfl rfl (by decide +kernel) (by decide +kernel) rfl (Nat.le_of_ble_eq_true rfl) rfl ?_
                  refine zw_aload_n 1 f174_0 rfl rfl ?_
                  refine zw_bipush 10 3 f174_1 rfl (by decide +kernel) ?_
                  refine zw_virtual_v 6 0 0 [.ref 52, .int 10] [(0, .ref 52), (1, .int 10)] f174_3 rfl n174_291 k174_291_12 rfl (hb_52 _ _ _ _) (by decide +kernel) (Nat.le_of_ble_eq_true rfl) rfl rfl (by decide +kernel) (by decide +kernel) rfl (Nat.le_of_ble_eq_true rfl) rfl ?_
                  refine zw_aload_n 1 f173_0 rfl rfl ?_
                  refine zw_getI 0 4 f173_1 rfl g173_246_12 (hb_52 _ _ _ _) rfl rfl ?_
                  refine zw_bipush 50 6 f173_4 rfl (by decide +kernel) ?_
                  refine zw_ic_ge_f 9 19 f173_6 (by decide +kernel) rfl (by decide +kernel) ?_
                  refine zw_aload_n 10 f173_9 rfl rfl ?_
                  refine zw_getfield 13 f173_10 rfl g173_74_12 (hb_52 _ _ _ _) rfl ?_
                  refine zw_aload_n 14 f173_13 rfl rfl ?_
                  refine zw_getI 0 17 f173_14 rfl g173_246_12 (hb_52 _ _ _ _) rfl rfl ?_
                  refine zw_iload_n 18 f173_17 rfl rfl ?_
                  refine zw_ast 0 _ 19 f173_18 rfl (hb_71 _ _ _ _) (by decide +kernel) (by decide +kernel) (by decide +kernel) (ha_71 _ _ _ _ _) ?_
                  refine zw_aload_n 20 f173_19 rfl rfl ?_
                  refine zw_dup 21 f173_20 rfl rfl ?_
                  refine zw_getI 0 24 f173_21 rfl g173_246_12 (hb_52 _ _ _ _) rfl rfl ?_
                  refine zw_iconst 1 25 f173_24 rfl (by decide +kernel) ?_
                  refine zw_iadd 1 26 f173_25 rfl (by decide +kernel) ?_
                  refine zw_put _ 29 f173_26 rfl g173_246_12 (hb_52 _ _ _ _) rfl (Nat.le_of_ble_eq_true rfl) (by decide +kernel) (hi_52_29 _ _ _ _ _) ?_
                  refine zw_vreturn f173_29 r173 u173 ⟨rfl, ?_⟩
                  refine zw_iload_n 7 f174_6 rfl rfl ?_
                  refine zw_aload_n 8 f174_7 rfl rfl ?_
                  refine zw_getfield 11 f174_8 rfl g174_13_12 (hb_52 _ _ _ _) rfl ?_
                  refine zw_iload_n 12 f174_11 rfl rfl ?_
                  refine zw_iaload a.toNatClampNeg (A 54 a.toNatClampNeg) 13 f174_12 rfl (hb_54 _ _ _ _) rfl hc1 (zix (by decide) hc1 (show ¬ 8 ≤ a from ix_le hp.1 (by decide) (by decide) hc1 hc2)) rfl ?_
                  refine zw_iadd (c + (A 54 a.toNatClampNeg)) 14 f174_13 rfl rfl ?_
                  refine zw_ireturn f174_14 r174 u174 ⟨_, rfl, ?_⟩
                  refine zw_ireturn f175_59 r175 u175 ⟨_, rfl, ?_⟩
                  refine zw_goto 76 f180_39 (by decide +kernel) ?_
                  refine zw_virtual_i 79 0 0 [.ref 52, .int (c + (A 54 a.toNatClampNeg))] [(0, .ref 52), (1, .int (c + (A 54 a.toNatClampNeg)))] f180_76 rfl n180_205 k180_205_12 rfl (hb_52 _ _ _ _) (by decide +kernel) (Nat.le_of_ble_eq_true rfl) rfl rfl (by decide +kernel) (by decide +kernel) rfl (Nat.le_of_ble_eq_true rfl) rfl ?_
                  refine zw_aload_n 1 f122_0 rfl rfl ?_
                  refine zw_iconst 0 2 f122_1 rfl (by decide +kernel) ?_
                  refine zw_put _ 5 f122_2 rfl g122_111_12 (hb_52 _ _ _ _) rfl (Nat.le_of_ble_eq_true rfl) (by decide +kernel) (hi_52_27 _ _ _ _ _) ?_
                  refine zw_iload_n 6 f122_5 rfl rfl ?_
                  refine zw_ireturn f122_6 r122 u122 ⟨_, rfl, ?_⟩
                  refine zw_ireturn f180_79 r180 u180 ?_
                  exact ⟨_, _, _, _, rfl, (KQ.i rfl (KQ.i rfl (KQ.a rfl (KQ.i rfl KQ.rf)))), ⟨hi.1, hi.2.1, 1, by omega, (show _ = nI 1 from rfl)⟩, _, rfl⟩
                · refine zw_iconst 1 21 f126_20 rfl (by decide +kernel) ?_
                  refine zw_goto 25 f126_21 (by decide +kernel) ?_
                  refine zw_zreturn f126_25 r126 u126 (by decide +kernel) ⟨_, rfl, ?_⟩
                  refine zw_if_eq_f 33 53 f175_30 (by decide +kernel) rfl (by decide +kernel) ?_
                  refine zw_aload_n 34 f175_33 rfl rfl ?_
                  refine zw_bipush 41 36 f175_34 rfl (by decide +kernel) ?_
                  refine zw_virtual_v 39 0 0 [.ref 52, .int 41] [(0, .ref 52), (1, .int 41)] f175_36 rfl n175_291 k175_291_12 rfl (hb_52 _ _ _ _) (by decide +kernel) (Nat.le_of_ble_eq_true rfl) rfl rfl (by decide +kernel) (by decide +kernel) rfl (Nat.le_of_ble_eq_true rfl) rfl ?_
                  refine zw_aload_n 1 f173_0 rfl rfl ?_
                  refine zw_getI 0 4 f173_1 rfl g173_246_12 (hb_52 _ _ _ _) rfl rfl ?_
                  refine zw_bipush 50 6 f173_4 rfl (by decide +kernel) ?_
                  refine zw_ic_ge_f 9 19 f173_6 (by decide +kernel) rfl (by decide +kernel) ?_
                  refine zw_aload_n 10 f173_9 rfl rfl ?_
                  refine zw_getfield 13 f173_10 rfl g173_74_12 (hb_52 _ _ _ _) rfl ?_
                  refine zw_aload_n 14 f173_13 rfl rfl ?_
                  refine zw_getI 0 17 f173_14 rfl g173_246_12 (hb_52 _ _ _ _) rfl rfl ?_
                  refine zw_iload_n 18 f173_17 rfl rfl ?_
                  refine zw_ast 0 _ 19 f173_18 rfl (hb_71 _ _ _ _) (by decide +kernel) (by decide +kernel) (by decide +kernel) (ha_71 _ _ _ _ _) ?_
                  refine zw_aload_n 20 f173_19 rfl rfl ?_
                  refine zw_dup 21 f173_20 rfl rfl ?_
                  refine zw_getI 0 24 f173_21 rfl g173_246_12 (hb_52 _ _ _ _) rfl rfl ?_
                  refine zw_iconst 1 25 f173_24 rfl (by decide +kernel) ?_
                  refine zw_iadd 1 26 f173_25 rfl (by decide +kernel) ?_
                  refine zw_put _ 29 f173_26 rfl g173_246_12 (hb_52 _ _ _ _) rfl (Nat.le_of_ble_eq_true rfl) (by decide +kernel) (hi_52_29 _ _ _ _ _) ?_
                  refine zw_vreturn f173_29 r173 u173 ⟨rfl, ?_⟩
                  refine zw_aload_n 40 f175_39 rfl rfl ?_
                  refine zw_iload_n 41 f175_40 rfl rfl ?_
                  refine zw_iload_n 42 f175_41 rfl rfl ?_
                  refine zw_aload_n 43 f175_42 rfl rfl ?_
                  refine zw_getfield 46 f175_43 rfl g175_16_12 (hb_52 _ _ _ _) rfl ?_
                  refine zw_iload_n 47 f175_46 rfl rfl ?_
                  refine zw_iaload a.toNatClampNeg (A 55 a.toNatClampNeg) 48 f175_47 rfl (hb_55 _ _ _ _) rfl hc1 (zix (by decide) hc1 (show ¬ 8 ≤ a from ix_le hp.1 (by decide) (by decide) hc1 hc2)) rfl ?_
                  refine zw_iadd (c + (A 55 a.toNatClampNeg)) 49 f175_48 rfl rfl ?_
                  refine zw_virtual_i 52 0 0 [.ref 52, .int a, .int (c + (A 55 a.toNatClampNeg))] [(0, .ref 52), (1, .int a), (2, .int (c + (A 55 a.toNatClampNeg)))] f175_49 rfl n175_294 k175_294_12 rfl (hb_52 _ _ _ _) (by decide +kernel) (Nat.le_of_ble_eq_true rfl) rfl rfl (by decide +kernel) (by decide +kernel) rfl (Nat.le_of_ble_eq_true rfl) rfl ?_
                  refine zw_aload_n 1 f174_0 rfl rfl ?_
                  refine zw_bipush 10 3 f174_1 rfl (by decide +kernel) ?_
                  refine zw_virtual_v 6 0 0 [.ref 52, .int 10] [(0, .ref 52), (1, .int 10)] f174_3 rfl n174_291 k174_291_12 rfl (hb_52 _ _ _ _) (by decide +kernel) (Nat.le_of_ble_eq_true rfl) rfl rfl (by decide +kernel) (by decide +kernel) rfl (Nat.le_of_ble_eq_true rfl) rfl ?_
                  refine zw_aload_n 1 f173_0 rfl rfl ?_
                  refine zw_getI 1 4 f173_1 rfl g173_246_12 (hb_52 _ _ _ _) rfl rfl ?_
                  refine zw_bipush 50 6 f173_4 rfl (by decide +kernel) ?_
                  refine zw_ic_ge_f 9 19 f173_6 (by decide +kernel) rfl (by decide +kernel) ?_
                  refine zw_aload_n 10 f173_9 rfl rfl ?_
                  refine zw_getfield 13 f173_10 rfl g173_74_12 (hb_52 _ _ _ _) rfl ?_
                  refine zw_aload_n 14 f173_13 rfl rfl ?_
                  refine zw_getI 1 17 f173_14 rfl g173_246_12 (hb_52 _ _ _ _) rfl rfl ?_
                  refine zw_iload_n 18 f173_17 rfl rfl ?_
                  refine zw_ast 1 _ 19 f173_18 rfl (hb_71 _ _ _ _) (by decide +kernel) (by decide +kernel) (by decide +kernel) (ha_71 _ _ _ _ _) ?_
                  refine zw_aload_n 20 f173_19 rfl rfl ?_
                  refine zw_dup 21 f173_20 rfl rfl ?_
                  refine zw_getI 1 24 f173_21 rfl g173_246_12 (hb_52 _ _ _ _) rfl rfl ?_
                  refine zw_iconst 1 25 f173_24 rfl (by decide +kernel) ?_
                  refine zw_iadd 2 26 f173_25 rfl (by decide +kernel) ?_
                  refine zw_put _ 29 f173_26 rfl g173_246_12 (hb_52 _ _ _ _) rfl (Nat.le_of_ble_eq_true rfl) (by decide +kernel) (hi_52_29 _ _ _ _ _) ?_
                  refine zw_vreturn f173_29 r173 u173 ⟨rfl, ?_⟩
                  refine zw_iload_n 7 f174_6 rfl rfl ?_
                  refine zw_aload_n 8 f174_7 rfl rfl ?_
                  refine zw_getfield 11 f174_8 rfl g174_13_12 (hb_52 _ _ _ _) rfl ?_
                  refine zw_iload_n 12 f174_11 rfl rfl ?_
                  refine zw_iaload a.toNatClampNeg (A 54 a.toNatClampNeg) 13 f174_12 rfl (hb_54 _ _ _ _) rfl hc1 (zix (by decide) hc1 (show ¬ 8 ≤ a from ix_le hp.1 (by decide) (by decide) hc1 hc2)) rfl ?_
                  refine zw_iadd ((c + (A 55 a.toNatClampNeg)) + (A 54 a.toNatClampNeg)) 14 f174_13 rfl rfl ?_
                  refine zw_ireturn f174_14 r174 u174 ⟨_, rfl, ?_⟩
                  refine zw_ireturn f175_52 r175 u175 ⟨_, rfl, ?_⟩
                  refine zw_goto 76 f180_39 (by decide +kernel) ?_
                  refine zw_virtual_i 79 0 0 [.ref 52, .int ((c + (A 55 a.toNatClampNeg)) + (A 54 a.toNatClampNeg))] [(0, .ref 52), (1, .int ((c + (A 55 a.toNatClampNeg)) + (A 54 a.toNatClampNeg)))] f180_76 rfl n180_205 k180_205_12 rfl (hb_52 _ _ _ _) (by decide +kernel) (Nat.le_of_ble_eq_true rfl) rfl rfl (by decide +kernel) (by decide +kernel) rfl (Nat.le_of_ble_eq_true rfl) rfl ?_
                  refine zw_aload_n 1 f122_0 rfl rfl ?_
                  refine zw_iconst 0 2 f122_1 rfl (by decide +kernel) ?_
                  refine zw_put _ 5 f122_2 rfl g122_111_12 (hb_52 _ _ _ _) rfl (Nat.le_of_ble_eq_true rfl) (by decide +kernel) (hi_52_27 _ _ _ _ _) ?_
                  refine zw_iload_n 6 f122_5 rfl rfl ?_
                  refine zw_ireturn f122_6 r122 u122 ⟨_, rfl, ?_⟩
                  refine zw_ireturn f180_79 r180 u180 ?_
                  exact ⟨_, _, _, _, rfl, (KQ.i rfl (KQ.i rfl (KQ.a rfl (KQ.i rfl (KQ.a rfl (KQ.i rfl KQ.rf)))))), ⟨hi.1, hi.2.1, 2, by omega, (show _ = nI 2 from rfl)⟩, _, rfl⟩
            · refine zw_aload_n 11 f175_10 rfl rfl ?_
              refine zw_bipush 30 13 f175_11 rfl (by decide +kernel) ?_
              refine zw_virtual_v 16 0 0 [.ref 52, .int 30] [(0, .ref 52), (1, .int 30)] f175_13 rfl n175_291 k175_291_12 rfl (hb_52 _ _ _ _) (by decide +kernel) (Nat.le_of_ble_eq_true rfl) rfl rfl (by decide +kernel) (by decide +kernel) rfl (Nat.le_of_ble_eq_true rfl) rfl ?_
              refine zw_aload_n 1 f173_0 rfl rfl ?_
              refine zw_getI 0 4 f173_1 rfl g173_246_12 (hb_52 _ _ _ _) rfl rfl ?_
              refine zw_bipush 50 6 f173_4 rfl (by decide +kernel) ?_
              refine zw_ic_ge_f 9 19 f173_6 (by decide +kernel) rfl (by decide +kernel) ?_
              refine zw_aload_n 10 f173_9 rfl rfl ?_
              refine zw_getfield 13 f173_10 rfl g173_74_12 (hb_52 _ _ _ _) rfl ?_
              refine zw_aload_n 14 f173_13 rfl rfl ?_
              refine zw_getI 0 17 f173_14 rfl g173_246_12 (hb_52 _ _ _ _) rfl rfl ?_
              refine zw_iload_n 18 f173_17 rfl rfl ?_
              refine zw_ast 0 _ 19 f173_18 rfl (hb_71 _ _ _ _) (by decide +kernel) (by decide +kernel) (by decide +kernel) (ha_71 _ _ _ _ _) ?_
              refine zw_aload_n 20 f173_19 rfl rfl ?_
              refine zw_dup 21 f173_20 rfl rfl ?_
              refine zw_getI 0 24 f173_21 rfl g173_246_12 (hb_52 _ _ _ _) rfl rfl ?_
              refine zw_iconst 1 25 f173_24 rfl (by decide +kernel) ?_
              refine zw_iadd 1 26 f173_25 rfl (by decide +kernel) ?_
              refine zw_put _ 29 f173_26 rfl g173_246_12 (hb_52 _ _ _ _) rfl (Nat.le_of_ble_eq_true rfl) (by decide +kernel) (hi_52_29 _ _ _ _ _) ?_
              refine zw_vreturn f173_29 r173 u173 ⟨rfl, ?_⟩
              refine zw_aload_n 17 f175_16 rfl rfl ?_
              refine zw_iload_n 18 f175_17 rfl rfl ?_
              refine zw_iload_n 19 f175_18 rfl rfl ?_
              refine zw_virtual_i 22 0 0 [.ref 52, .int a, .int c] [(0, .ref 52), (1, .int a), (2, .int c)] f175_19 rfl n175_294 k175_294_12 rfl (hb_52 _ _ _ _) (by decide +kernel) (Nat.le_of_ble_eq_true rfl) rfl rfl (by decide +kernel) (by decide +kernel) rfl (Nat.le_of_ble_eq_true rfl) rfl ?_
              refine zw_aload_n 1 f174_0 rfl rfl ?_
              refine zw_bipush 10 3 f174_1 rfl (by decide +kernel) ?_
              refine zw_virtual_v 6 0 0 [.ref 52, .int 10] [(0, .ref 52), (1, .int 10)] f174_3 rfl n174_291 k174_291_12 rfl (hb_52 _ _ _ _) (by decide +kernel) (Nat.le_of_ble_eq_true rfl) rfl rfl (by decide +kernel) (by decide +kernel) rfl (Nat.le_of_ble_eq_true rfl) rfl ?_
              refine zw_aload_n 1 f173_0 rfl rfl ?_
              refine zw_getI 1 4 f173_1 rfl g173_246_12 (hb_52 _ _ _ _) rfl rfl ?_
              refine zw_bipush 50 6 f173_4 rfl (by decide +kernel) ?_
              refine zw_ic_ge_f 9 19 f173_6 (by decide +kernel) rfl (by decide +kernel) ?_
              refine zw_aload_n 10 f173_9 rfl rfl ?_
              refine zw_getfield 13 f173_10 rfl g173_74_12 (hb_52 _ _ _ _) rfl ?_
              refine zw_aload_n 14 f173_13 rfl rfl ?_
              refine zw_getI 1 17 f173_14 rfl g173_246_12 (hb_52 _ _ _ _) rfl rfl ?_
              refine zw_iload_n 18 f173_17 rfl rfl ?_
              refine zw_ast 1 _ 19 f173_18 rfl (hb_71 _ _ _ _) (by decide +kernel) (by decide +kernel) (by decide +kernel) (ha_71 _ _ _ _ _) ?_
              refine zw_aload_n 20 f173_19 rfl rfl ?_
              refine zw_dup 21 f173_20 rfl rfl ?_
              refine zw_getI 1 24 f173_21 rfl g173_246_12 (hb_52 _ _ _ _) rfl rfl ?_
              refine zw_iconst 1 25 f173_24 rfl (by decide +kernel) ?_
              refine zw_iadd 2 26 f173_25 rfl (by decide +kernel) ?_
              refine zw_put _ 29 f173_26 rfl g173_246_12 (hb_52 _ _ _ _) rfl (Nat.le_of_ble_eq_true rfl) (by decide +kernel) (hi_52_29 _ _ _ _ _) ?_
              refine zw_vreturn f173_29 r173 u173 ⟨rfl, ?_⟩
              refine zw_iload_n 7 f174_6 rfl rfl ?_
              refine zw_aload_n 8 f174_7 rfl rfl ?_
              refine zw_getfield 11 f174_8 rfl g174_13_12 (hb_52 _ _ _ _) rfl ?_
              refine zw_iload_n 12 f174_11 rfl rfl ?_
              refine zw_iaload a.toNatClampNeg (A 54 a.toNatClampNeg) 13 f174_12 rfl (hb_54 _ _ _ _) rfl hc1 (zix (by decide) hc1 (show ¬ 8 ≤ a from ix_le hp.1 (by decide) (by decide) hc1 hc2)) rfl ?_
              refine zw_iadd (c + (A 54 a.toNatClampNeg)) 14 f174_13 rfl rfl ?_
              refine zw_ireturn f174_14 r174 u174 ⟨_, rfl, ?_⟩
              refine zw_iconst 2 23 f175_22 rfl (by decide +kernel) ?_
              refine zw_imul ((c + (A 54 a.toNatClampNeg)) * 2) 24 f175_23 rfl rfl ?_
              refine zw_ireturn f175_24 r175 u175 ⟨_, rfl, ?_⟩
              refine zw_goto 76 f180_39 (by decide +kernel) ?_
              refine zw_virtual_i 79 0 0 [.ref 52, .int ((c + (A 54 a.toNatClampNeg)) * 2)] [(0, .ref 52), (1, .int ((c + (A 54 a.toNatClampNeg)) * 2))] f180_76 rfl n180_205 k180_205_12 rfl (hb_52 _ _ _ _) (by decide +kernel) (Nat.le_of_ble_eq_true rfl) rfl rfl (by decide +kernel) (by decide +kernel) rfl (Nat.le_of_ble_eq_true rfl) rfl ?_
              refine zw_aload_n 1 f122_0 rfl rfl ?_
              refine zw_iconst 0 2 f122_1 rfl (by decide +kernel) ?_
              refine zw_put _ 5 f122_2 rfl g122_111_12 (hb_52 _ _ _ _) rfl (Nat.le_of_ble_eq_true rfl) (by decide +kernel) (hi_52_27 _ _ _ _ _) ?_
              refine zw_iload_n 6 f122_5 rfl rfl ?_
              refine zw_ireturn f122_6 r122 u122 ⟨_, rfl, ?_⟩
              refine zw_ireturn f180_79 r180 u180 ?_
              exact ⟨_, _, _, _, rfl, (KQ.i rfl (KQ.i rfl (KQ.a rfl (KQ.i rfl (KQ.a rfl (KQ.i rfl KQ.rf)))))), ⟨hi.1, hi.2.1, 2, by omega, (show _ = nI 2 from rfl)⟩, _, rfl⟩
set_option maxRecDepth 100000 in
set_option maxHeartbeats 0 in
theorem mq_trace (ro : UInt32 → Nat × (Nat → Int32)) (nv np : Nat) (W : qW) (L : qLog) (I : Nat → Nat → Int32) (G : Nat → Nat → Int64) (A : Nat → Nat → Int32) (B : Nat → Nat → Int64) (K : Int) (hR : mRS nv np A W L I G A B) (hp : MPa nv np A) (hW : wInv nv 10000 K A W) (hn : L.1 < 900000000) (hg : qLG L) (hi : mId I) (a : Int32) : zWp ro 181 0 [(0, .ref 52), (1, .int a)] [] (hS I G A B) 0 0 (fun r h1 => ∃ I2 G2 A2 B2, h1 = hS I2 G2 A2 B2 ∧ KQ fQu pQu I G A B I2 G2 A2 B2 ∧ mId I2 ∧ ∃ v : Int32, r = some (.int v)) := by
  have h8 := hp.1
  have h14 := hp.2.1
  obtain ⟨t, ht, et⟩ := hi.2.2
  refine zw_iload_n 1 f181_0 rfl rfl ?_
  refine zw_iconst 0 2 f181_1 rfl (by decide +kernel) ?_
  refine zw_aload_n 3 f181_2 rfl rfl ?_
  refine zw_getI (nI t) 6 f181_3 rfl g181_246_12 (hb_52 _ _ _ _) rfl et ?_
  refine zw_bipush 50 8 f181_6 rfl (by decide +kernel) ?_
  refine zw_ic_ge 11 18 f181_8 (by decide +kernel) rfl (fun hc1 => ?_) (fun hc1 => ?_)
  · have hn_hc1 : 50 ≤ t := zn_ge (by omega) (by omega) hc1
    refine zw_bipush 50 20 f181_18 rfl (by decide +kernel) ?_
    refine zw_iconst 1 21 f181_20 rfl (by decide +kernel) ?_
    refine zw_isub 49 22 f181_21 rfl (by decide +kernel) ?_
    refine zw_static_i 25 0 0 [.int a, .int 0, .int 49] [] [(0, .int a), (1, .int 0), (2, .int 49)] f181_22 rfl k181_117_99 rfl (by decide +kernel) (Nat.le_of_ble_eq_true rfl) (Nat.le_of_ble_eq_true rfl) rfl rfl (by decide +kernel) (by decide +kernel) rfl (Nat.le_of_ble_eq_true rfl) rfl ?_
    refine zw_iload_n 1 f120_0 rfl rfl ?_
    refine zw_iload_n 2 f120_1 rfl rfl ?_
    refine zw_ic_lt 5 14 f120_2 (by decide +kernel) rfl (fun hc2 => ?_) (fun hc2 => ?_)
    · refine zw_iconst 0 15 f120_14 rfl (by decide +kernel) ?_
      refine zw_zreturn f120_15 r120 u120 (by decide +kernel) ⟨_, rfl, ?_⟩
      refine zw_if_eq_t 37 f181_25 (by decide +kernel) (by decide +kernel) ?_
      refine zw_iconst (-1) 38 f181_37 rfl (by decide +kernel) ?_
      refine zw_ireturn f181_38 r181 u181 ?_
      exact ⟨_, _, _, _, rfl, KQ.rf, ⟨hi.1, hi.2.1, t, by omega, et⟩, _, rfl⟩
    · refine zw_iload_n 6 f120_5 rfl rfl ?_
      refine zw_iload_n 7 f120_6 rfl rfl ?_
      refine zw_ic_gt 10 14 f120_7 (by decide +kernel) rfl (fun hc3 => ?_) (fun hc3 => ?_)
      · refine zw_iconst 0 15 f120_14 rfl (by decide +kernel) ?_
        refine zw_zreturn f120_15 r120 u120 (by decide +kernel) ⟨_, rfl, ?_⟩
        refine zw_if_eq_t 37 f181_25 (by decide +kernel) (by decide +kernel) ?_
        refine zw_iconst (-1) 38 f181_37 rfl (by decide +kernel) ?_
        refine zw_ireturn f181_38 r181 u181 ?_
        exact ⟨_, _, _, _, rfl, KQ.rf, ⟨hi.1, hi.2.1, t, by omega, et⟩, _, rfl⟩
      · refine zw_iconst 1 11 f120_10 rfl (by decide +kernel) ?_
        refine zw_goto 15 f120_11 (by decide +kernel) ?_
        refine zw_zreturn f120_15 r120 u120 (by decide +kernel) ⟨_, rfl, ?_⟩
        refine zw_if_eq_f 28 37 f181_25 (by decide +kernel) rfl (by decide +kernel) ?_
        refine zw_aload_n 29 f181_28 rfl rfl ?_
        refine zw_getfield 32 f181_29 rfl g181_74_12 (hb_52 _ _ _ _) rfl ?_
        refine zw_iload_n 33 f181_32 rfl rfl ?_
        refine zw_iaload a.toNatClampNeg (A 71 a.toNatClampNeg) 34 f181_33 rfl (hb_71 _ _ _ _) rfl hc2 (zix (by decide) hc2 (tr_ix ht hc2 (Or.inr hc3))) rfl ?_
        refine zw_goto 38 f181_34 (by decide +kernel) ?_
        refine zw_ireturn f181_38 r181 u181 ?_
        exact ⟨_, _, _, _, rfl, KQ.rf, ⟨hi.1, hi.2.1, t, by omega, et⟩, _, rfl⟩
  · have hn_hc1 : t < 50 := zn_lt (by omega) (by omega) hc1
    refine zw_aload_n 12 f181_11 rfl rfl ?_
    refine zw_getI (nI t) 15 f181_12 rfl g181_246_12 (hb_52 _ _ _ _) rfl et ?_
    refine zw_goto 20 f181_15 (by decide +kernel) ?_
    refine zw_iconst 1 21 f181_20 rfl (by decide +kernel) ?_
    refine zw_isub ((nI t) - 1) 22 f181_21 rfl rfl ?_
    refine zw_static_i 25 0 0 [.int a, .int 0, .int ((nI t) - 1)] [] [(0, .int a), (1, .int 0), (2, .int ((nI t) - 1))] f181_22 rfl k181_117_99 rfl (by decide +kernel) (Nat.le_of_ble_eq_true rfl) (Nat.le_of_ble_eq_true rfl) rfl rfl (by decide +kernel) (by decide +kernel) rfl (Nat.le_of_ble_eq_true rfl) rfl ?_
    refine zw_iload_n 1 f120_0 rfl rfl ?_
    refine zw_iload_n 2 f120_1 rfl rfl ?_
    refine zw_ic_lt 5 14 f120_2 (by decide +kernel) rfl (fun hc4 => ?_) (fun hc4 => ?_)
    · refine zw_iconst 0 15 f120_14 rfl (by decide +kernel) ?_
      refine zw_zreturn f120_15 r120 u120 (by decide +kernel) ⟨_, rfl, ?_⟩
      refine zw_if_eq_t 37 f181_25 (by decide +kernel) (by decide +kernel) ?_
      refine zw_iconst (-1) 38 f181_37 rfl (by decide +kernel) ?_
      refine zw_ireturn f181_38 r181 u181 ?_
      exact ⟨_, _, _, _, rfl, KQ.rf, ⟨hi.1, hi.2.1, t, by omega, et⟩, _, rfl⟩
    · refine zw_iload_n 6 f120_5 rfl rfl ?_
      refine zw_iload_n 7 f120_6 rfl rfl ?_
      refine zw_ic_gt 10 14 f120_7 (by decide +kernel) rfl (fun hc5 => ?_) (fun hc5 => ?_)
      · refine zw_iconst 0 15 f120_14 rfl (by decide +kernel) ?_
        refine zw_zreturn f120_15 r120 u120 (by decide +kernel) ⟨_, rfl, ?_⟩
        refine zw_if_eq_t 37 f181_25 (by decide +kernel) (by decide +kernel) ?_
        refine zw_iconst (-1) 38 f181_37 rfl (by decide +kernel) ?_
        refine zw_ireturn f181_38 r181 u181 ?_
        exact ⟨_, _, _, _, rfl, KQ.rf, ⟨hi.1, hi.2.1, t, by omega, et⟩, _, rfl⟩
      · refine zw_iconst 1 11 f120_10 rfl (by decide +kernel) ?_
        refine zw_goto 15 f120_11 (by decide +kernel) ?_
        refine zw_zreturn f120_15 r120 u120 (by decide +kernel) ⟨_, rfl, ?_⟩
        refine zw_if_eq_f 28 37 f181_25 (by decide +kernel) rfl (by decide +kernel) ?_
        refine zw_aload_n 29 f181_28 rfl rfl ?_
        refine zw_getfield 32 f181_29 rfl g181_74_12 (hb_52 _ _ _ _) rfl ?_
        refine zw_iload_n 33 f181_32 rfl rfl ?_
        refine zw_iaload a.toNatClampNeg (A 71 a.toNatClampNeg) 34 f181_33 rfl (hb_71 _ _ _ _) rfl hc4 (zix (by decide) hc4 (tr_ix ht hc4 (Or.inl hc5))) rfl ?_
        refine zw_goto 38 f181_34 (by decide +kernel) ?_
        refine zw_ireturn f181_38 r181 u181 ?_
        exact ⟨_, _, _, _, rfl, KQ.rf, ⟨hi.1, hi.2.1, t, by omega, et⟩, _, rfl⟩
set_option maxRecDepth 100000 in
set_option maxHeartbeats 0 in
theorem mq_forge (ro : UInt32 → Nat × (Nat → Int32)) (nv np : Nat) (W : qW) (L : qLog) (I : Nat → Nat → Int32) (G : Nat → Nat → Int64) (A : Nat → Nat → Int32) (B : Nat → Nat → Int64) (K : Int) (hR : mRS nv np A W L I G A B) (hp : MPa nv np A) (hW : wInv nv 10000 K A W) (hn : L.1 < 900000000) (hg : qLG L) (hi : mId I) (a : Int32) (b : Int32) (c : Int32) : zWp ro 184 0 [(0, .ref 52), (1, .int a), (2, .int b), (3, .int c)] [] (hS I G A B) 0 0 (fun r h1 => ∃ I2 G2 A2 B2, h1 = hS I2 G2 A2 B2 ∧ KQ fQu pQu I G A B I2 G2 A2 B2 ∧ mId I2 ∧ ∃ v : Int32, r = some (.int v)) := by
  have h8 := hp.1
  have h14 := hp.2.1
  obtain ⟨t, ht, et⟩ := hi.2.2
  refine zw_iload_n 1 f184_0 rfl rfl ?_
  refine zw_iconst 0 2 f184_1 rfl (by decide +kernel) ?_
  refine zw_bipush 6 4 f184_2 rfl (by decide +kernel) ?_
  refine zw_static_i 7 0 0 [.int a, .int 0, .int 6] [] [(0, .int a), (1, .int 0), (2, .int 6)] f184_4 rfl k184_117_99 rfl (by decide +kernel) (Nat.le_of_ble_eq_true rfl) (Nat.le_of_ble_eq_true rfl) rfl rfl (by decide +kernel) (by decide +kernel) rfl (Nat.le_of_ble_eq_true rfl) rfl ?_
  refine zw_iload_n 1 f120_0 rfl rfl ?_
  refine zw_iload_n 2 f120_1 rfl rfl ?_
  refine zw_ic_lt 5 14 f120_2 (by decide +kernel) rfl (fun hc1 => ?_) (fun hc1 => ?_)
  · refine zw_iconst 0 15 f120_14 rfl (by decide +kernel) ?_
    refine zw_zreturn f120_15 r120 u120 (by decide +kernel) ⟨_, rfl, ?_⟩
    refine zw_if_eq_t 32 f184_7 (by decide +kernel) (by decide +kernel) ?_
    refine zw_aload_n 33 f184_32 rfl rfl ?_
    refine zw_iconst 1 34 f184_33 rfl (by decide +kernel) ?_
    refine zw_virtual_i 37 0 0 [.ref 52, .int 1] [(0, .ref 52), (1, .int 1)] f184_34 rfl n184_209 k184_209_12 rfl (hb_52 _ _ _ _) (by decide +kernel) (Nat.le_of_ble_eq_true rfl) rfl rfl (by decide +kernel) (by decide +kernel) rfl (Nat.le_of_ble_eq_true rfl) rfl ?_
    refine zw_aload_n 1 f121_0 rfl rfl ?_
    refine zw_iload_n 2 f121_1 rfl rfl ?_
    refine zw_put _ 5 f121_2 rfl g121_111_12 (hb_52 _ _ _ _) rfl (Nat.le_of_ble_eq_true rfl) (by decide +kernel) (hi_52_27 _ _ _ _ _) ?_
    refine zw_iconst (-1) 6 f121_5 rfl (by decide +kernel) ?_
    refine zw_ireturn f121_6 r121 u121 ⟨_, rfl, ?_⟩
    refine zw_ireturn f184_37 r184 u184 ?_
    exact ⟨_, _, _, _, rfl, (KQ.i rfl KQ.rf), ⟨hi.1, hi.2.1, t, by omega, et⟩, _, rfl⟩
  · refine zw_iload_n 6 f120_5 rfl rfl ?_
    refine zw_iload_n 7 f120_6 rfl rfl ?_
    refine zw_ic_gt 10 14 f120_7 (by decide +kernel) rfl (fun hc2 => ?_) (fun hc2 => ?_)
    · refine zw_iconst 0 15 f120_14 rfl (by decide +kernel) ?_
      refine zw_zreturn f120_15 r120 u120 (by decide +kernel) ⟨_, rfl, ?_⟩
      refine zw_if_eq_t 32 f184_7 (by decide +kernel) (by decide +kernel) ?_
      refine zw_aload_n 33 f184_32 rfl rfl ?_
      refine zw_iconst 1 34 f184_33 rfl (by decide +kernel) ?_
      refine zw_virtual_i 37 0 0 [.ref 52, .int 1] [(0, .ref 52), (1, .int 1)] f184_34 rfl n184_209 k184_209_12 rfl (hb_52 _ _ _ _) (by decide +kernel) (Nat.le_of_ble_eq_true rfl) rfl rfl (by decide +kernel) (by decide +kernel) rfl (Nat.le_of_ble_eq_true rfl) rfl ?_
      refine zw_aload_n 1 f121_0 rfl rfl ?_
      refine zw_iload_n 2 f121_1 rfl rfl ?_
      refine zw_put _ 5 f121_2 rfl g121_111_12 (hb_52 _ _ _ _) rfl (Nat.le_of_ble_eq_true rfl) (by decide +kernel) (hi_52_27 _ _ _ _ _) ?_
      refine zw_iconst (-1) 6 f121_5 rfl (by decide +kernel) ?_
      refine zw_ireturn f121_6 r121 u121 ⟨_, rfl, ?_⟩
      refine zw_ireturn f184_37 r184 u184 ?_
      exact ⟨_, _, _, _, rfl, (KQ.i rfl KQ.rf), ⟨hi.1, hi.2.1, t, by omega, et⟩, _, rfl⟩
    · refine zw_iconst 1 11 f120_10 rfl (by decide +kernel) ?_
      refine zw_goto 15 f120_11 (by decide +kernel) ?_
      refine zw_zreturn f120_15 r120 u120 (by decide +kernel) ⟨_, rfl, ?_⟩
      refine zw_if_eq_f 10 32 f184_7 (by decide +kernel) rfl (by decide +kernel) ?_
      refine zw_iload_n 11 f184_10 rfl rfl ?_
      refine zw_bipush (-100) 13 f184_11 rfl (by decide +kernel) ?_
      refine zw_bipush 100 15 f184_13 rfl (by decide +kernel) ?_
      refine zw_static_i 18 0 0 [.int b, .int (-100), .int 100] [] [(0, .int b), (1, .int (-100)), (2, .int 100)] f184_15 rfl k184_117_99 rfl (by decide +kernel) (Nat.le_of_ble_eq_true rfl) (Nat.le_of_ble_eq_true rfl) rfl rfl (by decide +kernel) (by decide +kernel) rfl (Nat.le_of_ble_eq_true rfl) rfl ?_
      refine zw_iload_n 1 f120_0 rfl rfl ?_
      refine zw_iload_n 2 f120_1 rfl rfl ?_
      refine zw_ic_lt 5 14 f120_2 (by decide +kernel) rfl (fun hc3 => ?_) (fun hc3 => ?_)
      · refine zw_iconst 0 15 f120_14 rfl (by decide +kernel) ?_
        refine zw_zreturn f120_15 r120 u120 (by decide +kernel) ⟨_, rfl, ?_⟩
        refine zw_if_eq_t 32 f184_18 (by decide +kernel) (by decide +kernel) ?_
        refine zw_aload_n 33 f184_32 rfl rfl ?_
        refine zw_iconst 1 34 f184_33 rfl (by decide +kernel) ?_
        refine zw_virtual_i 37 0 0 [.ref 52, .int 1] [(0, .ref 52), (1, .int 1)] f184_34 rfl n184_209 k184_209_12 rfl (hb_52 _ _ _ _) (by decide +kernel) (Nat.le_of_ble_eq_true rfl) rfl rfl (by decide +kernel) (by decide +kernel) rfl (Nat.le_of_ble_eq_true rfl) rfl ?_
        refine zw_aload_n 1 f121_0 rfl rfl ?_
        refine zw_iload_n 2 f121_1 rfl rfl ?_
        refine zw_put _ 5 f121_2 rfl g121_111_12 (hb_52 _ _ _ _) rfl (Nat.le_of_ble_eq_true rfl) (by decide +kernel) (hi_52_27 _ _ _ _ _) ?_
        refine zw_iconst (-1) 6 f121_5 rfl (by decide +kernel) ?_
        refine zw_ireturn f121_6 r121 u121 ⟨_, rfl, ?_⟩
        refine zw_ireturn f184_37 r184 u184 ?_
        exact ⟨_, _, _, _, rfl, (KQ.i rfl KQ.rf), ⟨hi.1, hi.2.1, t, by omega, et⟩, _, rfl⟩
      · refine zw_iload_n 6 f120_5 rfl rfl ?_
        refine zw_iload_n 7 f120_6 rfl rfl ?_
        refine zw_ic_gt 10 14 f120_7 (by decide +kernel) rfl (fun hc4 => ?_) (fun hc4 => ?_)
        · refine zw_iconst 0 15 f120_14 rfl (by decide +kernel) ?_
          refine zw_zreturn f120_15 r120 u120 (by decide +kernel) ⟨_, rfl, ?_⟩
          refine zw_if_eq_t 32 f184_18 (by decide +kernel) (by decide +kernel) ?_
          refine zw_aload_n 33 f184_32 rfl rfl ?_
          refine zw_iconst 1 34 f184_33 rfl (by decide +kernel) ?_
          refine zw_virtual_i 37 0 0 [.ref 52, .int 1] [(0, .ref 52), (1, .int 1)] f184_34 rfl n184_209 k184_209_12 rfl (hb_52 _ _ _ _) (by decide +kernel) (Nat.le_of_ble_eq_true rfl) rfl rfl (by decide +kernel) (by decide +kernel) rfl (Nat.le_of_ble_eq_true rfl) rfl ?_
          refine zw_aload_n 1 f121_0 rfl rfl ?_
          refine zw_iload_n 2 f121_1 rfl rfl ?_
          refine zw_put _ 5 f121_2 rfl g121_111_12 (hb_52 _ _ _ _) rfl (Nat.le_of_ble_eq_true rfl) (by decide +kernel) (hi_52_27 _ _ _ _ _) ?_
          refine zw_iconst (-1) 6 f121_5 rfl (by decide +kernel) ?_
          refine zw_ireturn f121_6 r121 u121 ⟨_, rfl, ?_⟩
          refine zw_ireturn f184_37 r184 u184 ?_
          exact ⟨_, _, _, _, rfl, (KQ.i rfl KQ.rf), ⟨hi.1, hi.2.1, t, by omega, et⟩, _, rfl⟩
        · refine zw_iconst 1 11 f120_10 rfl (by decide +kernel) ?_
          refine zw_goto 15 f120_11 (by decide +kernel) ?_
          refine zw_zreturn f120_15 r120 u120 (by decide +kernel) ⟨_, rfl, ?_⟩
          refine zw_if_eq_f 21 32 f184_18 (by decide +kernel) rfl (by decide +kernel) ?_
          refine zw_iload_n 22 f184_21 rfl rfl ?_
          refine zw_bipush (-100) 24 f184_22 rfl (by decide +kernel) ?_
          refine zw_bipush 100 26 f184_24 rfl (by decide +kernel) ?_
          refine zw_static_i 29 0 0 [.int c, .int (-100), .int 100] [] [(0, .int c), (1, .int (-100)), (2, .int 100)] f184_26 rfl k184_117_99 rfl (by decide +kernel) (Nat.le_of_ble_eq_true rfl) (Nat.le_of_ble_eq_true rfl) rfl rfl (by decide +kernel) (by decide +kernel) rfl (Nat.le_of_ble_eq_true rfl) rfl ?_
          refine zw_iload_n 1 f120_0 rfl rfl ?_
          refine zw_iload_n 2 f120_1 rfl rfl ?_
          refine zw_ic_lt 5 14 f120_2 (by decide +kernel) rfl (fun hc5 => ?_) (fun hc5 => ?_)
          · refine zw_iconst 0 15 f120_14 rfl (by decide +kernel) ?_
            refine zw_zreturn f120_15 r120 u120 (by decide +kernel) ⟨_, rfl, ?_⟩
            refine zw_if_ne_f 32 38 f184_29 (by decide +kernel) rfl (by decide +kernel) ?_
            refine zw_aload_n 33 f184_32 rfl rfl ?_
            refine zw_iconst 1 34 f184_33 rfl (by decide +kernel) ?_
            refine zw_virtual_i 37 0 0 [.ref 52, .int 1] [(0, .ref 52), (1, .int 1)] f184_34 rfl n184_209 k184_209_12 rfl (hb_52 _ _ _ _) (by decide +kernel) (Nat.le_of_ble_eq_true rfl) rfl rfl (by decide +kernel) (by decide +kernel) rfl (Nat.le_of_ble_eq_true rfl) rfl ?_
            refine zw_aload_n 1 f121_0 rfl rfl ?_
            refine zw_iload_n 2 f121_1 rfl rfl ?_
            refine zw_put _ 5 f121_2 rfl g121_111_12 (hb_52 _ _ _ _) rfl (Nat.le_of_ble_eq_true rfl) (by decide +kernel) (hi_52_27 _ _ _ _ _) ?_
            refine zw_iconst (-1) 6 f121_5 rfl (by decide +kernel) ?_
            refine zw_ireturn f121_6 r121 u121 ⟨_, rfl, ?_⟩
            refine zw_ireturn f184_37 r184 u184 ?_
            exact ⟨_, _, _, _, rfl, (KQ.i rfl KQ.rf), ⟨hi.1, hi.2.1, t, by omega, et⟩, _, rfl⟩
          · refine zw_iload_n 6 f120_5 rfl rfl ?_
            refine zw_iload_n 7 f120_6 rfl rfl ?_
            refine zw_ic_gt 10 14 f120_7 (by decide +kernel) rfl (fun hc6 => ?_) (fun hc6 => ?_)
            · refine zw_iconst 0 15 f120_14 rfl (by decide +kernel) ?_
              refine zw_zreturn f120_15 r120 u120 (by decide +kernel) ⟨_, rfl, ?_⟩
              refine zw_if_ne_f 32 38 f184_29 (by decide +kernel) rfl (by decide +kernel) ?_
              refine zw_aload_n 33 f184_32 rfl rfl ?_
              refine zw_iconst 1 34 f184_33 rfl (by decide +kernel) ?_
              refine zw_virtual_i 37 0 0 [.ref 52, .int 1] [(0, .ref 52), (1, .int 1)] f184_34 rfl n184_209 k184_209_12 rfl (hb_52 _ _ _ _) (by decide +kernel) (Nat.le_of_ble_eq_true rfl) rfl rfl (by decide +kernel) (by decide +kernel) rfl (Nat.le_of_ble_eq_true rfl) rfl ?_
              refine zw_aload_n 1 f121_0 rfl rfl ?_
              refine zw_iload_n 2 f121_1 rfl rfl ?_
              refine zw_put _ 5 f121_2 rfl g121_111_12 (hb_52 _ _ _ _) rfl (Nat.le_of_ble_eq_true rfl) (by decide +kernel) (hi_52_27 _ _ _ _ _) ?_
              refine zw_iconst (-1) 6 f121_5 rfl (by decide +kernel) ?_
              refine zw_ireturn f121_6 r121 u121 ⟨_, rfl, ?_⟩
              refine zw_ireturn f184_37 r184 u184 ?_
              exact ⟨_, _, _, _, rfl, (KQ.i rfl KQ.rf), ⟨hi.1, hi.2.1, t, by omega, et⟩, _, rfl⟩
            · refine zw_iconst 1 11 f120_10 rfl (by decide +kernel) ?_
              refine zw_goto 15 f120_11 (by decide +kernel) ?_
              refine zw_zreturn f120_15 r120 u120 (by decide +kernel) ⟨_, rfl, ?_⟩
              refine zw_if_ne_t 38 f184_29 (by decide +kernel) (by decide +kernel) ?_
              refine zw_iload_n 39 f184_38 rfl rfl ?_
              refine zw_bipush 8 41 f184_39 rfl (by decide +kernel) ?_
              refine zw_static_i 44 0 0 [.int c, .int 8] [] [(0, .int c), (1, .int 8)] f184_41 rfl k184_313_99 rfl (by decide +kernel) (Nat.le_of_ble_eq_true rfl) (Nat.le_of_ble_eq_true rfl) rfl rfl (by decide +kernel) (by decide +kernel) rfl (Nat.le_of_ble_eq_true rfl) rfl ?_
              refine zWp.mono (mm_modulo ro _ c 8 (by decide)) ?_
              rintro r h1 ⟨rfl, rfl⟩
              refine ⟨_, rfl, ?_⟩
              refine zw_istore _ 46 f184_44 rfl (by decide +kernel) rfl ?_
              refine zw_iload_n 47 f184_46 rfl (zl1_ne rfl rfl rfl) ?_
              rcases zl_sw 5 (by decide) a with hs7 | ⟨hs7k, hs7l, hs7e⟩
              · refine zw_table_o 329 f184_47 hs7 (by decide +kernel) ?_
                refine zw_iload_n 330 f184_329 rfl (zl1_ne rfl rfl rfl) ?_
                refine zw_iconst 1 331 f184_330 rfl (by decide +kernel) ?_
                refine zw_iand (b &&& 1) 332 f184_331 rfl rfl ?_
                refine zw_if_ne 335 344 f184_332 (by decide +kernel) rfl (fun hc8 => ?_) (fun hc8 => ?_)
                · refine zw_aload_n 345 f184_344 rfl (zl1_ne rfl rfl rfl) ?_
                  refine zw_iconst 1 346 f184_345 rfl (by decide +kernel) ?_
                  refine zw_virtual_i 349 0 0 [.ref 52, .int 1] [(0, .ref 52), (1, .int 1)] f184_346 rfl n184_205 k184_205_12 rfl (hb_52 _ _ _ _) (by decide +kernel) (Nat.le_of_ble_eq_true rfl) rfl rfl (by decide +kernel) (by decide +kernel) rfl (Nat.le_of_ble_eq_true rfl) rfl ?_
                  refine zw_aload_n 1 f122_0 rfl rfl ?_
                  refine zw_iconst 0 2 f122_1 rfl (by decide +kernel) ?_
                  refine zw_put _ 5 f122_2 rfl g122_111_12 (hb_52 _ _ _ _) rfl (Nat.le_of_ble_eq_true rfl) (by decide +kernel) (hi_52_27 _ _ _ _ _) ?_
                  refine zw_iload_n 6 f122_5 rfl rfl ?_
                  refine zw_ireturn f122_6 r122 u122 ⟨_, rfl, ?_⟩
                  refine zw_ireturn f184_349 r184 u184 ?_
                  exact ⟨_, _, _, _, rfl, (KQ.i rfl KQ.rf), ⟨hi.1, hi.2.1, t, by omega, et⟩, _, rfl⟩
                · refine zw_aload_n 336 f184_335 rfl (zl1_ne rfl rfl rfl) ?_
                  refine zw_bipush 10 338 f184_336 rfl (by decide +kernel) ?_
                  refine zw_virtual_i 341 0 0 [.ref 52, .int 10] [(0, .ref 52), (1, .int 10)] f184_338 rfl n184_209 k184_209_12 rfl (hb_52 _ _ _ _) (by decide +kernel) (Nat.le_of_ble_eq_true rfl) rfl rfl (by decide +kernel) (by decide +kernel) rfl (Nat.le_of_ble_eq_true rfl) rfl ?_
                  refine zw_aload_n 1 f121_0 rfl rfl ?_
                  refine zw_iload_n 2 f121_1 rfl rfl ?_
                  refine zw_put _ 5 f121_2 rfl g121_111_12 (hb_52 _ _ _ _) rfl (Nat.le_of_ble_eq_true rfl) (by decide +kernel) (hi_52_27 _ _ _ _ _) ?_
                  refine zw_iconst (-1) 6 f121_5 rfl (by decide +kernel) ?_
                  refine zw_ireturn f121_6 r121 u121 ⟨_, rfl, ?_⟩
                  refine zw_goto 349 f184_341 (by decide +kernel) ?_
                  refine zw_ireturn f184_349 r184 u184 ?_
                  exact ⟨_, _, _, _, rfl, (KQ.i rfl KQ.rf), ⟨hi.1, hi.2.1, t, by omega, et⟩, _, rfl⟩
              · rcases (show hs7k = 0 ∨ hs7k = 1 ∨ hs7k = 2 ∨ hs7k = 3 ∨ hs7k = 4 ∨ hs7k = 5 by omega) with rfl | rfl | rfl | rfl | rfl | rfl
                · refine zw_table_k 37 84 f184_47 hs7e (by decide +kernel) (by decide +kernel) (by decide +kernel) ?_
                  refine zw_iload_n 85 f184_84 rfl (zl1_ne rfl rfl rfl) ?_
                  refine zw_iconst 5 86 f184_85 rfl (by decide +kernel) ?_
                  refine zw_static_i 89 0 0 [.int b, .int 5] [] [(0, .int b), (1, .int 5)] f184_86 rfl k184_313_99 rfl (by decide +kernel) (Nat.le_of_ble_eq_true rfl) (Nat.le_of_ble_eq_true rfl) rfl rfl (by decide +kernel) (by decide +kernel) rfl (Nat.le_of_ble_eq_true rfl) rfl ?_
                  refine zWp.mono (mm_modulo ro _ b 5 (by decide)) ?_
                  rintro r h1 ⟨rfl, rfl⟩
                  refine ⟨_, rfl, ?_⟩
                  refine zw_istore _ 91 f184_89 rfl (by decide +kernel) rfl ?_
                  refine zw_aload_n 92 f184_91 rfl (zl1_ne rfl rfl (zl1_ne rfl rfl rfl)) ?_
                  refine zw_iload 94 f184_92 rfl (zl1_ne rfl rfl zl1_eq) ?_
                  refine zw_virtual_i 97 0 0 [.ref 52, .int (mMod c 8)] [(0, .ref 52), (1, .int (mMod c 8))] f184_94 rfl n184_215 k184_215_12 rfl (hb_52 _ _ _ _) (by decide +kernel) (Nat.le_of_ble_eq_true rfl) rfl rfl (by decide +kernel) (by decide +kernel) rfl (Nat.le_of_ble_eq_true rfl) rfl ?_
                  refine zw_iload_n 1 f123_0 rfl rfl ?_
                  refine zw_iconst 0 2 f123_1 rfl (by decide +kernel) ?_
                  refine zw_aload_n 3 f123_2 rfl rfl ?_
                  refine zw_getI (nI nv) 6 f123_3 rfl g123_114_12 (hb_52 _ _ _ _) rfl hR.1.1 ?_
                  refine zw_iconst 1 7 f123_6 rfl (by decide +kernel) ?_
                  refine zw_isub ((nI nv) - 1) 8 f123_7 rfl rfl ?_
                  refine zw_static_i 11 0 0 [.int (mMod c 8), .int 0, .int ((nI nv) - 1)] [] [(0, .int (mMod c 8)), (1, .int 0), (2, .int ((nI nv) - 1))] f123_8 rfl k123_117_99 rfl (by decide +kernel) (Nat.le_of_ble_eq_true rfl) (Nat.le_of_ble_eq_true rfl) rfl rfl (by decide +kernel) (by decide +kernel) rfl (Nat.le_of_ble_eq_true rfl) rfl ?_
                  refine zw_iload_n 1 f120_0 rfl rfl ?_
                  refine zw_iload_n 2 f120_1 rfl rfl ?_
                  refine zw_ic_lt 5 14 f120_2 (by decide +kernel) rfl (fun hc9 => ?_) (fun hc9 => ?_)
                  · refine zw_iconst 0 15 f120_14 rfl (by decide +kernel) ?_
                    refine zw_zreturn f120_15 r120 u120 (by decide +kernel) ⟨_, rfl, ?_⟩
                    refine zw_zreturn f123_11 r123 u123 (by decide +kernel) ⟨_, rfl, ?_⟩
                    refine zw_if_ne_f 100 107 f184_97 (by decide +kernel) rfl (by decide +kernel) ?_
                    refine zw_aload_n 101 f184_100 rfl (zl1_ne rfl rfl (zl1_ne rfl rfl rfl)) ?_
                    refine zw_bipush 10 103 f184_101 rfl (by decide +kernel) ?_
                    refine zw_virtual_i 106 0 0 [.ref 52, .int 10] [(0, .ref 52), (1, .int 10)] f184_103 rfl n184_209 k184_209_12 rfl (hb_52 _ _ _ _) (by decide +kernel) (Nat.le_of_ble_eq_true rfl) rfl rfl (by decide +kernel) (by decide +kernel) rfl (Nat.le_of_ble_eq_true rfl) rfl ?_
                    refine zw_aload_n 1 f121_0 rfl rfl ?_
                    refine zw_iload_n 2 f121_1 rfl rfl ?_
                    refine zw_put _ 5 f121_2 rfl g121_111_12 (hb_52 _ _ _ _) rfl (Nat.le_of_ble_eq_true rfl) (by decide +kernel) (hi_52_27 _ _ _ _ _) ?_
                    refine zw_iconst (-1) 6 f121_5 rfl (by decide +kernel) ?_
                    refine zw_ireturn f121_6 r121 u121 ⟨_, rfl, ?_⟩
                    refine zw_ireturn f184_106 r184 u184 ?_
                    exact ⟨_, _, _, _, rfl, (KQ.i rfl KQ.rf), ⟨hi.1, hi.2.1, t, by omega, et⟩, _, rfl⟩
                  · refine zw_iload_n 6 f120_5 rfl rfl ?_
                    refine zw_iload_n 7 f120_6 rfl rfl ?_
                    refine zw_ic_gt 10 14 f120_7 (by decide +kernel) rfl (fun hc10 => ?_) (fun hc10 => ?_)
                    · refine zw_iconst 0 15 f120_14 rfl (by decide +kernel) ?_
                      refine zw_zreturn f120_15 r120 u120 (by decide +kernel) ⟨_, rfl, ?_⟩
                      refine zw_zreturn f123_11 r123 u123 (by decide +kernel) ⟨_, rfl, ?_⟩
                      refine zw_if_ne_f 100 107 f184_97 (by decide +kernel) rfl (by decide +kernel) ?_
                      refine zw_aload_n 101 f184_100 rfl (zl1_ne rfl rfl (zl1_ne rfl rfl rfl)) ?_
                      refine zw_bipush 10 103 f184_101 rfl (by decide +kernel) ?_
                      refine zw_virtual_i 106 0 0 [.ref 52, .int 10] [(0, .ref 52), (1, .int 10)] f184_103 rfl n184_209 k184_209_12 rfl (hb_52 _ _ _ _) (by decide +kernel) (Nat.le_of_ble_eq_true rfl) rfl rfl (by decide +kernel) (by decide +kernel) rfl (Nat.le_of_ble_eq_true rfl) rfl ?_
                      refine zw_aload_n 1 f121_0 rfl rfl ?_
                      refine zw_iload_n 2 f121_1 rfl rfl ?_
                      refine zw_put _ 5 f121_2 rfl g121_111_12 (hb_52 _ _ _ _) rfl (Nat.le_of_ble_eq_true rfl) (by decide +kernel) (hi_52_27 _ _ _ _ _) ?_
                      refine zw_iconst (-1) 6 f121_5 rfl (by decide +kernel) ?_
                      refine zw_ireturn f121_6 r121 u121 ⟨_, rfl, ?_⟩
                      refine zw_ireturn f184_106 r184 u184 ?_
                      exact ⟨_, _, _, _, rfl, (KQ.i rfl KQ.rf), ⟨hi.1, hi.2.1, t, by omega, et⟩, _, rfl⟩
                    · refine zw_iconst 1 11 f120_10 rfl (by decide +kernel) ?_
                      refine zw_goto 15 f120_11 (by decide +kernel) ?_
                      refine zw_zreturn f120_15 r120 u120 (by decide +kernel) ⟨_, rfl, ?_⟩
                      refine zw_zreturn f123_11 r123 u123 (by decide +kernel) ⟨_, rfl, ?_⟩
                      refine zw_if_ne_t 107 f184_97 (by decide +kernel) (by decide +kernel) ?_
                      refine zw_iload 109 f184_107 rfl zl1_eq ?_
                      refine zw_if_eq 112 141 f184_109 (by decide +kernel) rfl (fun hc11 => ?_) (fun hc11 => ?_)
                      · refine zw_aload_n 142 f184_141 rfl (zl1_ne rfl rfl (zl1_ne rfl rfl rfl)) ?_
                        refine zw_aload_n 143 f184_142 rfl (zl1_ne rfl rfl (zl1_ne rfl rfl rfl)) ?_
                        refine zw_getfield 146 f184_143 rfl g184_7_12 (hb_52 _ _ _ _) rfl ?_
                        refine zw_iload 148 f184_146 rfl (zl1_ne rfl rfl zl1_eq) ?_
                        refine zw_iaload (mMod c 8).toNatClampNeg (A 53 (mMod c 8).toNatClampNeg) 149 f184_148 rfl (hb_53 _ _ _ _) rfl hc9 (zix (by decide) hc9 (show ¬ 8 ≤ (mMod c 8) from ix_le hp.1 (by decide) (by decide) hc9 hc10)) rfl ?_
                        refine zw_virtual_i 152 0 0 [.ref 52, .int (A 53 (mMod c 8).toNatClampNeg)] [(0, .ref 52), (1, .int (A 53 (mMod c 8).toNatClampNeg))] f184_149 rfl n184_205 k184_205_12 rfl (hb_52 _ _ _ _) (by decide +kernel) (Nat.le_of_ble_eq_true rfl) rfl rfl (by decide +kernel) (by decide +kernel) rfl (Nat.le_of_ble_eq_true rfl) rfl ?_
                        refine zw_aload_n 1 f122_0 rfl rfl ?_
                        refine zw_iconst 0 2 f122_1 rfl (by decide +kernel) ?_
                        refine zw_put _ 5 f122_2 rfl g122_111_12 (hb_52 _ _ _ _) rfl (Nat.le_of_ble_eq_true rfl) (by decide +kernel) (hi_52_27 _ _ _ _ _) ?_
                        refine zw_iload_n 6 f122_5 rfl rfl ?_
                        refine zw_ireturn f122_6 r122 u122 ⟨_, rfl, ?_⟩
                        refine zw_goto 161 f184_152 (by decide +kernel) ?_
                        refine zw_ireturn f184_161 r184 u184 ?_
                        exact ⟨_, _, _, _, rfl, (KQ.i rfl KQ.rf), ⟨hi.1, hi.2.1, t, by omega, et⟩, _, rfl⟩
                      · refine zw_iload 114 f184_112 rfl zl1_eq ?_
                        refine zw_aload_n 115 f184_114 rfl (zl1_ne rfl rfl (zl1_ne rfl rfl rfl)) ?_
                        refine zw_getfield 118 f184_115 rfl g184_7_12 (hb_52 _ _ _ _) rfl ?_
                        refine zw_iload 120 f184_118 rfl (zl1_ne rfl rfl zl1_eq) ?_
                        refine zw_iaload (mMod c 8).toNatClampNeg (A 53 (mMod c 8).toNatClampNeg) 121 f184_120 rfl (hb_53 _ _ _ _) rfl hc9 (zix (by decide) hc9 (show ¬ 8 ≤ (mMod c 8) from ix_le hp.1 (by decide) (by decide) hc9 hc10)) rfl ?_
                        refine zw_ic_eq 124 141 f184_121 (by decide +kernel) rfl (fun hc12 => ?_) (fun hc12 => ?_)
                        · refine zw_aload_n 142 f184_141 rfl (zl1_ne rfl rfl (zl1_ne rfl rfl rfl)) ?_
                          refine zw_aload_n 143 f184_142 rfl (zl1_ne rfl rfl (zl1_ne rfl rfl rfl)) ?_
                          refine zw_getfield 146 f184_143 rfl g184_7_12 (hb_52 _ _ _ _) rfl ?_
                          refine zw_iload 148 f184_146 rfl (zl1_ne rfl rfl zl1_eq) ?_
                          refine zw_iaload (mMod c 8).toNatClampNeg (A 53 (mMod c 8).toNatClampNeg) 149 f184_148 rfl (hb_53 _ _ _ _) rfl hc9 (zix (by decide) hc9 (show ¬ 8 ≤ (mMod c 8) from ix_le hp.1 (by decide) (by decide) hc9 hc10)) rfl ?_
                          refine zw_virtual_i 152 0 0 [.ref 52, .int (A 53 (mMod c 8).toNatClampNeg)] [(0, .ref 52), (1, .int (A 53 (mMod c 8).toNatClampNeg))] f184_149 rfl n184_205 k184_205_12 rfl (hb_52 _ _ _ _) (by decide +kernel) (Nat.le_of_ble_eq_true rfl) rfl rfl (by decide +kernel) (by decide +kernel) rfl (Nat.le_of_ble_eq_true rfl) rfl ?_
                          refine zw_aload_n 1 f122_0 rfl rfl ?_
                          refine zw_iconst 0 2 f122_1 rfl (by decide +kernel) ?_
                          refine zw_put _ 5 f122_2 rfl g122_111_12 (hb_52 _ _ _ _) rfl (Nat.le_of_ble_eq_true rfl) (by decide +kernel) (hi_52_27 _ _ _ _ _) ?_
                          refine zw_iload_n 6 f122_5 rfl rfl ?_
                          refine zw_ireturn f122_6 r122 u122 ⟨_, rfl, ?_⟩
                          refine zw_goto 161 f184_152 (by decide +kernel) ?_
                          refine zw_ireturn f184_161 r184 u184 ?_
                          exact ⟨_, _, _, _, rfl, (KQ.i rfl KQ.rf), ⟨hi.1, hi.2.1, t, by omega, et⟩, _, rfl⟩
                        · refine zw_iload 126 f184_124 rfl zl1_eq ?_
                          refine zw_iconst 3 127 f184_126 rfl (by decide +kernel) ?_
                          refine zw_ic_ne 130 155 f184_127 (by decide +kernel) rfl (fun hc13 => ?_) (fun hc13 => ?_)
                          · refine zw_aload_n 156 f184_155 rfl (zl1_ne rfl rfl (zl1_ne rfl rfl rfl)) ?_
                            refine zw_bipush 11 158 f184_156 rfl (by decide +kernel) ?_
                            refine zw_virtual_i 161 0 0 [.ref 52, .int 11] [(0, .ref 52), (1, .int 11)] f184_158 rfl n184_209 k184_209_12 rfl (hb_52 _ _ _ _) (by decide +kernel) (Nat.le_of_ble_eq_true rfl) rfl rfl (by decide +kernel) (by decide +kernel) rfl (Nat.le_of_ble_eq_true rfl) rfl ?_
                            refine zw_aload_n 1 f121_0 rfl rfl ?_
                            refine zw_iload_n 2 f121_1 rfl rfl ?_
                            refine zw_put _ 5 f121_2 rfl g121_111_12 (hb_52 _ _ _ _) rfl (Nat.le_of_ble_eq_true rfl) (by decide +kernel) (hi_52_27 _ _ _ _ _) ?_
                            refine zw_iconst (-1) 6 f121_5 rfl (by decide +kernel) ?_
                            refine zw_ireturn f121_6 r121 u121 ⟨_, rfl, ?_⟩
                            refine zw_ireturn f184_161 r184 u184 ?_
                            exact ⟨_, _, _, _, rfl, (KQ.i rfl KQ.rf), ⟨hi.1, hi.2.1, t, by omega, et⟩, _, rfl⟩
                          · refine zw_aload_n 131 f184_130 rfl (zl1_ne rfl rfl (zl1_ne rfl rfl rfl)) ?_
                            refine zw_getfield 134 f184_131 rfl g184_7_12 (hb_52 _ _ _ _) rfl ?_
                            refine zw_iload 136 f184_134 rfl (zl1_ne rfl rfl zl1_eq) ?_
                            refine zw_iaload (mMod c 8).toNatClampNeg (A 53 (mMod c 8).toNatClampNeg) 137 f184_136 rfl (hb_53 _ _ _ _) rfl hc9 (zix (by decide) hc9 (show ¬ 8 ≤ (mMod c 8) from ix_le hp.1 (by decide) (by decide) hc9 hc10)) rfl ?_
                            refine zw_iconst 4 138 f184_137 rfl (by decide +kernel) ?_
                            refine zw_ic_ne 141 155 f184_138 (by decide +kernel) rfl (fun hc14 => ?_) (fun hc14 => ?_)
                            · refine zw_aload_n 156 f184_155 rfl (zl1_ne rfl rfl (zl1_ne rfl rfl rfl)) ?_
                              refine zw_bipush 11 158 f184_156 rfl (by decide +kernel) ?_
                              refine zw_virtual_i 161 0 0 [.ref 52, .int 11] [(0, .ref 52), (1, .int 11)] f184_158 rfl n184_209 k184_209_12 rfl (hb_52 _ _ _ _) (by decide +kernel) (Nat.le_of_ble_eq_true rfl) rfl rfl (by decide +kernel) (by decide +kernel) rfl (Nat.le_of_ble_eq_true rfl) rfl ?_
                              refine zw_aload_n 1 f121_0 rfl rfl ?_
                              refine zw_iload_n 2 f121_1 rfl rfl ?_
                              refine zw_put _ 5 f121_2 rfl g121_111_12 (hb_52 _ _ _ _) rfl (Nat.le_of_ble_eq_true rfl) (by decide +kernel) (hi_52_27 _ _ _ _ _) ?_
                              refine zw_iconst (-1) 6 f121_5 rfl (by decide +kernel) ?_
                              refine zw_ireturn f121_6 r121 u121 ⟨_, rfl, ?_⟩
                              refine zw_ireturn f184_161 r184 u184 ?_
                              exact ⟨_, _, _, _, rfl, (KQ.i rfl KQ.rf), ⟨hi.1, hi.2.1, t, by omega, et⟩, _, rfl⟩
                            · refine zw_aload_n 142 f184_141 rfl (zl1_ne rfl rfl (zl1_ne rfl rfl rfl)) ?_
                              refine zw_aload_n 143 f184_142 rfl (zl1_ne rfl rfl (zl1_ne rfl rfl rfl)) ?_
                              refine zw_getfield 146 f184_143 rfl g184_7_12 (hb_52 _ _ _ _) rfl ?_
                              refine zw_iload 148 f184_146 rfl (zl1_ne rfl rfl zl1_eq) ?_
                              refine zw_iaload (mMod c 8).toNatClampNeg (A 53 (mMod c 8).toNatClampNeg) 149 f184_148 rfl (hb_53 _ _ _ _) rfl hc9 (zix (by decide) hc9 (show ¬ 8 ≤ (mMod c 8) from ix_le hp.1 (by decide) (by decide) hc9 hc10)) rfl ?_
                              refine zw_virtual_i 152 0 0 [.ref 52, .int (A 53 (mMod c 8).toNatClampNeg)] [(0, .ref 52), (1, .int (A 53 (mMod c 8).toNatClampNeg))] f184_149 rfl n184_205 k184_205_12 rfl (hb_52 _ _ _ _) (by decide +kernel) (Nat.le_of_ble_eq_true rfl) rfl rfl (by decide +kernel) (by decide +kernel) rfl (Nat.le_of_ble_eq_true rfl) rfl ?_
                              refine zw_aload_n 1 f122_0 rfl rfl ?_
                              refine zw_iconst 0 2 f122_1 rfl (by decide +kernel) ?_
                              refine zw_put _ 5 f122_2 rfl g122_111_12 (hb_52 _ _ _ _) rfl (Nat.le_of_ble_eq_true rfl) (by decide +kernel) (hi_52_27 _ _ _ _ _) ?_
                              refine zw_iload_n 6 f122_5 rfl rfl ?_
                              refine zw_ireturn f122_6 r122 u122 ⟨_, rfl, ?_⟩
                              refine zw_goto 161 f184_152 (by decide +kernel) ?_
                              refine zw_ireturn f184_161 r184 u184 ?_
                              exact ⟨_, _, _, _, rfl, (KQ.i rfl KQ.rf), ⟨hi.1, hi.2.1, t, by omega, et⟩, _, rfl⟩
                · refine zw_table_k 115 162 f184_47 hs7e (by decide +kernel) (by decide +kernel) (by decide +kernel) ?_
                  refine zw_iload_n 163 f184_162 rfl (zl1_ne rfl rfl rfl) ?_
                  refine zw_if_ge 166 175 f184_163 (by decide +kernel) rfl (fun hc15 => ?_) (fun hc15 => ?_)
                  · refine zw_aload_n 176 f184_175 rfl (zl1_ne rfl rfl rfl) ?_
                    refine zw_iload_n 177 f184_176 rfl (zl1_ne rfl rfl rfl) ?_
                    refine zw_virtual_i 180 0 0 [.ref 52, .int b] [(0, .ref 52), (1, .int b)] f184_177 rfl n184_205 k184_205_12 rfl (hb_52 _ _ _ _) (by decide +kernel) (Nat.le_of_ble_eq_true rfl) rfl rfl (by decide +kernel) (by decide +kernel) rfl (Nat.le_of_ble_eq_true rfl) rfl ?_
                    refine zw_aload_n 1 f122_0 rfl rfl ?_
                    refine zw_iconst 0 2 f122_1 rfl (by decide +kernel) ?_
                    refine zw_put _ 5 f122_2 rfl g122_111_12 (hb_52 _ _ _ _) rfl (Nat.le_of_ble_eq_true rfl) (by decide +kernel) (hi_52_27 _ _ _ _ _) ?_
                    refine zw_iload_n 6 f122_5 rfl rfl ?_
                    refine zw_ireturn f122_6 r122 u122 ⟨_, rfl, ?_⟩
                    refine zw_ireturn f184_180 r184 u184 ?_
                    exact ⟨_, _, _, _, rfl, (KQ.i rfl KQ.rf), ⟨hi.1, hi.2.1, t, by omega, et⟩, _, rfl⟩
                  · refine zw_aload_n 167 f184_166 rfl (zl1_ne rfl rfl rfl) ?_
                    refine zw_bipush 13 169 f184_167 rfl (by decide +kernel) ?_
                    refine zw_virtual_i 172 0 0 [.ref 52, .int 13] [(0, .ref 52), (1, .int 13)] f184_169 rfl n184_209 k184_209_12 rfl (hb_52 _ _ _ _) (by decide +kernel) (Nat.le_of_ble_eq_true rfl) rfl rfl (by decide +kernel) (by decide +kernel) rfl (Nat.le_of_ble_eq_true rfl) rfl ?_
                    refine zw_aload_n 1 f121_0 rfl rfl ?_
                    refine zw_iload_n 2 f121_1 rfl rfl ?_
                    refine zw_put _ 5 f121_2 rfl g121_111_12 (hb_52 _ _ _ _) rfl (Nat.le_of_ble_eq_true rfl) (by decide +kernel) (hi_52_27 _ _ _ _ _) ?_
                    refine zw_iconst (-1) 6 f121_5 rfl (by decide +kernel) ?_
                    refine zw_ireturn f121_6 r121 u121 ⟨_, rfl, ?_⟩
                    refine zw_goto 180 f184_172 (by decide +kernel) ?_
                    refine zw_ireturn f184_180 r184 u184 ?_
                    exact ⟨_, _, _, _, rfl, (KQ.i rfl KQ.rf), ⟨hi.1, hi.2.1, t, by omega, et⟩, _, rfl⟩
                · refine zw_table_k 134 181 f184_47 hs7e (by decide +kernel) (by decide +kernel) (by decide +kernel) ?_
                  refine zw_iload_n 182 f184_181 rfl (zl1_ne rfl rfl rfl) ?_
                  refine zw_iconst 0 183 f184_182 rfl (by decide +kernel) ?_
                  refine zw_aload_n 184 f184_183 rfl (zl1_ne rfl rfl rfl) ?_
                  refine zw_getI (nI nv) 187 f184_184 rfl g184_114_12 (hb_52 _ _ _ _) rfl hR.1.1 ?_
                  refine zw_iconst 1 188 f184_187 rfl (by decide +kernel) ?_
                  refine zw_isub ((nI nv) - 1) 189 f184_188 rfl rfl ?_
                  refine zw_static_i 192 0 0 [.int b, .int 0, .int ((nI nv) - 1)] [] [(0, .int b), (1, .int 0), (2, .int ((nI nv) - 1))] f184_189 rfl k184_117_99 rfl (by decide +kernel) (Nat.le_of_ble_eq_true rfl) (Nat.le_of_ble_eq_true rfl) rfl rfl (by decide +kernel) (by decide +kernel) rfl (Nat.le_of_ble_eq_true rfl) rfl ?_
                  refine zw_iload_n 1 f120_0 rfl rfl ?_
                  refine zw_iload_n 2 f120_1 rfl rfl ?_
                  refine zw_ic_lt 5 14 f120_2 (by decide +kernel) rfl (fun hc16 => ?_) (fun hc16 => ?_)
                  · refine zw_iconst 0 15 f120_14 rfl (by decide +kernel) ?_
                    refine zw_zreturn f120_15 r120 u120 (by decide +kernel) ⟨_, rfl, ?_⟩
                    refine zw_if_eq_t 208 f184_192 (by decide +kernel) (by decide +kernel) ?_
                    refine zw_aload_n 209 f184_208 rfl (zl1_ne rfl rfl rfl) ?_
                    refine zw_bipush 12 211 f184_209 rfl (by decide +kernel) ?_
                    refine zw_virtual_i 214 0 0 [.ref 52, .int 12] [(0, .ref 52), (1, .int 12)] f184_211 rfl n184_209 k184_209_12 rfl (hb_52 _ _ _ _) (by decide +kernel) (Nat.le_of_ble_eq_true rfl) rfl rfl (by decide +kernel) (by decide +kernel) rfl (Nat.le_of_ble_eq_true rfl) rfl ?_
                    refine zw_aload_n 1 f121_0 rfl rfl ?_
                    refine zw_iload_n 2 f121_1 rfl rfl ?_
                    refine zw_put _ 5 f121_2 rfl g121_111_12 (hb_52 _ _ _ _) rfl (Nat.le_of_ble_eq_true rfl) (by decide +kernel) (hi_52_27 _ _ _ _ _) ?_
                    refine zw_iconst (-1) 6 f121_5 rfl (by decide +kernel) ?_
                    refine zw_ireturn f121_6 r121 u121 ⟨_, rfl, ?_⟩
                    refine zw_ireturn f184_214 r184 u184 ?_
                    exact ⟨_, _, _, _, rfl, (KQ.i rfl KQ.rf), ⟨hi.1, hi.2.1, t, by omega, et⟩, _, rfl⟩
                  · refine zw_iload_n 6 f120_5 rfl rfl ?_
                    refine zw_iload_n 7 f120_6 rfl rfl ?_
                    refine zw_ic_gt 10 14 f120_7 (by decide +kernel) rfl (fun hc17 => ?_) (fun hc17 => ?_)
                    · refine zw_iconst 0 15 f120_14 rfl (by decide +kernel) ?_
                      refine zw_zreturn f120_15 r120 u120 (by decide +kernel) ⟨_, rfl, ?_⟩
                      refine zw_if_eq_t 208 f184_192 (by decide +kernel) (by decide +kernel) ?_
                      refine zw_aload_n 209 f184_208 rfl (zl1_ne rfl rfl rfl) ?_
                      refine zw_bipush 12 211 f184_209 rfl (by decide +kernel) ?_
                      refine zw_virtual_i 214 0 0 [.ref 52, .int 12] [(0, .ref 52), (1, .int 12)] f184_211 rfl n184_209 k184_209_12 rfl (hb_52 _ _ _ _) (by decide +kernel) (Nat.le_of_ble_eq_true rfl) rfl rfl (by decide +kernel) (by decide +kernel) rfl (Nat.le_of_ble_eq_true rfl) rfl ?_
                      refine zw_aload_n 1 f121_0 rfl rfl ?_
                      refine zw_iload_n 2 f121_1 rfl rfl ?_
                      refine zw_put _ 5 f121_2 rfl g121_111_12 (hb_52 _ _ _ _) rfl (Nat.le_of_ble_eq_true rfl) (by decide +kernel) (hi_52_27 _ _ _ _ _) ?_
                      refine zw_iconst (-1) 6 f121_5 rfl (by decide +kernel) ?_
                      refine zw_ireturn f121_6 r121 u121 ⟨_, rfl, ?_⟩
                      refine zw_ireturn f184_214 r184 u184 ?_
                      exact ⟨_, _, _, _, rfl, (KQ.i rfl KQ.rf), ⟨hi.1, hi.2.1, t, by omega, et⟩, _, rfl⟩
                    · refine zw_iconst 1 11 f120_10 rfl (by decide +kernel) ?_
                      refine zw_goto 15 f120_11 (by decide +kernel) ?_
                      refine zw_zreturn f120_15 r120 u120 (by decide +kernel) ⟨_, rfl, ?_⟩
                      refine zw_if_eq_f 195 208 f184_192 (by decide +kernel) rfl (by decide +kernel) ?_
                      refine zw_aload_n 196 f184_195 rfl (zl1_ne rfl rfl rfl) ?_
                      refine zw_aload_n 197 f184_196 rfl (zl1_ne rfl rfl rfl) ?_
                      refine zw_getfield 200 f184_197 rfl g184_13_12 (hb_52 _ _ _ _) rfl ?_
                      refine zw_iload_n 201 f184_200 rfl (zl1_ne rfl rfl rfl) ?_
                      refine zw_iaload b.toNatClampNeg (A 54 b.toNatClampNeg) 202 f184_201 rfl (hb_54 _ _ _ _) rfl hc16 (zix (by decide) hc16 (show ¬ 8 ≤ b from ix_le hp.1 (by decide) (by decide) hc16 hc17)) rfl ?_
                      refine zw_virtual_i 205 0 0 [.ref 52, .int (A 54 b.toNatClampNeg)] [(0, .ref 52), (1, .int (A 54 b.toNatClampNeg))] f184_202 rfl n184_205 k184_205_12 rfl (hb_52 _ _ _ _) (by decide +kernel) (Nat.le_of_ble_eq_true rfl) rfl rfl (by decide +kernel) (by decide +kernel) rfl (Nat.le_of_ble_eq_true rfl) rfl ?_
                      refine zw_aload_n 1 f122_0 rfl rfl ?_
                      refine zw_iconst 0 2 f122_1 rfl (by decide +kernel) ?_
                      refine zw_put _ 5 f122_2 rfl g122_111_12 (hb_52 _ _ _ _) rfl (Nat.le_of_ble_eq_true rfl) (by decide +kernel) (hi_52_27 _ _ _ _ _) ?_
                      refine zw_iload_n 6 f122_5 rfl rfl ?_
                      refine zw_ireturn f122_6 r122 u122 ⟨_, rfl, ?_⟩
                      refine zw_goto 214 f184_205 (by decide +kernel) ?_
                      refine zw_ireturn f184_214 r184 u184 ?_
                      exact ⟨_, _, _, _, rfl, (KQ.i rfl KQ.rf), ⟨hi.1, hi.2.1, t, by omega, et⟩, _, rfl⟩
                · refine zw_table_k 168 215 f184_47 hs7e (by decide +kernel) (by decide +kernel) (by decide +kernel) ?_
                  refine zw_iload_n 216 f184_215 rfl (zl1_ne rfl rfl rfl) ?_
                  refine zw_if_lt 219 239 f184_216 (by decide +kernel) rfl (fun hc18 => ?_) (fun hc18 => ?_)
                  · refine zw_aload_n 240 f184_239 rfl (zl1_ne rfl rfl rfl) ?_
                    refine zw_bipush 12 242 f184_240 rfl (by decide +kernel) ?_
                    refine zw_virtual_i 245 0 0 [.ref 52, .int 12] [(0, .ref 52), (1, .int 12)] f184_242 rfl n184_209 k184_209_12 rfl (hb_52 _ _ _ _) (by decide +kernel) (Nat.le_of_ble_eq_true rfl) rfl rfl (by decide +kernel) (by decide +kernel) rfl (Nat.le_of_ble_eq_true rfl) rfl ?_
                    refine zw_aload_n 1 f121_0 rfl rfl ?_
                    refine zw_iload_n 2 f121_1 rfl rfl ?_
                    refine zw_put _ 5 f121_2 rfl g121_111_12 (hb_52 _ _ _ _) rfl (Nat.le_of_ble_eq_true rfl) (by decide +kernel) (hi_52_27 _ _ _ _ _) ?_
                    refine zw_iconst (-1) 6 f121_5 rfl (by decide +kernel) ?_
                    refine zw_ireturn f121_6 r121 u121 ⟨_, rfl, ?_⟩
                    refine zw_goto 258 f184_245 (by decide +kernel) ?_
                    refine zw_ireturn f184_258 r184 u184 ?_
                    exact ⟨_, _, _, _, rfl, (KQ.i rfl KQ.rf), ⟨hi.1, hi.2.1, t, by omega, et⟩, _, rfl⟩
                  · refine zw_iload_n 220 f184_219 rfl (zl1_ne rfl rfl rfl) ?_
                    refine zw_if_lt 223 239 f184_220 (by decide +kernel) rfl (fun hc19 => ?_) (fun hc19 => ?_)
                    · refine zw_aload_n 240 f184_239 rfl (zl1_ne rfl rfl rfl) ?_
                      refine zw_bipush 12 242 f184_240 rfl (by decide +kernel) ?_
                      refine zw_virtual_i 245 0 0 [.ref 52, .int 12] [(0, .ref 52), (1, .int 12)] f184_242 rfl n184_209 k184_209_12 rfl (hb_52 _ _ _ _) (by decide +kernel) (Nat.le_of_ble_eq_true rfl) rfl rfl (by decide +kernel) (by decide +kernel) rfl (Nat.le_of_ble_eq_true rfl) rfl ?_
                      refine zw_aload_n 1 f121_0 rfl rfl ?_
                      refine zw_iload_n 2 f121_1 rfl rfl ?_
                      refine zw_put _ 5 f121_2 rfl g121_111_12 (hb_52 _ _ _ _) rfl (Nat.le_of_ble_eq_true rfl) (by decide +kernel) (hi_52_27 _ _ _ _ _) ?_
                      refine zw_iconst (-1) 6 f121_5 rfl (by decide +kernel) ?_
                      refine zw_ireturn f121_6 r121 u121 ⟨_, rfl, ?_⟩
                      refine zw_goto 258 f184_245 (by decide +kernel) ?_
                      refine zw_ireturn f184_258 r184 u184 ?_
                      exact ⟨_, _, _, _, rfl, (KQ.i rfl KQ.rf), ⟨hi.1, hi.2.1, t, by omega, et⟩, _, rfl⟩
                    · refine zw_iload_n 224 f184_223 rfl (zl1_ne rfl rfl rfl) ?_
                      refine zw_iload_n 225 f184_224 rfl (zl1_ne rfl rfl rfl) ?_
                      refine zw_iadd (c + b) 226 f184_225 rfl rfl ?_
                      refine zw_aload_n 227 f184_226 rfl (zl1_ne rfl rfl rfl) ?_
                      refine zw_getI (nI nv) 230 f184_227 rfl g184_114_12 (hb_52 _ _ _ _) rfl hR.1.1 ?_
                      refine zw_ic_gt 233 239 f184_230 (by decide +kernel) rfl (fun hc20 => ?_) (fun hc20 => ?_)
                      · refine zw_aload_n 240 f184_239 rfl (zl1_ne rfl rfl rfl) ?_
                        refine zw_bipush 12 242 f184_240 rfl (by decide +kernel) ?_
                        refine zw_virtual_i 245 0 0 [.ref 52, .int 12] [(0, .ref 52), (1, .int 12)] f184_242 rfl n184_209 k184_209_12 rfl (hb_52 _ _ _ _) (by decide +kernel) (Nat.le_of_ble_eq_true rfl) rfl rfl (by decide +kernel) (by decide +kernel) rfl (Nat.le_of_ble_eq_true rfl) rfl ?_
                        refine zw_aload_n 1 f121_0 rfl rfl ?_
                        refine zw_iload_n 2 f121_1 rfl rfl ?_
                        refine zw_put _ 5 f121_2 rfl g121_111_12 (hb_52 _ _ _ _) rfl (Nat.le_of_ble_eq_true rfl) (by decide +kernel) (hi_52_27 _ _ _ _ _) ?_
                        refine zw_iconst (-1) 6 f121_5 rfl (by decide +kernel) ?_
                        refine zw_ireturn f121_6 r121 u121 ⟨_, rfl, ?_⟩
                        refine zw_goto 258 f184_245 (by decide +kernel) ?_
                        refine zw_ireturn f184_258 r184 u184 ?_
                        exact ⟨_, _, _, _, rfl, (KQ.i rfl KQ.rf), ⟨hi.1, hi.2.1, t, by omega, et⟩, _, rfl⟩
                      · refine zw_iload_n 234 f184_233 rfl (zl1_ne rfl rfl rfl) ?_
                        refine zw_bipush 6 236 f184_234 rfl (by decide +kernel) ?_
                        refine zw_ic_le 239 248 f184_236 (by decide +kernel) rfl (fun hc21 => ?_) (fun hc21 => ?_)
                        · refine zw_aload_n 249 f184_248 rfl (zl1_ne rfl rfl rfl) ?_
                          refine zw_aload_n 250 f184_249 rfl (zl1_ne rfl rfl rfl) ?_
                          refine zw_iload_n 251 f184_250 rfl (zl1_ne rfl rfl rfl) ?_
                          refine zw_iload_n 252 f184_251 rfl (zl1_ne rfl rfl rfl) ?_
                          refine zw_virtual_i 255 0 0 [.ref 52, .int c, .int b] [(0, .ref 52), (1, .int c), (2, .int b)] f184_252 rfl n184_316 k184_316_12 rfl (hb_52 _ _ _ _) (by decide +kernel) (Nat.le_of_ble_eq_true rfl) rfl rfl (by decide +kernel) (by decide +kernel) rfl (Nat.le_of_ble_eq_true rfl) rfl ?_
                          have sr := sm_rng (k := c) (n := b) h8 hc19 hc6 hc18 hc4 hc20
                          have es := mm_sumOf ro I G A B c.toNatClampNeg b.toNatClampNeg (by omega)
                          rw [← sr.1, ← sr.2.1] at es
                          refine zWp.mono es ?_
                          rintro r h1 ⟨rfl, rfl⟩
                          refine ⟨_, rfl, ?_⟩
                          refine zw_virtual_i 258 0 0 [.ref 52, .int (mSm (A 54) c.toNatClampNeg b.toNatClampNeg)] [(0, .ref 52), (1, .int (mSm (A 54) c.toNatClampNeg b.toNatClampNeg))] f184_255 rfl n184_205 k184_205_12 rfl (hb_52 _ _ _ _) (by decide +kernel) (Nat.le_of_ble_eq_true rfl) rfl rfl (by decide +kernel) (by decide +kernel) rfl (Nat.le_of_ble_eq_true rfl) rfl ?_
                          refine zw_aload_n 1 f122_0 rfl rfl ?_
                          refine zw_iconst 0 2 f122_1 rfl (by decide +kernel) ?_
                          refine zw_put _ 5 f122_2 rfl g122_111_12 (hb_52 _ _ _ _) rfl (Nat.le_of_ble_eq_true rfl) (by decide +kernel) (hi_52_27 _ _ _ _ _) ?_
                          refine zw_iload_n 6 f122_5 rfl rfl ?_
                          refine zw_ireturn f122_6 r122 u122 ⟨_, rfl, ?_⟩
                          refine zw_ireturn f184_258 r184 u184 ?_
                          exact ⟨_, _, _, _, rfl, (KQ.i rfl KQ.rf), ⟨hi.1, hi.2.1, t, by omega, et⟩, _, rfl⟩
                        · refine zw_aload_n 240 f184_239 rfl (zl1_ne rfl rfl rfl) ?_
                          refine zw_bipush 12 242 f184_240 rfl (by decide +kernel) ?_
                          refine zw_virtual_i 245 0 0 [.ref 52, .int 12] [(0, .ref 52), (1, .int 12)] f184_242 rfl n184_209 k184_209_12 rfl (hb_52 _ _ _ _) (by decide +kernel) (Nat.le_of_ble_eq_true rfl) rfl rfl (by decide +kernel) (by decide +kernel) rfl (Nat.le_of_ble_eq_true rfl) rfl ?_
                          refine zw_aload_n 1 f121_0 rfl rfl ?_
                          refine zw_iload_n 2 f121_1 rfl rfl ?_
                          refine zw_put _ 5 f121_2 rfl g121_111_12 (hb_52 _ _ _ _) rfl (Nat.le_of_ble_eq_true rfl) (by decide +kernel) (hi_52_27 _ _ _ _ _) ?_
                          refine zw_iconst (-1) 6 f121_5 rfl (by decide +kernel) ?_
                          refine zw_ireturn f121_6 r121 u121 ⟨_, rfl, ?_⟩
                          refine zw_goto 258 f184_245 (by decide +kernel) ?_
                          refine zw_ireturn f184_258 r184 u184 ?_
                          exact ⟨_, _, _, _, rfl, (KQ.i rfl KQ.rf), ⟨hi.1, hi.2.1, t, by omega, et⟩, _, rfl⟩
                · refine zw_table_k 212 259 f184_47 hs7e (by decide +kernel) (by decide +kernel) (by decide +kernel) ?_
                  refine zw_aload_n 260 f184_259 rfl (zl1_ne rfl rfl rfl) ?_
                  refine zw_iload 262 f184_260 rfl zl1_eq ?_
                  refine zw_virtual_i 265 0 0 [.ref 52, .int (mMod c 8)] [(0, .ref 52), (1, .int (mMod c 8))] f184_262 rfl n184_215 k184_215_12 rfl (hb_52 _ _ _ _) (by decide +kernel) (Nat.le_of_ble_eq_true rfl) rfl rfl (by decide +kernel) (by decide +kernel) rfl (Nat.le_of_ble_eq_true rfl) rfl ?_
                  refine zw_iload_n 1 f123_0 rfl rfl ?_
                  refine zw_iconst 0 2 f123_1 rfl (by decide +kernel) ?_
                  refine zw_aload_n 3 f123_2 rfl rfl ?_
                  refine zw_getI (nI nv) 6 f123_3 rfl g123_114_12 (hb_52 _ _ _ _) rfl hR.1.1 ?_
                  refine zw_iconst 1 7 f123_6 rfl (by decide +kernel) ?_
                  refine zw_isub ((nI nv) - 1) 8 f123_7 rfl rfl ?_
                  refine zw_static_i 11 0 0 [.int (mMod c 8), .int 0, .int ((nI nv) - 1)] [] [(0, .int (mMod c 8)), (1, .int 0), (2, .int ((nI nv) - 1))] f123_8 rfl k123_117_99 rfl (by decide +kernel) (Nat.le_of_ble_eq_true rfl) (Nat.le_of_ble_eq_true rfl) rfl rfl (by decide +kernel) (by decide +kernel) rfl (Nat.le_of_ble_eq_true rfl) rfl ?_
                  refine zw_iload_n 1 f120_0 rfl rfl ?_
                  refine zw_iload_n 2 f120_1 rfl rfl ?_
                  refine zw_ic_lt 5 14 f120_2 (by decide +kernel) rfl (fun hc22 => ?_) (fun hc22 => ?_)
                  · refine zw_iconst 0 15 f120_14 rfl (by decide +kernel) ?_
                    refine zw_zreturn f120_15 r120 u120 (by decide +kernel) ⟨_, rfl, ?_⟩
                    refine zw_zreturn f123_11 r123 u123 (by decide +kernel) ⟨_, rfl, ?_⟩
                    refine zw_if_ne_f 268 276 f184_265 (by decide +kernel) rfl (by decide +kernel) ?_
                    refine zw_aload_n 269 f184_268 rfl (zl1_ne rfl rfl rfl) ?_
                    refine zw_iconst 0 270 f184_269 rfl (by decide +kernel) ?_
                    refine zw_virtual_i 273 0 0 [.ref 52, .int 0] [(0, .ref 52), (1, .int 0)] f184_270 rfl n184_205 k184_205_12 rfl (hb_52 _ _ _ _) (by decide +kernel) (Nat.le_of_ble_eq_true rfl) rfl rfl (by decide +kernel) (by decide +kernel) rfl (Nat.le_of_ble_eq_true rfl) rfl ?_
                    refine zw_aload_n 1 f122_0 rfl rfl ?_
                    refine zw_iconst 0 2 f122_1 rfl (by decide +kernel) ?_
                    refine zw_put _ 5 f122_2 rfl g122_111_12 (hb_52 _ _ _ _) rfl (Nat.le_of_ble_eq_true rfl) (by decide +kernel) (hi_52_27 _ _ _ _ _) ?_
                    refine zw_iload_n 6 f122_5 rfl rfl ?_
                    refine zw_ireturn f122_6 r122 u122 ⟨_, rfl, ?_⟩
                    refine zw_goto 305 f184_273 (by decide +kernel) ?_
                    refine zw_ireturn f184_305 r184 u184 ?_
                    exact ⟨_, _, _, _, rfl, (KQ.i rfl KQ.rf), ⟨hi.1, hi.2.1, t, by omega, et⟩, _, rfl⟩
                  · refine zw_iload_n 6 f120_5 rfl rfl ?_
                    refine zw_iload_n 7 f120_6 rfl rfl ?_
                    refine zw_ic_gt 10 14 f120_7 (by decide +kernel) rfl (fun hc23 => ?_) (fun hc23 => ?_)
                    · refine zw_iconst 0 15 f120_14 rfl (by decide +kernel) ?_
                      refine zw_zreturn f120_15 r120 u120 (by decide +kernel) ⟨_, rfl, ?_⟩
                      refine zw_zreturn f123_11 r123 u123 (by decide +kernel) ⟨_, rfl, ?_⟩
                      refine zw_if_ne_f 268 276 f184_265 (by decide +kernel) rfl (by decide +kernel) ?_
                      refine zw_aload_n 269 f184_268 rfl (zl1_ne rfl rfl rfl) ?_
                      refine zw_iconst 0 270 f184_269 rfl (by decide +kernel) ?_
                      refine zw_virtual_i 273 0 0 [.ref 52, .int 0] [(0, .ref 52), (1, .int 0)] f184_270 rfl n184_205 k184_205_12 rfl (hb_52 _ _ _ _) (by decide +kernel) (Nat.le_of_ble_eq_true rfl) rfl rfl (by decide +kernel) (by decide +kernel) rfl (Nat.le_of_ble_eq_true rfl) rfl ?_
                      refine zw_aload_n 1 f122_0 rfl rfl ?_
                      refine zw_iconst 0 2 f122_1 rfl (by decide +kernel) ?_
                      refine zw_put _ 5 f122_2 rfl g122_111_12 (hb_52 _ _ _ _) rfl (Nat.le_of_ble_eq_true rfl) (by decide +kernel) (hi_52_27 _ _ _ _ _) ?_
                      refine zw_iload_n 6 f122_5 rfl rfl ?_
                      refine zw_ireturn f122_6 r122 u122 ⟨_, rfl, ?_⟩
                      refine zw_goto 305 f184_273 (by decide +kernel) ?_
                      refine zw_ireturn f184_305 r184 u184 ?_
                      exact ⟨_, _, _, _, rfl, (KQ.i rfl KQ.rf), ⟨hi.1, hi.2.1, t, by omega, et⟩, _, rfl⟩
                    · refine zw_iconst 1 11 f120_10 rfl (by decide +kernel) ?_
                      refine zw_goto 15 f120_11 (by decide +kernel) ?_
                      refine zw_zreturn f120_15 r120 u120 (by decide +kernel) ⟨_, rfl, ?_⟩
                      refine zw_zreturn f123_11 r123 u123 (by decide +kernel) ⟨_, rfl, ?_⟩
                      refine zw_if_ne_t 276 f184_265 (by decide +kernel) (by decide +kernel) ?_
                      refine zw_aload_n 277 f184_276 rfl (zl1_ne rfl rfl rfl) ?_
                      refine zw_iload 279 f184_277 rfl zl1_eq ?_
                      refine zw_virtual_i 282 0 0 [.ref 52, .int (mMod c 8)] [(0, .ref 52), (1, .int (mMod c 8))] f184_279 rfl n184_158 k184_158_12 rfl (hb_52 _ _ _ _) (by decide +kernel) (Nat.le_of_ble_eq_true rfl) rfl rfl (by decide +kernel) (by decide +kernel) rfl (Nat.le_of_ble_eq_true rfl) rfl ?_
                      refine zw_aload_n 1 f126_0 rfl rfl ?_
                      refine zw_getfield 4 f126_1 rfl g126_7_12 (hb_52 _ _ _ _) rfl ?_
                      refine zw_iload_n 5 f126_4 rfl rfl ?_
                      refine zw_iaload (mMod c 8).toNatClampNeg (A 53 (mMod c 8).toNatClampNeg) 6 f126_5 rfl (hb_53 _ _ _ _) rfl hc22 (zix (by decide) hc22 (show ¬ 8 ≤ (mMod c 8) from ix_le hp.1 (by decide) (by decide) hc22 hc23)) rfl ?_
                      refine zw_iconst 3 7 f126_6 rfl (by decide +kernel) ?_
                      refine zw_ic_eq 10 20 f126_7 (by decide +kernel) rfl (fun hc24 => ?_) (fun hc24 => ?_)
                      · refine zw_iconst 1 21 f126_20 rfl (by decide +kernel) ?_
                        refine zw_goto 25 f126_21 (by decide +kernel) ?_
                        refine zw_zreturn f126_25 r126 u126 (by decide +kernel) ⟨_, rfl, ?_⟩
                        refine zw_if_eq_f 285 299 f184_282 (by decide +kernel) rfl (by decide +kernel) ?_
                        refine zw_aload_n 286 f184_285 rfl (zl1_ne rfl rfl rfl) ?_
                        refine zw_aload_n 287 f184_286 rfl (zl1_ne rfl rfl rfl) ?_
                        refine zw_getfield 290 f184_287 rfl g184_13_12 (hb_52 _ _ _ _) rfl ?_
                        refine zw_iload 292 f184_290 rfl zl1_eq ?_
                        refine zw_iaload (mMod c 8).toNatClampNeg (A 54 (mMod c 8).toNatClampNeg) 293 f184_292 rfl (hb_54 _ _ _ _) rfl hc22 (zix (by decide) hc22 (show ¬ 8 ≤ (mMod c 8) from ix_le hp.1 (by decide) (by decide) hc22 hc23)) rfl ?_
                        refine zw_virtual_i 296 0 0 [.ref 52, .int (A 54 (mMod c 8).toNatClampNeg)] [(0, .ref 52), (1, .int (A 54 (mMod c 8).toNatClampNeg))] f184_293 rfl n184_205 k184_205_12 rfl (hb_52 _ _ _ _) (by decide +kernel) (Nat.le_of_ble_eq_true rfl) rfl rfl (by decide +kernel) (by decide +kernel) rfl (Nat.le_of_ble_eq_true rfl) rfl ?_
                        refine zw_aload_n 1 f122_0 rfl rfl ?_
                        refine zw_iconst 0 2 f122_1 rfl (by decide +kernel) ?_
                        refine zw_put _ 5 f122_2 rfl g122_111_12 (hb_52 _ _ _ _) rfl (Nat.le_of_ble_eq_true rfl) (by decide +kernel) (hi_52_27 _ _ _ _ _) ?_
                        refine zw_iload_n 6 f122_5 rfl rfl ?_
                        refine zw_ireturn f122_6 r122 u122 ⟨_, rfl, ?_⟩
                        refine zw_goto 305 f184_296 (by decide +kernel) ?_
                        refine zw_ireturn f184_305 r184 u184 ?_
                        exact ⟨_, _, _, _, rfl, (KQ.i rfl KQ.rf), ⟨hi.1, hi.2.1, t, by omega, et⟩, _, rfl⟩
                      · refine zw_aload_n 11 f126_10 rfl rfl ?_
                        refine zw_getfield 14 f126_11 rfl g126_7_12 (hb_52 _ _ _ _) rfl ?_
                        refine zw_iload_n 15 f126_14 rfl rfl ?_
                        refine zw_iaload (mMod c 8).toNatClampNeg (A 53 (mMod c 8).toNatClampNeg) 16 f126_15 rfl (hb_53 _ _ _ _) rfl hc22 (zix (by decide) hc22 (show ¬ 8 ≤ (mMod c 8) from ix_le hp.1 (by decide) (by decide) hc22 hc23)) rfl ?_
                        refine zw_iconst 4 17 f126_16 rfl (by decide +kernel) ?_
                        refine zw_ic_ne 20 24 f126_17 (by decide +kernel) rfl (fun hc25 => ?_) (fun hc25 => ?_)
                        · refine zw_iconst 0 25 f126_24 rfl (by decide +kernel) ?_
                          refine zw_zreturn f126_25 r126 u126 (by decide +kernel) ⟨_, rfl, ?_⟩
                          refine zw_if_eq_t 299 f184_282 (by decide +kernel) (by decide +kernel) ?_
                          refine zw_aload_n 300 f184_299 rfl (zl1_ne rfl rfl rfl) ?_
                          refine zw_bipush 14 302 f184_300 rfl (by decide +kernel) ?_
                          refine zw_virtual_i 305 0 0 [.ref 52, .int 14] [(0, .ref 52), (1, .int 14)] f184_302 rfl n184_209 k184_209_12 rfl (hb_52 _ _ _ _) (by decide +kernel) (Nat.le_of_ble_eq_true rfl) rfl rfl (by decide +kernel) (by decide +kernel) rfl (Nat.le_of_ble_eq_true rfl) rfl ?_
                          refine zw_aload_n 1 f121_0 rfl rfl ?_
                          refine zw_iload_n 2 f121_1 rfl rfl ?_
                          refine zw_put _ 5 f121_2 rfl g121_111_12 (hb_52 _ _ _ _) rfl (Nat.le_of_ble_eq_true rfl) (by decide +kernel) (hi_52_27 _ _ _ _ _) ?_
                          refine zw_iconst (-1) 6 f121_5 rfl (by decide +kernel) ?_
                          refine zw_ireturn f121_6 r121 u121 ⟨_, rfl, ?_⟩
                          refine zw_ireturn f184_305 r184 u184 ?_
                          exact ⟨_, _, _, _, rfl, (KQ.i rfl KQ.rf), ⟨hi.1, hi.2.1, t, by omega, et⟩, _, rfl⟩
                        · refine zw_iconst 1 21 f126_20 rfl (by decide +kernel) ?_
                          refine zw_goto 25 f126_21 (by decide +kernel) ?_
                          refine zw_zreturn f126_25 r126 u126 (by decide +kernel) ⟨_, rfl, ?_⟩
                          refine zw_if_eq_f 285 299 f184_282 (by decide +kernel) rfl (by decide +kernel) ?_
                          refine zw_aload_n 286 f184_285 rfl (zl1_ne rfl rfl rfl) ?_
                          refine zw_aload_n 287 f184_286 rfl (zl1_ne rfl rfl rfl) ?_
                          refine zw_getfield 290 f184_287 rfl g184_13_12 (hb_52 _ _ _ _) rfl ?_
                          refine zw_iload 292 f184_290 rfl zl1_eq ?_
                          refine zw_iaload (mMod c 8).toNatClampNeg (A 54 (mMod c 8).toNatClampNeg) 293 f184_292 rfl (hb_54 _ _ _ _) rfl hc22 (zix (by decide) hc22 (show ¬ 8 ≤ (mMod c 8) from ix_le hp.1 (by decide) (by decide) hc22 hc23)) rfl ?_
                          refine zw_virtual_i 296 0 0 [.ref 52, .int (A 54 (mMod c 8).toNatClampNeg)] [(0, .ref 52), (1, .int (A 54 (mMod c 8).toNatClampNeg))] f184_293 rfl n184_205 k184_205_12 rfl (hb_52 _ _ _ _) (by decide +kernel) (Nat.le_of_ble_eq_true rfl) rfl rfl (by decide +kernel) (by decide +kernel) rfl (Nat.le_of_ble_eq_true rfl) rfl ?_
                          refine zw_aload_n 1 f122_0 rfl rfl ?_
                          refine zw_iconst 0 2 f122_1 rfl (by decide +kernel) ?_
                          refine zw_put _ 5 f122_2 rfl g122_111_12 (hb_52 _ _ _ _) rfl (Nat.le_of_ble_eq_true rfl) (by decide +kernel) (hi_52_27 _ _ _ _ _) ?_
                          refine zw_iload_n 6 f122_5 rfl rfl ?_
                          refine zw_ireturn f122_6 r122 u122 ⟨_, rfl, ?_⟩
                          refine zw_goto 305 f184_296 (by decide +kernel) ?_
                          refine zw_ireturn f184_305 r184 u184 ?_
                          exact ⟨_, _, _, _, rfl, (KQ.i rfl KQ.rf), ⟨hi.1, hi.2.1, t, by omega, et⟩, _, rfl⟩
                · refine zw_table_k 259 306 f184_47 hs7e (by decide +kernel) (by decide +kernel) (by decide +kernel) ?_
                  refine zw_iload_n 307 f184_306 rfl (zl1_ne rfl rfl rfl) ?_
                  refine zw_if_ne 310 319 f184_307 (by decide +kernel) rfl (fun hc26 => ?_) (fun hc26 => ?_)
                  · refine zw_aload_n 320 f184_319 rfl (zl1_ne rfl rfl rfl) ?_
                    refine zw_sipush 1000 323 f184_320 rfl (by decide +kernel) ?_
                    refine zw_iload_n 324 f184_323 rfl (zl1_ne rfl rfl rfl) ?_
                    refine zw_idiv (1000 / b) 325 f184_324 rfl hc26 rfl ?_
                    refine zw_virtual_i 328 0 0 [.ref 52, .int (1000 / b)] [(0, .ref 52), (1, .int (1000 / b))] f184_325 rfl n184_205 k184_205_12 rfl (hb_52 _ _ _ _) (by decide +kernel) (Nat.le_of_ble_eq_true rfl) rfl rfl (by decide +kernel) (by decide +kernel) rfl (Nat.le_of_ble_eq_true rfl) rfl ?_
                    refine zw_aload_n 1 f122_0 rfl rfl ?_
                    refine zw_iconst 0 2 f122_1 rfl (by decide +kernel) ?_
                    refine zw_put _ 5 f122_2 rfl g122_111_12 (hb_52 _ _ _ _) rfl (Nat.le_of_ble_eq_true rfl) (by decide +kernel) (hi_52_27 _ _ _ _ _) ?_
                    refine zw_iload_n 6 f122_5 rfl rfl ?_
                    refine zw_ireturn f122_6 r122 u122 ⟨_, rfl, ?_⟩
                    refine zw_ireturn f184_328 r184 u184 ?_
                    exact ⟨_, _, _, _, rfl, (KQ.i rfl KQ.rf), ⟨hi.1, hi.2.1, t, by omega, et⟩, _, rfl⟩
                  · refine zw_aload_n 311 f184_310 rfl (zl1_ne rfl rfl rfl) ?_
                    refine zw_bipush 15 313 f184_311 rfl (by decide +kernel) ?_
                    refine zw_virtual_i 316 0 0 [.ref 52, .int 15] [(0, .ref 52), (1, .int 15)] f184_313 rfl n184_209 k184_209_12 rfl (hb_52 _ _ _ _) (by decide +kernel) (Nat.le_of_ble_eq_true rfl) rfl rfl (by decide +kernel) (by decide +kernel) rfl (Nat.le_of_ble_eq_true rfl) rfl ?_
                    refine zw_aload_n 1 f121_0 rfl rfl ?_
                    refine zw_iload_n 2 f121_1 rfl rfl ?_
                    refine zw_put _ 5 f121_2 rfl g121_111_12 (hb_52 _ _ _ _) rfl (Nat.le_of_ble_eq_true rfl) (by decide +kernel) (hi_52_27 _ _ _ _ _) ?_
                    refine zw_iconst (-1) 6 f121_5 rfl (by decide +kernel) ?_
                    refine zw_ireturn f121_6 r121 u121 ⟨_, rfl, ?_⟩
                    refine zw_goto 328 f184_316 (by decide +kernel) ?_
                    refine zw_ireturn f184_328 r184 u184 ?_
                    exact ⟨_, _, _, _, rfl, (KQ.i rfl KQ.rf), ⟨hi.1, hi.2.1, t, by omega, et⟩, _, rfl⟩
set_option maxRecDepth 100000 in
set_option maxHeartbeats 0 in
theorem mq_status (ro : UInt32 → Nat × (Nat → Int32)) (nv np : Nat) (W : qW) (L : qLog) (I : Nat → Nat → Int32) (G : Nat → Nat → Int64) (A : Nat → Nat → Int32) (B : Nat → Nat → Int64) (K : Int) (hR : mRS nv np A W L I G A B) (hp : MPa nv np A) (hW : wInv nv 10000 K A W) (hn : L.1 < 900000000) (hg : qLG L) (hi : mId I)  : zWp ro 185 0 [(0, .ref 52)] [] (hS I G A B) 0 0 (fun r h1 => ∃ I2 G2 A2 B2, h1 = hS I2 G2 A2 B2 ∧ KQ fQu pQu I G A B I2 G2 A2 B2 ∧ mId I2 ∧ ∃ v : Int32, r = some (.int v)) := by
  have h8 := hp.1
  have h14 := hp.2.1
  obtain ⟨t, ht, et⟩ := hi.2.2
  refine zw_aload_n 1 f185_0 rfl rfl ?_
  refine zw_getI (I 52 27) 4 f185_1 rfl g185_111_12 (hb_52 _ _ _ _) rfl rfl ?_
  refine zw_ireturn f185_4 r185 u185 ?_
  exact ⟨_, _, _, _, rfl, KQ.rf, ⟨hi.1, hi.2.1, t, by omega, et⟩, _, rfl⟩
