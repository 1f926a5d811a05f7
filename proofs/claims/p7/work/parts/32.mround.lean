/-! ===== round of the reference: it ends, and brings back ===== -/
def f0 (_ _ : Nat) : Bool := false
def p81 (k : Nat) : Bool := decide (k = 81)
def fRd (k j : Nat) : Bool := decide (k = 52 ∧ ((12 ≤ j ∧ j ≤ 15) ∨ j = 20 ∨ (34 ≤ j ∧ j ≤ 39) ∨ j = 42 ∨ j = 53 ∨ j = 54))
def pRd (k : Nat) : Bool := decide ((63 ≤ k ∧ k ≤ 70) ∨ (72 ≤ k ∧ k ≤ 76) ∨ k = 81)
def fRo (k j : Nat) : Bool := decide (k = 52 ∧ ((12 ≤ j ∧ j ≤ 15) ∨ j = 20 ∨ j = 22 ∨ (34 ≤ j ∧ j ≤ 39) ∨ (42 ≤ j ∧ j ≤ 47) ∨ j = 53 ∨ j = 54))
def pRo (k : Nat) : Bool := decide ((63 ≤ k ∧ k ≤ 70) ∨ (72 ≤ k ∧ k ≤ 81))
theorem f0_x {p : Nat → Nat → Bool} : ∀ k j, p k j = false → f0 k j = false := fun _ _ _ => rfl
def qGr (B : Nat → Nat → Int64) (n : Nat) : Prop := ∀ i, i < n → 1 ≤ (B 81 (11 * i + 8)).toInt ∧ (B 81 (11 * i + 8)).toInt ≤ 10000
theorem vL_out {f g : Nat → Int64} {x : Int64} {m k : Nat} (h : ∀ j, (j < 11 * m ∨ 11 * m + 11 ≤ j) → f j = g j) (hk : 11 * m ≤ k) (hk2 : k < 11 * m + 11) : ∀ j, (j < 11 * m ∨ 11 * m + 11 ≤ j) → vp_updL f k x j = g j := fun j hj => (vpL_o (by omega)).trans (h j hj)
theorem qGr.put {B B2 : Nat → Nat → Int64} {m : Nat} {g : Int64} (h : qGr B m) (hg : 1 ≤ g.toInt ∧ g.toInt ≤ 10000) (h1 : B2 81 (11 * m + 8) = g) (h2 : ∀ j, (j < 11 * m ∨ 11 * m + 11 ≤ j) → B2 81 j = B 81 j) : qGr B2 (m + 1) := by
  intro i hi
  by_cases e : i = m
  · rw [e, h1]; exact hg
  · rw [h2 _ (Or.inl (by omega))]; exact h i (by omega)
theorem fSt_Rd : ∀ k j, fRd k j = false → fSt k j = false := by
  intro k j h
  simp only [fSt, fRd, decide_eq_false_iff_not] at h ⊢
  omega
theorem pSt_Rd : ∀ k, pRd k = false → pSt k = false := by
  intro k h
  simp only [pSt, pRd, decide_eq_false_iff_not] at h ⊢
  omega
theorem p81_Rd : ∀ k, pRd k = false → p81 k = false := by
  intro k h
  simp only [p81, pRd, decide_eq_false_iff_not] at h ⊢
  omega
theorem fKp_Ro : ∀ k j, fRo k j = false → fKp k j = false := by
  intro k j h
  simp only [fKp, fRo, decide_eq_false_iff_not] at h ⊢
  omega
theorem fBk_Ro : ∀ k j, fRo k j = false → fBk k j = false := by
  intro k j h
  simp only [fBk, fRo, decide_eq_false_iff_not] at h ⊢
  omega
theorem fRd_Ro : ∀ k j, fRo k j = false → fRd k j = false := by
  intro k j h
  simp only [fRd, fRo, decide_eq_false_iff_not] at h ⊢
  omega
theorem pKp_Ro : ∀ k, pRo k = false → pKp k = false := by
  intro k h
  simp only [pKp, pRo, decide_eq_false_iff_not] at h ⊢
  omega
theorem pBk_Ro : ∀ k, pRo k = false → pBk k = false := by
  intro k h
  simp only [pBk, pRo, decide_eq_false_iff_not] at h ⊢
  omega
theorem pRd_Ro : ∀ k, pRo k = false → pRd k = false := by
  intro k h
  simp only [pRd, pRo, decide_eq_false_iff_not] at h ⊢
  omega
theorem fRd_k : ∀ j, 43 ≤ j → j ≤ 47 → fRd 52 j = false := by
  intro j h1 h2
  simp only [fRd, decide_eq_false_iff_not]
  omega
theorem pRd_k : ∀ k, 77 ≤ k → k ≤ 80 → pRd k = false := by
  intro k h1 h2
  simp only [pRd, decide_eq_false_iff_not]
  omega
theorem p81_R : ∀ k, 53 ≤ k → k ≤ 70 → p81 k = false := by
  intro k h1 h2
  simp only [p81, decide_eq_false_iff_not]
  omega
theorem f0_R : ∀ j, (j = 0 ∨ j = 8 ∨ (12 ≤ j ∧ j ≤ 15) ∨ j = 20 ∨ j = 42) → f0 52 j = false := fun _ _ => rfl
theorem nI_n150g {k : Nat} (h : k ≤ 150) : ¬ 150 < nI k := by
  intro q
  rw [i32_lt, nI_toInt (by omega)] at q
  have e : (150 : Int32).toInt = 150 := by decide
  omega
theorem nI_150g : 150 < nI 151 := by decide
theorem i64_ne0 {g : Int64} (h : 1 ≤ g.toInt) : ¬ g = 0 := by
  intro z
  rw [z, i64_0] at h; omega
theorem i64_mne0 {g k : Int64} (h : 1 ≤ g.toInt ∧ g.toInt ≤ 10000) (h2 : 1 ≤ k.toInt ∧ k.toInt ≤ 10000) : ¬ g * k = 0 := by
  have m := mul_bd (a := g.toInt) (b := k.toInt) (A := 10000) (B := 10000) (by omega) h.2 (by omega) h2.2
  have e : (g * k).toInt = g.toInt * k.toInt := i64_mul (by omega) (by omega)
  have := Int.mul_pos (a := g.toInt) (b := k.toInt) (by omega) (by omega)
  exact i64_ne0 (by rw [e]; omega)
set_option maxRecDepth 100000 in
set_option maxHeartbeats 0 in
theorem lmm_put_42 (ro : UInt32 → Nat × (Nat → Int32)) (nv np : Nat) (PA : Nat → Nat → Int32) (W : qW) (L : qLog) (I : Nat → Nat → Int32) (G : Nat → Nat → Int64) (A : Nat → Nat → Int32) (B : Nat → Nat → Int64) (hR : mRS nv np PA W L I G A B) (m : Nat) (hm : m < 151) : ∀ (n k : Nat) (y : Int64) (ls : List (Nat × Value)) (I1 : Nat → Nat → Int32) (G1 : Nat → Nat → Int64) (A1 : Nat → Nat → Int32) (B1 : Nat → Nat → Int64), KQ f0 p81 I G A B I1 G1 A1 B1 → (∀ j, (j < 11 * m ∨ 11 * m + 11 ≤ j) → B1 81 j = B 81 j) → zld ls 0 = some (.ref 52) → zld ls 1 = some (.int (nI m)) → zld ls 2 = some (.long y) → zld ls 4 = some (.int (nI k)) → k ≤ 8 → 8 + 1 ≤ k + n → zWp ro 167 42 ls [] (hS I1 G1 A1 B1) 0 0 (fun r h1 => ∃ I2 G2 A2 B2, h1 = hS I2 G2 A2 B2 ∧ KQ f0 p81 I G A B I2 G2 A2 B2 ∧ (B2 81 (11 * m + 8) = W.1 ∧ ∀ j, (j < 11 * m ∨ 11 * m + 11 ≤ j) → B2 81 j = B 81 j) ∧ r = none) := by
  intro n
  induction n with
  | zero =>
    intro k y ls I1 G1 A1 B1 _ _ _ _ _ _ a b
    exact absurd b (by omega)
  | succ n ih =>
    intro k y ls I1 G1 A1 B1 K hr h0 h1 h2 h4 hk1 hk2
    refine zw_iload 44 f167_42 rfl h4 ?_
    refine zw_bipush 8 46 f167_44 rfl (by decide +kernel) ?_
    refine zw_ic_ge 49 98 f167_46 (by decide +kernel) rfl (fun hc1 => ?_) (fun hc1 => ?_)
    · have hn_hc1 : 8 ≤ k := zn_ge (by omega) (by omega) hc1
      refine zw_aload_n 99 f167_98 rfl h0 ?_
      refine zw_getfield 102 f167_99 rfl g167_108_12 (hb_52 _ _ _ _) rfl ?_
      refine zw_bipush 11 104 f167_102 rfl (by decide +kernel) ?_
      refine zw_iload_n 105 f167_104 rfl h1 ?_
      refine zw_imul (nI (11 * m)) 106 f167_105 rfl (nI_mulL 11 _) ?_
      refine zw_bipush 8 108 f167_106 rfl (by decide +kernel) ?_
      refine zw_iadd (nI ((11 * m) + 8)) 109 f167_108 rfl (nI_add _ 8) ?_
      refine zw_aload_n 110 f167_109 rfl h0 ?_
      refine zw_getG W.1 113 f167_110 rfl g167_40_12 (hb_52 _ _ _ _) rfl ((K.2.1 52 12 rfl).trans hR.g) ?_
      refine zw_lst (((11 * m) + 8)) _ 114 f167_113 rfl (hb_81 _ _ _ _) (nI_clamp (by omega)) (nI_pos (by omega)) (by omega) (ha_81 _ _ _ _ _) ?_
      refine zw_aload_n 115 f167_114 rfl h0 ?_
      refine zw_getfield 118 f167_115 rfl g167_108_12 (hb_52 _ _ _ _) rfl ?_
      refine zw_bipush 11 120 f167_118 rfl (by decide +kernel) ?_
      refine zw_iload_n 121 f167_120 rfl h1 ?_
      refine zw_imul (nI (11 * m)) 122 f167_121 rfl (nI_mulL 11 _) ?_
      refine zw_bipush 9 124 f167_122 rfl (by decide +kernel) ?_
      refine zw_iadd (nI ((11 * m) + 9)) 125 f167_124 rfl (nI_add _ 9) ?_
      refine zw_aload_n 126 f167_125 rfl h0 ?_
      refine zw_getG (G 52 13) 129 f167_126 rfl g167_172_12 (hb_52 _ _ _ _) rfl (K.2.1 52 13 rfl) ?_
      refine zw_lst (((11 * m) + 9)) _ 130 f167_129 rfl (hb_81 _ _ _ _) (nI_clamp (by omega)) (nI_pos (by omega)) (by omega) (ha_81 _ _ _ _ _) ?_
      refine zw_aload_n 131 f167_130 rfl h0 ?_
      refine zw_getfield 134 f167_131 rfl g167_108_12 (hb_52 _ _ _ _) rfl ?_
      refine zw_bipush 11 136 f167_134 rfl (by decide +kernel) ?_
      refine zw_iload_n 137 f167_136 rfl h1 ?_
      refine zw_imul (nI (11 * m)) 138 f167_137 rfl (nI_mulL 11 _) ?_
      refine zw_bipush 10 140 f167_138 rfl (by decide +kernel) ?_
      refine zw_iadd (nI ((11 * m) + 10)) 141 f167_140 rfl (nI_add _ 10) ?_
      refine zw_lload_n 142 f167_141 rfl h2 ?_
      refine zw_lst (((11 * m) + 10)) _ 143 f167_142 rfl (hb_81 _ _ _ _) (nI_clamp (by omega)) (nI_pos (by omega)) (by omega) (ha_81 _ _ _ _ _) ?_
      refine zw_vreturn f167_143 r167 u167 ?_
      refine ⟨_, _, _, _, rfl, (KQ.b rfl (KQ.b rfl (KQ.b rfl K))), ⟨?_, vL_out (vL_out (vL_out hr (by omega) (by omega)) (by omega) (by omega)) (by omega) (by omega)⟩, rfl⟩
      exact (vpL_o (by omega)).trans ((vpL_o (by omega)).trans vpL_s)
    · have hn_hc1 : k < 8 := zn_lt (by omega) (by omega) hc1
      refine zw_lload_n 50 f167_49 rfl h2 ?_
      refine zw_aload_n 51 f167_50 rfl h0 ?_
      refine zw_getfield 54 f167_51 rfl g167_52_12 (hb_52 _ _ _ _) rfl ?_
      refine zw_iload 56 f167_54 rfl h4 ?_
      refine zw_baload k (A 65 k) 57 f167_56 rfl (hb_65 _ _ _ _) (nI_clamp (by omega)) (nI_pos (by omega)) (by omega) (congrFun ((K.2.2.1 65 rfl)) k) ?_
      refine zw_if_eq 60 70 f167_57 (by decide +kernel) rfl (fun hc2 => ?_) (fun hc2 => ?_)
      · refine zw_lconst 0 71 f167_70 rfl (by decide +kernel) ?_
        refine zw_lor (y ||| 0) 72 f167_71 rfl rfl ?_
        refine zw_lstore_n _ 73 f167_72 rfl (by decide +kernel) rfl ?_
        refine zw_aload_n 74 f167_73 rfl (zl2_ne rfl rfl h0) ?_
        refine zw_getfield 77 f167_74 rfl g167_108_12 (hb_52 _ _ _ _) rfl ?_
        refine zw_bipush 11 79 f167_77 rfl (by decide +kernel) ?_
        refine zw_iload_n 80 f167_79 rfl (zl2_ne rfl rfl h1) ?_
        refine zw_imul (nI (11 * m)) 81 f167_80 rfl (nI_mulL 11 _) ?_
        refine zw_iload 83 f167_81 rfl (zl2_ne rfl rfl h4) ?_
        refine zw_iadd (nI ((11 * m) + k)) 84 f167_83 rfl (nI_add _ _) ?_
        refine zw_aload_n 85 f167_84 rfl (zl2_ne rfl rfl h0) ?_
        refine zw_getfield 88 f167_85 rfl g167_44_12 (hb_52 _ _ _ _) rfl ?_
        refine zw_iload 90 f167_88 rfl (zl2_ne rfl rfl h4) ?_
        refine zw_laload k (B 63 k) 91 f167_90 rfl (hb_63 _ _ _ _) (nI_clamp (by omega)) (nI_pos (by omega)) (by omega) (congrFun ((K.2.2.2 63 rfl)) k) ?_
        refine zw_lst (((11 * m) + k)) _ 92 f167_91 rfl (hb_81 _ _ _ _) (nI_clamp (by omega)) (nI_pos (by omega)) (by omega) (ha_81 _ _ _ _ _) ?_
        refine zw_iinc (nI (k + 1)) _ 95 f167_92 rfl (zl2_ne rfl rfl h4) (by decide +kernel) (nI_1 _) rfl ?_
        refine zw_goto 42 f167_95 (by decide +kernel) ?_
        exact ih (k + 1) _ _ _ _ _ _ (KQ.b rfl K) (vL_out hr (by omega) (by omega)) (zl1_ne rfl rfl (zl2_ne rfl rfl h0)) (zl1_ne rfl rfl (zl2_ne rfl rfl h1)) (zl1_ne rfl rfl zl2_eq) zl1_eq (by omega) (by omega)
      · refine zw_lconst 1 61 f167_60 rfl (by decide +kernel) ?_
        refine zw_bipush 20 63 f167_61 rfl (by decide +kernel) ?_
        refine zw_iload 65 f167_63 rfl h4 ?_
        refine zw_iadd (nI (20 + k)) 66 f167_65 rfl (nI_add 20 _) ?_
        refine zw_lshl (1 <<< (Int32.toInt64 (nI (20 + k)) &&& 63)) 67 f167_66 rfl rfl ?_
        refine zw_goto 71 f167_67 (by decide +kernel) ?_
        refine zw_lor (y ||| (1 <<< (Int32.toInt64 (nI (20 + k)) &&& 63))) 72 f167_71 rfl rfl ?_
        refine zw_lstore_n _ 73 f167_72 rfl (by decide +kernel) rfl ?_
        refine zw_aload_n 74 f167_73 rfl (zl2_ne rfl rfl h0) ?_
        refine zw_getfield 77 f167_74 rfl g167_108_12 (hb_52 _ _ _ _) rfl ?_
        refine zw_bipush 11 79 f167_77 rfl (by decide +kernel) ?_
        refine zw_iload_n 80 f167_79 rfl (zl2_ne rfl rfl h1) ?_
        refine zw_imul (nI (11 * m)) 81 f167_80 rfl (nI_mulL 11 _) ?_
        refine zw_iload 83 f167_81 rfl (zl2_ne rfl rfl h4) ?_
        refine zw_iadd (nI ((11 * m) + k)) 84 f167_83 rfl (nI_add _ _) ?_
        refine zw_aload_n 85 f167_84 rfl (zl2_ne rfl rfl h0) ?_
        refine zw_getfield 88 f167_85 rfl g167_44_12 (hb_52 _ _ _ _) rfl ?_
        refine zw_iload 90 f167_88 rfl (zl2_ne rfl rfl h4) ?_
        refine zw_laload k (B 63 k) 91 f167_90 rfl (hb_63 _ _ _ _) (nI_clamp (by omega)) (nI_pos (by omega)) (by omega) (congrFun ((K.2.2.2 63 rfl)) k) ?_
        refine zw_lst (((11 * m) + k)) _ 92 f167_91 rfl (hb_81 _ _ _ _) (nI_clamp (by omega)) (nI_pos (by omega)) (by omega) (ha_81 _ _ _ _ _) ?_
        refine zw_iinc (nI (k + 1)) _ 95 f167_92 rfl (zl2_ne rfl rfl h4) (by decide +kernel) (nI_1 _) rfl ?_
        refine zw_goto 42 f167_95 (by decide +kernel) ?_
        exact ih (k + 1) _ _ _ _ _ _ (KQ.b rfl K) (vL_out hr (by omega) (by omega)) (zl1_ne rfl rfl (zl2_ne rfl rfl h0)) (zl1_ne rfl rfl (zl2_ne rfl rfl h1)) (zl1_ne rfl rfl zl2_eq) zl1_eq (by omega) (by omega)
set_option maxRecDepth 100000 in
set_option maxHeartbeats 0 in
theorem lmm_put_5 (ro : UInt32 → Nat × (Nat → Int32)) (nv np : Nat) (PA : Nat → Nat → Int32) (W : qW) (L : qLog) (I : Nat → Nat → Int32) (G : Nat → Nat → Int64) (A : Nat → Nat → Int32) (B : Nat → Nat → Int64) (hR : mRS nv np PA W L I G A B) (m : Nat) (hm : m < 151) : ∀ (n k : Nat) (y : Int64) (ls : List (Nat × Value)), zld ls 0 = some (.ref 52) → zld ls 1 = some (.int (nI m)) → zld ls 2 = some (.long y) → zld ls 4 = some (.int (nI k)) → k ≤ 14 → 14 + 1 ≤ k + n → zWp ro 167 5 ls [] (hS I G A B) 0 0 (fun r h1 => ∃ I2 G2 A2 B2, h1 = hS I2 G2 A2 B2 ∧ KQ f0 p81 I G A B I2 G2 A2 B2 ∧ (B2 81 (11 * m + 8) = W.1 ∧ ∀ j, (j < 11 * m ∨ 11 * m + 11 ≤ j) → B2 81 j = B 81 j) ∧ r = none) := by
  intro n
  induction n with
  | zero =>
    intro k y ls _ _ _ _ a b
    exact absurd b (by omega)
  | succ n ih =>
    intro k y ls h0 h1 h2 h4 hk1 hk2
    refine zw_iload 7 f167_5 rfl h4 ?_
    refine zw_bipush 14 9 f167_7 rfl (by decide +kernel) ?_
    refine zw_ic_ge 12 39 f167_9 (by decide +kernel) rfl (fun hc1 => ?_) (fun hc1 => ?_)
    · have hn_hc1 : 14 ≤ k := zn_ge (by omega) (by omega) hc1
      refine zw_iconst 0 40 f167_39 rfl (by decide +kernel) ?_
      refine zw_istore _ 42 f167_40 rfl (by decide +kernel) rfl ?_
      exact lmm_put_42 ro nv np PA W L I G A B hR m hm 9 0 _ _ _ _ _ _ KQ.rf (fun j _ => rfl) (zl1_ne rfl rfl h0) (zl1_ne rfl rfl h1) (zl1_ne rfl rfl h2) zl1_eq (by omega) (by omega)
    · have hn_hc1 : k < 14 := zn_lt (by omega) (by omega) hc1
      refine zw_lload_n 13 f167_12 rfl h2 ?_
      refine zw_aload_n 14 f167_13 rfl h0 ?_
      refine zw_getfield 17 f167_14 rfl g167_48_12 (hb_52 _ _ _ _) rfl ?_
      refine zw_iload 19 f167_17 rfl h4 ?_
      refine zw_baload k (A 64 k) 20 f167_19 rfl (hb_64 _ _ _ _) (nI_clamp (by omega)) (nI_pos (by omega)) (by omega) rfl ?_
      refine zw_if_eq 23 30 f167_20 (by decide +kernel) rfl (fun hc2 => ?_) (fun hc2 => ?_)
      · refine zw_lconst 0 31 f167_30 rfl (by decide +kernel) ?_
        refine zw_lor (y ||| 0) 32 f167_31 rfl rfl ?_
        refine zw_lstore_n _ 33 f167_32 rfl (by decide +kernel) rfl ?_
        refine zw_iinc (nI (k + 1)) _ 36 f167_33 rfl (zl2_ne rfl rfl h4) (by decide +kernel) (nI_1 _) rfl ?_
        refine zw_goto 5 f167_36 (by decide +kernel) ?_
        exact ih (k + 1) _ _ (zl1_ne rfl rfl (zl2_ne rfl rfl h0)) (zl1_ne rfl rfl (zl2_ne rfl rfl h1)) (zl1_ne rfl rfl zl2_eq) zl1_eq (by omega) (by omega)
      · refine zw_lconst 1 24 f167_23 rfl (by decide +kernel) ?_
        refine zw_iload 26 f167_24 rfl h4 ?_
        refine zw_lshl (1 <<< (Int32.toInt64 (nI k) &&& 63)) 27 f167_26 rfl rfl ?_
        refine zw_goto 31 f167_27 (by decide +kernel) ?_
        refine zw_lor (y ||| (1 <<< (Int32.toInt64 (nI k) &&& 63))) 32 f167_31 rfl rfl ?_
        refine zw_lstore_n _ 33 f167_32 rfl (by decide +kernel) rfl ?_
        refine zw_iinc (nI (k + 1)) _ 36 f167_33 rfl (zl2_ne rfl rfl h4) (by decide +kernel) (nI_1 _) rfl ?_
        refine zw_goto 5 f167_36 (by decide +kernel) ?_
        exact ih (k + 1) _ _ (zl1_ne rfl rfl (zl2_ne rfl rfl h0)) (zl1_ne rfl rfl (zl2_ne rfl rfl h1)) (zl1_ne rfl rfl zl2_eq) zl1_eq (by omega) (by omega)
set_option maxRecDepth 100000 in
set_option maxHeartbeats 0 in
theorem mm_put (ro : UInt32 → Nat × (Nat → Int32)) (nv np : Nat) (PA : Nat → Nat → Int32) (W : qW) (L : qLog) (I : Nat → Nat → Int32) (G : Nat → Nat → Int64) (A : Nat → Nat → Int32) (B : Nat → Nat → Int64) (hR : mRS nv np PA W L I G A B) (m : Nat) (hm : m < 151) : zWp ro 167 0 [(0, .ref 52), (1, .int (nI m))] [] (hS I G A B) 0 0 (fun r h1 => ∃ I2 G2 A2 B2, h1 = hS I2 G2 A2 B2 ∧ KQ f0 p81 I G A B I2 G2 A2 B2 ∧ (B2 81 (11 * m + 8) = W.1 ∧ ∀ j, (j < 11 * m ∨ 11 * m + 11 ≤ j) → B2 81 j = B 81 j) ∧ r = none) := by
  refine zw_lconst 0 1 f167_0 rfl (by decide +kernel) ?_
  refine zw_lstore_n _ 2 f167_1 rfl (by decide +kernel) rfl ?_
  refine zw_iconst 0 3 f167_2 rfl (by decide +kernel) ?_
  refine zw_istore _ 5 f167_3 rfl (by decide +kernel) rfl ?_
  exact lmm_put_5 ro nv np PA W L I G A B hR m hm 15 0 _ _ (zl1_ne rfl rfl (zl2_ne rfl rfl rfl)) (zl1_ne rfl rfl (zl2_ne rfl rfl rfl)) (zl1_ne rfl rfl zl2_eq) zl1_eq (by omega) (by omega)
set_option maxRecDepth 100000 in
set_option maxHeartbeats 0 in
theorem lmm_isSame (ro : UInt32 → Nat × (Nat → Int32)) (I : Nat → Nat → Int32) (G : Nat → Nat → Int64) (A : Nat → Nat → Int32) (B : Nat → Nat → Int64) (i m : Nat) (hi : i < 151) (hm : m < 151) : ∀ (n k : Nat) (y : Int32) (ls : List (Nat × Value)), (y = 0 ∨ y = 1) → zld ls 0 = some (.ref 52) → zld ls 1 = some (.int (nI i)) → zld ls 2 = some (.int (nI m)) → zld ls 3 = some (.int y) → zld ls 4 = some (.int (nI k)) → k ≤ 8 → 8 + 1 ≤ k + n → zWp ro 168 37 ls [] (hS I G A B) 0 0 (fun r h1 => h1 = hS I G A B ∧ ∃ v : Int32, r = some (.int v) ∧ (v = 0 ∨ v = 1)) := by
  intro n
  induction n with
  | zero =>
    intro k y ls _ _ _ _ _ _ a b
    exact absurd b (by omega)
  | succ n ih =>
    intro k y ls hy h0 h1 h2 h3 h4 hk1 hk2
    refine zw_iload 39 f168_37 rfl h4 ?_
    refine zw_bipush 8 41 f168_39 rfl (by decide +kernel) ?_
    refine zw_ic_ge 44 114 f168_41 (by decide +kernel) rfl (fun hc1 => ?_) (fun hc1 => ?_)
    · have hn_hc1 : 8 ≤ k := zn_ge (by omega) (by omega) hc1
      refine zw_iload_n 115 f168_114 rfl h3 ?_
      refine zw_zreturn f168_115 r168 u168 hy ?_
      exact ⟨rfl, _, rfl, hy⟩
    · have hn_hc1 : k < 8 := zn_lt (by omega) (by omega) hc1
      refine zw_iload_n 45 f168_44 rfl h3 ?_
      refine zw_if_eq 48 106 f168_45 (by decide +kernel) rfl (fun hc2 => ?_) (fun hc2 => ?_)
      · refine zw_iconst 0 107 f168_106 rfl (by decide +kernel) ?_
        refine zw_istore_n _ 108 f168_107 rfl (by decide +kernel) rfl ?_
        refine zw_iinc (nI (k + 1)) _ 111 f168_108 rfl (zl1_ne rfl rfl h4) (by decide +kernel) (nI_1 _) rfl ?_
        refine zw_goto 37 f168_111 (by decide +kernel) ?_
        exact ih (k + 1) _ _ (by decide) (zl1_ne rfl rfl (zl1_ne rfl rfl h0)) (zl1_ne rfl rfl (zl1_ne rfl rfl h1)) (zl1_ne rfl rfl (zl1_ne rfl rfl h2)) (zl1_ne rfl rfl zl1_eq) zl1_eq (by omega) (by omega)
      · refine zw_aload_n 49 f168_48 rfl h0 ?_
        refine zw_getfield 52 f168_49 rfl g168_108_12 (hb_52 _ _ _ _) rfl ?_
        refine zw_bipush 11 54 f168_52 rfl (by decide +kernel) ?_
        refine zw_iload_n 55 f168_54 rfl h1 ?_
        refine zw_imul (nI (11 * i)) 56 f168_55 rfl (nI_mulL 11 _) ?_
        refine zw_iload 58 f168_56 rfl h4 ?_
        refine zw_iadd (nI ((11 * i) + k)) 59 f168_58 rfl (nI_add _ _) ?_
        refine zw_laload (((11 * i) + k)) (B 81 (((11 * i) + k))) 60 f168_59 rfl (hb_81 _ _ _ _) (nI_clamp (by omega)) (nI_pos (by omega)) (by omega) rfl ?_
        refine zw_aload_n 61 f168_60 rfl h0 ?_
        refine zw_getfield 64 f168_61 rfl g168_108_12 (hb_52 _ _ _ _) rfl ?_
        refine zw_bipush 11 66 f168_64 rfl (by decide +kernel) ?_
        refine zw_iload_n 67 f168_66 rfl h2 ?_
        refine zw_imul (nI (11 * m)) 68 f168_67 rfl (nI_mulL 11 _) ?_
        refine zw_bipush 8 70 f168_68 rfl (by decide +kernel) ?_
        refine zw_iadd (nI ((11 * m) + 8)) 71 f168_70 rfl (nI_add _ 8) ?_
        refine zw_laload (((11 * m) + 8)) (B 81 (((11 * m) + 8))) 72 f168_71 rfl (hb_81 _ _ _ _) (nI_clamp (by omega)) (nI_pos (by omega)) (by omega) rfl ?_
        refine zw_lmul ((B 81 (((11 * i) + k))) * (B 81 (((11 * m) + 8)))) 73 f168_72 rfl rfl ?_
        refine zw_aload_n 74 f168_73 rfl h0 ?_
        refine zw_getfield 77 f168_74 rfl g168_108_12 (hb_52 _ _ _ _) rfl ?_
        refine zw_bipush 11 79 f168_77 rfl (by decide +kernel) ?_
        refine zw_iload_n 80 f168_79 rfl h2 ?_
        refine zw_imul (nI (11 * m)) 81 f168_80 rfl (nI_mulL 11 _) ?_
        refine zw_iload 83 f168_81 rfl h4 ?_
        refine zw_iadd (nI ((11 * m) + k)) 84 f168_83 rfl (nI_add _ _) ?_
        refine zw_laload (((11 * m) + k)) (B 81 (((11 * m) + k))) 85 f168_84 rfl (hb_81 _ _ _ _) (nI_clamp (by omega)) (nI_pos (by omega)) (by omega) rfl ?_
        refine zw_aload_n 86 f168_85 rfl h0 ?_
        refine zw_getfield 89 f168_86 rfl g168_108_12 (hb_52 _ _ _ _) rfl ?_
        refine zw_bipush 11 91 f168_89 rfl (by decide +kernel) ?_
        refine zw_iload_n 92 f168_91 rfl h1 ?_
        refine zw_imul (nI (11 * i)) 93 f168_92 rfl (nI_mulL 11 _) ?_
        refine zw_bipush 8 95 f168_93 rfl (by decide +kernel) ?_
        refine zw_iadd (nI ((11 * i) + 8)) 96 f168_95 rfl (nI_add _ 8) ?_
        refine zw_laload (((11 * i) + 8)) (B 81 (((11 * i) + 8))) 97 f168_96 rfl (hb_81 _ _ _ _) (nI_clamp (by omega)) (nI_pos (by omega)) (by omega) rfl ?_
        refine zw_lmul ((B 81 (((11 * m) + k))) * (B 81 (((11 * i) + 8)))) 98 f168_97 rfl rfl ?_
        refine zw_lcmp (lg_cmp ((B 81 (((11 * i) + k))) * (B 81 (((11 * m) + 8)))) ((B 81 (((11 * m) + k))) * (B 81 (((11 * i) + 8))))) 99 f168_98 rfl rfl ?_
        refine zw_if_ne 102 106 f168_99 (by decide +kernel) rfl (fun hc3 => ?_) (fun hc3 => ?_)
        · refine zw_iconst 0 107 f168_106 rfl (by decide +kernel) ?_
          refine zw_istore_n _ 108 f168_107 rfl (by decide +kernel) rfl ?_
          refine zw_iinc (nI (k + 1)) _ 111 f168_108 rfl (zl1_ne rfl rfl h4) (by decide +kernel) (nI_1 _) rfl ?_
          refine zw_goto 37 f168_111 (by decide +kernel) ?_
          exact ih (k + 1) _ _ (by decide) (zl1_ne rfl rfl (zl1_ne rfl rfl h0)) (zl1_ne rfl rfl (zl1_ne rfl rfl h1)) (zl1_ne rfl rfl (zl1_ne rfl rfl h2)) (zl1_ne rfl rfl zl1_eq) zl1_eq (by omega) (by omega)
        · refine zw_iconst 1 103 f168_102 rfl (by decide +kernel) ?_
          refine zw_goto 107 f168_103 (by decide +kernel) ?_
          refine zw_istore_n _ 108 f168_107 rfl (by decide +kernel) rfl ?_
          refine zw_iinc (nI (k + 1)) _ 111 f168_108 rfl (zl1_ne rfl rfl h4) (by decide +kernel) (nI_1 _) rfl ?_
          refine zw_goto 37 f168_111 (by decide +kernel) ?_
          exact ih (k + 1) _ _ (by decide) (zl1_ne rfl rfl (zl1_ne rfl rfl h0)) (zl1_ne rfl rfl (zl1_ne rfl rfl h1)) (zl1_ne rfl rfl (zl1_ne rfl rfl h2)) (zl1_ne rfl rfl zl1_eq) zl1_eq (by omega) (by omega)
set_option maxRecDepth 100000 in
set_option maxHeartbeats 0 in
theorem mm_isSame (ro : UInt32 → Nat × (Nat → Int32)) (I : Nat → Nat → Int32) (G : Nat → Nat → Int64) (A : Nat → Nat → Int32) (B : Nat → Nat → Int64) (i m : Nat) (hi : i < 151) (hm : m < 151) : zWp ro 168 0 [(0, .ref 52), (1, .int (nI i)), (2, .int (nI m))] [] (hS I G A B) 0 0 (fun r h1 => h1 = hS I G A B ∧ ∃ v : Int32, r = some (.int v) ∧ (v = 0 ∨ v = 1)) := by
  refine zw_aload_n 1 f168_0 rfl rfl ?_
  refine zw_getfield 4 f168_1 rfl g168_108_12 (hb_52 _ _ _ _) rfl ?_
  refine zw_bipush 11 6 f168_4 rfl (by decide +kernel) ?_
  refine zw_iload_n 7 f168_6 rfl rfl ?_
  refine zw_imul (nI (11 * i)) 8 f168_7 rfl (nI_mulL 11 _) ?_
  refine zw_bipush 10 10 f168_8 rfl (by decide +kernel) ?_
  refine zw_iadd (nI ((11 * i) + 10)) 11 f168_10 rfl (nI_add _ 10) ?_
  refine zw_laload (((11 * i) + 10)) (B 81 (((11 * i) + 10))) 12 f168_11 rfl (hb_81 _ _ _ _) (nI_clamp (by omega)) (nI_pos (by omega)) (by omega) rfl ?_
  refine zw_aload_n 13 f168_12 rfl rfl ?_
  refine zw_getfield 16 f168_13 rfl g168_108_12 (hb_52 _ _ _ _) rfl ?_
  refine zw_bipush 11 18 f168_16 rfl (by decide +kernel) ?_
  refine zw_iload_n 19 f168_18 rfl rfl ?_
  refine zw_imul (nI (11 * m)) 20 f168_19 rfl (nI_mulL 11 _) ?_
  refine zw_bipush 10 22 f168_20 rfl (by decide +kernel) ?_
  refine zw_iadd (nI ((11 * m) + 10)) 23 f168_22 rfl (nI_add _ 10) ?_
  refine zw_laload (((11 * m) + 10)) (B 81 (((11 * m) + 10))) 24 f168_23 rfl (hb_81 _ _ _ _) (nI_clamp (by omega)) (nI_pos (by omega)) (by omega) rfl ?_
  refine zw_lcmp (lg_cmp (B 81 (((11 * i) + 10))) (B 81 (((11 * m) + 10)))) 25 f168_24 rfl rfl ?_
  refine zw_if_ne 28 32 f168_25 (by decide +kernel) rfl (fun hc1 => ?_) (fun hc1 => ?_)
  · refine zw_iconst 0 33 f168_32 rfl (by decide +kernel) ?_
    refine zw_istore_n _ 34 f168_33 rfl (by decide +kernel) rfl ?_
    refine zw_iconst 0 35 f168_34 rfl (by decide +kernel) ?_
    refine zw_istore _ 37 f168_35 rfl (by decide +kernel) rfl ?_
    exact lmm_isSame ro I G A B i m hi hm 9 0 _ _ (by decide) (zl1_ne rfl rfl (zl1_ne rfl rfl rfl)) (zl1_ne rfl rfl (zl1_ne rfl rfl rfl)) (zl1_ne rfl rfl (zl1_ne rfl rfl rfl)) (zl1_ne rfl rfl zl1_eq) zl1_eq (by omega) (by omega)
  · refine zw_iconst 1 29 f168_28 rfl (by decide +kernel) ?_
    refine zw_goto 33 f168_29 (by decide +kernel) ?_
    refine zw_istore_n _ 34 f168_33 rfl (by decide +kernel) rfl ?_
    refine zw_iconst 0 35 f168_34 rfl (by decide +kernel) ?_
    refine zw_istore _ 37 f168_35 rfl (by decide +kernel) rfl ?_
    exact lmm_isSame ro I G A B i m hi hm 9 0 _ _ (by decide) (zl1_ne rfl rfl (zl1_ne rfl rfl rfl)) (zl1_ne rfl rfl (zl1_ne rfl rfl rfl)) (zl1_ne rfl rfl (zl1_ne rfl rfl rfl)) (zl1_ne rfl rfl zl1_eq) zl1_eq (by omega) (by omega)
set_option maxRecDepth 100000 in
set_option maxHeartbeats 0 in
theorem lmm_sr_45 (ro : UInt32 → Nat × (Nat → Int32)) (nv np : Nat) (PA : Nat → Nat → Int32) (W : qW) (L : qLog) (I : Nat → Nat → Int32) (G : Nat → Nat → Int64) (A : Nat → Nat → Int32) (B : Nat → Nat → Int64) (K : Int) (hR : mRS nv np PA W L I G A B) (hp : MPa nv np PA) (hW : wInv nv 10000 K PA W) (hK0 : 0 ≤ K) (hK : K ≤ 199000000) (hn : L.1 < 900000000) (hrec : I 52 22 = 0) (k n : Nat) (hk1 : 1 ≤ k ∧ k + (n + 1) = 151) (ihn : ∀ (k : Nat) (ls : List (Nat × Value)) (I1 : Nat → Nat → Int32) (G1 : Nat → Nat → Int64) (A1 : Nat → Nat → Int32) (B1 : Nat → Nat → Int64) (W1 : qW) (L1 : qLog), KQ fRd pRd I G A B I1 G1 A1 B1 → mRS nv np PA W1 L1 I1 G1 A1 B1 → wInv nv (9800 + 200 * k) (K + 1600 * k) PA W1 → L1.1 ≤ L.1 + 24 * k → qArr L L1 → qGr B1 k → zld ls 0 = some (.ref 52) → zld ls 1 = some (.int (nI k)) → 1 ≤ k → k + n = 151 → zWp ro 169 7 ls [] (hS I1 G1 A1 B1) 0 0 (fun r h1 => ∃ I2 G2 A2 B2, h1 = hS I2 G2 A2 B2 ∧ KQ fRd pRd I G A B I2 G2 A2 B2 ∧ (∃ W2 L2, mRS nv np PA W2 L2 I2 G2 A2 B2 ∧ wInv nv 40000 (K + 242000) PA W2 ∧ qArr L L2) ∧ ∃ v : Int32, r = some (.int v) ∧ (v = 1 → ∃ a b : Nat, a < 151 ∧ b < 151 ∧ I2 52 53 = nI a ∧ I2 52 54 = nI b ∧ (1 ≤ (B2 81 (11 * a + 8)).toInt ∧ (B2 81 (11 * a + 8)).toInt ≤ 10000) ∧ (1 ≤ (B2 81 (11 * b + 8)).toInt ∧ (B2 81 (11 * b + 8)).toInt ≤ 10000)))) : ∀ (q i : Nat) (ls : List (Nat × Value)) (I1 : Nat → Nat → Int32) (G1 : Nat → Nat → Int64) (A1 : Nat → Nat → Int32) (B1 : Nat → Nat → Int64) (W1 : qW) (L1 : qLog), KQ fRd pRd I G A B I1 G1 A1 B1 → mRS nv np PA W1 L1 I1 G1 A1 B1 → wInv nv (9800 + 200 * (k + 1 : Nat)) (K + 1600 * (k + 1 : Nat)) PA W1 → L1.1 ≤ L.1 + 24 * (k + 1) → qArr L L1 → qGr B1 (k + 1) → zld ls 0 = some (.ref 52) → zld ls 1 = some (.int (nI k)) → zld ls 3 = some (.int (nI i)) → i ≤ k → k + 1 ≤ i + q → k < 151 → zWp ro 169 45 ls [] (hS I1 G1 A1 B1) 0 0 (fun r h1 => ∃ I2 G2 A2 B2, h1 = hS I2 G2 A2 B2 ∧ KQ fRd pRd I G A B I2 G2 A2 B2 ∧ (∃ W2 L2, mRS nv np PA W2 L2 I2 G2 A2 B2 ∧ wInv nv 40000 (K + 242000) PA W2 ∧ qArr L L2) ∧ ∃ v : Int32, r = some (.int v) ∧ (v = 1 → ∃ a b : Nat, a < 151 ∧ b < 151 ∧ I2 52 53 = nI a ∧ I2 52 54 = nI b ∧ (1 ≤ (B2 81 (11 * a + 8)).toInt ∧ (B2 81 (11 * a + 8)).toInt ≤ 10000) ∧ (1 ≤ (B2 81 (11 * b + 8)).toInt ∧ (B2 81 (11 * b + 8)).toInt ≤ 10000))) := by
  intro q
  induction q with
  | zero =>
    intro i ls I1 G1 A1 B1 W1 L1 _ _ _ _ _ _ _ _ _ a b
    exact absurd b (by omega)
  | succ q ih =>
    intro i ls I1 G1 A1 B1 W1 L1 KK R1 hJ2 hl2 ha2 hG2 h0 h1 h3 hi1 hi2 hkn
    refine zw_iload_n 46 f169_45 rfl h3 ?_
    refine zw_iload_n 47 f169_46 rfl h1 ?_
    refine zw_ic_ge 50 77 f169_47 (by decide +kernel) rfl (fun hc1 => ?_) (fun hc1 => ?_)
    · have hn_hc1 : k ≤ i := zn_ge (by omega) (by omega) hc1
      refine zw_iinc (nI (k + 1)) _ 80 f169_77 rfl h1 (by decide +kernel) (nI_1 _) rfl ?_
      refine zw_goto 7 f169_80 (by decide +kernel) ?_
      exact ihn (k + 1) _ _ _ _ _ _ _ KK R1 hJ2 hl2 ha2 hG2 (zl1_ne rfl rfl h0) zl1_eq (by omega) (by omega)
    · have hn_hc1 : i < k := zn_lt (by omega) (by omega) hc1
      refine zw_aload_n 51 f169_50 rfl h0 ?_
      refine zw_iload_n 52 f169_51 rfl h3 ?_
      refine zw_iload_n 53 f169_52 rfl h1 ?_
      refine zw_virtual_i 56 0 0 [.ref 52, .int (nI i), .int (nI k)] [(0, .ref 52), (1, .int (nI i)), (2, .int (nI k))] f169_53 rfl n169_269 k169_269_12 rfl (hb_52 _ _ _ _) (by decide +kernel) (Nat.le_of_ble_eq_true rfl) rfl rfl (by decide +kernel) (by decide +kernel) rfl (Nat.le_of_ble_eq_true rfl) rfl ?_
      refine zWp.mono (mm_isSame ro _ _ _ _ i k (by omega) (by omega)) ?_
      rintro r h1 ⟨rfl, v2, rfl, hv2⟩
      refine ⟨_, rfl, ?_⟩
      refine zw_if_eq 59 71 f169_56 (by decide +kernel) rfl (fun hc3 => ?_) (fun hc3 => ?_)
      · refine zw_iinc (nI (i + 1)) _ 74 f169_71 rfl h3 (by decide +kernel) (nI_1 _) rfl ?_
        refine zw_goto 45 f169_74 (by decide +kernel) ?_
        exact ih (i + 1) _ _ _ _ _ _ _ KK R1 hJ2 hl2 ha2 hG2 (zl1_ne rfl rfl h0) (zl1_ne rfl rfl h1) zl1_eq (by omega) (by omega) hkn
      · refine zw_aload_n 60 f169_59 rfl h0 ?_
        refine zw_iload_n 61 f169_60 rfl h3 ?_
        refine zw_put _ 64 f169_61 rfl g169_272_12 (hb_52 _ _ _ _) rfl (Nat.le_of_ble_eq_true rfl) (by decide +kernel) (hi_52_53 _ _ _ _ _) ?_
        refine zw_aload_n 65 f169_64 rfl h0 ?_
        refine zw_iload_n 66 f169_65 rfl h1 ?_
        refine zw_put _ 69 f169_66 rfl g169_275_12 (hb_52 _ _ _ _) rfl (Nat.le_of_ble_eq_true rfl) (by decide +kernel) (hi_52_54 _ _ _ _ _) ?_
        refine zw_iconst 1 70 f169_69 rfl (by decide +kernel) ?_
        refine zw_ireturn f169_70 r169 u169 ?_
        refine ⟨_, _, _, _, rfl, (KQ.i rfl (KQ.i rfl KK)), ⟨_, _, R1.k (pf := fun k j => decide (k = 52 ∧ (j = 53 ∨ j = 54))) (pa := fun _ => false) (KQ.i rfl (KQ.i rfl KQ.rf)) (by intro j h; simp only [decide_eq_false_iff_not]; omega) (fun _ _ _ => rfl), hJ2.mo (by omega) (by omega), ha2⟩, _, rfl, fun _ => ⟨i, k, by omega, by omega, rfl, rfl, hG2 i (by omega), hG2 k (by omega)⟩⟩
set_option maxRecDepth 100000 in
set_option maxHeartbeats 0 in
theorem lmm_sr_7 (ro : UInt32 → Nat × (Nat → Int32)) (nv np : Nat) (PA : Nat → Nat → Int32) (W : qW) (L : qLog) (I : Nat → Nat → Int32) (G : Nat → Nat → Int64) (A : Nat → Nat → Int32) (B : Nat → Nat → Int64) (K : Int) (hR : mRS nv np PA W L I G A B) (hp : MPa nv np PA) (hW : wInv nv 10000 K PA W) (hK0 : 0 ≤ K) (hK : K ≤ 199000000) (hn : L.1 < 900000000) (hrec : I 52 22 = 0) : ∀ (n : Nat), ∀ (k : Nat) (ls : List (Nat × Value)) (I1 : Nat → Nat → Int32) (G1 : Nat → Nat → Int64) (A1 : Nat → Nat → Int32) (B1 : Nat → Nat → Int64) (W1 : qW) (L1 : qLog), KQ fRd pRd I G A B I1 G1 A1 B1 → mRS nv np PA W1 L1 I1 G1 A1 B1 → wInv nv (9800 + 200 * k) (K + 1600 * k) PA W1 → L1.1 ≤ L.1 + 24 * k → qArr L L1 → qGr B1 k → zld ls 0 = some (.ref 52) → zld ls 1 = some (.int (nI k)) → 1 ≤ k → k + n = 151 → zWp ro 169 7 ls [] (hS I1 G1 A1 B1) 0 0 (fun r h1 => ∃ I2 G2 A2 B2, h1 = hS I2 G2 A2 B2 ∧ KQ fRd pRd I G A B I2 G2 A2 B2 ∧ (∃ W2 L2, mRS nv np PA W2 L2 I2 G2 A2 B2 ∧ wInv nv 40000 (K + 242000) PA W2 ∧ qArr L L2) ∧ ∃ v : Int32, r = some (.int v) ∧ (v = 1 → ∃ a b : Nat, a < 151 ∧ b < 151 ∧ I2 52 53 = nI a ∧ I2 52 54 = nI b ∧ (1 ≤ (B2 81 (11 * a + 8)).toInt ∧ (B2 81 (11 * a + 8)).toInt ≤ 10000) ∧ (1 ≤ (B2 81 (11 * b + 8)).toInt ∧ (B2 81 (11 * b + 8)).toInt ≤ 10000))) := by
  intro n
  induction n with
  | zero =>
    intro k ls I1 G1 A1 B1 W1 L1 KK R1 hJ hl ha hG h0 h1 hk1 hk
    refine zw_iload_n 8 f169_7 rfl h1 ?_
    refine zw_sipush 150 11 f169_8 rfl (by decide +kernel) ?_
    refine zw_ic_gt_t 83 f169_11 (by decide +kernel) (by rw [show k = 151 by omega]; exact nI_150g) ?_
    refine zw_bipush (-2) 85 f169_83 rfl (by decide +kernel) ?_
    refine zw_ireturn f169_85 r169 u169 ?_
    exact ⟨_, _, _, _, rfl, KK, ⟨_, _, R1, hJ.mo (by omega) (by omega), ha⟩, _, rfl, fun z => absurd z (by decide)⟩
  | succ n ih =>
    intro k ls I1 G1 A1 B1 W1 L1 KK R1 hJ hl ha hG h0 h1 hk1 hk
    refine zw_iload_n 8 f169_7 rfl h1 ?_
    refine zw_sipush 150 11 f169_8 rfl (by decide +kernel) ?_
    refine zw_ic_gt_f 14 83 f169_11 (by decide +kernel) rfl (nI_n150g (by omega)) ?_
    refine zw_aload_n 15 f169_14 rfl h0 ?_
    refine zw_ldc2_w 100000000 18 f169_15 rfl (by decide +kernel) ?_
    refine zw_virtual_i 21 0 0 [.ref 52, .long 100000000] [(0, .ref 52), (1, .long 100000000)] f169_18 rfl n169_235 k169_235_12 rfl (hb_52 _ _ _ _) (by decide +kernel) (Nat.le_of_ble_eq_true rfl) rfl rfl (by decide +kernel) (by decide +kernel) rfl (Nat.le_of_ble_eq_true rfl) rfl ?_
    refine zWp.mono (mm_step ro nv np PA W1 L1 _ _ _ _ (9800 + 200 * k) (9800 + 200 * (k + 1)) (K + 1600 * k) 100000000 R1 hp hJ (by omega) (by omega) (by omega) (by omega) (Or.inl (by omega)) (by omega)) ?_
    rintro r h1 ⟨I_1, G_1, A_1, B_1, rfl, K_1, R_1, rfl⟩
    rw [(KK.1 52 22 rfl), (KK.1 52 41 rfl)] at R_1
    rcases wStep_inv (u := 100000000) hp hJ (by omega) (T2 := 9800 + 200 * (k + 1)) (by omega) (by omega) (by omega) (Or.inl (by omega)) with (E | E) | ⟨e1, e2, e3⟩
    · rw [E] at R_1
      refine ⟨0, by rw [E], ?_⟩
      have Hs_1 : qGr B_1 k := by intro i hi; rw [K_1.2.2.2 81 rfl]; exact hG i hi
      refine zw_istore_n _ 22 f169_21 rfl (by decide +kernel) rfl ?_
      refine zw_iload_n 23 f169_22 rfl zl1_eq ?_
      refine zw_iconst 1 24 f169_23 rfl (by decide +kernel) ?_
      refine zw_ic_eq_f 27 38 f169_24 (by decide +kernel) rfl (by decide +kernel) ?_
      refine zw_iload_n 28 f169_27 rfl zl1_eq ?_
      refine zw_if_ne_f 31 35 f169_28 (by decide +kernel) rfl (by decide +kernel) ?_
      refine zw_iconst 0 32 f169_31 rfl (by decide +kernel) ?_
      refine zw_goto 37 f169_32 (by decide +kernel) ?_
      refine zw_ireturn f169_37 r169 u169 ?_
      exact ⟨_, _, _, _, rfl, (KQ.tr KK (KQ.wk K_1 fSt_Rd pSt_Rd)), ⟨_, _, R_1, hJ.mo (by omega) (by omega), ha⟩, _, rfl, fun z => absurd z (by decide)⟩
    · rw [E] at R_1
      refine ⟨(-1), by rw [E], ?_⟩
      have Hs_1 : qGr B_1 k := by intro i hi; rw [K_1.2.2.2 81 rfl]; exact hG i hi
      refine zw_istore_n _ 22 f169_21 rfl (by decide +kernel) rfl ?_
      refine zw_iload_n 23 f169_22 rfl zl1_eq ?_
      refine zw_iconst 1 24 f169_23 rfl (by decide +kernel) ?_
      refine zw_ic_eq_f 27 38 f169_24 (by decide +kernel) rfl (by decide +kernel) ?_
      refine zw_iload_n 28 f169_27 rfl zl1_eq ?_
      refine zw_if_ne_t 35 f169_28 (by decide +kernel) (by decide +kernel) ?_
      refine zw_bipush (-2) 37 f169_35 rfl (by decide +kernel) ?_
      refine zw_ireturn f169_37 r169 u169 ?_
      exact ⟨_, _, _, _, rfl, (KQ.tr KK (KQ.wk K_1 fSt_Rd pSt_Rd)), ⟨_, _, R_1, hJ.mo (by omega) (by omega), ha⟩, _, rfl, fun z => absurd z (by decide)⟩
    · refine ⟨1, by rw [e1], ?_⟩
      have Hs_1 : qGr B_1 k := by intro i hi; rw [K_1.2.2.2 81 rfl]; exact hG i hi
      refine zw_istore_n _ 22 f169_21 rfl (by decide +kernel) rfl ?_
      refine zw_iload_n 23 f169_22 rfl zl1_eq ?_
      refine zw_iconst 1 24 f169_23 rfl (by decide +kernel) ?_
      refine zw_ic_eq_t 38 f169_24 (by decide +kernel) (by decide +kernel) ?_
      refine zw_aload_n 39 f169_38 rfl (zl1_ne rfl rfl h0) ?_
      refine zw_iload_n 40 f169_39 rfl (zl1_ne rfl rfl h1) ?_
      refine zw_virtual_v 43 0 0 [.ref 52, .int (nI k)] [(0, .ref 52), (1, .int (nI k))] f169_40 rfl n169_264 k169_264_12 rfl (hb_52 _ _ _ _) (by decide +kernel) (Nat.le_of_ble_eq_true rfl) rfl rfl (by decide +kernel) (by decide +kernel) rfl (Nat.le_of_ble_eq_true rfl) rfl ?_
      refine zWp.mono (mm_put ro nv np PA (wStep nv np PA 100000000 W1).2.1 (qNotes (I 52 22) (wStep nv np PA 100000000 W1).2.2.1 (wStep nv np PA 100000000 W1).2.2.2.1 (I 52 41) L1 (wStep nv np PA 100000000 W1).2.2.2.2) _ _ _ _ R_1 k (by omega)) ?_
      rintro r h1 ⟨I_2, G_2, A_2, B_2, rfl, K_2, ⟨x_2, y_2⟩, rfl⟩
      refine ⟨rfl, ?_⟩
      have R_2 := R_1.k K_2 f0_R p81_R
      have H_2 := qGr.put (m := k) Hs_1 e2.1.1.1 x_2 y_2
      refine zw_iconst 0 44 f169_43 rfl (by decide +kernel) ?_
      refine zw_istore_n _ 45 f169_44 rfl (by decide +kernel) rfl ?_
      refine lmm_sr_45 ro nv np PA W L I G A B K hR hp hW hK0 hK hn hrec k n (by omega) ih (k + 1) 0 _ _ _ _ _ _ _ (KQ.tr (KQ.tr KK (KQ.wk K_1 fSt_Rd pSt_Rd)) (KQ.wk K_2 f0_x p81_Rd)) R_2 (e2.mo (by omega) (by omega)) (by rw [qNotes_1]; omega) (ha.tr (by rw [hrec]; exact qNotes_0 _)) H_2 (zl1_ne rfl rfl (zl1_ne rfl rfl h0)) (zl1_ne rfl rfl (zl1_ne rfl rfl h1)) zl1_eq (by omega) (by omega) (by omega)
set_option maxRecDepth 100000 in
set_option maxHeartbeats 0 in
theorem mm_seekRound (ro : UInt32 → Nat × (Nat → Int32)) (nv np : Nat) (PA : Nat → Nat → Int32) (W : qW) (L : qLog) (I : Nat → Nat → Int32) (G : Nat → Nat → Int64) (A : Nat → Nat → Int32) (B : Nat → Nat → Int64) (K : Int) (hR : mRS nv np PA W L I G A B) (hp : MPa nv np PA) (hW : wInv nv 10000 K PA W) (hK0 : 0 ≤ K) (hK : K ≤ 199000000) (hn : L.1 < 900000000) (hrec : I 52 22 = 0) : zWp ro 169 0 [(0, .ref 52)] [] (hS I G A B) 0 0 (fun r h1 => ∃ I2 G2 A2 B2, h1 = hS I2 G2 A2 B2 ∧ KQ fRd pRd I G A B I2 G2 A2 B2 ∧ (∃ W2 L2, mRS nv np PA W2 L2 I2 G2 A2 B2 ∧ wInv nv 40000 (K + 242000) PA W2 ∧ qArr L L2) ∧ ∃ v : Int32, r = some (.int v) ∧ (v = 1 → ∃ a b : Nat, a < 151 ∧ b < 151 ∧ I2 52 53 = nI a ∧ I2 52 54 = nI b ∧ (1 ≤ (B2 81 (11 * a + 8)).toInt ∧ (B2 81 (11 * a + 8)).toInt ≤ 10000) ∧ (1 ≤ (B2 81 (11 * b + 8)).toInt ∧ (B2 81 (11 * b + 8)).toInt ≤ 10000))) := by
  refine zw_aload_n 1 f169_0 rfl rfl ?_
  refine zw_iconst 0 2 f169_1 rfl (by decide +kernel) ?_
  refine zw_virtual_v 5 0 0 [.ref 52, .int 0] [(0, .ref 52), (1, .int 0)] f169_2 rfl n169_264 k169_264_12 rfl (hb_52 _ _ _ _) (by decide +kernel) (Nat.le_of_ble_eq_true rfl) rfl rfl (by decide +kernel) (by decide +kernel) rfl (Nat.le_of_ble_eq_true rfl) rfl ?_
  refine zWp.mono (mm_put ro nv np PA W L _ _ _ _ hR 0 (by omega)) ?_
  rintro r h1 ⟨I_1, G_1, A_1, B_1, rfl, K_1, ⟨x_1, y_1⟩, rfl⟩
  refine ⟨rfl, ?_⟩
  have R_1 := hR.k K_1 f0_R p81_R
  have H_1 := qGr.put (m := 0) (fun i hi => absurd hi (by omega)) hW.1.1.1 x_1 y_1
  refine zw_iconst 1 6 f169_5 rfl (by decide +kernel) ?_
  refine zw_istore_n _ 7 f169_6 rfl (by decide +kernel) rfl ?_
  exact lmm_sr_7 ro nv np PA W L I G A B K hR hp hW hK0 hK hn hrec 150 1 _ _ _ _ _ W L (KQ.tr KQ.rf (KQ.wk K_1 f0_x p81_Rd)) R_1 (hW.mo (by omega) (by omega)) (by omega) qArr.rf H_1 (zl1_ne rfl rfl rfl) zl1_eq (by omega) rfl
set_option maxRecDepth 100000 in
set_option maxHeartbeats 0 in
theorem mm_round (ro : UInt32 → Nat × (Nat → Int32)) (nv np : Nat) (PA : Nat → Nat → Int32) (W : qW) (L : qLog) (I : Nat → Nat → Int32) (G : Nat → Nat → Int64) (A : Nat → Nat → Int32) (B : Nat → Nat → Int64) (K : Int) (a : Int32) (hR : mRS nv np PA W L I G A B) (hp : MPa nv np PA) (hW : wInv nv 10000 K PA W) (hK0 : 0 ≤ K) (hK : K ≤ 198000000) (hn : L.1 < 900000000) (hrec : I 52 22 = 1) : zWp ro 170 0 [(0, .ref 52), (1, .int a)] [] (hS I G A B) 0 0 (fun r h1 => ∃ I2 G2 A2 B2, h1 = hS I2 G2 A2 B2 ∧ KQ fRo pRo I G A B I2 G2 A2 B2 ∧ (∃ L2, mRS nv np PA W L2 I2 G2 A2 B2 ∧ qArr L L2 ∧ L2.1 = L.1) ∧ I2 52 22 = 1 ∧ ∃ v : Int32, r = some (.int v)) := by
  refine zw_iload_n 1 f170_0 rfl rfl ?_
  refine zw_iconst 0 2 f170_1 rfl (by decide +kernel) ?_
  refine zw_iconst 4 3 f170_2 rfl (by decide +kernel) ?_
  refine zw_static_i 6 0 0 [.int a, .int 0, .int 4] [] [(0, .int a), (1, .int 0), (2, .int 4)] f170_3 rfl k170_117_99 rfl (by decide +kernel) (Nat.le_of_ble_eq_true rfl) (Nat.le_of_ble_eq_true rfl) rfl rfl (by decide +kernel) (by decide +kernel) rfl (Nat.le_of_ble_eq_true rfl) rfl ?_
  refine zw_iload_n 1 f120_0 rfl rfl ?_
  refine zw_iload_n 2 f120_1 rfl rfl ?_
  refine zw_ic_lt 5 14 f120_2 (by decide +kernel) rfl (fun hc1 => ?_) (fun hc1 => ?_)
  · refine zw_iconst 0 15 f120_14 rfl (by decide +kernel) ?_
    refine zw_zreturn f120_15 r120 u120 (by decide +kernel) ⟨_, rfl, ?_⟩
    refine zw_if_ne_f 9 11 f170_6 (by decide +kernel) rfl (by decide +kernel) ?_
    refine zw_iconst (-1) 10 f170_9 rfl (by decide +kernel) ?_
    refine zw_ireturn f170_10 r170 u170 ?_
    exact ⟨_, _, _, _, rfl, KQ.rf, ⟨L, hR, qArr.rf, rfl⟩, hrec, _, rfl⟩
  · refine zw_iload_n 6 f120_5 rfl rfl ?_
    refine zw_iload_n 7 f120_6 rfl rfl ?_
    refine zw_ic_gt 10 14 f120_7 (by decide +kernel) rfl (fun hc2 => ?_) (fun hc2 => ?_)
    · refine zw_iconst 0 15 f120_14 rfl (by decide +kernel) ?_
      refine zw_zreturn f120_15 r120 u120 (by decide +kernel) ⟨_, rfl, ?_⟩
      refine zw_if_ne_f 9 11 f170_6 (by decide +kernel) rfl (by decide +kernel) ?_
      refine zw_iconst (-1) 10 f170_9 rfl (by decide +kernel) ?_
      refine zw_ireturn f170_10 r170 u170 ?_
      exact ⟨_, _, _, _, rfl, KQ.rf, ⟨L, hR, qArr.rf, rfl⟩, hrec, _, rfl⟩
    · refine zw_iconst 1 11 f120_10 rfl (by decide +kernel) ?_
      refine zw_goto 15 f120_11 (by decide +kernel) ?_
      refine zw_zreturn f120_15 r120 u120 (by decide +kernel) ⟨_, rfl, ?_⟩
      refine zw_if_ne_t 11 f170_6 (by decide +kernel) (by decide +kernel) ?_
      refine zw_aload_n 12 f170_11 rfl rfl ?_
      refine zw_virtual_v 15 0 0 [.ref 52] [(0, .ref 52)] f170_12 rfl n170_278 k170_278_12 rfl (hb_52 _ _ _ _) (by decide +kernel) (Nat.le_of_ble_eq_true rfl) rfl rfl (by decide +kernel) (by decide +kernel) rfl (Nat.le_of_ble_eq_true rfl) rfl ?_
      refine zWp.mono (mm_keep ro nv np PA W L _ _ _ _ hR hW.2.1) ?_
      rintro r h1 ⟨I_k, G_k, A_k, B_k, rfl, K_k, Q_k, C_k, rfl⟩
      refine ⟨rfl, ?_⟩
      have R_k := hR.k K_k fKp_R pKp_R
      refine zw_aload_n 16 f170_15 rfl rfl ?_
      refine zw_virtual_i 19 0 0 [.ref 52] [(0, .ref 52)] f170_16 rfl n170_281 k170_281_12 rfl (hb_52 _ _ _ _) (by decide +kernel) (Nat.le_of_ble_eq_true rfl) rfl rfl (by decide +kernel) (by decide +kernel) rfl (Nat.le_of_ble_eq_true rfl) rfl ?_
      refine zWp.mono (mm_seekRound ro nv np PA W L _ _ _ _ K R_k hp hW hK0 (by omega) hn C_k) ?_
      rintro r h1 ⟨I_s, G_s, A_s, B_s, rfl, K_s, ⟨W_s, L_s, R_s, J_s, a_s⟩, v, rfl, hv⟩
      refine ⟨_, rfl, ?_⟩
      have Q_s := Q_k.k K_s fRd_k pRd_k
      refine zw_istore_n _ 20 f170_19 rfl (by decide +kernel) rfl ?_
      refine zw_aload_n 21 f170_20 rfl (zl1_ne rfl rfl rfl) ?_
      refine zw_virtual_v 24 0 0 [.ref 52] [(0, .ref 52)] f170_21 rfl n170_285 k170_285_12 rfl (hb_52 _ _ _ _) (by decide +kernel) (Nat.le_of_ble_eq_true rfl) rfl rfl (by decide +kernel) (by decide +kernel) rfl (Nat.le_of_ble_eq_true rfl) rfl ?_
      refine zWp.mono (mm_back ro nv np PA W_s W L_s L.1 _ _ _ _ _ _ _ _ R_s J_s hW hp.1 Q_s) ?_
      rintro r h1 ⟨I_b, G_b, A_b, B_b, rfl, K_b, R_b, C_b, rfl⟩
      refine ⟨rfl, ?_⟩
      refine zw_iload_n 25 f170_24 rfl (zl1_ne rfl rfl rfl) ?_
      refine zw_if_ne 28 30 f170_25 (by decide +kernel) rfl (fun hc3 => ?_) (fun hc3 => ?_)
      · refine zw_iload_n 31 f170_30 rfl zl1_eq ?_
        refine zw_iconst 1 32 f170_31 rfl (by decide +kernel) ?_
        refine zw_ic_eq 35 37 f170_32 (by decide +kernel) rfl (fun hc4 => ?_) (fun hc4 => ?_)
        · obtain ⟨ra, rb, ra1, rb1, ea, eb, ga, gb⟩ := hv hc4
          refine zw_aload_n 38 f170_37 rfl (zl1_ne rfl rfl rfl) ?_
          refine zw_getfield 41 f170_38 rfl g170_108_12 (hb_52 _ _ _ _) rfl ?_
          refine zw_bipush 11 43 f170_41 rfl (by decide +kernel) ?_
          refine zw_aload_n 44 f170_43 rfl (zl1_ne rfl rfl rfl) ?_
          refine zw_getI (nI ra) 47 f170_44 rfl g170_272_12 (hb_52 _ _ _ _) rfl ((K_b.1 52 53 rfl).trans ea) ?_
          refine zw_imul (nI (11 * ra)) 48 f170_47 rfl (nI_mulL 11 _) ?_
          refine zw_bipush 8 50 f170_48 rfl (by decide +kernel) ?_
          refine zw_iadd (nI ((11 * ra) + 8)) 51 f170_50 rfl (nI_add _ 8) ?_
          refine zw_laload (((11 * ra) + 8)) (B_s 81 (((11 * ra) + 8))) 52 f170_51 rfl (hb_81 _ _ _ _) (nI_clamp (by omega)) (nI_pos (by omega)) (by omega) (congrFun ((K_b.2.2.2 81 rfl)) (((11 * ra) + 8))) ?_
          refine zw_lstore_n _ 53 f170_52 rfl (by decide +kernel) rfl ?_
          refine zw_aload_n 54 f170_53 rfl (zl2_ne rfl rfl (zl1_ne rfl rfl rfl)) ?_
          refine zw_getfield 57 f170_54 rfl g170_108_12 (hb_52 _ _ _ _) rfl ?_
          refine zw_bipush 11 59 f170_57 rfl (by decide +kernel) ?_
          refine zw_aload_n 60 f170_59 rfl (zl2_ne rfl rfl (zl1_ne rfl rfl rfl)) ?_
          refine zw_getI (nI ra) 63 f170_60 rfl g170_272_12 (hb_52 _ _ _ _) rfl ((K_b.1 52 53 rfl).trans ea) ?_
          refine zw_imul (nI (11 * ra)) 64 f170_63 rfl (nI_mulL 11 _) ?_
          refine zw_bipush 9 66 f170_64 rfl (by decide +kernel) ?_
          refine zw_iadd (nI ((11 * ra) + 9)) 67 f170_66 rfl (nI_add _ 9) ?_
          refine zw_laload (((11 * ra) + 9)) (B_s 81 (((11 * ra) + 9))) 68 f170_67 rfl (hb_81 _ _ _ _) (nI_clamp (by omega)) (nI_pos (by omega)) (by omega) (congrFun ((K_b.2.2.2 81 rfl)) (((11 * ra) + 9))) ?_
          refine zw_lstore _ 70 f170_68 rfl (by decide +kernel) rfl ?_
          refine zw_aload_n 71 f170_70 rfl (zl2_ne rfl rfl (zl2_ne rfl rfl (zl1_ne rfl rfl rfl))) ?_
          refine zw_getfield 74 f170_71 rfl g170_108_12 (hb_52 _ _ _ _) rfl ?_
          refine zw_bipush 11 76 f170_74 rfl (by decide +kernel) ?_
          refine zw_aload_n 77 f170_76 rfl (zl2_ne rfl rfl (zl2_ne rfl rfl (zl1_ne rfl rfl rfl))) ?_
          refine zw_getI (nI rb) 80 f170_77 rfl g170_275_12 (hb_52 _ _ _ _) rfl ((K_b.1 52 54 rfl).trans eb) ?_
          refine zw_imul (nI (11 * rb)) 81 f170_80 rfl (nI_mulL 11 _) ?_
          refine zw_bipush 8 83 f170_81 rfl (by decide +kernel) ?_
          refine zw_iadd (nI ((11 * rb) + 8)) 84 f170_83 rfl (nI_add _ 8) ?_
          refine zw_laload (((11 * rb) + 8)) (B_s 81 (((11 * rb) + 8))) 85 f170_84 rfl (hb_81 _ _ _ _) (nI_clamp (by omega)) (nI_pos (by omega)) (by omega) (congrFun ((K_b.2.2.2 81 rfl)) (((11 * rb) + 8))) ?_
          refine zw_lstore _ 87 f170_85 rfl (by decide +kernel) rfl ?_
          refine zw_aload_n 88 f170_87 rfl (zl2_ne rfl rfl (zl2_ne rfl rfl (zl2_ne rfl rfl (zl1_ne rfl rfl rfl)))) ?_
          refine zw_getfield 91 f170_88 rfl g170_108_12 (hb_52 _ _ _ _) rfl ?_
          refine zw_bipush 11 93 f170_91 rfl (by decide +kernel) ?_
          refine zw_aload_n 94 f170_93 rfl (zl2_ne rfl rfl (zl2_ne rfl rfl (zl2_ne rfl rfl (zl1_ne rfl rfl rfl)))) ?_
          refine zw_getI (nI rb) 97 f170_94 rfl g170_275_12 (hb_52 _ _ _ _) rfl ((K_b.1 52 54 rfl).trans eb) ?_
          refine zw_imul (nI (11 * rb)) 98 f170_97 rfl (nI_mulL 11 _) ?_
          refine zw_bipush 9 100 f170_98 rfl (by decide +kernel) ?_
          refine zw_iadd (nI ((11 * rb) + 9)) 101 f170_100 rfl (nI_add _ 9) ?_
          refine zw_laload (((11 * rb) + 9)) (B_s 81 (((11 * rb) + 9))) 102 f170_101 rfl (hb_81 _ _ _ _) (nI_clamp (by omega)) (nI_pos (by omega)) (by omega) (congrFun ((K_b.2.2.2 81 rfl)) (((11 * rb) + 9))) ?_
          refine zw_lstore _ 104 f170_102 rfl (by decide +kernel) rfl ?_
          refine zw_iload_n 105 f170_104 rfl (zl2_ne rfl rfl (zl2_ne rfl rfl (zl2_ne rfl rfl (zl2_ne rfl rfl (zl1_ne rfl rfl rfl))))) ?_
          refine zw_iconst 3 106 f170_105 rfl (by decide +kernel) ?_
          refine zw_ic_ge 109 121 f170_106 (by decide +kernel) rfl (fun hc5 => ?_) (fun hc5 => ?_)
          · refine zw_lload 123 f170_121 rfl zl2_eq ?_
            refine zw_lload_n 124 f170_123 rfl (zl2_ne rfl rfl (zl2_ne rfl rfl (zl2_ne rfl rfl zl2_eq))) ?_
            refine zw_lmul ((B_s 81 (((11 * rb) + 9))) * (B_s 81 (((11 * ra) + 8)))) 125 f170_124 rfl rfl ?_
            refine zw_lload 127 f170_125 rfl (zl2_ne rfl rfl (zl2_ne rfl rfl zl2_eq)) ?_
            refine zw_lload 129 f170_127 rfl (zl2_ne rfl rfl zl2_eq) ?_
            refine zw_lmul ((B_s 81 (((11 * ra) + 9))) * (B_s 81 (((11 * rb) + 8)))) 130 f170_129 rfl rfl ?_
            refine zw_lsub (((B_s 81 (((11 * rb) + 9))) * (B_s 81 (((11 * ra) + 8)))) - ((B_s 81 (((11 * ra) + 9))) * (B_s 81 (((11 * rb) + 8))))) 131 f170_130 rfl rfl ?_
            refine zw_lload_n 132 f170_131 rfl (zl2_ne rfl rfl (zl2_ne rfl rfl (zl2_ne rfl rfl zl2_eq))) ?_
            refine zw_lload 134 f170_132 rfl (zl2_ne rfl rfl zl2_eq) ?_
            refine zw_lmul ((B_s 81 (((11 * ra) + 8))) * (B_s 81 (((11 * rb) + 8)))) 135 f170_134 rfl rfl ?_
            refine zw_iload_n 136 f170_135 rfl (zl2_ne rfl rfl (zl2_ne rfl rfl (zl2_ne rfl rfl (zl2_ne rfl rfl (zl1_ne rfl rfl rfl))))) ?_
            refine zw_iconst 3 137 f170_136 rfl (by decide +kernel) ?_
            refine zw_isub (a - 3) 138 f170_137 rfl rfl ?_
            refine zw_static_l 141 0 0 [.long (((B_s 81 (((11 * rb) + 9))) * (B_s 81 (((11 * ra) + 8)))) - ((B_s 81 (((11 * ra) + 9))) * (B_s 81 (((11 * rb) + 8))))), .long ((B_s 81 (((11 * ra) + 8))) * (B_s 81 (((11 * rb) + 8)))), .int (a - 3)] [] [(0, .long (((B_s 81 (((11 * rb) + 9))) * (B_s 81 (((11 * ra) + 8)))) - ((B_s 81 (((11 * ra) + 9))) * (B_s 81 (((11 * rb) + 8)))))), (2, .long ((B_s 81 (((11 * ra) + 8))) * (B_s 81 (((11 * rb) + 8))))), (4, .int (a - 3))] f170_138 rfl k170_239_99 rfl (by decide +kernel) (Nat.le_of_ble_eq_true rfl) (Nat.le_of_ble_eq_true rfl) rfl rfl (by decide +kernel) (by decide +kernel) rfl (Nat.le_of_ble_eq_true rfl) rfl ?_
            refine zw_lload_n 1 f153_0 rfl rfl ?_
            refine zw_lload_n 2 f153_1 rfl rfl ?_
            refine zw_static_l 5 0 0 [.long (((B_s 81 (((11 * rb) + 9))) * (B_s 81 (((11 * ra) + 8)))) - ((B_s 81 (((11 * ra) + 9))) * (B_s 81 (((11 * rb) + 8))))), .long ((B_s 81 (((11 * ra) + 8))) * (B_s 81 (((11 * rb) + 8))))] [] [(0, .long (((B_s 81 (((11 * rb) + 9))) * (B_s 81 (((11 * ra) + 8)))) - ((B_s 81 (((11 * ra) + 9))) * (B_s 81 (((11 * rb) + 8)))))), (2, .long ((B_s 81 (((11 * ra) + 8))) * (B_s 81 (((11 * rb) + 8)))))] f153_2 rfl k153_164_99 rfl (by decide +kernel) (Nat.le_of_ble_eq_true rfl) (Nat.le_of_ble_eq_true rfl) rfl rfl (by decide +kernel) (by decide +kernel) rfl (Nat.le_of_ble_eq_true rfl) rfl ?_
            refine zWp.mono (mm_divisor ro _ (((B_s 81 (((11 * rb) + 9))) * (B_s 81 (((11 * ra) + 8)))) - ((B_s 81 (((11 * ra) + 9))) * (B_s 81 (((11 * rb) + 8))))) ((B_s 81 (((11 * ra) + 8))) * (B_s 81 (((11 * rb) + 8))))) ?_
            rintro r h1 ⟨rfl, rfl⟩
            refine ⟨_, rfl, ?_⟩
            refine zw_lstore _ 7 f153_5 rfl (by decide +kernel) rfl ?_
            refine zw_iload 9 f153_7 rfl (zl2_ne rfl rfl rfl) ?_
            refine zw_if_ne 12 19 f153_9 (by decide +kernel) rfl (fun hc6 => ?_) (fun hc6 => ?_)
            · refine zw_lload_n 20 f153_19 rfl (zl2_ne rfl rfl rfl) ?_
              refine zw_lload 22 f153_20 rfl zl2_eq ?_
              refine zw_ldiv (((B_s 81 (((11 * ra) + 8))) * (B_s 81 (((11 * rb) + 8)))) / (mD (((B_s 81 (((11 * rb) + 9))) * (B_s 81 (((11 * ra) + 8)))) - ((B_s 81 (((11 * ra) + 9))) * (B_s 81 (((11 * rb) + 8))))) ((B_s 81 (((11 * ra) + 8))) * (B_s 81 (((11 * rb) + 8)))))) 23 f153_22 rfl (mD_ne0 (i64_mne0 ga gb)) rfl ?_
              refine zw_lreturn f153_23 r153 u153 ⟨_, rfl, ?_⟩
              refine zw_l2i (Int64.toInt32 (((B_s 81 (((11 * ra) + 8))) * (B_s 81 (((11 * rb) + 8)))) / (mD (((B_s 81 (((11 * rb) + 9))) * (B_s 81 (((11 * ra) + 8)))) - ((B_s 81 (((11 * ra) + 9))) * (B_s 81 (((11 * rb) + 8))))) ((B_s 81 (((11 * ra) + 8))) * (B_s 81 (((11 * rb) + 8))))))) 142 f170_141 rfl rfl ?_
              refine zw_ireturn f170_142 r170 u170 ?_
              exact ⟨_, _, _, _, rfl, (KQ.tr (KQ.tr (KQ.wk K_k fKp_Ro pKp_Ro) (KQ.wk K_s fRd_Ro pRd_Ro)) (KQ.wk K_b fBk_Ro pBk_Ro)), ⟨_, R_b, a_s, rfl⟩, C_b, _, rfl⟩
            · refine zw_lload_n 13 f153_12 rfl (zl2_ne rfl rfl rfl) ?_
              refine zw_lload 15 f153_13 rfl zl2_eq ?_
              refine zw_ldiv ((((B_s 81 (((11 * rb) + 9))) * (B_s 81 (((11 * ra) + 8)))) - ((B_s 81 (((11 * ra) + 9))) * (B_s 81 (((11 * rb) + 8))))) / (mD (((B_s 81 (((11 * rb) + 9))) * (B_s 81 (((11 * ra) + 8)))) - ((B_s 81 (((11 * ra) + 9))) * (B_s 81 (((11 * rb) + 8))))) ((B_s 81 (((11 * ra) + 8))) * (B_s 81 (((11 * rb) + 8)))))) 16 f153_15 rfl (mD_ne0 (i64_mne0 ga gb)) rfl ?_
              refine zw_goto 23 f153_16 (by decide +kernel) ?_
              refine zw_lreturn f153_23 r153 u153 ⟨_, rfl, ?_⟩
              refine zw_l2i (Int64.toInt32 ((((B_s 81 (((11 * rb) + 9))) * (B_s 81 (((11 * ra) + 8)))) - ((B_s 81 (((11 * ra) + 9))) * (B_s 81 (((11 * rb) + 8))))) / (mD (((B_s 81 (((11 * rb) + 9))) * (B_s 81 (((11 * ra) + 8)))) - ((B_s 81 (((11 * ra) + 9))) * (B_s 81 (((11 * rb) + 8))))) ((B_s 81 (((11 * ra) + 8))) * (B_s 81 (((11 * rb) + 8))))))) 142 f170_141 rfl rfl ?_
              refine zw_ireturn f170_142 r170 u170 ?_
              exact ⟨_, _, _, _, rfl, (KQ.tr (KQ.tr (KQ.wk K_k fKp_Ro pKp_Ro) (KQ.wk K_s fRd_Ro pRd_Ro)) (KQ.wk K_b fBk_Ro pBk_Ro)), ⟨_, R_b, a_s, rfl⟩, C_b, _, rfl⟩
          · refine zw_lload 111 f170_109 rfl (zl2_ne rfl rfl (zl2_ne rfl rfl zl2_eq)) ?_
            refine zw_lload_n 112 f170_111 rfl (zl2_ne rfl rfl (zl2_ne rfl rfl (zl2_ne rfl rfl zl2_eq))) ?_
            refine zw_iload_n 113 f170_112 rfl (zl2_ne rfl rfl (zl2_ne rfl rfl (zl2_ne rfl rfl (zl2_ne rfl rfl (zl1_ne rfl rfl rfl))))) ?_
            refine zw_iconst 1 114 f170_113 rfl (by decide +kernel) ?_
            refine zw_isub (a - 1) 115 f170_114 rfl rfl ?_
            refine zw_static_l 118 0 0 [.long (B_s 81 (((11 * ra) + 9))), .long (B_s 81 (((11 * ra) + 8))), .int (a - 1)] [] [(0, .long (B_s 81 (((11 * ra) + 9)))), (2, .long (B_s 81 (((11 * ra) + 8)))), (4, .int (a - 1))] f170_115 rfl k170_239_99 rfl (by decide +kernel) (Nat.le_of_ble_eq_true rfl) (Nat.le_of_ble_eq_true rfl) rfl rfl (by decide +kernel) (by decide +kernel) rfl (Nat.le_of_ble_eq_true rfl) rfl ?_
            refine zw_lload_n 1 f153_0 rfl rfl ?_
            refine zw_lload_n 2 f153_1 rfl rfl ?_
            refine zw_static_l 5 0 0 [.long (B_s 81 (((11 * ra) + 9))), .long (B_s 81 (((11 * ra) + 8)))] [] [(0, .long (B_s 81 (((11 * ra) + 9)))), (2, .long (B_s 81 (((11 * ra) + 8))))] f153_2 rfl k153_164_99 rfl (by decide +kernel) (Nat.le_of_ble_eq_true rfl) (Nat.le_of_ble_eq_true rfl) rfl rfl (by decide +kernel) (by decide +kernel) rfl (Nat.le_of_ble_eq_true rfl) rfl ?_
            refine zWp.mono (mm_divisor ro _ (B_s 81 (((11 * ra) + 9))) (B_s 81 (((11 * ra) + 8)))) ?_
            rintro r h1 ⟨rfl, rfl⟩
            refine ⟨_, rfl, ?_⟩
            refine zw_lstore _ 7 f153_5 rfl (by decide +kernel) rfl ?_
            refine zw_iload 9 f153_7 rfl (zl2_ne rfl rfl rfl) ?_
            refine zw_if_ne 12 19 f153_9 (by decide +kernel) rfl (fun hc7 => ?_) (fun hc7 => ?_)
            · refine zw_lload_n 20 f153_19 rfl (zl2_ne rfl rfl rfl) ?_
              refine zw_lload 22 f153_20 rfl zl2_eq ?_
              refine zw_ldiv ((B_s 81 (((11 * ra) + 8))) / (mD (B_s 81 (((11 * ra) + 9))) (B_s 81 (((11 * ra) + 8))))) 23 f153_22 rfl (mD_ne0 (i64_ne0 ga.1)) rfl ?_
              refine zw_lreturn f153_23 r153 u153 ⟨_, rfl, ?_⟩
              refine zw_goto 141 f170_118 (by decide +kernel) ?_
              refine zw_l2i (Int64.toInt32 ((B_s 81 (((11 * ra) + 8))) / (mD (B_s 81 (((11 * ra) + 9))) (B_s 81 (((11 * ra) + 8)))))) 142 f170_141 rfl rfl ?_
              refine zw_ireturn f170_142 r170 u170 ?_
              exact ⟨_, _, _, _, rfl, (KQ.tr (KQ.tr (KQ.wk K_k fKp_Ro pKp_Ro) (KQ.wk K_s fRd_Ro pRd_Ro)) (KQ.wk K_b fBk_Ro pBk_Ro)), ⟨_, R_b, a_s, rfl⟩, C_b, _, rfl⟩
            · refine zw_lload_n 13 f153_12 rfl (zl2_ne rfl rfl rfl) ?_
              refine zw_lload 15 f153_13 rfl zl2_eq ?_
              refine zw_ldiv ((B_s 81 (((11 * ra) + 9))) / (mD (B_s 81 (((11 * ra) + 9))) (B_s 81 (((11 * ra) + 8))))) 16 f153_15 rfl (mD_ne0 (i64_ne0 ga.1)) rfl ?_
              refine zw_goto 23 f153_16 (by decide +kernel) ?_
              refine zw_lreturn f153_23 r153 u153 ⟨_, rfl, ?_⟩
              refine zw_goto 141 f170_118 (by decide +kernel) ?_
              refine zw_l2i (Int64.toInt32 ((B_s 81 (((11 * ra) + 9))) / (mD (B_s 81 (((11 * ra) + 9))) (B_s 81 (((11 * ra) + 8)))))) 142 f170_141 rfl rfl ?_
              refine zw_ireturn f170_142 r170 u170 ?_
              exact ⟨_, _, _, _, rfl, (KQ.tr (KQ.tr (KQ.wk K_k fKp_Ro pKp_Ro) (KQ.wk K_s fRd_Ro pRd_Ro)) (KQ.wk K_b fBk_Ro pBk_Ro)), ⟨_, R_b, a_s, rfl⟩, C_b, _, rfl⟩
        · refine zw_iconst (-1) 36 f170_35 rfl (by decide +kernel) ?_
          refine zw_ireturn f170_36 r170 u170 ?_
          exact ⟨_, _, _, _, rfl, (KQ.tr (KQ.tr (KQ.wk K_k fKp_Ro pKp_Ro) (KQ.wk K_s fRd_Ro pRd_Ro)) (KQ.wk K_b fBk_Ro pBk_Ro)), ⟨_, R_b, a_s, rfl⟩, C_b, _, rfl⟩
      · refine zw_iload_n 29 f170_28 rfl zl1_eq ?_
        refine zw_ireturn f170_29 r170 u170 ?_
        exact ⟨_, _, _, _, rfl, (KQ.tr (KQ.tr (KQ.wk K_k fKp_Ro pKp_Ro) (KQ.wk K_s fRd_Ro pRd_Ro)) (KQ.wk K_b fBk_Ro pBk_Ro)), ⟨_, R_b, a_s, rfl⟩, C_b, _, rfl⟩
