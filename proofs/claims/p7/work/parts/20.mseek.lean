theorem MP.k {pf : Nat → Nat → Bool} {pa : Nat → Bool} {I I1 : Nat → Nat → Int32} {G G1 : Nat → Nat → Int64} {A A1 : Nat → Nat → Int32} {B B1 : Nat → Nat → Int64} {nv np : Nat} (K : KQ pf pa I G A B I1 G1 A1 B1) (h0 : pf 52 0 = false) (h8 : pf 52 8 = false) (ha : ∀ k, 53 ≤ k → k ≤ 62 → pa k = false) (h : MP nv np I A) : MP nv np I1 A1 := by
  obtain ⟨⟨a, b⟩, ⟨c, d⟩, e, f⟩ := h
  refine ⟨⟨(K.1 52 0 h0).trans a, b⟩, ⟨(K.1 52 8 h8).trans c, d⟩, fun v hv => ?_, fun p hp => ?_⟩
  · unfold mPv
    rw [K.2.2.1 54 (ha 54 (by omega) (by omega)), K.2.2.1 55 (ha 55 (by omega) (by omega)), K.2.2.1 56 (ha 56 (by omega) (by omega)), K.2.2.1 57 (ha 57 (by omega) (by omega)), K.2.2.1 58 (ha 58 (by omega) (by omega)), K.2.2.1 59 (ha 59 (by omega) (by omega))]
    exact e v hv
  · unfold mPp
    rw [K.2.2.1 60 (ha 60 (by omega) (by omega)), K.2.2.1 61 (ha 61 (by omega) (by omega)), K.2.2.1 62 (ha 62 (by omega) (by omega))]
    exact f p hp
theorem MB.k {pf : Nat → Nat → Bool} {pa : Nat → Bool} {I I1 : Nat → Nat → Int32} {G G1 : Nat → Nat → Int64} {A A1 : Nat → Nat → Int32} {B B1 : Nat → Nat → Int64} (K : KQ pf pa I G A B I1 G1 A1 B1) (h4 : pa 64 = false) (h5 : pa 65 = false) (h : MB A) : MB A1 := by
  unfold MB
  rw [K.2.2.1 64 h4, K.2.2.1 65 h5]
  exact h
theorem pR_p : ∀ k, 53 ≤ k → k ≤ 62 → pR k = false := by
  intro k h1 h2
  simp only [pR, decide_eq_false_iff_not]
  omega
theorem pS_p : ∀ k, 53 ≤ k → k ≤ 62 → pS k = false := by
  intro k h1 h2
  simp only [pS, decide_eq_false_iff_not]
  omega
def mR2s (nv np : Nat) (G : Nat → Nat → Int64) (A : Nat → Nat → Int32) (B : Nat → Nat → Int64) (v : Nat) : (Nat → Int32) × Int32 × (Nat → Int32) × (Nat → Int32) := mR2 (A 60) (A 61) (A 62) (mRn nv A) (A 59) (A 54) (B 63) (G 52 12) np v
def mSr (nv np : Nat) (A : Nat → Nat → Int32) : Int32 := (mR1 (A 60) (A 61) (A 62) (mRn nv A) np).2.2
def mCh (nv np : Nat) (G : Nat → Nat → Int64) (A : Nat → Nat → Int32) (B : Nat → Nat → Int64) : Nat → Int32 := (mR2s nv np G A B nv).2.2.1
theorem mRO_k {I I1 : Nat → Nat → Int32} {G G1 : Nat → Nat → Int64} {A A1 : Nat → Nat → Int32} {B B1 : Nat → Nat → Int64} {nv np v : Nat} {s : (Nat → Int32) × Int32 × (Nat → Int32) × (Nat → Int32)} (K : KQ fR pR I G A B I1 G1 A1 B1) : mRateOf (A1 60) (A1 61) (A1 62) (mRn nv A1) (A1 59) (A1 54) (B1 63) (G1 52 12) np v s = mRateOf (A 60) (A 61) (A 62) (mRn nv A) (A 59) (A 54) (B 63) (G 52 12) np v s := by
  have e : mRn nv A1 = mRn nv A := funext (fun p => mRn_c (K.2.2.1 53 rfl) (K.2.2.1 57 rfl) (K.2.2.1 65 rfl) (K.2.2.1 64 rfl))
  rw [e, K.2.2.1 60 rfl, K.2.2.1 61 rfl, K.2.2.1 62 rfl, K.2.2.1 59 rfl, K.2.2.1 54 rfl, K.2.2.2 63 rfl, K.2.1 52 12 rfl]
def mS1 (brim ch : Nat → Int32) (lev : Nat → Int64) (g : Int64) (v : Nat) (s : Int32 × Int64 × Int64) : Int32 × Int64 × Int64 := mayF g (mayF g s ((Int32.toInt64 (brim v)) * g - lev v) (ch v)) (lev v) (-ch v)
def mS2 (kind high siph ch : Nat → Int32) (lev : Nat → Int64) (g : Int64) (v : Nat) (s : Int32 × Int64 × Int64) : Int32 × Int64 × Int64 := if kind v = 1 ∧ siph v = 0 then mayF g s ((Int32.toInt64 (high v)) * g - lev v) (ch v) else s
def mS3 (kind high low own opn ch : Nat → Int32) (lev : Nat → Int64) (g : Int64) (v : Nat) (s : Int32 × Int64 × Int64) : Int32 × Int64 × Int64 := if (kind v = 3 ∨ kind v = 4) ∧ ¬ own v = -1 then (if opn (own v).toNatClampNeg = 0 then mayF g s (lev v - (Int32.toInt64 (low v)) * g) (-ch v) else mayF g s ((Int32.toInt64 (high v)) * g - lev v) (ch v)) else s
def mSk (kind brim high low own opn siph ch : Nat → Int32) (lev : Nat → Int64) (g : Int64) (s : Int32 × Int64 × Int64) : Nat → Int32 × Int64 × Int64
  | 0 => s
  | k + 1 => mS3 kind high low own opn ch lev g k (mS2 kind high siph ch lev g k (mS1 brim ch lev g k (mSk kind brim high low own opn siph ch lev g s k)))
section ZSK
variable {kind brim high low own opn siph ch : Nat → Int32} {lev : Nat → Int64} {g : Int64} {v : Nat} {s : Int32 × Int64 × Int64}
theorem mSk_s {k : Nat} : mSk kind brim high low own opn siph ch lev g s (k + 1) = mS3 kind high low own opn ch lev g k (mS2 kind high siph ch lev g k (mS1 brim ch lev g k (mSk kind brim high low own opn siph ch lev g s k))) := rfl
theorem mS2_y (h : kind v = 1) (h2 : siph v = 0) : mS2 kind high siph ch lev g v s = mayF g s ((Int32.toInt64 (high v)) * g - lev v) (ch v) := if_pos ⟨h, h2⟩
theorem mS2_a (h : ¬ kind v = 1) : mS2 kind high siph ch lev g v s = s := if_neg (fun q => h q.1)
theorem mS2_b (h : ¬ siph v = 0) : mS2 kind high siph ch lev g v s = s := if_neg (fun q => h q.2)
theorem mS3_a (h : ¬ kind v = 3) (h2 : ¬ kind v = 4) : mS3 kind high low own opn ch lev g v s = s := if_neg (fun q => q.1.elim h h2)
theorem mS3_b (h : own v = -1) : mS3 kind high low own opn ch lev g v s = s := if_neg (fun q => q.2 h)
theorem mS3_c {t : Nat} (h : kind v = 3 ∨ kind v = 4) (h1 : own v = nI t) (ht : t < 100) (h2 : opn t = 0) : mS3 kind high low own opn ch lev g v s = mayF g s (lev v - (Int32.toInt64 (low v)) * g) (-ch v) := by
  have e : ¬ own v = -1 := fun q => nI_nem (a := t) (by omega) (h1.symm.trans q)
  unfold mS3
  rw [if_pos ⟨h, e⟩, h1, nI_clamp (by omega), if_pos h2]
theorem mS3_d {t : Nat} (h : kind v = 3 ∨ kind v = 4) (h1 : own v = nI t) (ht : t < 100) (h2 : ¬ opn t = 0) : mS3 kind high low own opn ch lev g v s = mayF g s ((Int32.toInt64 (high v)) * g - lev v) (ch v) := by
  have e : ¬ own v = -1 := fun q => nI_nem (a := t) (by omega) (h1.symm.trans q)
  unfold mS3
  rw [if_pos ⟨h, e⟩, h1, nI_clamp (by omega), if_neg h2]
end ZSK
def mSks (nv np : Nat) (G : Nat → Nat → Int64) (A : Nat → Nat → Int32) (B : Nat → Nat → Int64) (s : Int32 × Int64 × Int64) (k : Nat) : Int32 × Int64 × Int64 := mSk (A 53) (A 54) (A 55) (A 56) (A 57) (A 64) (A 65) (mCh nv np G A B) (B 63) (G 52 12) s k
theorem mT3 {a b c d : Int64} (h : a = c) (h2 : b = d) : ((1 : Int32), a, b) = (1, c, d) := by rw [h, h2]
theorem mZ3 {a b c : Nat → Int32} {k : Nat} (h : ∀ j, j < k → a j = 0 ∧ b j = 0 ∧ c j = 0) : ∀ j, j < k + 1 → upd a k 0 j = 0 ∧ upd b k 0 j = 0 ∧ upd c k 0 j = 0 := by
  intro j hj
  unfold upd
  split
  · exact ⟨rfl, rfl, rfl⟩
  · exact h j (by omega)
set_option maxRecDepth 100000 in
set_option maxHeartbeats 0 in
theorem lmm_rates_137 (ro : UInt32 → Nat × (Nat → Int32)) (nv np : Nat) (I : Nat → Nat → Int32) (G : Nat → Nat → Int64) (A : Nat → Nat → Int32) (B : Nat → Nat → Int64) (hP : MP nv np I A) (hB : MB A) : ∀ (n k : Nat) (ls : List (Nat × Value)) (I1 : Nat → Nat → Int32) (G1 : Nat → Nat → Int64) (A1 : Nat → Nat → Int32) (B1 : Nat → Nat → Int64), KQ fR pR I G A B I1 G1 A1 B1 → (mRel I1 A1 (mR2s nv np G A B k) ∧ I1 52 34 = mSr nv np A) → zld ls 0 = some (.ref 52) → zld ls 1 = some (.int (nI k)) → k ≤ nv → nv + 1 ≤ k + n → zWp ro 129 137 ls [] (hS I1 G1 A1 B1) 0 0 (fun r h1 => ∃ I2 G2 A2 B2, h1 = hS I2 G2 A2 B2 ∧ KQ fR pR I G A B I2 G2 A2 B2 ∧ (mRel I2 A2 (mR2s nv np G A B nv) ∧ I2 52 34 = mSr nv np A) ∧ r = none) := by
  have hnv := hP.1.2
  have hnp := hP.2.1.2
  intro n
  induction n with
  | zero =>
    intro k ls I1 G1 A1 B1 _ _ _ _ a b
    exact absurd b (by omega)
  | succ n ih =>
    intro k ls I1 G1 A1 B1 K hr h0 h1 hk1 hk2
    refine zw_iload_n 138 f129_137 rfl h1 ?_
    refine zw_aload_n 139 f129_138 rfl h0 ?_
    refine zw_getI (nI nv) 142 f129_139 rfl g129_114_12 (hb_52 _ _ _ _) rfl ((K.1 52 0 rfl).trans hP.1.1) ?_
    refine zw_ic_ge 145 156 f129_142 (by decide +kernel) rfl (fun hc1 => ?_) (fun hc1 => ?_)
    · have hn_hc1 : nv ≤ k := zn_ge (by omega) (by omega) hc1
      refine zw_vreturn f129_156 r129 u129 ?_
      have hk : k = nv := by omega
      subst hk
      exact ⟨_, _, _, _, rfl, K, hr, rfl⟩
    · have hn_hc1 : k < nv := zn_lt (by omega) (by omega) hc1
      refine zw_aload_n 146 f129_145 rfl h0 ?_
      refine zw_iload_n 147 f129_146 rfl h1 ?_
      refine zw_virtual_v 150 0 0 [.ref 52, .int (nI k)] [(0, .ref 52), (1, .int (nI k))] f129_147 rfl n129_138 k129_138_12 rfl (hb_52 _ _ _ _) (by decide +kernel) (Nat.le_of_ble_eq_true rfl) rfl rfl (by decide +kernel) (by decide +kernel) rfl (Nat.le_of_ble_eq_true rfl) rfl ?_
      refine zWp.mono (mm_rateOf ro nv np k _ _ _ _ (MP.k K rfl rfl pR_p hP) (MB.k K rfl rfl hB) (by omega) _ hr.1) ?_
      rintro r h1 ⟨I2, G2, A2, B2, rfl, K2, hr2, rfl⟩
      refine ⟨rfl, ?_⟩
      rw [mRO_k K] at hr2
      refine zw_iinc (nI (k + 1)) _ 153 f129_150 rfl h1 (by decide +kernel) (nI_1 _) rfl ?_
      refine zw_goto 137 f129_153 (by decide +kernel) ?_
      exact ih (k + 1) _ _ _ _ _ (KQ.tr K (KQ.wk K2 fD_R (fun _ h => h))) ⟨hr2, (K2.1 52 34 rfl).trans hr.2⟩ (zl1_ne rfl rfl h0) zl1_eq (by omega) (by omega)
set_option maxRecDepth 100000 in
set_option maxHeartbeats 0 in
theorem lmm_rates_47 (ro : UInt32 → Nat × (Nat → Int32)) (nv np : Nat) (I : Nat → Nat → Int32) (G : Nat → Nat → Int64) (A : Nat → Nat → Int32) (B : Nat → Nat → Int64) (hP : MP nv np I A) (hB : MB A) : ∀ (n k : Nat) (ls : List (Nat × Value)) (I1 : Nat → Nat → Int32) (G1 : Nat → Nat → Int64) (A1 : Nat → Nat → Int32) (B1 : Nat → Nat → Int64), KQ fR pR I G A B I1 G1 A1 B1 → ((∀ j, j < 8 → A1 72 j = (mR1 (A 60) (A 61) (A 62) (mRn nv A) k).1 j) ∧ I1 52 35 = (mR1 (A 60) (A 61) (A 62) (mRn nv A) k).2.1 ∧ I1 52 34 = (mR1 (A 60) (A 61) (A 62) (mRn nv A) k).2.2 ∧ ∀ j, j < 8 → A1 73 j = 0 ∧ A1 74 j = 0) → zld ls 0 = some (.ref 52) → zld ls 1 = some (.int (nI k)) → k ≤ np → np + 1 ≤ k + n → zWp ro 129 47 ls [] (hS I1 G1 A1 B1) 0 0 (fun r h1 => ∃ I2 G2 A2 B2, h1 = hS I2 G2 A2 B2 ∧ KQ fR pR I G A B I2 G2 A2 B2 ∧ (mRel I2 A2 (mR2s nv np G A B nv) ∧ I2 52 34 = mSr nv np A) ∧ r = none) := by
  have hnv := hP.1.2
  have hnp := hP.2.1.2
  intro n
  induction n with
  | zero =>
    intro k ls I1 G1 A1 B1 _ _ _ _ a b
    exact absurd b (by omega)
  | succ n ih =>
    intro k ls I1 G1 A1 B1 K hr h0 h1 hk1 hk2
    refine zw_iload_n 48 f129_47 rfl h1 ?_
    refine zw_aload_n 49 f129_48 rfl h0 ?_
    refine zw_getI (nI np) 52 f129_49 rfl g129_121_12 (hb_52 _ _ _ _) rfl ((K.1 52 8 rfl).trans hP.2.1.1) ?_
    refine zw_ic_ge 55 135 f129_52 (by decide +kernel) rfl (fun hc1 => ?_) (fun hc1 => ?_)
    · have hn_hc1 : np ≤ k := zn_ge (by omega) (by omega) hc1
      refine zw_iconst 0 136 f129_135 rfl (by decide +kernel) ?_
      refine zw_istore_n _ 137 f129_136 rfl (by decide +kernel) rfl ?_
      have hk : k = np := by omega
      rw [hk] at hr
      exact lmm_rates_137 ro nv np I G A B hP hB (nv + 1) 0 _ _ _ _ _ K ⟨⟨hr.1, hr.2.1, fun j hj => (hr.2.2.2 j hj).1, fun j hj => (hr.2.2.2 j hj).2⟩, hr.2.2.1⟩ (zl1_ne rfl rfl h0) zl1_eq (by omega) (by omega)
    · have hn_hc1 : k < np := zn_lt (by omega) (by omega) hc1
      refine zw_aload_n 56 f129_55 rfl h0 ?_
      refine zw_getfield 59 f129_56 rfl g129_86_12 (hb_52 _ _ _ _) rfl ?_
      refine zw_iload_n 60 f129_59 rfl h1 ?_
      refine zw_aload_n 61 f129_60 rfl h0 ?_
      refine zw_getfield 64 f129_61 rfl g129_31_12 (hb_52 _ _ _ _) rfl ?_
      refine zw_iload_n 65 f129_64 rfl h1 ?_
      refine zw_iaload k (A 60 k) 66 f129_65 rfl (hb_60 _ _ _ _) (nI_clamp (by omega)) (nI_pos (by omega)) (by omega) (congrFun ((K.2.2.1 60 rfl)) k) ?_
      refine zw_iconst (-1) 67 f129_66 rfl (by decide +kernel) ?_
      refine zw_ic_ne 70 87 f129_67 (by decide +kernel) rfl (fun hc2 => ?_) (fun hc2 => ?_)
      · refine zw_iconst 0 88 f129_87 rfl (by decide +kernel) ?_
        refine zw_ast k _ 89 f129_88 rfl (hb_75 _ _ _ _) (nI_clamp (by omega)) (nI_pos (by omega)) (by omega) (ha_75 _ _ _ _ _) ?_
        refine zw_aload_n 90 f129_89 rfl h0 ?_
        refine zw_dup 91 f129_90 rfl rfl ?_
        refine zw_getI (I1 52 34) 94 f129_91 rfl g129_127_12 (hb_52 _ _ _ _) rfl rfl ?_
        refine zw_aload_n 95 f129_94 rfl h0 ?_
        refine zw_getfield 98 f129_95 rfl g129_86_12 (hb_52 _ _ _ _) rfl ?_
        refine zw_iload_n 99 f129_98 rfl h1 ?_
        refine zw_iaload k 0 100 f129_99 rfl (hb_75 _ _ _ _) (nI_clamp (by omega)) (nI_pos (by omega)) (by omega) (if_pos rfl) ?_
        refine zw_iadd ((I1 52 34) + 0) 101 f129_100 rfl rfl ?_
        refine zw_put _ 104 f129_101 rfl g129_127_12 (hb_52 _ _ _ _) rfl (Nat.le_of_ble_eq_true rfl) (by decide +kernel) (hi_52_34 _ _ _ _ _) ?_
        refine zw_aload_n 105 f129_104 rfl h0 ?_
        refine zw_getfield 108 f129_105 rfl g129_86_12 (hb_52 _ _ _ _) rfl ?_
        refine zw_iload_n 109 f129_108 rfl h1 ?_
        refine zw_iaload k 0 110 f129_109 rfl (hb_75 _ _ _ _) (nI_clamp (by omega)) (nI_pos (by omega)) (by omega) (if_pos rfl) ?_
        refine zw_if_le_t 129 f129_110 (by decide +kernel) (by decide +kernel) ?_
        refine zw_iinc (nI (k + 1)) _ 132 f129_129 rfl h1 (by decide +kernel) (nI_1 _) rfl ?_
        refine zw_goto 47 f129_132 (by decide +kernel) ?_
        have E := mR1_n (frm := A 60) (too := A 61) (amt := A 62) (run := mRn nv A) (k := k) 0 (if_neg (fun q => hc2 q.1)) (by decide)
        exact ih (k + 1) _ _ _ _ _ (KQ.i rfl (KQ.a rfl K)) (by rw [E]; exact ⟨hr.1, hr.2.1, congrArg (fun z => z + 0) hr.2.2.1, hr.2.2.2⟩) (zl1_ne rfl rfl h0) zl1_eq (by omega) (by omega)
      · refine zw_aload_n 71 f129_70 rfl h0 ?_
        refine zw_iload_n 72 f129_71 rfl h1 ?_
        refine zw_virtual_i 75 0 0 [.ref 52, .int (nI k)] [(0, .ref 52), (1, .int (nI k))] f129_72 rfl n129_130 k129_130_12 rfl (hb_52 _ _ _ _) (by decide +kernel) (Nat.le_of_ble_eq_true rfl) rfl rfl (by decide +kernel) (by decide +kernel) rfl (Nat.le_of_ble_eq_true rfl) rfl ?_
        refine zWp.mono (mm_runs_y ro nv k _ _ _ _ (mRn nv A k) ((K.1 52 0 rfl).trans hP.1.1) (by omega) (by omega) (by rw [(K.2.2.1 64 rfl)]; exact (hB.1 k (by omega))) (mRn_c (K.2.2.1 53 rfl) (K.2.2.1 57 rfl) (K.2.2.1 65 rfl) (K.2.2.1 64 rfl))) ?_
        rintro r h1 ⟨rfl, rfl⟩
        refine ⟨_, rfl, ?_⟩
        refine zw_if_eq 78 87 f129_75 (by decide +kernel) rfl (fun hc3 => ?_) (fun hc3 => ?_)
        · refine zw_iconst 0 88 f129_87 rfl (by decide +kernel) ?_
          refine zw_ast k _ 89 f129_88 rfl (hb_75 _ _ _ _) (nI_clamp (by omega)) (nI_pos (by omega)) (by omega) (ha_75 _ _ _ _ _) ?_
          refine zw_aload_n 90 f129_89 rfl h0 ?_
          refine zw_dup 91 f129_90 rfl rfl ?_
          refine zw_getI (I1 52 34) 94 f129_91 rfl g129_127_12 (hb_52 _ _ _ _) rfl rfl ?_
          refine zw_aload_n 95 f129_94 rfl h0 ?_
          refine zw_getfield 98 f129_95 rfl g129_86_12 (hb_52 _ _ _ _) rfl ?_
          refine zw_iload_n 99 f129_98 rfl h1 ?_
          refine zw_iaload k 0 100 f129_99 rfl (hb_75 _ _ _ _) (nI_clamp (by omega)) (nI_pos (by omega)) (by omega) (if_pos rfl) ?_
          refine zw_iadd ((I1 52 34) + 0) 101 f129_100 rfl rfl ?_
          refine zw_put _ 104 f129_101 rfl g129_127_12 (hb_52 _ _ _ _) rfl (Nat.le_of_ble_eq_true rfl) (by decide +kernel) (hi_52_34 _ _ _ _ _) ?_
          refine zw_aload_n 105 f129_104 rfl h0 ?_
          refine zw_getfield 108 f129_105 rfl g129_86_12 (hb_52 _ _ _ _) rfl ?_
          refine zw_iload_n 109 f129_108 rfl h1 ?_
          refine zw_iaload k 0 110 f129_109 rfl (hb_75 _ _ _ _) (nI_clamp (by omega)) (nI_pos (by omega)) (by omega) (if_pos rfl) ?_
          refine zw_if_le_t 129 f129_110 (by decide +kernel) (by decide +kernel) ?_
          refine zw_iinc (nI (k + 1)) _ 132 f129_129 rfl h1 (by decide +kernel) (nI_1 _) rfl ?_
          refine zw_goto 47 f129_132 (by decide +kernel) ?_
          have E := mR1_n (frm := A 60) (too := A 61) (amt := A 62) (run := mRn nv A) (k := k) 0 (if_neg (fun q => q.2 hc3)) (by decide)
          exact ih (k + 1) _ _ _ _ _ (KQ.i rfl (KQ.a rfl K)) (by rw [E]; exact ⟨hr.1, hr.2.1, congrArg (fun z => z + 0) hr.2.2.1, hr.2.2.2⟩) (zl1_ne rfl rfl h0) zl1_eq (by omega) (by omega)
        · refine zw_aload_n 79 f129_78 rfl h0 ?_
          refine zw_getfield 82 f129_79 rfl g129_37_12 (hb_52 _ _ _ _) rfl ?_
          refine zw_iload_n 83 f129_82 rfl h1 ?_
          refine zw_iaload k (A 62 k) 84 f129_83 rfl (hb_62 _ _ _ _) (nI_clamp (by omega)) (nI_pos (by omega)) (by omega) (congrFun ((K.2.2.1 62 rfl)) k) ?_
          refine zw_goto 88 f129_84 (by decide +kernel) ?_
          refine zw_ast k _ 89 f129_88 rfl (hb_75 _ _ _ _) (nI_clamp (by omega)) (nI_pos (by omega)) (by omega) (ha_75 _ _ _ _ _) ?_
          refine zw_aload_n 90 f129_89 rfl h0 ?_
          refine zw_dup 91 f129_90 rfl rfl ?_
          refine zw_getI (I1 52 34) 94 f129_91 rfl g129_127_12 (hb_52 _ _ _ _) rfl rfl ?_
          refine zw_aload_n 95 f129_94 rfl h0 ?_
          refine zw_getfield 98 f129_95 rfl g129_86_12 (hb_52 _ _ _ _) rfl ?_
          refine zw_iload_n 99 f129_98 rfl h1 ?_
          refine zw_iaload k (A 62 k) 100 f129_99 rfl (hb_75 _ _ _ _) (nI_clamp (by omega)) (nI_pos (by omega)) (by omega) (if_pos rfl) ?_
          refine zw_iadd ((I1 52 34) + (A 62 k)) 101 f129_100 rfl rfl ?_
          refine zw_put _ 104 f129_101 rfl g129_127_12 (hb_52 _ _ _ _) rfl (Nat.le_of_ble_eq_true rfl) (by decide +kernel) (hi_52_34 _ _ _ _ _) ?_
          refine zw_aload_n 105 f129_104 rfl h0 ?_
          refine zw_getfield 108 f129_105 rfl g129_86_12 (hb_52 _ _ _ _) rfl ?_
          refine zw_iload_n 109 f129_108 rfl h1 ?_
          refine zw_iaload k (A 62 k) 110 f129_109 rfl (hb_75 _ _ _ _) (nI_clamp (by omega)) (nI_pos (by omega)) (by omega) (if_pos rfl) ?_
          refine zw_if_le 113 129 f129_110 (by decide +kernel) rfl (fun hc4 => ?_) (fun hc4 => ?_)
          · refine zw_iinc (nI (k + 1)) _ 132 f129_129 rfl h1 (by decide +kernel) (nI_1 _) rfl ?_
            refine zw_goto 47 f129_132 (by decide +kernel) ?_
            have E := mR1_n (frm := A 60) (too := A 61) (amt := A 62) (run := mRn nv A) (k := k) (A 62 k) (if_pos ⟨(Decidable.of_not_not hc2), hc3⟩) (Int32.not_lt.mpr hc4)
            exact ih (k + 1) _ _ _ _ _ (KQ.i rfl (KQ.a rfl K)) (by rw [E]; exact ⟨hr.1, hr.2.1, congrArg (fun z => z + (A 62 k)) hr.2.2.1, hr.2.2.2⟩) (zl1_ne rfl rfl h0) zl1_eq (by omega) (by omega)
          · refine zw_aload_n 114 f129_113 rfl h0 ?_
            refine zw_aload_n 115 f129_114 rfl h0 ?_
            refine zw_getfield 118 f129_115 rfl g129_34_12 (hb_52 _ _ _ _) rfl ?_
            refine zw_iload_n 119 f129_118 rfl h1 ?_
            rcases (hP.2.2.2 k (by omega)).1 with t5q | ⟨t5, t5l, t5n, t5q⟩
            · refine zw_iaload k (-1) 120 f129_119 rfl (hb_61 _ _ _ _) (nI_clamp (by omega)) (nI_pos (by omega)) (by omega) ((congrFun (K.2.2.1 61 rfl) k).trans t5q) ?_
              refine zw_aload_n 121 f129_120 rfl h0 ?_
              refine zw_getfield 124 f129_121 rfl g129_86_12 (hb_52 _ _ _ _) rfl ?_
              refine zw_iload_n 125 f129_124 rfl h1 ?_
              refine zw_iaload k (A 62 k) 126 f129_125 rfl (hb_75 _ _ _ _) (nI_clamp (by omega)) (nI_pos (by omega)) (by omega) (if_pos rfl) ?_
              refine zw_virtual_v 129 0 0 [.ref 52, .int (-1), .int (A 62 k)] [(0, .ref 52), (1, .int (-1)), (2, .int (A 62 k))] f129_126 rfl n129_134 k129_134_12 rfl (hb_52 _ _ _ _) (by decide +kernel) (Nat.le_of_ble_eq_true rfl) rfl rfl (by decide +kernel) (by decide +kernel) rfl (Nat.le_of_ble_eq_true rfl) rfl ?_
              refine zw_iload_n 1 f128_0 rfl rfl ?_
              refine zw_iconst (-1) 2 f128_1 rfl (by decide +kernel) ?_
              refine zw_ic_ne_f 5 18 f128_2 (by decide +kernel) rfl (by decide +kernel) ?_
              refine zw_aload_n 6 f128_5 rfl rfl ?_
              refine zw_dup 7 f128_6 rfl rfl ?_
              refine zw_getI (I1 52 35) 10 f128_7 rfl g128_124_12 (hb_52 _ _ _ _) rfl rfl ?_
              refine zw_iload_n 11 f128_10 rfl rfl ?_
              refine zw_iadd ((I1 52 35) + (A 62 k)) 12 f128_11 rfl rfl ?_
              refine zw_put _ 15 f128_12 rfl g128_124_12 (hb_52 _ _ _ _) rfl (Nat.le_of_ble_eq_true rfl) (by decide +kernel) (hi_52_35 _ _ _ _ _) ?_
              refine zw_goto 28 f128_15 (by decide +kernel) ?_
              refine zw_vreturn f128_28 r128 u128 ⟨rfl, ?_⟩
              refine zw_iinc (nI (k + 1)) _ 132 f129_129 rfl h1 (by decide +kernel) (nI_1 _) rfl ?_
              refine zw_goto 47 f129_132 (by decide +kernel) ?_
              have E := mR1_y (frm := A 60) (too := A 61) (amt := A 62) (run := mRn nv A) (k := k) (A 62 k) (-1) t5q (if_pos ⟨(Decidable.of_not_not hc2), hc3⟩) (Int32.not_le.mp hc4)
              rw [mGoC_m, mGoD_m] at E
              exact ih (k + 1) _ _ _ _ _ (KQ.i rfl (KQ.i rfl (KQ.a rfl K))) (by rw [E]; exact ⟨hr.1, congrArg (fun z => z + (A 62 k)) hr.2.1, congrArg (fun z => z + (A 62 k)) hr.2.2.1, hr.2.2.2⟩) (zl1_ne rfl rfl h0) zl1_eq (by omega) (by omega)
            · refine zw_iaload k (nI t5) 120 f129_119 rfl (hb_61 _ _ _ _) (nI_clamp (by omega)) (nI_pos (by omega)) (by omega) ((congrFun (K.2.2.1 61 rfl) k).trans t5q) ?_
              refine zw_aload_n 121 f129_120 rfl h0 ?_
              refine zw_getfield 124 f129_121 rfl g129_86_12 (hb_52 _ _ _ _) rfl ?_
              refine zw_iload_n 125 f129_124 rfl h1 ?_
              refine zw_iaload k (A 62 k) 126 f129_125 rfl (hb_75 _ _ _ _) (nI_clamp (by omega)) (nI_pos (by omega)) (by omega) (if_pos rfl) ?_
              refine zw_virtual_v 129 0 0 [.ref 52, .int (nI t5), .int (A 62 k)] [(0, .ref 52), (1, .int (nI t5)), (2, .int (A 62 k))] f129_126 rfl n129_134 k129_134_12 rfl (hb_52 _ _ _ _) (by decide +kernel) (Nat.le_of_ble_eq_true rfl) rfl rfl (by decide +kernel) (by decide +kernel) rfl (Nat.le_of_ble_eq_true rfl) rfl ?_
              refine zw_iload_n 1 f128_0 rfl rfl ?_
              refine zw_iconst (-1) 2 f128_1 rfl (by decide +kernel) ?_
              refine zw_ic_ne_t 18 f128_2 (by decide +kernel) (nI_nem (by omega)) ?_
              refine zw_aload_n 19 f128_18 rfl rfl ?_
              refine zw_getfield 22 f128_19 rfl g128_77_12 (hb_52 _ _ _ _) rfl ?_
              refine zw_iload_n 23 f128_22 rfl rfl ?_
              refine zw_dup2 24 f128_23 rfl rfl rfl ?_
              refine zw_iaload t5 (A1 72 t5) 25 f128_24 rfl (hb_72 _ _ _ _) (nI_clamp (by omega)) (nI_pos (by omega)) (by omega) rfl ?_
              refine zw_iload_n 26 f128_25 rfl rfl ?_
              refine zw_iadd ((A1 72 t5) + (A 62 k)) 27 f128_26 rfl rfl ?_
              refine zw_ast t5 _ 28 f128_27 rfl (hb_72 _ _ _ _) (nI_clamp (by omega)) (nI_pos (by omega)) (by omega) (ha_72 _ _ _ _ _) ?_
              refine zw_vreturn f128_28 r128 u128 ⟨rfl, ?_⟩
              refine zw_iinc (nI (k + 1)) _ 132 f129_129 rfl h1 (by decide +kernel) (nI_1 _) rfl ?_
              refine zw_goto 47 f129_132 (by decide +kernel) ?_
              have E := mR1_y (frm := A 60) (too := A 61) (amt := A 62) (run := mRn nv A) (k := k) (A 62 k) (nI t5) t5q (if_pos ⟨(Decidable.of_not_not hc2), hc3⟩) (Int32.not_le.mp hc4)
              rw [mGoC_t (by omega), mGoD_t (by omega)] at E
              exact ih (k + 1) _ _ _ _ _ (KQ.a rfl (KQ.i rfl (KQ.a rfl K))) (by rw [E]; exact ⟨mC_t hr.1 (by omega), hr.2.1, congrArg (fun z => z + (A 62 k)) hr.2.2.1, hr.2.2.2⟩) (zl1_ne rfl rfl h0) zl1_eq (by omega) (by omega)
set_option maxRecDepth 100000 in
set_option maxHeartbeats 0 in
theorem lmm_rates_12 (ro : UInt32 → Nat × (Nat → Int32)) (nv np : Nat) (I : Nat → Nat → Int32) (G : Nat → Nat → Int64) (A : Nat → Nat → Int32) (B : Nat → Nat → Int64) (hP : MP nv np I A) (hB : MB A) : ∀ (n k : Nat) (ls : List (Nat × Value)) (I1 : Nat → Nat → Int32) (G1 : Nat → Nat → Int64) (A1 : Nat → Nat → Int32) (B1 : Nat → Nat → Int64), KQ fR pR I G A B I1 G1 A1 B1 → ((∀ j, j < k → A1 72 j = 0 ∧ A1 73 j = 0 ∧ A1 74 j = 0) ∧ I1 52 34 = 0 ∧ I1 52 35 = 0) → zld ls 0 = some (.ref 52) → zld ls 1 = some (.int (nI k)) → k ≤ 8 → 8 + 1 ≤ k + n → zWp ro 129 12 ls [] (hS I1 G1 A1 B1) 0 0 (fun r h1 => ∃ I2 G2 A2 B2, h1 = hS I2 G2 A2 B2 ∧ KQ fR pR I G A B I2 G2 A2 B2 ∧ (mRel I2 A2 (mR2s nv np G A B nv) ∧ I2 52 34 = mSr nv np A) ∧ r = none) := by
  have hnv := hP.1.2
  have hnp := hP.2.1.2
  intro n
  induction n with
  | zero =>
    intro k ls I1 G1 A1 B1 _ _ _ _ a b
    exact absurd b (by omega)
  | succ n ih =>
    intro k ls I1 G1 A1 B1 K hr h0 h1 hk1 hk2
    refine zw_iload_n 13 f129_12 rfl h1 ?_
    refine zw_bipush 8 15 f129_13 rfl (by decide +kernel) ?_
    refine zw_ic_ge 18 45 f129_15 (by decide +kernel) rfl (fun hc1 => ?_) (fun hc1 => ?_)
    · have hn_hc1 : 8 ≤ k := zn_ge (by omega) (by omega) hc1
      refine zw_iconst 0 46 f129_45 rfl (by decide +kernel) ?_
      refine zw_istore_n _ 47 f129_46 rfl (by decide +kernel) rfl ?_
      have hk : k = 8 := by omega
      subst hk
      exact lmm_rates_47 ro nv np I G A B hP hB (np + 1) 0 _ _ _ _ _ K ⟨fun j hj => (hr.1 j hj).1, hr.2.2, hr.2.1, fun j hj => (hr.1 j hj).2⟩ (zl1_ne rfl rfl h0) zl1_eq (by omega) (by omega)
    · have hn_hc1 : k < 8 := zn_lt (by omega) (by omega) hc1
      refine zw_aload_n 19 f129_18 rfl h0 ?_
      refine zw_getfield 22 f129_19 rfl g129_77_12 (hb_52 _ _ _ _) rfl ?_
      refine zw_iload_n 23 f129_22 rfl h1 ?_
      refine zw_iconst 0 24 f129_23 rfl (by decide +kernel) ?_
      refine zw_ast k _ 25 f129_24 rfl (hb_72 _ _ _ _) (nI_clamp (by omega)) (nI_pos (by omega)) (by omega) (ha_72 _ _ _ _ _) ?_
      refine zw_aload_n 26 f129_25 rfl h0 ?_
      refine zw_getfield 29 f129_26 rfl g129_80_12 (hb_52 _ _ _ _) rfl ?_
      refine zw_iload_n 30 f129_29 rfl h1 ?_
      refine zw_iconst 0 31 f129_30 rfl (by decide +kernel) ?_
      refine zw_ast k _ 32 f129_31 rfl (hb_73 _ _ _ _) (nI_clamp (by omega)) (nI_pos (by omega)) (by omega) (ha_73 _ _ _ _ _) ?_
      refine zw_aload_n 33 f129_32 rfl h0 ?_
      refine zw_getfield 36 f129_33 rfl g129_83_12 (hb_52 _ _ _ _) rfl ?_
      refine zw_iload_n 37 f129_36 rfl h1 ?_
      refine zw_iconst 0 38 f129_37 rfl (by decide +kernel) ?_
      refine zw_ast k _ 39 f129_38 rfl (hb_74 _ _ _ _) (nI_clamp (by omega)) (nI_pos (by omega)) (by omega) (ha_74 _ _ _ _ _) ?_
      refine zw_iinc (nI (k + 1)) _ 42 f129_39 rfl h1 (by decide +kernel) (nI_1 _) rfl ?_
      refine zw_goto 12 f129_42 (by decide +kernel) ?_
      refine ih (k + 1) _ _ _ _ _ (KQ.a rfl (KQ.a rfl (KQ.a rfl K))) ⟨?_, hr.2⟩ (zl1_ne rfl rfl h0) zl1_eq (by omega) (by omega)
      exact mZ3 hr.1
set_option maxRecDepth 100000 in
set_option maxHeartbeats 0 in
theorem mm_rates (ro : UInt32 → Nat × (Nat → Int32)) (nv np : Nat) (I : Nat → Nat → Int32) (G : Nat → Nat → Int64) (A : Nat → Nat → Int32) (B : Nat → Nat → Int64) (hP : MP nv np I A) (hB : MB A) : zWp ro 129 0 [(0, .ref 52)] [] (hS I G A B) 0 0 (fun r h1 => ∃ I2 G2 A2 B2, h1 = hS I2 G2 A2 B2 ∧ KQ fR pR I G A B I2 G2 A2 B2 ∧ (mRel I2 A2 (mR2s nv np G A B nv) ∧ I2 52 34 = mSr nv np A) ∧ r = none) := by
  have hnv := hP.1.2
  have hnp := hP.2.1.2
  refine zw_aload_n 1 f129_0 rfl rfl ?_
  refine zw_iconst 0 2 f129_1 rfl (by decide +kernel) ?_
  refine zw_put _ 5 f129_2 rfl g129_127_12 (hb_52 _ _ _ _) rfl (Nat.le_of_ble_eq_true rfl) (by decide +kernel) (hi_52_34 _ _ _ _ _) ?_
  refine zw_aload_n 6 f129_5 rfl rfl ?_
  refine zw_iconst 0 7 f129_6 rfl (by decide +kernel) ?_
  refine zw_put _ 10 f129_7 rfl g129_124_12 (hb_52 _ _ _ _) rfl (Nat.le_of_ble_eq_true rfl) (by decide +kernel) (hi_52_35 _ _ _ _ _) ?_
  refine zw_iconst 0 11 f129_10 rfl (by decide +kernel) ?_
  refine zw_istore_n _ 12 f129_11 rfl (by decide +kernel) rfl ?_
  exact lmm_rates_12 ro nv np I G A B hP hB 9 0 _ _ _ _ _ (KQ.i rfl (KQ.i rfl KQ.rf)) ⟨fun j hj => absurd hj (by omega), rfl, rfl⟩ (zl1_ne rfl rfl rfl) zl1_eq (by omega) (by omega)
set_option maxRecDepth 100000 in
set_option maxHeartbeats 0 in
theorem lmm_seek (ro : UInt32 → Nat × (Nat → Int32)) (nv np : Nat) (I : Nat → Nat → Int32) (G : Nat → Nat → Int64) (A : Nat → Nat → Int32) (B : Nat → Nat → Int64) (hP : MP nv np I A) (hB : MB A) : ∀ (n k : Nat) (ls : List (Nat × Value)) (I1 : Nat → Nat → Int32) (G1 : Nat → Nat → Int64) (A1 : Nat → Nat → Int32) (B1 : Nat → Nat → Int64), KQ fS pS I G A B I1 G1 A1 B1 → ((mRel I1 A1 (mR2s nv np G A B nv) ∧ I1 52 34 = mSr nv np A) ∧ mN I1 G1 = (mSk (A 53) (A 54) (A 55) (A 56) (A 57) (A 64) (A 65) (mCh nv np G A B) (B 63) (G 52 12) (1, G 52 36, G 52 37) k)) → zld ls 0 = some (.ref 52) → zld ls 1 = some (.int (nI k)) → k ≤ nv → nv + 1 ≤ k + n → zWp ro 132 11 ls [] (hS I1 G1 A1 B1) 0 0 (fun r h1 => ∃ I2 G2 A2 B2, h1 = hS I2 G2 A2 B2 ∧ KQ fS pS I G A B I2 G2 A2 B2 ∧ ((mRel I2 A2 (mR2s nv np G A B nv) ∧ I2 52 34 = mSr nv np A) ∧ mN I2 G2 = mSks nv np G A B (1, G 52 36, G 52 37) nv) ∧ r = none) := by
  have hnv := hP.1.2
  have hnp := hP.2.1.2
  intro n
  induction n with
  | zero =>
    intro k ls I1 G1 A1 B1 _ _ _ _ a b
    exact absurd b (by omega)
  | succ n ih =>
    intro k ls I1 G1 A1 B1 K hr h0 h1 hk1 hk2
    refine zw_iload_n 12 f132_11 rfl h1 ?_
    refine zw_aload_n 13 f132_12 rfl h0 ?_
    refine zw_getI (nI nv) 16 f132_13 rfl g132_114_12 (hb_52 _ _ _ _) rfl ((K.1 52 0 rfl).trans hP.1.1) ?_
    refine zw_ic_ge 19 179 f132_16 (by decide +kernel) rfl (fun hc1 => ?_) (fun hc1 => ?_)
    · have hn_hc1 : nv ≤ k := zn_ge (by omega) (by omega) hc1
      refine zw_vreturn f132_179 r132 u132 ?_
      have hk : k = nv := by omega
      rw [hk] at hr
      exact ⟨_, _, _, _, rfl, K, hr, rfl⟩
    · have hn_hc1 : k < nv := zn_lt (by omega) (by omega) hc1
      refine zw_aload_n 20 f132_19 rfl h0 ?_
      refine zw_getfield 23 f132_20 rfl g132_80_12 (hb_52 _ _ _ _) rfl ?_
      refine zw_iload_n 24 f132_23 rfl h1 ?_
      refine zw_iaload k (mCh nv np G A B k) 25 f132_24 rfl (hb_73 _ _ _ _) (nI_clamp (by omega)) (nI_pos (by omega)) (by omega) (hr.1.1.2.2.1 k (by omega)) ?_
      refine zw_istore_n _ 26 f132_25 rfl (by decide +kernel) rfl ?_
      refine zw_aload_n 27 f132_26 rfl (zl1_ne rfl rfl h0) ?_
      refine zw_getfield 30 f132_27 rfl g132_16_12 (hb_52 _ _ _ _) rfl ?_
      refine zw_iload_n 31 f132_30 rfl (zl1_ne rfl rfl h1) ?_
      refine zw_iaload k (A 55 k) 32 f132_31 rfl (hb_55 _ _ _ _) (nI_clamp (by omega)) (nI_pos (by omega)) (by omega) (congrFun ((K.2.2.1 55 rfl)) k) ?_
      refine zw_i2l (Int32.toInt64 (A 55 k)) 33 f132_32 rfl rfl ?_
      refine zw_aload_n 34 f132_33 rfl (zl1_ne rfl rfl h0) ?_
      refine zw_getG (G 52 12) 37 f132_34 rfl g132_40_12 (hb_52 _ _ _ _) rfl (K.2.1 52 12 rfl) ?_
      refine zw_lmul ((Int32.toInt64 (A 55 k)) * (G 52 12)) 38 f132_37 rfl rfl ?_
      refine zw_aload_n 39 f132_38 rfl (zl1_ne rfl rfl h0) ?_
      refine zw_getfield 42 f132_39 rfl g132_44_12 (hb_52 _ _ _ _) rfl ?_
      refine zw_iload_n 43 f132_42 rfl (zl1_ne rfl rfl h1) ?_
      refine zw_laload k (B 63 k) 44 f132_43 rfl (hb_63 _ _ _ _) (nI_clamp (by omega)) (nI_pos (by omega)) (by omega) (congrFun ((K.2.2.2 63 rfl)) k) ?_
      refine zw_lsub (((Int32.toInt64 (A 55 k)) * (G 52 12)) - (B 63 k)) 45 f132_44 rfl rfl ?_
      refine zw_lstore_n _ 46 f132_45 rfl (by decide +kernel) rfl ?_
      refine zw_aload_n 47 f132_46 rfl (zl2_ne rfl rfl (zl1_ne rfl rfl h0)) ?_
      refine zw_aload_n 48 f132_47 rfl (zl2_ne rfl rfl (zl1_ne rfl rfl h0)) ?_
      refine zw_getfield 51 f132_48 rfl g132_13_12 (hb_52 _ _ _ _) rfl ?_
      refine zw_iload_n 52 f132_51 rfl (zl2_ne rfl rfl (zl1_ne rfl rfl h1)) ?_
      refine zw_iaload k (A 54 k) 53 f132_52 rfl (hb_54 _ _ _ _) (nI_clamp (by omega)) (nI_pos (by omega)) (by omega) (congrFun ((K.2.2.1 54 rfl)) k) ?_
      refine zw_i2l (Int32.toInt64 (A 54 k)) 54 f132_53 rfl rfl ?_
      refine zw_aload_n 55 f132_54 rfl (zl2_ne rfl rfl (zl1_ne rfl rfl h0)) ?_
      refine zw_getG (G 52 12) 58 f132_55 rfl g132_40_12 (hb_52 _ _ _ _) rfl (K.2.1 52 12 rfl) ?_
      refine zw_lmul ((Int32.toInt64 (A 54 k)) * (G 52 12)) 59 f132_58 rfl rfl ?_
      refine zw_aload_n 60 f132_59 rfl (zl2_ne rfl rfl (zl1_ne rfl rfl h0)) ?_
      refine zw_getfield 63 f132_60 rfl g132_44_12 (hb_52 _ _ _ _) rfl ?_
      refine zw_iload_n 64 f132_63 rfl (zl2_ne rfl rfl (zl1_ne rfl rfl h1)) ?_
      refine zw_laload k (B 63 k) 65 f132_64 rfl (hb_63 _ _ _ _) (nI_clamp (by omega)) (nI_pos (by omega)) (by omega) (congrFun ((K.2.2.2 63 rfl)) k) ?_
      refine zw_lsub (((Int32.toInt64 (A 54 k)) * (G 52 12)) - (B 63 k)) 66 f132_65 rfl rfl ?_
      refine zw_iload_n 67 f132_66 rfl (zl2_ne rfl rfl zl1_eq) ?_
      refine zw_virtual_v 70 0 0 [.ref 52, .long (((Int32.toInt64 (A 54 k)) * (G 52 12)) - (B 63 k)), .int (mCh nv np G A B k)] [(0, .ref 52), (1, .long (((Int32.toInt64 (A 54 k)) * (G 52 12)) - (B 63 k))), (3, .int (mCh nv np G A B k))] f132_67 rfl n132_154 k132_154_12 rfl (hb_52 _ _ _ _) (by decide +kernel) (Nat.le_of_ble_eq_true rfl) rfl rfl (by decide +kernel) (by decide +kernel) rfl (Nat.le_of_ble_eq_true rfl) rfl ?_
      refine zWp.mono (mm_may ro _ _ _ _ (((Int32.toInt64 (A 54 k)) * (G 52 12)) - (B 63 k)) (mCh nv np G A B k)) ?_
      rintro r h1 ⟨I_2, G_2, rfl, K_2, N_2, rfl⟩
      refine ⟨rfl, ?_⟩
      have N_2 : mN I_2 G_2 = mayF (G 52 12) (mSk (A 53) (A 54) (A 55) (A 56) (A 57) (A 64) (A 65) (mCh nv np G A B) (B 63) (G 52 12) (1, G 52 36, G 52 37) k) (((Int32.toInt64 (A 54 k)) * (G 52 12)) - (B 63 k)) (mCh nv np G A B k) := N_2.trans (by rw [(K.2.1 52 12 rfl), hr.2])
      have L_2 := KQ.tr K (KQ.wk K_2 fN_S p0_x)
      refine zw_aload_n 71 f132_70 rfl (zl2_ne rfl rfl (zl1_ne rfl rfl h0)) ?_
      refine zw_aload_n 72 f132_71 rfl (zl2_ne rfl rfl (zl1_ne rfl rfl h0)) ?_
      refine zw_getfield 75 f132_72 rfl g132_44_12 (hb_52 _ _ _ _) rfl ?_
      refine zw_iload_n 76 f132_75 rfl (zl2_ne rfl rfl (zl1_ne rfl rfl h1)) ?_
      refine zw_laload k (B 63 k) 77 f132_76 rfl (hb_63 _ _ _ _) (nI_clamp (by omega)) (nI_pos (by omega)) (by omega) (congrFun (((K_2.2.2.2 63 rfl).trans (K.2.2.2 63 rfl))) k) ?_
      refine zw_iload_n 78 f132_77 rfl (zl2_ne rfl rfl zl1_eq) ?_
      refine zw_ineg (-(mCh nv np G A B k)) 79 f132_78 rfl rfl ?_
      refine zw_virtual_v 82 0 0 [.ref 52, .long (B 63 k), .int (-(mCh nv np G A B k))] [(0, .ref 52), (1, .long (B 63 k)), (3, .int (-(mCh nv np G A B k)))] f132_79 rfl n132_154 k132_154_12 rfl (hb_52 _ _ _ _) (by decide +kernel) (Nat.le_of_ble_eq_true rfl) rfl rfl (by decide +kernel) (by decide +kernel) rfl (Nat.le_of_ble_eq_true rfl) rfl ?_
      refine zWp.mono (mm_may ro _ _ _ _ (B 63 k) (-(mCh nv np G A B k))) ?_
      rintro r h1 ⟨I_3, G_3, rfl, K_3, N_3, rfl⟩
      refine ⟨rfl, ?_⟩
      have N_3 : mN I_3 G_3 = mayF (G 52 12) (mayF (G 52 12) (mSk (A 53) (A 54) (A 55) (A 56) (A 57) (A 64) (A 65) (mCh nv np G A B) (B 63) (G 52 12) (1, G 52 36, G 52 37) k) (((Int32.toInt64 (A 54 k)) * (G 52 12)) - (B 63 k)) (mCh nv np G A B k)) (B 63 k) (-(mCh nv np G A B k)) := N_3.trans (by rw [((K_2.2.1 52 12 rfl).trans (K.2.1 52 12 rfl)), N_2])
      have L_3 := KQ.tr L_2 (KQ.wk K_3 fN_S p0_x)
      refine zw_aload_n 83 f132_82 rfl (zl2_ne rfl rfl (zl1_ne rfl rfl h0)) ?_
      refine zw_getfield 86 f132_83 rfl g132_7_12 (hb_52 _ _ _ _) rfl ?_
      refine zw_iload_n 87 f132_86 rfl (zl2_ne rfl rfl (zl1_ne rfl rfl h1)) ?_
      refine zw_iaload k (A 53 k) 88 f132_87 rfl (hb_53 _ _ _ _) (nI_clamp (by omega)) (nI_pos (by omega)) (by omega) (congrFun (((K_3.2.2.1 53 rfl).trans ((K_2.2.2.1 53 rfl).trans (K.2.2.1 53 rfl)))) k) ?_
      refine zw_iconst 1 89 f132_88 rfl (by decide +kernel) ?_
      refine zw_ic_ne 92 107 f132_89 (by decide +kernel) rfl (fun hc4 => ?_) (fun hc4 => ?_)
      · refine zw_aload_n 108 f132_107 rfl (zl2_ne rfl rfl (zl1_ne rfl rfl h0)) ?_
        refine zw_iload_n 109 f132_108 rfl (zl2_ne rfl rfl (zl1_ne rfl rfl h1)) ?_
        refine zw_virtual_i 112 0 0 [.ref 52, .int (nI k)] [(0, .ref 52), (1, .int (nI k))] f132_109 rfl n132_158 k132_158_12 rfl (hb_52 _ _ _ _) (by decide +kernel) (Nat.le_of_ble_eq_true rfl) rfl rfl (by decide +kernel) (by decide +kernel) rfl (Nat.le_of_ble_eq_true rfl) rfl ?_
        refine zw_aload_n 1 f126_0 rfl rfl ?_
        refine zw_getfield 4 f126_1 rfl g126_7_12 (hb_52 _ _ _ _) rfl ?_
        refine zw_iload_n 5 f126_4 rfl rfl ?_
        refine zw_iaload k (A 53 k) 6 f126_5 rfl (hb_53 _ _ _ _) (nI_clamp (by omega)) (nI_pos (by omega)) (by omega) (congrFun (((K_3.2.2.1 53 rfl).trans ((K_2.2.2.1 53 rfl).trans (K.2.2.1 53 rfl)))) k) ?_
        refine zw_iconst 3 7 f126_6 rfl (by decide +kernel) ?_
        refine zw_ic_eq 10 20 f126_7 (by decide +kernel) rfl (fun hc5 => ?_) (fun hc5 => ?_)
        · refine zw_iconst 1 21 f126_20 rfl (by decide +kernel) ?_
          refine zw_goto 25 f126_21 (by decide +kernel) ?_
          refine zw_zreturn f126_25 r126 u126 (by decide +kernel) ⟨_, rfl, ?_⟩
          refine zw_if_eq_f 115 173 f132_112 (by decide +kernel) rfl (by decide +kernel) ?_
          refine zw_aload_n 116 f132_115 rfl (zl2_ne rfl rfl (zl1_ne rfl rfl h0)) ?_
          refine zw_getfield 119 f132_116 rfl g132_22_12 (hb_52 _ _ _ _) rfl ?_
          refine zw_iload_n 120 f132_119 rfl (zl2_ne rfl rfl (zl1_ne rfl rfl h1)) ?_
          rcases (hP.2.2.1 k (by omega)).2.2.2.1 with t6q | ⟨t6, t6l, t6n, t6q⟩
          · refine zw_iaload k (-1) 121 f132_120 rfl (hb_57 _ _ _ _) (nI_clamp (by omega)) (nI_pos (by omega)) (by omega) ((congrFun ((K_3.2.2.1 57 rfl).trans ((K_2.2.2.1 57 rfl).trans (K.2.2.1 57 rfl))) k).trans t6q) ?_
            refine zw_iconst (-1) 122 f132_121 rfl (by decide +kernel) ?_
            refine zw_ic_eq_t 173 f132_122 (by decide +kernel) (by decide +kernel) ?_
            refine zw_iinc (nI (k + 1)) _ 176 f132_173 rfl (zl2_ne rfl rfl (zl1_ne rfl rfl h1)) (by decide +kernel) (nI_1 _) rfl ?_
            refine zw_goto 11 f132_176 (by decide +kernel) ?_
            have E : mN I_3 G_3 = (mSk (A 53) (A 54) (A 55) (A 56) (A 57) (A 64) (A 65) (mCh nv np G A B) (B 63) (G 52 12) (1, G 52 36, G 52 37) (k + 1)) := by
              rw [mSk_s, mS2_a hc4, mS3_b t6q]
              exact N_3
            exact ih (k + 1) _ _ _ _ _ L_3 ⟨⟨⟨hr.1.1.1, (((K_3.1 52 35 rfl).trans (K_2.1 52 35 rfl))).trans hr.1.1.2.1, hr.1.1.2.2⟩, (((K_3.1 52 34 rfl).trans (K_2.1 52 34 rfl))).trans hr.1.2⟩, E⟩ (zl1_ne rfl rfl (zl2_ne rfl rfl (zl1_ne rfl rfl h0))) zl1_eq (by omega) (by omega)
          · refine zw_iaload k (nI t6) 121 f132_120 rfl (hb_57 _ _ _ _) (nI_clamp (by omega)) (nI_pos (by omega)) (by omega) ((congrFun ((K_3.2.2.1 57 rfl).trans ((K_2.2.2.1 57 rfl).trans (K.2.2.1 57 rfl))) k).trans t6q) ?_
            refine zw_iconst (-1) 122 f132_121 rfl (by decide +kernel) ?_
            refine zw_ic_eq_f 125 173 f132_122 (by decide +kernel) rfl (nI_nem (by omega)) ?_
            refine zw_aload_n 126 f132_125 rfl (zl2_ne rfl rfl (zl1_ne rfl rfl h0)) ?_
            refine zw_getfield 129 f132_126 rfl g132_48_12 (hb_52 _ _ _ _) rfl ?_
            refine zw_aload_n 130 f132_129 rfl (zl2_ne rfl rfl (zl1_ne rfl rfl h0)) ?_
            refine zw_getfield 133 f132_130 rfl g132_22_12 (hb_52 _ _ _ _) rfl ?_
            refine zw_iload_n 134 f132_133 rfl (zl2_ne rfl rfl (zl1_ne rfl rfl h1)) ?_
            refine zw_iaload k (nI t6) 135 f132_134 rfl (hb_57 _ _ _ _) (nI_clamp (by omega)) (nI_pos (by omega)) (by omega) ((congrFun ((K_3.2.2.1 57 rfl).trans ((K_2.2.2.1 57 rfl).trans (K.2.2.1 57 rfl))) k).trans t6q) ?_
            refine zw_baload t6 (A 64 t6) 136 f132_135 rfl (hb_64 _ _ _ _) (nI_clamp (by omega)) (nI_pos (by omega)) (by omega) (congrFun (((K_3.2.2.1 64 rfl).trans ((K_2.2.2.1 64 rfl).trans (K.2.2.1 64 rfl)))) t6) ?_
            refine zw_if_eq 139 148 f132_136 (by decide +kernel) rfl (fun hc7 => ?_) (fun hc7 => ?_)
            · refine zw_aload_n 149 f132_148 rfl (zl2_ne rfl rfl (zl1_ne rfl rfl h0)) ?_
              refine zw_aload_n 150 f132_149 rfl (zl2_ne rfl rfl (zl1_ne rfl rfl h0)) ?_
              refine zw_getfield 153 f132_150 rfl g132_44_12 (hb_52 _ _ _ _) rfl ?_
              refine zw_iload_n 154 f132_153 rfl (zl2_ne rfl rfl (zl1_ne rfl rfl h1)) ?_
              refine zw_laload k (B 63 k) 155 f132_154 rfl (hb_63 _ _ _ _) (nI_clamp (by omega)) (nI_pos (by omega)) (by omega) (congrFun (((K_3.2.2.2 63 rfl).trans ((K_2.2.2.2 63 rfl).trans (K.2.2.2 63 rfl)))) k) ?_
              refine zw_aload_n 156 f132_155 rfl (zl2_ne rfl rfl (zl1_ne rfl rfl h0)) ?_
              refine zw_getfield 159 f132_156 rfl g132_19_12 (hb_52 _ _ _ _) rfl ?_
              refine zw_iload_n 160 f132_159 rfl (zl2_ne rfl rfl (zl1_ne rfl rfl h1)) ?_
              refine zw_iaload k (A 56 k) 161 f132_160 rfl (hb_56 _ _ _ _) (nI_clamp (by omega)) (nI_pos (by omega)) (by omega) (congrFun (((K_3.2.2.1 56 rfl).trans ((K_2.2.2.1 56 rfl).trans (K.2.2.1 56 rfl)))) k) ?_
              refine zw_i2l (Int32.toInt64 (A 56 k)) 162 f132_161 rfl rfl ?_
              refine zw_aload_n 163 f132_162 rfl (zl2_ne rfl rfl (zl1_ne rfl rfl h0)) ?_
              refine zw_getG (G 52 12) 166 f132_163 rfl g132_40_12 (hb_52 _ _ _ _) rfl ((K_3.2.1 52 12 rfl).trans ((K_2.2.1 52 12 rfl).trans (K.2.1 52 12 rfl))) ?_
              refine zw_lmul ((Int32.toInt64 (A 56 k)) * (G 52 12)) 167 f132_166 rfl rfl ?_
              refine zw_lsub ((B 63 k) - ((Int32.toInt64 (A 56 k)) * (G 52 12))) 168 f132_167 rfl rfl ?_
              refine zw_iload_n 169 f132_168 rfl (zl2_ne rfl rfl zl1_eq) ?_
              refine zw_ineg (-(mCh nv np G A B k)) 170 f132_169 rfl rfl ?_
              refine zw_virtual_v 173 0 0 [.ref 52, .long ((B 63 k) - ((Int32.toInt64 (A 56 k)) * (G 52 12))), .int (-(mCh nv np G A B k))] [(0, .ref 52), (1, .long ((B 63 k) - ((Int32.toInt64 (A 56 k)) * (G 52 12)))), (3, .int (-(mCh nv np G A B k)))] f132_170 rfl n132_154 k132_154_12 rfl (hb_52 _ _ _ _) (by decide +kernel) (Nat.le_of_ble_eq_true rfl) rfl rfl (by decide +kernel) (by decide +kernel) rfl (Nat.le_of_ble_eq_true rfl) rfl ?_
              refine zWp.mono (mm_may ro _ _ _ _ ((B 63 k) - ((Int32.toInt64 (A 56 k)) * (G 52 12))) (-(mCh nv np G A B k))) ?_
              rintro r h1 ⟨I_8, G_8, rfl, K_8, N_8, rfl⟩
              refine ⟨rfl, ?_⟩
              have N_8 : mN I_8 G_8 = mayF (G 52 12) (mayF (G 52 12) (mayF (G 52 12) (mSk (A 53) (A 54) (A 55) (A 56) (A 57) (A 64) (A 65) (mCh nv np G A B) (B 63) (G 52 12) (1, G 52 36, G 52 37) k) (((Int32.toInt64 (A 54 k)) * (G 52 12)) - (B 63 k)) (mCh nv np G A B k)) (B 63 k) (-(mCh nv np G A B k))) ((B 63 k) - ((Int32.toInt64 (A 56 k)) * (G 52 12))) (-(mCh nv np G A B k)) := N_8.trans (by rw [((K_3.2.1 52 12 rfl).trans ((K_2.2.1 52 12 rfl).trans (K.2.1 52 12 rfl))), N_3])
              have L_8 := KQ.tr L_3 (KQ.wk K_8 fN_S p0_x)
              refine zw_iinc (nI (k + 1)) _ 176 f132_173 rfl (zl2_ne rfl rfl (zl1_ne rfl rfl h1)) (by decide +kernel) (nI_1 _) rfl ?_
              refine zw_goto 11 f132_176 (by decide +kernel) ?_
              have E : mN I_8 G_8 = (mSk (A 53) (A 54) (A 55) (A 56) (A 57) (A 64) (A 65) (mCh nv np G A B) (B 63) (G 52 12) (1, G 52 36, G 52 37) (k + 1)) := by
                rw [mSk_s, mS2_a hc4, mS3_c (Or.inl hc5) t6q (by omega) hc7]
                exact N_8
              exact ih (k + 1) _ _ _ _ _ L_8 ⟨⟨⟨hr.1.1.1, (((K_8.1 52 35 rfl).trans ((K_3.1 52 35 rfl).trans (K_2.1 52 35 rfl)))).trans hr.1.1.2.1, hr.1.1.2.2⟩, (((K_8.1 52 34 rfl).trans ((K_3.1 52 34 rfl).trans (K_2.1 52 34 rfl)))).trans hr.1.2⟩, E⟩ (zl1_ne rfl rfl (zl2_ne rfl rfl (zl1_ne rfl rfl h0))) zl1_eq (by omega) (by omega)
            · refine zw_aload_n 140 f132_139 rfl (zl2_ne rfl rfl (zl1_ne rfl rfl h0)) ?_
              refine zw_lload_n 141 f132_140 rfl zl2_eq ?_
              refine zw_iload_n 142 f132_141 rfl (zl2_ne rfl rfl zl1_eq) ?_
              refine zw_virtual_v 145 0 0 [.ref 52, .long (((Int32.toInt64 (A 55 k)) * (G 52 12)) - (B 63 k)), .int (mCh nv np G A B k)] [(0, .ref 52), (1, .long (((Int32.toInt64 (A 55 k)) * (G 52 12)) - (B 63 k))), (3, .int (mCh nv np G A B k))] f132_142 rfl n132_154 k132_154_12 rfl (hb_52 _ _ _ _) (by decide +kernel) (Nat.le_of_ble_eq_true rfl) rfl rfl (by decide +kernel) (by decide +kernel) rfl (Nat.le_of_ble_eq_true rfl) rfl ?_
              refine zWp.mono (mm_may ro _ _ _ _ (((Int32.toInt64 (A 55 k)) * (G 52 12)) - (B 63 k)) (mCh nv np G A B k)) ?_
              rintro r h1 ⟨I_9, G_9, rfl, K_9, N_9, rfl⟩
              refine ⟨rfl, ?_⟩
              have N_9 : mN I_9 G_9 = mayF (G 52 12) (mayF (G 52 12) (mayF (G 52 12) (mSk (A 53) (A 54) (A 55) (A 56) (A 57) (A 64) (A 65) (mCh nv np G A B) (B 63) (G 52 12) (1, G 52 36, G 52 37) k) (((Int32.toInt64 (A 54 k)) * (G 52 12)) - (B 63 k)) (mCh nv np G A B k)) (B 63 k) (-(mCh nv np G A B k))) (((Int32.toInt64 (A 55 k)) * (G 52 12)) - (B 63 k)) (mCh nv np G A B k) := N_9.trans (by rw [((K_3.2.1 52 12 rfl).trans ((K_2.2.1 52 12 rfl).trans (K.2.1 52 12 rfl))), N_3])
              have L_9 := KQ.tr L_3 (KQ.wk K_9 fN_S p0_x)
              refine zw_goto 173 f132_145 (by decide +kernel) ?_
              refine zw_iinc (nI (k + 1)) _ 176 f132_173 rfl (zl2_ne rfl rfl (zl1_ne rfl rfl h1)) (by decide +kernel) (nI_1 _) rfl ?_
              refine zw_goto 11 f132_176 (by decide +kernel) ?_
              have E : mN I_9 G_9 = (mSk (A 53) (A 54) (A 55) (A 56) (A 57) (A 64) (A 65) (mCh nv np G A B) (B 63) (G 52 12) (1, G 52 36, G 52 37) (k + 1)) := by
                rw [mSk_s, mS2_a hc4, mS3_d (Or.inl hc5) t6q (by omega) hc7]
                exact N_9
              exact ih (k + 1) _ _ _ _ _ L_9 ⟨⟨⟨hr.1.1.1, (((K_9.1 52 35 rfl).trans ((K_3.1 52 35 rfl).trans (K_2.1 52 35 rfl)))).trans hr.1.1.2.1, hr.1.1.2.2⟩, (((K_9.1 52 34 rfl).trans ((K_3.1 52 34 rfl).trans (K_2.1 52 34 rfl)))).trans hr.1.2⟩, E⟩ (zl1_ne rfl rfl (zl2_ne rfl rfl (zl1_ne rfl rfl h0))) zl1_eq (by omega) (by omega)
        · refine zw_aload_n 11 f126_10 rfl rfl ?_
          refine zw_getfield 14 f126_11 rfl g126_7_12 (hb_52 _ _ _ _) rfl ?_
          refine zw_iload_n 15 f126_14 rfl rfl ?_
          refine zw_iaload k (A 53 k) 16 f126_15 rfl (hb_53 _ _ _ _) (nI_clamp (by omega)) (nI_pos (by omega)) (by omega) (congrFun (((K_3.2.2.1 53 rfl).trans ((K_2.2.2.1 53 rfl).trans (K.2.2.1 53 rfl)))) k) ?_
          refine zw_iconst 4 17 f126_16 rfl (by decide +kernel) ?_
          refine zw_ic_ne 20 24 f126_17 (by decide +kernel) rfl (fun hc10 => ?_) (fun hc10 => ?_)
          · refine zw_iconst 0 25 f126_24 rfl (by decide +kernel) ?_
            refine zw_zreturn f126_25 r126 u126 (by decide +kernel) ⟨_, rfl, ?_⟩
            refine zw_if_eq_t 173 f132_112 (by decide +kernel) (by decide +kernel) ?_
            refine zw_iinc (nI (k + 1)) _ 176 f132_173 rfl (zl2_ne rfl rfl (zl1_ne rfl rfl h1)) (by decide +kernel) (nI_1 _) rfl ?_
            refine zw_goto 11 f132_176 (by decide +kernel) ?_
            have E : mN I_3 G_3 = (mSk (A 53) (A 54) (A 55) (A 56) (A 57) (A 64) (A 65) (mCh nv np G A B) (B 63) (G 52 12) (1, G 52 36, G 52 37) (k + 1)) := by
              rw [mSk_s, mS2_a hc4, mS3_a hc5 hc10]
              exact N_3
            exact ih (k + 1) _ _ _ _ _ L_3 ⟨⟨⟨hr.1.1.1, (((K_3.1 52 35 rfl).trans (K_2.1 52 35 rfl))).trans hr.1.1.2.1, hr.1.1.2.2⟩, (((K_3.1 52 34 rfl).trans (K_2.1 52 34 rfl))).trans hr.1.2⟩, E⟩ (zl1_ne rfl rfl (zl2_ne rfl rfl (zl1_ne rfl rfl h0))) zl1_eq (by omega) (by omega)
          · refine zw_iconst 1 21 f126_20 rfl (by decide +kernel) ?_
            refine zw_goto 25 f126_21 (by decide +kernel) ?_
            refine zw_zreturn f126_25 r126 u126 (by decide +kernel) ⟨_, rfl, ?_⟩
            refine zw_if_eq_f 115 173 f132_112 (by decide +kernel) rfl (by decide +kernel) ?_
            refine zw_aload_n 116 f132_115 rfl (zl2_ne rfl rfl (zl1_ne rfl rfl h0)) ?_
            refine zw_getfield 119 f132_116 rfl g132_22_12 (hb_52 _ _ _ _) rfl ?_
            refine zw_iload_n 120 f132_119 rfl (zl2_ne rfl rfl (zl1_ne rfl rfl h1)) ?_
            rcases (hP.2.2.1 k (by omega)).2.2.2.1 with t11q | ⟨t11, t11l, t11n, t11q⟩
            · refine zw_iaload k (-1) 121 f132_120 rfl (hb_57 _ _ _ _) (nI_clamp (by omega)) (nI_pos (by omega)) (by omega) ((congrFun ((K_3.2.2.1 57 rfl).trans ((K_2.2.2.1 57 rfl).trans (K.2.2.1 57 rfl))) k).trans t11q) ?_
              refine zw_iconst (-1) 122 f132_121 rfl (by decide +kernel) ?_
              refine zw_ic_eq_t 173 f132_122 (by decide +kernel) (by decide +kernel) ?_
              refine zw_iinc (nI (k + 1)) _ 176 f132_173 rfl (zl2_ne rfl rfl (zl1_ne rfl rfl h1)) (by decide +kernel) (nI_1 _) rfl ?_
              refine zw_goto 11 f132_176 (by decide +kernel) ?_
              have E : mN I_3 G_3 = (mSk (A 53) (A 54) (A 55) (A 56) (A 57) (A 64) (A 65) (mCh nv np G A B) (B 63) (G 52 12) (1, G 52 36, G 52 37) (k + 1)) := by
                rw [mSk_s, mS2_a hc4, mS3_b t11q]
                exact N_3
              exact ih (k + 1) _ _ _ _ _ L_3 ⟨⟨⟨hr.1.1.1, (((K_3.1 52 35 rfl).trans (K_2.1 52 35 rfl))).trans hr.1.1.2.1, hr.1.1.2.2⟩, (((K_3.1 52 34 rfl).trans (K_2.1 52 34 rfl))).trans hr.1.2⟩, E⟩ (zl1_ne rfl rfl (zl2_ne rfl rfl (zl1_ne rfl rfl h0))) zl1_eq (by omega) (by omega)
            · refine zw_iaload k (nI t11) 121 f132_120 rfl (hb_57 _ _ _ _) (nI_clamp (by omega)) (nI_pos (by omega)) (by omega) ((congrFun ((K_3.2.2.1 57 rfl).trans ((K_2.2.2.1 57 rfl).trans (K.2.2.1 57 rfl))) k).trans t11q) ?_
              refine zw_iconst (-1) 122 f132_121 rfl (by decide +kernel) ?_
              refine zw_ic_eq_f 125 173 f132_122 (by decide +kernel) rfl (nI_nem (by omega)) ?_
              refine zw_aload_n 126 f132_125 rfl (zl2_ne rfl rfl (zl1_ne rfl rfl h0)) ?_
              refine zw_getfield 129 f132_126 rfl g132_48_12 (hb_52 _ _ _ _) rfl ?_
              refine zw_aload_n 130 f132_129 rfl (zl2_ne rfl rfl (zl1_ne rfl rfl h0)) ?_
              refine zw_getfield 133 f132_130 rfl g132_22_12 (hb_52 _ _ _ _) rfl ?_
              refine zw_iload_n 134 f132_133 rfl (zl2_ne rfl rfl (zl1_ne rfl rfl h1)) ?_
              refine zw_iaload k (nI t11) 135 f132_134 rfl (hb_57 _ _ _ _) (nI_clamp (by omega)) (nI_pos (by omega)) (by omega) ((congrFun ((K_3.2.2.1 57 rfl).trans ((K_2.2.2.1 57 rfl).trans (K.2.2.1 57 rfl))) k).trans t11q) ?_
              refine zw_baload t11 (A 64 t11) 136 f132_135 rfl (hb_64 _ _ _ _) (nI_clamp (by omega)) (nI_pos (by omega)) (by omega) (congrFun (((K_3.2.2.1 64 rfl).trans ((K_2.2.2.1 64 rfl).trans (K.2.2.1 64 rfl)))) t11) ?_
              refine zw_if_eq 139 148 f132_136 (by decide +kernel) rfl (fun hc12 => ?_) (fun hc12 => ?_)
              · refine zw_aload_n 149 f132_148 rfl (zl2_ne rfl rfl (zl1_ne rfl rfl h0)) ?_
                refine zw_aload_n 150 f132_149 rfl (zl2_ne rfl rfl (zl1_ne rfl rfl h0)) ?_
                refine zw_getfield 153 f132_150 rfl g132_44_12 (hb_52 _ _ _ _) rfl ?_
                refine zw_iload_n 154 f132_153 rfl (zl2_ne rfl rfl (zl1_ne rfl rfl h1)) ?_
                refine zw_laload k (B 63 k) 155 f132_154 rfl (hb_63 _ _ _ _) (nI_clamp (by omega)) (nI_pos (by omega)) (by omega) (congrFun (((K_3.2.2.2 63 rfl).trans ((K_2.2.2.2 63 rfl).trans (K.2.2.2 63 rfl)))) k) ?_
                refine zw_aload_n 156 f132_155 rfl (zl2_ne rfl rfl (zl1_ne rfl rfl h0)) ?_
                refine zw_getfield 159 f132_156 rfl g132_19_12 (hb_52 _ _ _ _) rfl ?_
                refine zw_iload_n 160 f132_159 rfl (zl2_ne rfl rfl (zl1_ne rfl rfl h1)) ?_
                refine zw_iaload k (A 56 k) 161 f132_160 rfl (hb_56 _ _ _ _) (nI_clamp (by omega)) (nI_pos (by omega)) (by omega) (congrFun (((K_3.2.2.1 56 rfl).trans ((K_2.2.2.1 56 rfl).trans (K.2.2.1 56 rfl)))) k) ?_
                refine zw_i2l (Int32.toInt64 (A 56 k)) 162 f132_161 rfl rfl ?_
                refine zw_aload_n 163 f132_162 rfl (zl2_ne rfl rfl (zl1_ne rfl rfl h0)) ?_
                refine zw_getG (G 52 12) 166 f132_163 rfl g132_40_12 (hb_52 _ _ _ _) rfl ((K_3.2.1 52 12 rfl).trans ((K_2.2.1 52 12 rfl).trans (K.2.1 52 12 rfl))) ?_
                refine zw_lmul ((Int32.toInt64 (A 56 k)) * (G 52 12)) 167 f132_166 rfl rfl ?_
                refine zw_lsub ((B 63 k) - ((Int32.toInt64 (A 56 k)) * (G 52 12))) 168 f132_167 rfl rfl ?_
                refine zw_iload_n 169 f132_168 rfl (zl2_ne rfl rfl zl1_eq) ?_
                refine zw_ineg (-(mCh nv np G A B k)) 170 f132_169 rfl rfl ?_
                refine zw_virtual_v 173 0 0 [.ref 52, .long ((B 63 k) - ((Int32.toInt64 (A 56 k)) * (G 52 12))), .int (-(mCh nv np G A B k))] [(0, .ref 52), (1, .long ((B 63 k) - ((Int32.toInt64 (A 56 k)) * (G 52 12)))), (3, .int (-(mCh nv np G A B k)))] f132_170 rfl n132_154 k132_154_12 rfl (hb_52 _ _ _ _) (by decide +kernel) (Nat.le_of_ble_eq_true rfl) rfl rfl (by decide +kernel) (by decide +kernel) rfl (Nat.le_of_ble_eq_true rfl) rfl ?_
                refine zWp.mono (mm_may ro _ _ _ _ ((B 63 k) - ((Int32.toInt64 (A 56 k)) * (G 52 12))) (-(mCh nv np G A B k))) ?_
                rintro r h1 ⟨I_13, G_13, rfl, K_13, N_13, rfl⟩
                refine ⟨rfl, ?_⟩
                have N_13 : mN I_13 G_13 = mayF (G 52 12) (mayF (G 52 12) (mayF (G 52 12) (mSk (A 53) (A 54) (A 55) (A 56) (A 57) (A 64) (A 65) (mCh nv np G A B) (B 63) (G 52 12) (1, G 52 36, G 52 37) k) (((Int32.toInt64 (A 54 k)) * (G 52 12)) - (B 63 k)) (mCh nv np G A B k)) (B 63 k) (-(mCh nv np G A B k))) ((B 63 k) - ((Int32.toInt64 (A 56 k)) * (G 52 12))) (-(mCh nv np G A B k)) := N_13.trans (by rw [((K_3.2.1 52 12 rfl).trans ((K_2.2.1 52 12 rfl).trans (K.2.1 52 12 rfl))), N_3])
                have L_13 := KQ.tr L_3 (KQ.wk K_13 fN_S p0_x)
                refine zw_iinc (nI (k + 1)) _ 176 f132_173 rfl (zl2_ne rfl rfl (zl1_ne rfl rfl h1)) (by decide +kernel) (nI_1 _) rfl ?_
                refine zw_goto 11 f132_176 (by decide +kernel) ?_
                have E : mN I_13 G_13 = (mSk (A 53) (A 54) (A 55) (A 56) (A 57) (A 64) (A 65) (mCh nv np G A B) (B 63) (G 52 12) (1, G 52 36, G 52 37) (k + 1)) := by
                  rw [mSk_s, mS2_a hc4, mS3_c (Or.inr (Decidable.of_not_not hc10)) t11q (by omega) hc12]
                  exact N_13
                exact ih (k + 1) _ _ _ _ _ L_13 ⟨⟨⟨hr.1.1.1, (((K_13.1 52 35 rfl).trans ((K_3.1 52 35 rfl).trans (K_2.1 52 35 rfl)))).trans hr.1.1.2.1, hr.1.1.2.2⟩, (((K_13.1 52 34 rfl).trans ((K_3.1 52 34 rfl).trans (K_2.1 52 34 rfl)))).trans hr.1.2⟩, E⟩ (zl1_ne rfl rfl (zl2_ne rfl rfl (zl1_ne rfl rfl h0))) zl1_eq (by omega) (by omega)
              · refine zw_aload_n 140 f132_139 rfl (zl2_ne rfl rfl (zl1_ne rfl rfl h0)) ?_
                refine zw_lload_n 141 f132_140 rfl zl2_eq ?_
                refine zw_iload_n 142 f132_141 rfl (zl2_ne rfl rfl zl1_eq) ?_
                refine zw_virtual_v 145 0 0 [.ref 52, .long (((Int32.toInt64 (A 55 k)) * (G 52 12)) - (B 63 k)), .int (mCh nv np G A B k)] [(0, .ref 52), (1, .long (((Int32.toInt64 (A 55 k)) * (G 52 12)) - (B 63 k))), (3, .int (mCh nv np G A B k))] f132_142 rfl n132_154 k132_154_12 rfl (hb_52 _ _ _ _) (by decide +kernel) (Nat.le_of_ble_eq_true rfl) rfl rfl (by decide +kernel) (by decide +kernel) rfl (Nat.le_of_ble_eq_true rfl) rfl ?_
                refine zWp.mono (mm_may ro _ _ _ _ (((Int32.toInt64 (A 55 k)) * (G 52 12)) - (B 63 k)) (mCh nv np G A B k)) ?_
                rintro r h1 ⟨I_14, G_14, rfl, K_14, N_14, rfl⟩
                refine ⟨rfl, ?_⟩
                have N_14 : mN I_14 G_14 = mayF (G 52 12) (mayF (G 52 12) (mayF (G 52 12) (mSk (A 53) (A 54) (A 55) (A 56) (A 57) (A 64) (A 65) (mCh nv np G A B) (B 63) (G 52 12) (1, G 52 36, G 52 37) k) (((Int32.toInt64 (A 54 k)) * (G 52 12)) - (B 63 k)) (mCh nv np G A B k)) (B 63 k) (-(mCh nv np G A B k))) (((Int32.toInt64 (A 55 k)) * (G 52 12)) - (B 63 k)) (mCh nv np G A B k) := N_14.trans (by rw [((K_3.2.1 52 12 rfl).trans ((K_2.2.1 52 12 rfl).trans (K.2.1 52 12 rfl))), N_3])
                have L_14 := KQ.tr L_3 (KQ.wk K_14 fN_S p0_x)
                refine zw_goto 173 f132_145 (by decide +kernel) ?_
                refine zw_iinc (nI (k + 1)) _ 176 f132_173 rfl (zl2_ne rfl rfl (zl1_ne rfl rfl h1)) (by decide +kernel) (nI_1 _) rfl ?_
                refine zw_goto 11 f132_176 (by decide +kernel) ?_
                have E : mN I_14 G_14 = (mSk (A 53) (A 54) (A 55) (A 56) (A 57) (A 64) (A 65) (mCh nv np G A B) (B 63) (G 52 12) (1, G 52 36, G 52 37) (k + 1)) := by
                  rw [mSk_s, mS2_a hc4, mS3_d (Or.inr (Decidable.of_not_not hc10)) t11q (by omega) hc12]
                  exact N_14
                exact ih (k + 1) _ _ _ _ _ L_14 ⟨⟨⟨hr.1.1.1, (((K_14.1 52 35 rfl).trans ((K_3.1 52 35 rfl).trans (K_2.1 52 35 rfl)))).trans hr.1.1.2.1, hr.1.1.2.2⟩, (((K_14.1 52 34 rfl).trans ((K_3.1 52 34 rfl).trans (K_2.1 52 34 rfl)))).trans hr.1.2⟩, E⟩ (zl1_ne rfl rfl (zl2_ne rfl rfl (zl1_ne rfl rfl h0))) zl1_eq (by omega) (by omega)
      · refine zw_aload_n 93 f132_92 rfl (zl2_ne rfl rfl (zl1_ne rfl rfl h0)) ?_
        refine zw_getfield 96 f132_93 rfl g132_52_12 (hb_52 _ _ _ _) rfl ?_
        refine zw_iload_n 97 f132_96 rfl (zl2_ne rfl rfl (zl1_ne rfl rfl h1)) ?_
        refine zw_baload k (A 65 k) 98 f132_97 rfl (hb_65 _ _ _ _) (nI_clamp (by omega)) (nI_pos (by omega)) (by omega) (congrFun (((K_3.2.2.1 65 rfl).trans ((K_2.2.2.1 65 rfl).trans (K.2.2.1 65 rfl)))) k) ?_
        refine zw_if_ne 101 107 f132_98 (by decide +kernel) rfl (fun hc15 => ?_) (fun hc15 => ?_)
        · refine zw_aload_n 108 f132_107 rfl (zl2_ne rfl rfl (zl1_ne rfl rfl h0)) ?_
          refine zw_iload_n 109 f132_108 rfl (zl2_ne rfl rfl (zl1_ne rfl rfl h1)) ?_
          refine zw_virtual_i 112 0 0 [.ref 52, .int (nI k)] [(0, .ref 52), (1, .int (nI k))] f132_109 rfl n132_158 k132_158_12 rfl (hb_52 _ _ _ _) (by decide +kernel) (Nat.le_of_ble_eq_true rfl) rfl rfl (by decide +kernel) (by decide +kernel) rfl (Nat.le_of_ble_eq_true rfl) rfl ?_
          refine zw_aload_n 1 f126_0 rfl rfl ?_
          refine zw_getfield 4 f126_1 rfl g126_7_12 (hb_52 _ _ _ _) rfl ?_
          refine zw_iload_n 5 f126_4 rfl rfl ?_
          refine zw_iaload k (A 53 k) 6 f126_5 rfl (hb_53 _ _ _ _) (nI_clamp (by omega)) (nI_pos (by omega)) (by omega) (congrFun (((K_3.2.2.1 53 rfl).trans ((K_2.2.2.1 53 rfl).trans (K.2.2.1 53 rfl)))) k) ?_
          refine zw_iconst 3 7 f126_6 rfl (by decide +kernel) ?_
          refine zw_ic_eq 10 20 f126_7 (by decide +kernel) rfl (fun hc16 => ?_) (fun hc16 => ?_)
          · refine zw_iconst 1 21 f126_20 rfl (by decide +kernel) ?_
            refine zw_goto 25 f126_21 (by decide +kernel) ?_
            refine zw_zreturn f126_25 r126 u126 (by decide +kernel) ⟨_, rfl, ?_⟩
            refine zw_if_eq_f 115 173 f132_112 (by decide +kernel) rfl (by decide +kernel) ?_
            refine zw_aload_n 116 f132_115 rfl (zl2_ne rfl rfl (zl1_ne rfl rfl h0)) ?_
            refine zw_getfield 119 f132_116 rfl g132_22_12 (hb_52 _ _ _ _) rfl ?_
            refine zw_iload_n 120 f132_119 rfl (zl2_ne rfl rfl (zl1_ne rfl rfl h1)) ?_
            rcases (hP.2.2.1 k (by omega)).2.2.2.1 with t17q | ⟨t17, t17l, t17n, t17q⟩
            · refine zw_iaload k (-1) 121 f132_120 rfl (hb_57 _ _ _ _) (nI_clamp (by omega)) (nI_pos (by omega)) (by omega) ((congrFun ((K_3.2.2.1 57 rfl).trans ((K_2.2.2.1 57 rfl).trans (K.2.2.1 57 rfl))) k).trans t17q) ?_
              refine zw_iconst (-1) 122 f132_121 rfl (by decide +kernel) ?_
              refine zw_ic_eq_t 173 f132_122 (by decide +kernel) (by decide +kernel) ?_
              refine zw_iinc (nI (k + 1)) _ 176 f132_173 rfl (zl2_ne rfl rfl (zl1_ne rfl rfl h1)) (by decide +kernel) (nI_1 _) rfl ?_
              refine zw_goto 11 f132_176 (by decide +kernel) ?_
              have E : mN I_3 G_3 = (mSk (A 53) (A 54) (A 55) (A 56) (A 57) (A 64) (A 65) (mCh nv np G A B) (B 63) (G 52 12) (1, G 52 36, G 52 37) (k + 1)) := by
                rw [mSk_s, mS2_b hc15, mS3_b t17q]
                exact N_3
              exact ih (k + 1) _ _ _ _ _ L_3 ⟨⟨⟨hr.1.1.1, (((K_3.1 52 35 rfl).trans (K_2.1 52 35 rfl))).trans hr.1.1.2.1, hr.1.1.2.2⟩, (((K_3.1 52 34 rfl).trans (K_2.1 52 34 rfl))).trans hr.1.2⟩, E⟩ (zl1_ne rfl rfl (zl2_ne rfl rfl (zl1_ne rfl rfl h0))) zl1_eq (by omega) (by omega)
            · refine zw_iaload k (nI t17) 121 f132_120 rfl (hb_57 _ _ _ _) (nI_clamp (by omega)) (nI_pos (by omega)) (by omega) ((congrFun ((K_3.2.2.1 57 rfl).trans ((K_2.2.2.1 57 rfl).trans (K.2.2.1 57 rfl))) k).trans t17q) ?_
              refine zw_iconst (-1) 122 f132_121 rfl (by decide +kernel) ?_
              refine zw_ic_eq_f 125 173 f132_122 (by decide +kernel) rfl (nI_nem (by omega)) ?_
              refine zw_aload_n 126 f132_125 rfl (zl2_ne rfl rfl (zl1_ne rfl rfl h0)) ?_
              refine zw_getfield 129 f132_126 rfl g132_48_12 (hb_52 _ _ _ _) rfl ?_
              refine zw_aload_n 130 f132_129 rfl (zl2_ne rfl rfl (zl1_ne rfl rfl h0)) ?_
              refine zw_getfield 133 f132_130 rfl g132_22_12 (hb_52 _ _ _ _) rfl ?_
              refine zw_iload_n 134 f132_133 rfl (zl2_ne rfl rfl (zl1_ne rfl rfl h1)) ?_
              refine zw_iaload k (nI t17) 135 f132_134 rfl (hb_57 _ _ _ _) (nI_clamp (by omega)) (nI_pos (by omega)) (by omega) ((congrFun ((K_3.2.2.1 57 rfl).trans ((K_2.2.2.1 57 rfl).trans (K.2.2.1 57 rfl))) k).trans t17q) ?_
              refine zw_baload t17 (A 64 t17) 136 f132_135 rfl (hb_64 _ _ _ _) (nI_clamp (by omega)) (nI_pos (by omega)) (by omega) (congrFun (((K_3.2.2.1 64 rfl).trans ((K_2.2.2.1 64 rfl).trans (K.2.2.1 64 rfl)))) t17) ?_
              refine zw_if_eq 139 148 f132_136 (by decide +kernel) rfl (fun hc18 => ?_) (fun hc18 => ?_)
              · refine zw_aload_n 149 f132_148 rfl (zl2_ne rfl rfl (zl1_ne rfl rfl h0)) ?_
                refine zw_aload_n 150 f132_149 rfl (zl2_ne rfl rfl (zl1_ne rfl rfl h0)) ?_
                refine zw_getfield 153 f132_150 rfl g132_44_12 (hb_52 _ _ _ _) rfl ?_
                refine zw_iload_n 154 f132_153 rfl (zl2_ne rfl rfl (zl1_ne rfl rfl h1)) ?_
                refine zw_laload k (B 63 k) 155 f132_154 rfl (hb_63 _ _ _ _) (nI_clamp (by omega)) (nI_pos (by omega)) (by omega) (congrFun (((K_3.2.2.2 63 rfl).trans ((K_2.2.2.2 63 rfl).trans (K.2.2.2 63 rfl)))) k) ?_
                refine zw_aload_n 156 f132_155 rfl (zl2_ne rfl rfl (zl1_ne rfl rfl h0)) ?_
                refine zw_getfield 159 f132_156 rfl g132_19_12 (hb_52 _ _ _ _) rfl ?_
                refine zw_iload_n 160 f132_159 rfl (zl2_ne rfl rfl (zl1_ne rfl rfl h1)) ?_
                refine zw_iaload k (A 56 k) 161 f132_160 rfl (hb_56 _ _ _ _) (nI_clamp (by omega)) (nI_pos (by omega)) (by omega) (congrFun (((K_3.2.2.1 56 rfl).trans ((K_2.2.2.1 56 rfl).trans (K.2.2.1 56 rfl)))) k) ?_
                refine zw_i2l (Int32.toInt64 (A 56 k)) 162 f132_161 rfl rfl ?_
                refine zw_aload_n 163 f132_162 rfl (zl2_ne rfl rfl (zl1_ne rfl rfl h0)) ?_
                refine zw_getG (G 52 12) 166 f132_163 rfl g132_40_12 (hb_52 _ _ _ _) rfl ((K_3.2.1 52 12 rfl).trans ((K_2.2.1 52 12 rfl).trans (K.2.1 52 12 rfl))) ?_
                refine zw_lmul ((Int32.toInt64 (A 56 k)) * (G 52 12)) 167 f132_166 rfl rfl ?_
                refine zw_lsub ((B 63 k) - ((Int32.toInt64 (A 56 k)) * (G 52 12))) 168 f132_167 rfl rfl ?_
                refine zw_iload_n 169 f132_168 rfl (zl2_ne rfl rfl zl1_eq) ?_
                refine zw_ineg (-(mCh nv np G A B k)) 170 f132_169 rfl rfl ?_
                refine zw_virtual_v 173 0 0 [.ref 52, .long ((B 63 k) - ((Int32.toInt64 (A 56 k)) * (G 52 12))), .int (-(mCh nv np G A B k))] [(0, .ref 52), (1, .long ((B 63 k) - ((Int32.toInt64 (A 56 k)) * (G 52 12)))), (3, .int (-(mCh nv np G A B k)))] f132_170 rfl n132_154 k132_154_12 rfl (hb_52 _ _ _ _) (by decide +kernel) (Nat.le_of_ble_eq_true rfl) rfl rfl (by decide +kernel) (by decide +kernel) rfl (Nat.le_of_ble_eq_true rfl) rfl ?_
                refine zWp.mono (mm_may ro _ _ _ _ ((B 63 k) - ((Int32.toInt64 (A 56 k)) * (G 52 12))) (-(mCh nv np G A B k))) ?_
                rintro r h1 ⟨I_19, G_19, rfl, K_19, N_19, rfl⟩
                refine ⟨rfl, ?_⟩
                have N_19 : mN I_19 G_19 = mayF (G 52 12) (mayF (G 52 12) (mayF (G 52 12) (mSk (A 53) (A 54) (A 55) (A 56) (A 57) (A 64) (A 65) (mCh nv np G A B) (B 63) (G 52 12) (1, G 52 36, G 52 37) k) (((Int32.toInt64 (A 54 k)) * (G 52 12)) - (B 63 k)) (mCh nv np G A B k)) (B 63 k) (-(mCh nv np G A B k))) ((B 63 k) - ((Int32.toInt64 (A 56 k)) * (G 52 12))) (-(mCh nv np G A B k)) := N_19.trans (by rw [((K_3.2.1 52 12 rfl).trans ((K_2.2.1 52 12 rfl).trans (K.2.1 52 12 rfl))), N_3])
                have L_19 := KQ.tr L_3 (KQ.wk K_19 fN_S p0_x)
                refine zw_iinc (nI (k + 1)) _ 176 f132_173 rfl (zl2_ne rfl rfl (zl1_ne rfl rfl h1)) (by decide +kernel) (nI_1 _) rfl ?_
                refine zw_goto 11 f132_176 (by decide +kernel) ?_
                have E : mN I_19 G_19 = (mSk (A 53) (A 54) (A 55) (A 56) (A 57) (A 64) (A 65) (mCh nv np G A B) (B 63) (G 52 12) (1, G 52 36, G 52 37) (k + 1)) := by
                  rw [mSk_s, mS2_b hc15, mS3_c (Or.inl hc16) t17q (by omega) hc18]
                  exact N_19
                exact ih (k + 1) _ _ _ _ _ L_19 ⟨⟨⟨hr.1.1.1, (((K_19.1 52 35 rfl).trans ((K_3.1 52 35 rfl).trans (K_2.1 52 35 rfl)))).trans hr.1.1.2.1, hr.1.1.2.2⟩, (((K_19.1 52 34 rfl).trans ((K_3.1 52 34 rfl).trans (K_2.1 52 34 rfl)))).trans hr.1.2⟩, E⟩ (zl1_ne rfl rfl (zl2_ne rfl rfl (zl1_ne rfl rfl h0))) zl1_eq (by omega) (by omega)
              · refine zw_aload_n 140 f132_139 rfl (zl2_ne rfl rfl (zl1_ne rfl rfl h0)) ?_
                refine zw_lload_n 141 f132_140 rfl zl2_eq ?_
                refine zw_iload_n 142 f132_141 rfl (zl2_ne rfl rfl zl1_eq) ?_
                refine zw_virtual_v 145 0 0 [.ref 52, .long (((Int32.toInt64 (A 55 k)) * (G 52 12)) - (B 63 k)), .int (mCh nv np G A B k)] [(0, .ref 52), (1, .long (((Int32.toInt64 (A 55 k)) * (G 52 12)) - (B 63 k))), (3, .int (mCh nv np G A B k))] f132_142 rfl n132_154 k132_154_12 rfl (hb_52 _ _ _ _) (by decide +kernel) (Nat.le_of_ble_eq_true rfl) rfl rfl (by decide +kernel) (by decide +kernel) rfl (Nat.le_of_ble_eq_true rfl) rfl ?_
                refine zWp.mono (mm_may ro _ _ _ _ (((Int32.toInt64 (A 55 k)) * (G 52 12)) - (B 63 k)) (mCh nv np G A B k)) ?_
                rintro r h1 ⟨I_20, G_20, rfl, K_20, N_20, rfl⟩
                refine ⟨rfl, ?_⟩
                have N_20 : mN I_20 G_20 = mayF (G 52 12) (mayF (G 52 12) (mayF (G 52 12) (mSk (A 53) (A 54) (A 55) (A 56) (A 57) (A 64) (A 65) (mCh nv np G A B) (B 63) (G 52 12) (1, G 52 36, G 52 37) k) (((Int32.toInt64 (A 54 k)) * (G 52 12)) - (B 63 k)) (mCh nv np G A B k)) (B 63 k) (-(mCh nv np G A B k))) (((Int32.toInt64 (A 55 k)) * (G 52 12)) - (B 63 k)) (mCh nv np G A B k) := N_20.trans (by rw [((K_3.2.1 52 12 rfl).trans ((K_2.2.1 52 12 rfl).trans (K.2.1 52 12 rfl))), N_3])
                have L_20 := KQ.tr L_3 (KQ.wk K_20 fN_S p0_x)
                refine zw_goto 173 f132_145 (by decide +kernel) ?_
                refine zw_iinc (nI (k + 1)) _ 176 f132_173 rfl (zl2_ne rfl rfl (zl1_ne rfl rfl h1)) (by decide +kernel) (nI_1 _) rfl ?_
                refine zw_goto 11 f132_176 (by decide +kernel) ?_
                have E : mN I_20 G_20 = (mSk (A 53) (A 54) (A 55) (A 56) (A 57) (A 64) (A 65) (mCh nv np G A B) (B 63) (G 52 12) (1, G 52 36, G 52 37) (k + 1)) := by
                  rw [mSk_s, mS2_b hc15, mS3_d (Or.inl hc16) t17q (by omega) hc18]
                  exact N_20
                exact ih (k + 1) _ _ _ _ _ L_20 ⟨⟨⟨hr.1.1.1, (((K_20.1 52 35 rfl).trans ((K_3.1 52 35 rfl).trans (K_2.1 52 35 rfl)))).trans hr.1.1.2.1, hr.1.1.2.2⟩, (((K_20.1 52 34 rfl).trans ((K_3.1 52 34 rfl).trans (K_2.1 52 34 rfl)))).trans hr.1.2⟩, E⟩ (zl1_ne rfl rfl (zl2_ne rfl rfl (zl1_ne rfl rfl h0))) zl1_eq (by omega) (by omega)
          · refine zw_aload_n 11 f126_10 rfl rfl ?_
            refine zw_getfield 14 f126_11 rfl g126_7_12 (hb_52 _ _ _ _) rfl ?_
            refine zw_iload_n 15 f126_14 rfl rfl ?_
            refine zw_iaload k (A 53 k) 16 f126_15 rfl (hb_53 _ _ _ _) (nI_clamp (by omega)) (nI_pos (by omega)) (by omega) (congrFun (((K_3.2.2.1 53 rfl).trans ((K_2.2.2.1 53 rfl).trans (K.2.2.1 53 rfl)))) k) ?_
            refine zw_iconst 4 17 f126_16 rfl (by decide +kernel) ?_
            refine zw_ic_ne 20 24 f126_17 (by decide +kernel) rfl (fun hc21 => ?_) (fun hc21 => ?_)
            · refine zw_iconst 0 25 f126_24 rfl (by decide +kernel) ?_
              refine zw_zreturn f126_25 r126 u126 (by decide +kernel) ⟨_, rfl, ?_⟩
              refine zw_if_eq_t 173 f132_112 (by decide +kernel) (by decide +kernel) ?_
              refine zw_iinc (nI (k + 1)) _ 176 f132_173 rfl (zl2_ne rfl rfl (zl1_ne rfl rfl h1)) (by decide +kernel) (nI_1 _) rfl ?_
              refine zw_goto 11 f132_176 (by decide +kernel) ?_
              have E : mN I_3 G_3 = (mSk (A 53) (A 54) (A 55) (A 56) (A 57) (A 64) (A 65) (mCh nv np G A B) (B 63) (G 52 12) (1, G 52 36, G 52 37) (k + 1)) := by
                rw [mSk_s, mS2_b hc15, mS3_a hc16 hc21]
                exact N_3
              exact ih (k + 1) _ _ _ _ _ L_3 ⟨⟨⟨hr.1.1.1, (((K_3.1 52 35 rfl).trans (K_2.1 52 35 rfl))).trans hr.1.1.2.1, hr.1.1.2.2⟩, (((K_3.1 52 34 rfl).trans (K_2.1 52 34 rfl))).trans hr.1.2⟩, E⟩ (zl1_ne rfl rfl (zl2_ne rfl rfl (zl1_ne rfl rfl h0))) zl1_eq (by omega) (by omega)
            · refine zw_iconst 1 21 f126_20 rfl (by decide +kernel) ?_
              refine zw_goto 25 f126_21 (by decide +kernel) ?_
              refine zw_zreturn f126_25 r126 u126 (by decide +kernel) ⟨_, rfl, ?_⟩
              refine zw_if_eq_f 115 173 f132_112 (by decide +kernel) rfl (by decide +kernel) ?_
              refine zw_aload_n 116 f132_115 rfl (zl2_ne rfl rfl (zl1_ne rfl rfl h0)) ?_
              refine zw_getfield 119 f132_116 rfl g132_22_12 (hb_52 _ _ _ _) rfl ?_
              refine zw_iload_n 120 f132_119 rfl (zl2_ne rfl rfl (zl1_ne rfl rfl h1)) ?_
              rcases (hP.2.2.1 k (by omega)).2.2.2.1 with t22q | ⟨t22, t22l, t22n, t22q⟩
              · refine zw_iaload k (-1) 121 f132_120 rfl (hb_57 _ _ _ _) (nI_clamp (by omega)) (nI_pos (by omega)) (by omega) ((congrFun ((K_3.2.2.1 57 rfl).trans ((K_2.2.2.1 57 rfl).trans (K.2.2.1 57 rfl))) k).trans t22q) ?_
                refine zw_iconst (-1) 122 f132_121 rfl (by decide +kernel) ?_
                refine zw_ic_eq_t 173 f132_122 (by decide +kernel) (by decide +kernel) ?_
                refine zw_iinc (nI (k + 1)) _ 176 f132_173 rfl (zl2_ne rfl rfl (zl1_ne rfl rfl h1)) (by decide +kernel) (nI_1 _) rfl ?_
                refine zw_goto 11 f132_176 (by decide +kernel) ?_
                have E : mN I_3 G_3 = (mSk (A 53) (A 54) (A 55) (A 56) (A 57) (A 64) (A 65) (mCh nv np G A B) (B 63) (G 52 12) (1, G 52 36, G 52 37) (k + 1)) := by
                  rw [mSk_s, mS2_b hc15, mS3_b t22q]
                  exact N_3
                exact ih (k + 1) _ _ _ _ _ L_3 ⟨⟨⟨hr.1.1.1, (((K_3.1 52 35 rfl).trans (K_2.1 52 35 rfl))).trans hr.1.1.2.1, hr.1.1.2.2⟩, (((K_3.1 52 34 rfl).trans (K_2.1 52 34 rfl))).trans hr.1.2⟩, E⟩ (zl1_ne rfl rfl (zl2_ne rfl rfl (zl1_ne rfl rfl h0))) zl1_eq (by omega) (by omega)
              · refine zw_iaload k (nI t22) 121 f132_120 rfl (hb_57 _ _ _ _) (nI_clamp (by omega)) (nI_pos (by omega)) (by omega) ((congrFun ((K_3.2.2.1 57 rfl).trans ((K_2.2.2.1 57 rfl).trans (K.2.2.1 57 rfl))) k).trans t22q) ?_
                refine zw_iconst (-1) 122 f132_121 rfl (by decide +kernel) ?_
                refine zw_ic_eq_f 125 173 f132_122 (by decide +kernel) rfl (nI_nem (by omega)) ?_
                refine zw_aload_n 126 f132_125 rfl (zl2_ne rfl rfl (zl1_ne rfl rfl h0)) ?_
                refine zw_getfield 129 f132_126 rfl g132_48_12 (hb_52 _ _ _ _) rfl ?_
                refine zw_aload_n 130 f132_129 rfl (zl2_ne rfl rfl (zl1_ne rfl rfl h0)) ?_
                refine zw_getfield 133 f132_130 rfl g132_22_12 (hb_52 _ _ _ _) rfl ?_
                refine zw_iload_n 134 f132_133 rfl (zl2_ne rfl rfl (zl1_ne rfl rfl h1)) ?_
                refine zw_iaload k (nI t22) 135 f132_134 rfl (hb_57 _ _ _ _) (nI_clamp (by omega)) (nI_pos (by omega)) (by omega) ((congrFun ((K_3.2.2.1 57 rfl).trans ((K_2.2.2.1 57 rfl).trans (K.2.2.1 57 rfl))) k).trans t22q) ?_
                refine zw_baload t22 (A 64 t22) 136 f132_135 rfl (hb_64 _ _ _ _) (nI_clamp (by omega)) (nI_pos (by omega)) (by omega) (congrFun (((K_3.2.2.1 64 rfl).trans ((K_2.2.2.1 64 rfl).trans (K.2.2.1 64 rfl)))) t22) ?_
                refine zw_if_eq 139 148 f132_136 (by decide +kernel) rfl (fun hc23 => ?_) (fun hc23 => ?_)
                · refine zw_aload_n 149 f132_148 rfl (zl2_ne rfl rfl (zl1_ne rfl rfl h0)) ?_
                  refine zw_aload_n 150 f132_149 rfl (zl2_ne rfl rfl (zl1_ne rfl rfl h0)) ?_
                  refine zw_getfield 153 f132_150 rfl g132_44_12 (hb_52 _ _ _ _) rfl ?_
                  refine zw_iload_n 154 f132_153 rfl (zl2_ne rfl rfl (zl1_ne rfl rfl h1)) ?_
                  refine zw_laload k (B 63 k) 155 f132_154 rfl (hb_63 _ _ _ _) (nI_clamp (by omega)) (nI_pos (by omega)) (by omega) (congrFun (((K_3.2.2.2 63 rfl).trans ((K_2.2.2.2 63 rfl).trans (K.2.2.2 63 rfl)))) k) ?_
                  refine zw_aload_n 156 f132_155 rfl (zl2_ne rfl rfl (zl1_ne rfl rfl h0)) ?_
                  refine zw_getfield 159 f132_156 rfl g132_19_12 (hb_52 _ _ _ _) rfl ?_
                  refine zw_iload_n 160 f132_159 rfl (zl2_ne rfl rfl (zl1_ne rfl rfl h1)) ?_
                  refine zw_iaload k (A 56 k) 161 f132_160 rfl (hb_56 _ _ _ _) (nI_clamp (by omega)) (nI_pos (by omega)) (by omega) (congrFun (((K_3.2.2.1 56 rfl).trans ((K_2.2.2.1 56 rfl).trans (K.2.2.1 56 rfl)))) k) ?_
                  refine zw_i2l (Int32.toInt64 (A 56 k)) 162 f132_161 rfl rfl ?_
                  refine zw_aload_n 163 f132_162 rfl (zl2_ne rfl rfl (zl1_ne rfl rfl h0)) ?_
                  refine zw_getG (G 52 12) 166 f132_163 rfl g132_40_12 (hb_52 _ _ _ _) rfl ((K_3.2.1 52 12 rfl).trans ((K_2.2.1 52 12 rfl).trans (K.2.1 52 12 rfl))) ?_
                  refine zw_lmul ((Int32.toInt64 (A 56 k)) * (G 52 12)) 167 f132_166 rfl rfl ?_
                  refine zw_lsub ((B 63 k) - ((Int32.toInt64 (A 56 k)) * (G 52 12))) 168 f132_167 rfl rfl ?_
                  refine zw_iload_n 169 f132_168 rfl (zl2_ne rfl rfl zl1_eq) ?_
                  refine zw_ineg (-(mCh nv np G A B k)) 170 f132_169 rfl rfl ?_
                  refine zw_virtual_v 173 0 0 [.ref 52, .long ((B 63 k) - ((Int32.toInt64 (A 56 k)) * (G 52 12))), .int (-(mCh nv np G A B k))] [(0, .ref 52), (1, .long ((B 63 k) - ((Int32.toInt64 (A 56 k)) * (G 52 12)))), (3, .int (-(mCh nv np G A B k)))] f132_170 rfl n132_154 k132_154_12 rfl (hb_52 _ _ _ _) (by decide +kernel) (Nat.le_of_ble_eq_true rfl) rfl rfl (by decide +kernel) (by decide +kernel) rfl (Nat.le_of_ble_eq_true rfl) rfl ?_
                  refine zWp.mono (mm_may ro _ _ _ _ ((B 63 k) - ((Int32.toInt64 (A 56 k)) * (G 52 12))) (-(mCh nv np G A B k))) ?_
                  rintro r h1 ⟨I_24, G_24, rfl, K_24, N_24, rfl⟩
                  refine ⟨rfl, ?_⟩
                  have N_24 : mN I_24 G_24 = mayF (G 52 12) (mayF (G 52 12) (mayF (G 52 12) (mSk (A 53) (A 54) (A 55) (A 56) (A 57) (A 64) (A 65) (mCh nv np G A B) (B 63) (G 52 12) (1, G 52 36, G 52 37) k) (((Int32.toInt64 (A 54 k)) * (G 52 12)) - (B 63 k)) (mCh nv np G A B k)) (B 63 k) (-(mCh nv np G A B k))) ((B 63 k) - ((Int32.toInt64 (A 56 k)) * (G 52 12))) (-(mCh nv np G A B k)) := N_24.trans (by rw [((K_3.2.1 52 12 rfl).trans ((K_2.2.1 52 12 rfl).trans (K.2.1 52 12 rfl))), N_3])
                  have L_24 := KQ.tr L_3 (KQ.wk K_24 fN_S p0_x)
                  refine zw_iinc (nI (k + 1)) _ 176 f132_173 rfl (zl2_ne rfl rfl (zl1_ne rfl rfl h1)) (by decide +kernel) (nI_1 _) rfl ?_
                  refine zw_goto 11 f132_176 (by decide +kernel) ?_
                  have E : mN I_24 G_24 = (mSk (A 53) (A 54) (A 55) (A 56) (A 57) (A 64) (A 65) (mCh nv np G A B) (B 63) (G 52 12) (1, G 52 36, G 52 37) (k + 1)) := by
                    rw [mSk_s, mS2_b hc15, mS3_c (Or.inr (Decidable.of_not_not hc21)) t22q (by omega) hc23]
                    exact N_24
                  exact ih (k + 1) _ _ _ _ _ L_24 ⟨⟨⟨hr.1.1.1, (((K_24.1 52 35 rfl).trans ((K_3.1 52 35 rfl).trans (K_2.1 52 35 rfl)))).trans hr.1.1.2.1, hr.1.1.2.2⟩, (((K_24.1 52 34 rfl).trans ((K_3.1 52 34 rfl).trans (K_2.1 52 34 rfl)))).trans hr.1.2⟩, E⟩ (zl1_ne rfl rfl (zl2_ne rfl rfl (zl1_ne rfl rfl h0))) zl1_eq (by omega) (by omega)
                · refine zw_aload_n 140 f132_139 rfl (zl2_ne rfl rfl (zl1_ne rfl rfl h0)) ?_
                  refine zw_lload_n 141 f132_140 rfl zl2_eq ?_
                  refine zw_iload_n 142 f132_141 rfl (zl2_ne rfl rfl zl1_eq) ?_
                  refine zw_virtual_v 145 0 0 [.ref 52, .long (((Int32.toInt64 (A 55 k)) * (G 52 12)) - (B 63 k)), .int (mCh nv np G A B k)] [(0, .ref 52), (1, .long (((Int32.toInt64 (A 55 k)) * (G 52 12)) - (B 63 k))), (3, .int (mCh nv np G A B k))] f132_142 rfl n132_154 k132_154_12 rfl (hb_52 _ _ _ _) (by decide +kernel) (Nat.le_of_ble_eq_true rfl) rfl rfl (by decide +kernel) (by decide +kernel) rfl (Nat.le_of_ble_eq_true rfl) rfl ?_
                  refine zWp.mono (mm_may ro _ _ _ _ (((Int32.toInt64 (A 55 k)) * (G 52 12)) - (B 63 k)) (mCh nv np G A B k)) ?_
                  rintro r h1 ⟨I_25, G_25, rfl, K_25, N_25, rfl⟩
                  refine ⟨rfl, ?_⟩
                  have N_25 : mN I_25 G_25 = mayF (G 52 12) (mayF (G 52 12) (mayF (G 52 12) (mSk (A 53) (A 54) (A 55) (A 56) (A 57) (A 64) (A 65) (mCh nv np G A B) (B 63) (G 52 12) (1, G 52 36, G 52 37) k) (((Int32.toInt64 (A 54 k)) * (G 52 12)) - (B 63 k)) (mCh nv np G A B k)) (B 63 k) (-(mCh nv np G A B k))) (((Int32.toInt64 (A 55 k)) * (G 52 12)) - (B 63 k)) (mCh nv np G A B k) := N_25.trans (by rw [((K_3.2.1 52 12 rfl).trans ((K_2.2.1 52 12 rfl).trans (K.2.1 52 12 rfl))), N_3])
                  have L_25 := KQ.tr L_3 (KQ.wk K_25 fN_S p0_x)
                  refine zw_goto 173 f132_145 (by decide +kernel) ?_
                  refine zw_iinc (nI (k + 1)) _ 176 f132_173 rfl (zl2_ne rfl rfl (zl1_ne rfl rfl h1)) (by decide +kernel) (nI_1 _) rfl ?_
                  refine zw_goto 11 f132_176 (by decide +kernel) ?_
                  have E : mN I_25 G_25 = (mSk (A 53) (A 54) (A 55) (A 56) (A 57) (A 64) (A 65) (mCh nv np G A B) (B 63) (G 52 12) (1, G 52 36, G 52 37) (k + 1)) := by
                    rw [mSk_s, mS2_b hc15, mS3_d (Or.inr (Decidable.of_not_not hc21)) t22q (by omega) hc23]
                    exact N_25
                  exact ih (k + 1) _ _ _ _ _ L_25 ⟨⟨⟨hr.1.1.1, (((K_25.1 52 35 rfl).trans ((K_3.1 52 35 rfl).trans (K_2.1 52 35 rfl)))).trans hr.1.1.2.1, hr.1.1.2.2⟩, (((K_25.1 52 34 rfl).trans ((K_3.1 52 34 rfl).trans (K_2.1 52 34 rfl)))).trans hr.1.2⟩, E⟩ (zl1_ne rfl rfl (zl2_ne rfl rfl (zl1_ne rfl rfl h0))) zl1_eq (by omega) (by omega)
        · refine zw_aload_n 102 f132_101 rfl (zl2_ne rfl rfl (zl1_ne rfl rfl h0)) ?_
          refine zw_lload_n 103 f132_102 rfl zl2_eq ?_
          refine zw_iload_n 104 f132_103 rfl (zl2_ne rfl rfl zl1_eq) ?_
          refine zw_virtual_v 107 0 0 [.ref 52, .long (((Int32.toInt64 (A 55 k)) * (G 52 12)) - (B 63 k)), .int (mCh nv np G A B k)] [(0, .ref 52), (1, .long (((Int32.toInt64 (A 55 k)) * (G 52 12)) - (B 63 k))), (3, .int (mCh nv np G A B k))] f132_104 rfl n132_154 k132_154_12 rfl (hb_52 _ _ _ _) (by decide +kernel) (Nat.le_of_ble_eq_true rfl) rfl rfl (by decide +kernel) (by decide +kernel) rfl (Nat.le_of_ble_eq_true rfl) rfl ?_
          refine zWp.mono (mm_may ro _ _ _ _ (((Int32.toInt64 (A 55 k)) * (G 52 12)) - (B 63 k)) (mCh nv np G A B k)) ?_
          rintro r h1 ⟨I_26, G_26, rfl, K_26, N_26, rfl⟩
          refine ⟨rfl, ?_⟩
          have N_26 : mN I_26 G_26 = mayF (G 52 12) (mayF (G 52 12) (mayF (G 52 12) (mSk (A 53) (A 54) (A 55) (A 56) (A 57) (A 64) (A 65) (mCh nv np G A B) (B 63) (G 52 12) (1, G 52 36, G 52 37) k) (((Int32.toInt64 (A 54 k)) * (G 52 12)) - (B 63 k)) (mCh nv np G A B k)) (B 63 k) (-(mCh nv np G A B k))) (((Int32.toInt64 (A 55 k)) * (G 52 12)) - (B 63 k)) (mCh nv np G A B k) := N_26.trans (by rw [((K_3.2.1 52 12 rfl).trans ((K_2.2.1 52 12 rfl).trans (K.2.1 52 12 rfl))), N_3])
          have L_26 := KQ.tr L_3 (KQ.wk K_26 fN_S p0_x)
          refine zw_aload_n 108 f132_107 rfl (zl2_ne rfl rfl (zl1_ne rfl rfl h0)) ?_
          refine zw_iload_n 109 f132_108 rfl (zl2_ne rfl rfl (zl1_ne rfl rfl h1)) ?_
          refine zw_virtual_i 112 0 0 [.ref 52, .int (nI k)] [(0, .ref 52), (1, .int (nI k))] f132_109 rfl n132_158 k132_158_12 rfl (hb_52 _ _ _ _) (by decide +kernel) (Nat.le_of_ble_eq_true rfl) rfl rfl (by decide +kernel) (by decide +kernel) rfl (Nat.le_of_ble_eq_true rfl) rfl ?_
          refine zw_aload_n 1 f126_0 rfl rfl ?_
          refine zw_getfield 4 f126_1 rfl g126_7_12 (hb_52 _ _ _ _) rfl ?_
          refine zw_iload_n 5 f126_4 rfl rfl ?_
          refine zw_iaload k (A 53 k) 6 f126_5 rfl (hb_53 _ _ _ _) (nI_clamp (by omega)) (nI_pos (by omega)) (by omega) (congrFun (((K_26.2.2.1 53 rfl).trans ((K_3.2.2.1 53 rfl).trans ((K_2.2.2.1 53 rfl).trans (K.2.2.1 53 rfl))))) k) ?_
          refine zw_iconst 3 7 f126_6 rfl (by decide +kernel) ?_
          refine zw_ic_eq 10 20 f126_7 (by decide +kernel) rfl (fun hc27 => ?_) (fun hc27 => ?_)
          · refine zw_iconst 1 21 f126_20 rfl (by decide +kernel) ?_
            refine zw_goto 25 f126_21 (by decide +kernel) ?_
            refine zw_zreturn f126_25 r126 u126 (by decide +kernel) ⟨_, rfl, ?_⟩
            refine zw_if_eq_f 115 173 f132_112 (by decide +kernel) rfl (by decide +kernel) ?_
            refine zw_aload_n 116 f132_115 rfl (zl2_ne rfl rfl (zl1_ne rfl rfl h0)) ?_
            refine zw_getfield 119 f132_116 rfl g132_22_12 (hb_52 _ _ _ _) rfl ?_
            refine zw_iload_n 120 f132_119 rfl (zl2_ne rfl rfl (zl1_ne rfl rfl h1)) ?_
            rcases (hP.2.2.1 k (by omega)).2.2.2.1 with t28q | ⟨t28, t28l, t28n, t28q⟩
            · refine zw_iaload k (-1) 121 f132_120 rfl (hb_57 _ _ _ _) (nI_clamp (by omega)) (nI_pos (by omega)) (by omega) ((congrFun ((K_26.2.2.1 57 rfl).trans ((K_3.2.2.1 57 rfl).trans ((K_2.2.2.1 57 rfl).trans (K.2.2.1 57 rfl)))) k).trans t28q) ?_
              refine zw_iconst (-1) 122 f132_121 rfl (by decide +kernel) ?_
              refine zw_ic_eq_t 173 f132_122 (by decide +kernel) (by decide +kernel) ?_
              refine zw_iinc (nI (k + 1)) _ 176 f132_173 rfl (zl2_ne rfl rfl (zl1_ne rfl rfl h1)) (by decide +kernel) (nI_1 _) rfl ?_
              refine zw_goto 11 f132_176 (by decide +kernel) ?_
              have E : mN I_26 G_26 = (mSk (A 53) (A 54) (A 55) (A 56) (A 57) (A 64) (A 65) (mCh nv np G A B) (B 63) (G 52 12) (1, G 52 36, G 52 37) (k + 1)) := by
                rw [mSk_s, mS2_y (Decidable.of_not_not hc4) (Decidable.of_not_not hc15), mS3_b t28q]
                exact N_26
              exact ih (k + 1) _ _ _ _ _ L_26 ⟨⟨⟨hr.1.1.1, (((K_26.1 52 35 rfl).trans ((K_3.1 52 35 rfl).trans (K_2.1 52 35 rfl)))).trans hr.1.1.2.1, hr.1.1.2.2⟩, (((K_26.1 52 34 rfl).trans ((K_3.1 52 34 rfl).trans (K_2.1 52 34 rfl)))).trans hr.1.2⟩, E⟩ (zl1_ne rfl rfl (zl2_ne rfl rfl (zl1_ne rfl rfl h0))) zl1_eq (by omega) (by omega)
            · refine zw_iaload k (nI t28) 121 f132_120 rfl (hb_57 _ _ _ _) (nI_clamp (by omega)) (nI_pos (by omega)) (by omega) ((congrFun ((K_26.2.2.1 57 rfl).trans ((K_3.2.2.1 57 rfl).trans ((K_2.2.2.1 57 rfl).trans (K.2.2.1 57 rfl)))) k).trans t28q) ?_
              refine zw_iconst (-1) 122 f132_121 rfl (by decide +kernel) ?_
              refine zw_ic_eq_f 125 173 f132_122 (by decide +kernel) rfl (nI_nem (by omega)) ?_
              refine zw_aload_n 126 f132_125 rfl (zl2_ne rfl rfl (zl1_ne rfl rfl h0)) ?_
              refine zw_getfield 129 f132_126 rfl g132_48_12 (hb_52 _ _ _ _) rfl ?_
              refine zw_aload_n 130 f132_129 rfl (zl2_ne rfl rfl (zl1_ne rfl rfl h0)) ?_
              refine zw_getfield 133 f132_130 rfl g132_22_12 (hb_52 _ _ _ _) rfl ?_
              refine zw_iload_n 134 f132_133 rfl (zl2_ne rfl rfl (zl1_ne rfl rfl h1)) ?_
              refine zw_iaload k (nI t28) 135 f132_134 rfl (hb_57 _ _ _ _) (nI_clamp (by omega)) (nI_pos (by omega)) (by omega) ((congrFun ((K_26.2.2.1 57 rfl).trans ((K_3.2.2.1 57 rfl).trans ((K_2.2.2.1 57 rfl).trans (K.2.2.1 57 rfl)))) k).trans t28q) ?_
              refine zw_baload t28 (A 64 t28) 136 f132_135 rfl (hb_64 _ _ _ _) (nI_clamp (by omega)) (nI_pos (by omega)) (by omega) (congrFun (((K_26.2.2.1 64 rfl).trans ((K_3.2.2.1 64 rfl).trans ((K_2.2.2.1 64 rfl).trans (K.2.2.1 64 rfl))))) t28) ?_
              refine zw_if_eq 139 148 f132_136 (by decide +kernel) rfl (fun hc29 => ?_) (fun hc29 => ?_)
              · refine zw_aload_n 149 f132_148 rfl (zl2_ne rfl rfl (zl1_ne rfl rfl h0)) ?_
                refine zw_aload_n 150 f132_149 rfl (zl2_ne rfl rfl (zl1_ne rfl rfl h0)) ?_
                refine zw_getfield 153 f132_150 rfl g132_44_12 (hb_52 _ _ _ _) rfl ?_
                refine zw_iload_n 154 f132_153 rfl (zl2_ne rfl rfl (zl1_ne rfl rfl h1)) ?_
                refine zw_laload k (B 63 k) 155 f132_154 rfl (hb_63 _ _ _ _) (nI_clamp (by omega)) (nI_pos (by omega)) (by omega) (congrFun (((K_26.2.2.2 63 rfl).trans ((K_3.2.2.2 63 rfl).trans ((K_2.2.2.2 63 rfl).trans (K.2.2.2 63 rfl))))) k) ?_
                refine zw_aload_n 156 f132_155 rfl (zl2_ne rfl rfl (zl1_ne rfl rfl h0)) ?_
                refine zw_getfield 159 f132_156 rfl g132_19_12 (hb_52 _ _ _ _) rfl ?_
                refine zw_iload_n 160 f132_159 rfl (zl2_ne rfl rfl (zl1_ne rfl rfl h1)) ?_
                refine zw_iaload k (A 56 k) 161 f132_160 rfl (hb_56 _ _ _ _) (nI_clamp (by omega)) (nI_pos (by omega)) (by omega) (congrFun (((K_26.2.2.1 56 rfl).trans ((K_3.2.2.1 56 rfl).trans ((K_2.2.2.1 56 rfl).trans (K.2.2.1 56 rfl))))) k) ?_
                refine zw_i2l (Int32.toInt64 (A 56 k)) 162 f132_161 rfl rfl ?_
                refine zw_aload_n 163 f132_162 rfl (zl2_ne rfl rfl (zl1_ne rfl rfl h0)) ?_
                refine zw_getG (G 52 12) 166 f132_163 rfl g132_40_12 (hb_52 _ _ _ _) rfl ((K_26.2.1 52 12 rfl).trans ((K_3.2.1 52 12 rfl).trans ((K_2.2.1 52 12 rfl).trans (K.2.1 52 12 rfl)))) ?_
                refine zw_lmul ((Int32.toInt64 (A 56 k)) * (G 52 12)) 167 f132_166 rfl rfl ?_
                refine zw_lsub ((B 63 k) - ((Int32.toInt64 (A 56 k)) * (G 52 12))) 168 f132_167 rfl rfl ?_
                refine zw_iload_n 169 f132_168 rfl (zl2_ne rfl rfl zl1_eq) ?_
                refine zw_ineg (-(mCh nv np G A B k)) 170 f132_169 rfl rfl ?_
                refine zw_virtual_v 173 0 0 [.ref 52, .long ((B 63 k) - ((Int32.toInt64 (A 56 k)) * (G 52 12))), .int (-(mCh nv np G A B k))] [(0, .ref 52), (1, .long ((B 63 k) - ((Int32.toInt64 (A 56 k)) * (G 52 12)))), (3, .int (-(mCh nv np G A B k)))] f132_170 rfl n132_154 k132_154_12 rfl (hb_52 _ _ _ _) (by decide +kernel) (Nat.le_of_ble_eq_true rfl) rfl rfl (by decide +kernel) (by decide +kernel) rfl (Nat.le_of_ble_eq_true rfl) rfl ?_
                refine zWp.mono (mm_may ro _ _ _ _ ((B 63 k) - ((Int32.toInt64 (A 56 k)) * (G 52 12))) (-(mCh nv np G A B k))) ?_
                rintro r h1 ⟨I_30, G_30, rfl, K_30, N_30, rfl⟩
                refine ⟨rfl, ?_⟩
                have N_30 : mN I_30 G_30 = mayF (G 52 12) (mayF (G 52 12) (mayF (G 52 12) (mayF (G 52 12) (mSk (A 53) (A 54) (A 55) (A 56) (A 57) (A 64) (A 65) (mCh nv np G A B) (B 63) (G 52 12) (1, G 52 36, G 52 37) k) (((Int32.toInt64 (A 54 k)) * (G 52 12)) - (B 63 k)) (mCh nv np G A B k)) (B 63 k) (-(mCh nv np G A B k))) (((Int32.toInt64 (A 55 k)) * (G 52 12)) - (B 63 k)) (mCh nv np G A B k)) ((B 63 k) - ((Int32.toInt64 (A 56 k)) * (G 52 12))) (-(mCh nv np G A B k)) := N_30.trans (by rw [((K_26.2.1 52 12 rfl).trans ((K_3.2.1 52 12 rfl).trans ((K_2.2.1 52 12 rfl).trans (K.2.1 52 12 rfl)))), N_26])
                have L_30 := KQ.tr L_26 (KQ.wk K_30 fN_S p0_x)
                refine zw_iinc (nI (k + 1)) _ 176 f132_173 rfl (zl2_ne rfl rfl (zl1_ne rfl rfl h1)) (by decide +kernel) (nI_1 _) rfl ?_
                refine zw_goto 11 f132_176 (by decide +kernel) ?_
                have E : mN I_30 G_30 = (mSk (A 53) (A 54) (A 55) (A 56) (A 57) (A 64) (A 65) (mCh nv np G A B) (B 63) (G 52 12) (1, G 52 36, G 52 37) (k + 1)) := by
                  rw [mSk_s, mS2_y (Decidable.of_not_not hc4) (Decidable.of_not_not hc15), mS3_c (Or.inl hc27) t28q (by omega) hc29]
                  exact N_30
                exact ih (k + 1) _ _ _ _ _ L_30 ⟨⟨⟨hr.1.1.1, (((K_30.1 52 35 rfl).trans ((K_26.1 52 35 rfl).trans ((K_3.1 52 35 rfl).trans (K_2.1 52 35 rfl))))).trans hr.1.1.2.1, hr.1.1.2.2⟩, (((K_30.1 52 34 rfl).trans ((K_26.1 52 34 rfl).trans ((K_3.1 52 34 rfl).trans (K_2.1 52 34 rfl))))).trans hr.1.2⟩, E⟩ (zl1_ne rfl rfl (zl2_ne rfl rfl (zl1_ne rfl rfl h0))) zl1_eq (by omega) (by omega)
              · refine zw_aload_n 140 f132_139 rfl (zl2_ne rfl rfl (zl1_ne rfl rfl h0)) ?_
                refine zw_lload_n 141 f132_140 rfl zl2_eq ?_
                refine zw_iload_n 142 f132_141 rfl (zl2_ne rfl rfl zl1_eq) ?_
                refine zw_virtual_v 145 0 0 [.ref 52, .long (((Int32.toInt64 (A 55 k)) * (G 52 12)) - (B 63 k)), .int (mCh nv np G A B k)] [(0, .ref 52), (1, .long (((Int32.toInt64 (A 55 k)) * (G 52 12)) - (B 63 k))), (3, .int (mCh nv np G A B k))] f132_142 rfl n132_154 k132_154_12 rfl (hb_52 _ _ _ _) (by decide +kernel) (Nat.le_of_ble_eq_true rfl) rfl rfl (by decide +kernel) (by decide +kernel) rfl (Nat.le_of_ble_eq_true rfl) rfl ?_
                refine zWp.mono (mm_may ro _ _ _ _ (((Int32.toInt64 (A 55 k)) * (G 52 12)) - (B 63 k)) (mCh nv np G A B k)) ?_
                rintro r h1 ⟨I_31, G_31, rfl, K_31, N_31, rfl⟩
                refine ⟨rfl, ?_⟩
                have N_31 : mN I_31 G_31 = mayF (G 52 12) (mayF (G 52 12) (mayF (G 52 12) (mayF (G 52 12) (mSk (A 53) (A 54) (A 55) (A 56) (A 57) (A 64) (A 65) (mCh nv np G A B) (B 63) (G 52 12) (1, G 52 36, G 52 37) k) (((Int32.toInt64 (A 54 k)) * (G 52 12)) - (B 63 k)) (mCh nv np G A B k)) (B 63 k) (-(mCh nv np G A B k))) (((Int32.toInt64 (A 55 k)) * (G 52 12)) - (B 63 k)) (mCh nv np G A B k)) (((Int32.toInt64 (A 55 k)) * (G 52 12)) - (B 63 k)) (mCh nv np G A B k) := N_31.trans (by rw [((K_26.2.1 52 12 rfl).trans ((K_3.2.1 52 12 rfl).trans ((K_2.2.1 52 12 rfl).trans (K.2.1 52 12 rfl)))), N_26])
                have L_31 := KQ.tr L_26 (KQ.wk K_31 fN_S p0_x)
                refine zw_goto 173 f132_145 (by decide +kernel) ?_
                refine zw_iinc (nI (k + 1)) _ 176 f132_173 rfl (zl2_ne rfl rfl (zl1_ne rfl rfl h1)) (by decide +kernel) (nI_1 _) rfl ?_
                refine zw_goto 11 f132_176 (by decide +kernel) ?_
                have E : mN I_31 G_31 = (mSk (A 53) (A 54) (A 55) (A 56) (A 57) (A 64) (A 65) (mCh nv np G A B) (B 63) (G 52 12) (1, G 52 36, G 52 37) (k + 1)) := by
                  rw [mSk_s, mS2_y (Decidable.of_not_not hc4) (Decidable.of_not_not hc15), mS3_d (Or.inl hc27) t28q (by omega) hc29]
                  exact N_31
                exact ih (k + 1) _ _ _ _ _ L_31 ⟨⟨⟨hr.1.1.1, (((K_31.1 52 35 rfl).trans ((K_26.1 52 35 rfl).trans ((K_3.1 52 35 rfl).trans (K_2.1 52 35 rfl))))).trans hr.1.1.2.1, hr.1.1.2.2⟩, (((K_31.1 52 34 rfl).trans ((K_26.1 52 34 rfl).trans ((K_3.1 52 34 rfl).trans (K_2.1 52 34 rfl))))).trans hr.1.2⟩, E⟩ (zl1_ne rfl rfl (zl2_ne rfl rfl (zl1_ne rfl rfl h0))) zl1_eq (by omega) (by omega)
          · refine zw_aload_n 11 f126_10 rfl rfl ?_
            refine zw_getfield 14 f126_11 rfl g126_7_12 (hb_52 _ _ _ _) rfl ?_
            refine zw_iload_n 15 f126_14 rfl rfl ?_
            refine zw_iaload k (A 53 k) 16 f126_15 rfl (hb_53 _ _ _ _) (nI_clamp (by omega)) (nI_pos (by omega)) (by omega) (congrFun (((K_26.2.2.1 53 rfl).trans ((K_3.2.2.1 53 rfl).trans ((K_2.2.2.1 53 rfl).trans (K.2.2.1 53 rfl))))) k) ?_
            refine zw_iconst 4 17 f126_16 rfl (by decide +kernel) ?_
            refine zw_ic_ne 20 24 f126_17 (by decide +kernel) rfl (fun hc32 => ?_) (fun hc32 => ?_)
            · refine zw_iconst 0 25 f126_24 rfl (by decide +kernel) ?_
              refine zw_zreturn f126_25 r126 u126 (by decide +kernel) ⟨_, rfl, ?_⟩
              refine zw_if_eq_t 173 f132_112 (by decide +kernel) (by decide +kernel) ?_
              refine zw_iinc (nI (k + 1)) _ 176 f132_173 rfl (zl2_ne rfl rfl (zl1_ne rfl rfl h1)) (by decide +kernel) (nI_1 _) rfl ?_
              refine zw_goto 11 f132_176 (by decide +kernel) ?_
              have E : mN I_26 G_26 = (mSk (A 53) (A 54) (A 55) (A 56) (A 57) (A 64) (A 65) (mCh nv np G A B) (B 63) (G 52 12) (1, G 52 36, G 52 37) (k + 1)) := by
                rw [mSk_s, mS2_y (Decidable.of_not_not hc4) (Decidable.of_not_not hc15), mS3_a hc27 hc32]
                exact N_26
              exact ih (k + 1) _ _ _ _ _ L_26 ⟨⟨⟨hr.1.1.1, (((K_26.1 52 35 rfl).trans ((K_3.1 52 35 rfl).trans (K_2.1 52 35 rfl)))).trans hr.1.1.2.1, hr.1.1.2.2⟩, (((K_26.1 52 34 rfl).trans ((K_3.1 52 34 rfl).trans (K_2.1 52 34 rfl)))).trans hr.1.2⟩, E⟩ (zl1_ne rfl rfl (zl2_ne rfl rfl (zl1_ne rfl rfl h0))) zl1_eq (by omega) (by omega)
            · refine zw_iconst 1 21 f126_20 rfl (by decide +kernel) ?_
              refine zw_goto 25 f126_21 (by decide +kernel) ?_
              refine zw_zreturn f126_25 r126 u126 (by decide +kernel) ⟨_, rfl, ?_⟩
              refine zw_if_eq_f 115 173 f132_112 (by decide +kernel) rfl (by decide +kernel) ?_
              refine zw_aload_n 116 f132_115 rfl (zl2_ne rfl rfl (zl1_ne rfl rfl h0)) ?_
              refine zw_getfield 119 f132_116 rfl g132_22_12 (hb_52 _ _ _ _) rfl ?_
              refine zw_iload_n 120 f132_119 rfl (zl2_ne rfl rfl (zl1_ne rfl rfl h1)) ?_
              rcases (hP.2.2.1 k (by omega)).2.2.2.1 with t33q | ⟨t33, t33l, t33n, t33q⟩
              · refine zw_iaload k (-1) 121 f132_120 rfl (hb_57 _ _ _ _) (nI_clamp (by omega)) (nI_pos (by omega)) (by omega) ((congrFun ((K_26.2.2.1 57 rfl).trans ((K_3.2.2.1 57 rfl).trans ((K_2.2.2.1 57 rfl).trans (K.2.2.1 57 rfl)))) k).trans t33q) ?_
                refine zw_iconst (-1) 122 f132_121 rfl (by decide +kernel) ?_
                refine zw_ic_eq_t 173 f132_122 (by decide +kernel) (by decide +kernel) ?_
                refine zw_iinc (nI (k + 1)) _ 176 f132_173 rfl (zl2_ne rfl rfl (zl1_ne rfl rfl h1)) (by decide +kernel) (nI_1 _) rfl ?_
                refine zw_goto 11 f132_176 (by decide +kernel) ?_
                have E : mN I_26 G_26 = (mSk (A 53) (A 54) (A 55) (A 56) (A 57) (A 64) (A 65) (mCh nv np G A B) (B 63) (G 52 12) (1, G 52 36, G 52 37) (k + 1)) := by
                  rw [mSk_s, mS2_y (Decidable.of_not_not hc4) (Decidable.of_not_not hc15), mS3_b t33q]
                  exact N_26
                exact ih (k + 1) _ _ _ _ _ L_26 ⟨⟨⟨hr.1.1.1, (((K_26.1 52 35 rfl).trans ((K_3.1 52 35 rfl).trans (K_2.1 52 35 rfl)))).trans hr.1.1.2.1, hr.1.1.2.2⟩, (((K_26.1 52 34 rfl).trans ((K_3.1 52 34 rfl).trans (K_2.1 52 34 rfl)))).trans hr.1.2⟩, E⟩ (zl1_ne rfl rfl (zl2_ne rfl rfl (zl1_ne rfl rfl h0))) zl1_eq (by omega) (by omega)
              · refine zw_iaload k (nI t33) 121 f132_120 rfl (hb_57 _ _ _ _) (nI_clamp (by omega)) (nI_pos (by omega)) (by omega) ((congrFun ((K_26.2.2.1 57 rfl).trans ((K_3.2.2.1 57 rfl).trans ((K_2.2.2.1 57 rfl).trans (K.2.2.1 57 rfl)))) k).trans t33q) ?_
                refine zw_iconst (-1) 122 f132_121 rfl (by decide +kernel) ?_
                refine zw_ic_eq_f 125 173 f132_122 (by decide +kernel) rfl (nI_nem (by omega)) ?_
                refine zw_aload_n 126 f132_125 rfl (zl2_ne rfl rfl (zl1_ne rfl rfl h0)) ?_
                refine zw_getfield 129 f132_126 rfl g132_48_12 (hb_52 _ _ _ _) rfl ?_
                refine zw_aload_n 130 f132_129 rfl (zl2_ne rfl rfl (zl1_ne rfl rfl h0)) ?_
                refine zw_getfield 133 f132_130 rfl g132_22_12 (hb_52 _ _ _ _) rfl ?_
                refine zw_iload_n 134 f132_133 rfl (zl2_ne rfl rfl (zl1_ne rfl rfl h1)) ?_
                refine zw_iaload k (nI t33) 135 f132_134 rfl (hb_57 _ _ _ _) (nI_clamp (by omega)) (nI_pos (by omega)) (by omega) ((congrFun ((K_26.2.2.1 57 rfl).trans ((K_3.2.2.1 57 rfl).trans ((K_2.2.2.1 57 rfl).trans (K.2.2.1 57 rfl)))) k).trans t33q) ?_
                refine zw_baload t33 (A 64 t33) 136 f132_135 rfl (hb_64 _ _ _ _) (nI_clamp (by omega)) (nI_pos (by omega)) (by omega) (congrFun (((K_26.2.2.1 64 rfl).trans ((K_3.2.2.1 64 rfl).trans ((K_2.2.2.1 64 rfl).trans (K.2.2.1 64 rfl))))) t33) ?_
                refine zw_if_eq 139 148 f132_136 (by decide +kernel) rfl (fun hc34 => ?_) (fun hc34 => ?_)
                · refine zw_aload_n 149 f132_148 rfl (zl2_ne rfl rfl (zl1_ne rfl rfl h0)) ?_
                  refine zw_aload_n 150 f132_149 rfl (zl2_ne rfl rfl (zl1_ne rfl rfl h0)) ?_
                  refine zw_getfield 153 f132_150 rfl g132_44_12 (hb_52 _ _ _ _) rfl ?_
                  refine zw_iload_n 154 f132_153 rfl (zl2_ne rfl rfl (zl1_ne rfl rfl h1)) ?_
                  refine zw_laload k (B 63 k) 155 f132_154 rfl (hb_63 _ _ _ _) (nI_clamp (by omega)) (nI_pos (by omega)) (by omega) (congrFun (((K_26.2.2.2 63 rfl).trans ((K_3.2.2.2 63 rfl).trans ((K_2.2.2.2 63 rfl).trans (K.2.2.2 63 rfl))))) k) ?_
                  refine zw_aload_n 156 f132_155 rfl (zl2_ne rfl rfl (zl1_ne rfl rfl h0)) ?_
                  refine zw_getfield 159 f132_156 rfl g132_19_12 (hb_52 _ _ _ _) rfl ?_
                  refine zw_iload_n 160 f132_159 rfl (zl2_ne rfl rfl (zl1_ne rfl rfl h1)) ?_
                  refine zw_iaload k (A 56 k) 161 f132_160 rfl (hb_56 _ _ _ _) (nI_clamp (by omega)) (nI_pos (by omega)) (by omega) (congrFun (((K_26.2.2.1 56 rfl).trans ((K_3.2.2.1 56 rfl).trans ((K_2.2.2.1 56 rfl).trans (K.2.2.1 56 rfl))))) k) ?_
                  refine zw_i2l (Int32.toInt64 (A 56 k)) 162 f132_161 rfl rfl ?_
                  refine zw_aload_n 163 f132_162 rfl (zl2_ne rfl rfl (zl1_ne rfl rfl h0)) ?_
                  refine zw_getG (G 52 12) 166 f132_163 rfl g132_40_12 (hb_52 _ _ _ _) rfl ((K_26.2.1 52 12 rfl).trans ((K_3.2.1 52 12 rfl).trans ((K_2.2.1 52 12 rfl).trans (K.2.1 52 12 rfl)))) ?_
                  refine zw_lmul ((Int32.toInt64 (A 56 k)) * (G 52 12)) 167 f132_166 rfl rfl ?_
                  refine zw_lsub ((B 63 k) - ((Int32.toInt64 (A 56 k)) * (G 52 12))) 168 f132_167 rfl rfl ?_
                  refine zw_iload_n 169 f132_168 rfl (zl2_ne rfl rfl zl1_eq) ?_
                  refine zw_ineg (-(mCh nv np G A B k)) 170 f132_169 rfl rfl ?_
                  refine zw_virtual_v 173 0 0 [.ref 52, .long ((B 63 k) - ((Int32.toInt64 (A 56 k)) * (G 52 12))), .int (-(mCh nv np G A B k))] [(0, .ref 52), (1, .long ((B 63 k) - ((Int32.toInt64 (A 56 k)) * (G 52 12)))), (3, .int (-(mCh nv np G A B k)))] f132_170 rfl n132_154 k132_154_12 rfl (hb_52 _ _ _ _) (by decide +kernel) (Nat.le_of_ble_eq_true rfl) rfl rfl (by decide +kernel) (by decide +kernel) rfl (Nat.le_of_ble_eq_true rfl) rfl ?_
                  refine zWp.mono (mm_may ro _ _ _ _ ((B 63 k) - ((Int32.toInt64 (A 56 k)) * (G 52 12))) (-(mCh nv np G A B k))) ?_
                  rintro r h1 ⟨I_35, G_35, rfl, K_35, N_35, rfl⟩
                  refine ⟨rfl, ?_⟩
                  have N_35 : mN I_35 G_35 = mayF (G 52 12) (mayF (G 52 12) (mayF (G 52 12) (mayF (G 52 12) (mSk (A 53) (A 54) (A 55) (A 56) (A 57) (A 64) (A 65) (mCh nv np G A B) (B 63) (G 52 12) (1, G 52 36, G 52 37) k) (((Int32.toInt64 (A 54 k)) * (G 52 12)) - (B 63 k)) (mCh nv np G A B k)) (B 63 k) (-(mCh nv np G A B k))) (((Int32.toInt64 (A 55 k)) * (G 52 12)) - (B 63 k)) (mCh nv np G A B k)) ((B 63 k) - ((Int32.toInt64 (A 56 k)) * (G 52 12))) (-(mCh nv np G A B k)) := N_35.trans (by rw [((K_26.2.1 52 12 rfl).trans ((K_3.2.1 52 12 rfl).trans ((K_2.2.1 52 12 rfl).trans (K.2.1 52 12 rfl)))), N_26])
                  have L_35 := KQ.tr L_26 (KQ.wk K_35 fN_S p0_x)
                  refine zw_iinc (nI (k + 1)) _ 176 f132_173 rfl (zl2_ne rfl rfl (zl1_ne rfl rfl h1)) (by decide +kernel) (nI_1 _) rfl ?_
                  refine zw_goto 11 f132_176 (by decide +kernel) ?_
                  have E : mN I_35 G_35 = (mSk (A 53) (A 54) (A 55) (A 56) (A 57) (A 64) (A 65) (mCh nv np G A B) (B 63) (G 52 12) (1, G 52 36, G 52 37) (k + 1)) := by
                    rw [mSk_s, mS2_y (Decidable.of_not_not hc4) (Decidable.of_not_not hc15), mS3_c (Or.inr (Decidable.of_not_not hc32)) t33q (by omega) hc34]
                    exact N_35
                  exact ih (k + 1) _ _ _ _ _ L_35 ⟨⟨⟨hr.1.1.1, (((K_35.1 52 35 rfl).trans ((K_26.1 52 35 rfl).trans ((K_3.1 52 35 rfl).trans (K_2.1 52 35 rfl))))).trans hr.1.1.2.1, hr.1.1.2.2⟩, (((K_35.1 52 34 rfl).trans ((K_26.1 52 34 rfl).trans ((K_3.1 52 34 rfl).trans (K_2.1 52 34 rfl))))).trans hr.1.2⟩, E⟩ (zl1_ne rfl rfl (zl2_ne rfl rfl (zl1_ne rfl rfl h0))) zl1_eq (by omega) (by omega)
                · refine zw_aload_n 140 f132_139 rfl (zl2_ne rfl rfl (zl1_ne rfl rfl h0)) ?_
                  refine zw_lload_n 141 f132_140 rfl zl2_eq ?_
                  refine zw_iload_n 142 f132_141 rfl (zl2_ne rfl rfl zl1_eq) ?_
                  refine zw_virtual_v 145 0 0 [.ref 52, .long (((Int32.toInt64 (A 55 k)) * (G 52 12)) - (B 63 k)), .int (mCh nv np G A B k)] [(0, .ref 52), (1, .long (((Int32.toInt64 (A 55 k)) * (G 52 12)) - (B 63 k))), (3, .int (mCh nv np G A B k))] f132_142 rfl n132_154 k132_154_12 rfl (hb_52 _ _ _ _) (by decide +kernel) (Nat.le_of_ble_eq_true rfl) rfl rfl (by decide +kernel) (by decide +kernel) rfl (Nat.le_of_ble_eq_true rfl) rfl ?_
                  refine zWp.mono (mm_may ro _ _ _ _ (((Int32.toInt64 (A 55 k)) * (G 52 12)) - (B 63 k)) (mCh nv np G A B k)) ?_
                  rintro r h1 ⟨I_36, G_36, rfl, K_36, N_36, rfl⟩
                  refine ⟨rfl, ?_⟩
                  have N_36 : mN I_36 G_36 = mayF (G 52 12) (mayF (G 52 12) (mayF (G 52 12) (mayF (G 52 12) (mSk (A 53) (A 54) (A 55) (A 56) (A 57) (A 64) (A 65) (mCh nv np G A B) (B 63) (G 52 12) (1, G 52 36, G 52 37) k) (((Int32.toInt64 (A 54 k)) * (G 52 12)) - (B 63 k)) (mCh nv np G A B k)) (B 63 k) (-(mCh nv np G A B k))) (((Int32.toInt64 (A 55 k)) * (G 52 12)) - (B 63 k)) (mCh nv np G A B k)) (((Int32.toInt64 (A 55 k)) * (G 52 12)) - (B 63 k)) (mCh nv np G A B k) := N_36.trans (by rw [((K_26.2.1 52 12 rfl).trans ((K_3.2.1 52 12 rfl).trans ((K_2.2.1 52 12 rfl).trans (K.2.1 52 12 rfl)))), N_26])
                  have L_36 := KQ.tr L_26 (KQ.wk K_36 fN_S p0_x)
                  refine zw_goto 173 f132_145 (by decide +kernel) ?_
                  refine zw_iinc (nI (k + 1)) _ 176 f132_173 rfl (zl2_ne rfl rfl (zl1_ne rfl rfl h1)) (by decide +kernel) (nI_1 _) rfl ?_
                  refine zw_goto 11 f132_176 (by decide +kernel) ?_
                  have E : mN I_36 G_36 = (mSk (A 53) (A 54) (A 55) (A 56) (A 57) (A 64) (A 65) (mCh nv np G A B) (B 63) (G 52 12) (1, G 52 36, G 52 37) (k + 1)) := by
                    rw [mSk_s, mS2_y (Decidable.of_not_not hc4) (Decidable.of_not_not hc15), mS3_d (Or.inr (Decidable.of_not_not hc32)) t33q (by omega) hc34]
                    exact N_36
                  exact ih (k + 1) _ _ _ _ _ L_36 ⟨⟨⟨hr.1.1.1, (((K_36.1 52 35 rfl).trans ((K_26.1 52 35 rfl).trans ((K_3.1 52 35 rfl).trans (K_2.1 52 35 rfl))))).trans hr.1.1.2.1, hr.1.1.2.2⟩, (((K_36.1 52 34 rfl).trans ((K_26.1 52 34 rfl).trans ((K_3.1 52 34 rfl).trans (K_2.1 52 34 rfl))))).trans hr.1.2⟩, E⟩ (zl1_ne rfl rfl (zl2_ne rfl rfl (zl1_ne rfl rfl h0))) zl1_eq (by omega) (by omega)
set_option maxRecDepth 100000 in
set_option maxHeartbeats 0 in
theorem mm_seek (ro : UInt32 → Nat × (Nat → Int32)) (nv np : Nat) (I : Nat → Nat → Int32) (G : Nat → Nat → Int64) (A : Nat → Nat → Int32) (B : Nat → Nat → Int64) (hP : MP nv np I A) (hB : MB A) : zWp ro 132 0 [(0, .ref 52)] [] (hS I G A B) 0 0 (fun r h1 => ∃ I2 G2 A2 B2, h1 = hS I2 G2 A2 B2 ∧ KQ fS pS I G A B I2 G2 A2 B2 ∧ ((mRel I2 A2 (mR2s nv np G A B nv) ∧ I2 52 34 = mSr nv np A) ∧ mN I2 G2 = mSks nv np G A B (1, G 52 36, G 52 37) nv) ∧ r = none) := by
  have hnv := hP.1.2
  have hnp := hP.2.1.2
  refine zw_aload_n 1 f132_0 rfl rfl ?_
  refine zw_virtual_v 4 0 0 [.ref 52] [(0, .ref 52)] f132_1 rfl n132_151 k132_151_12 rfl (hb_52 _ _ _ _) (by decide +kernel) (Nat.le_of_ble_eq_true rfl) rfl rfl (by decide +kernel) (by decide +kernel) rfl (Nat.le_of_ble_eq_true rfl) rfl ?_
  refine zWp.mono (mm_rates ro nv np I G A B hP hB) ?_
  rintro r h1 ⟨Ir, Gr, Ar, Br, rfl, Kr, hq, rfl⟩
  refine ⟨rfl, ?_⟩
  refine zw_aload_n 5 f132_4 rfl rfl ?_
  refine zw_iconst 1 6 f132_5 rfl (by decide +kernel) ?_
  refine zw_put _ 9 f132_6 rfl g132_142_12 (hb_52 _ _ _ _) rfl (Nat.le_of_ble_eq_true rfl) (by decide +kernel) (hi_52_38 _ _ _ _ _) ?_
  refine zw_iconst 0 10 f132_9 rfl (by decide +kernel) ?_
  refine zw_istore_n _ 11 f132_10 rfl (by decide +kernel) rfl ?_
  exact lmm_seek ro nv np I G A B hP hB (nv + 1) 0 _ _ _ _ _ (KQ.i rfl (KQ.wk Kr fR_S pR_S)) ⟨hq, mT3 (Kr.2.1 52 36 rfl) (Kr.2.1 52 37 rfl)⟩ (zl1_ne rfl rfl rfl) zl1_eq (by omega) (by omega)
