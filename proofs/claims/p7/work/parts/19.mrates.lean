def mTo (n lo : Nat) (x : Int32) : Prop := x = -1 ∨ ∃ t, lo ≤ t ∧ t < n ∧ x = nI t
def mPv (nv np : Nat) (A : Nat → Nat → Int32) (v : Nat) : Prop := (1 ≤ (A 54 v).toInt ∧ (A 54 v).toInt ≤ 200) ∧ (0 ≤ (A 55 v).toInt ∧ (A 55 v).toInt ≤ (A 54 v).toInt) ∧ (0 ≤ (A 56 v).toInt ∧ (A 56 v).toInt ≤ (A 54 v).toInt) ∧ mTo np 0 (A 57 v) ∧ mTo nv (v + 1) (A 58 v) ∧ mTo nv (v + 1) (A 59 v)
def mPp (nv : Nat) (A : Nat → Nat → Int32) (p : Nat) : Prop := mTo nv 0 (A 61 p) ∧ (1 ≤ (A 62 p).toInt ∧ (A 62 p).toInt ≤ 20) ∧ (A 60 p = -1 ∨ ∃ f, f < nv ∧ A 60 p = nI f ∧ mTo nv (f + 1) (A 61 p))
/-- the reference's plan -/
def MP (nv np : Nat) (I : Nat → Nat → Int32) (A : Nat → Nat → Int32) : Prop := (I 52 0 = nI nv ∧ nv ≤ 8) ∧ (I 52 8 = nI np ∧ np ≤ 14) ∧ (∀ v, v < nv → mPv nv np A v) ∧ ∀ p, p < np → mPp nv A p
def MB (A : Nat → Nat → Int32) : Prop := (∀ p, p < 14 → A 64 p = 0 ∨ A 64 p = 1) ∧ ∀ v, v < 8 → A 65 v = 0 ∨ A 65 v = 1
def mRn (nv : Nat) (A : Nat → Nat → Int32) (p : Nat) : Int32 := mRun (A 53) (A 57) (A 65) (A 64) p nv
theorem mRn_c {nv p : Nat} {A A1 : Nat → Nat → Int32} (h1 : A1 53 = A 53) (h2 : A1 57 = A 57) (h3 : A1 65 = A 65) (h4 : A1 64 = A 64) : mRn nv A1 p = mRn nv A p := by
  unfold mRn
  rw [h1, h2, h3, h4]
theorem mC_t {c d : Nat → Int32} {t : Nat} {f : Int32} (h : ∀ j, j < 8 → c j = d j) (ht : t < 8) : ∀ j, j < 8 → upd c t (c t + f) j = upd d t (d t + f) j := by
  intro j hj
  unfold upd
  split
  · rw [h t ht]
  · exact h j hj
theorem mC_u {c d : Nat → Int32} {t : Nat} {f e : Int32} (h : ∀ j, j < 8 → c j = d j) (he : f = e) : ∀ j, j < 8 → upd c t f j = upd d t e j := by
  intro j hj
  unfold upd
  split
  · exact he
  · exact h j hj
theorem mC_uu {c d : Nat → Int32} {t : Nat} {f e x : Int32} (h : ∀ j, j < 8 → c j = d j) (he : f = e) : ∀ j, j < 8 → upd (upd c t x) t f j = upd d t e j := by
  intro j hj
  unfold upd
  split
  · exact he
  · exact h j hj
set_option maxRecDepth 100000 in
set_option maxHeartbeats 0 in
theorem lmm_runs (ro : UInt32 → Nat × (Nat → Int32)) (nv p : Nat) (I : Nat → Nat → Int32) (G : Nat → Nat → Int64) (A : Nat → Nat → Int32) (B : Nat → Nat → Int64) (hv : I 52 0 = nI nv) (hn : nv ≤ 8) (hp : p < 14) (hz : A 64 p = 0 ∨ A 64 p = 1) : ∀ (n k : Nat) (ls : List (Nat × Value)), zld ls 0 = some (.ref 52) → zld ls 1 = some (.int (nI p)) → zld ls 2 = some (.int (mRun (A 53) (A 57) (A 65) (A 64) p k)) → zld ls 3 = some (.int (nI k)) → k ≤ nv → nv + 1 ≤ k + n → zWp ro 127 9 ls [] (hS I G A B) 0 0 (fun r h1 => h1 = hS I G A B ∧ r = some (.int (mRn nv A p))) := by
  intro n
  induction n with
  | zero =>
    intro k ls _ _ _ _ a b
    exact absurd b (by omega)
  | succ n ih =>
    intro k ls h0 h1 h2 h3 hk1 hk2
    refine zw_iload_n 10 f127_9 rfl h3 ?_
    refine zw_aload_n 11 f127_10 rfl h0 ?_
    refine zw_getI (nI nv) 14 f127_11 rfl g127_114_12 (hb_52 _ _ _ _) rfl hv ?_
    refine zw_ic_ge 17 62 f127_14 (by decide +kernel) rfl (fun hc1 => ?_) (fun hc1 => ?_)
    · have hn_hc1 : nv ≤ k := zn_ge (by omega) (by omega) hc1
      refine zw_iload_n 63 f127_62 rfl h2 ?_
      refine zw_zreturn f127_63 r127 u127 (mRun_Z hz k) ?_
      have hk : k = nv := by omega
      subst hk
      exact ⟨rfl, rfl⟩
    · have hn_hc1 : k < nv := zn_lt (by omega) (by omega) hc1
      refine zw_iload_n 18 f127_17 rfl h2 ?_
      refine zw_if_eq 21 54 f127_18 (by decide +kernel) rfl (fun hc2 => ?_) (fun hc2 => ?_)
      · refine zw_iconst 0 55 f127_54 rfl (by decide +kernel) ?_
        refine zw_istore_n _ 56 f127_55 rfl (by decide +kernel) rfl ?_
        refine zw_iinc (nI (k + 1)) _ 59 f127_56 rfl (zl1_ne rfl rfl h3) (by decide +kernel) (nI_1 _) rfl ?_
        refine zw_goto 9 f127_59 (by decide +kernel) ?_
        exact ih (k + 1) _ (zl1_ne rfl rfl (zl1_ne rfl rfl h0)) (zl1_ne rfl rfl (zl1_ne rfl rfl h1)) (by rw [(mRun_0 hc2)]; exact (zl1_ne rfl rfl zl1_eq)) zl1_eq (by omega) (by omega)
      · refine zw_aload_n 22 f127_21 rfl h0 ?_
        refine zw_getfield 25 f127_22 rfl g127_7_12 (hb_52 _ _ _ _) rfl ?_
        refine zw_iload_n 26 f127_25 rfl h3 ?_
        refine zw_iaload k (A 53 k) 27 f127_26 rfl (hb_53 _ _ _ _) (nI_clamp (by omega)) (nI_pos (by omega)) (by omega) rfl ?_
        refine zw_iconst 1 28 f127_27 rfl (by decide +kernel) ?_
        refine zw_ic_ne 31 50 f127_28 (by decide +kernel) rfl (fun hc3 => ?_) (fun hc3 => ?_)
        · refine zw_iconst 1 51 f127_50 rfl (by decide +kernel) ?_
          refine zw_goto 55 f127_51 (by decide +kernel) ?_
          refine zw_istore_n _ 56 f127_55 rfl (by decide +kernel) rfl ?_
          refine zw_iinc (nI (k + 1)) _ 59 f127_56 rfl (zl1_ne rfl rfl h3) (by decide +kernel) (nI_1 _) rfl ?_
          refine zw_goto 9 f127_59 (by decide +kernel) ?_
          exact ih (k + 1) _ (zl1_ne rfl rfl (zl1_ne rfl rfl h0)) (zl1_ne rfl rfl (zl1_ne rfl rfl h1)) (by rw [(mRun_b hc2 hc3)]; exact (zl1_ne rfl rfl zl1_eq)) zl1_eq (by omega) (by omega)
        · refine zw_aload_n 32 f127_31 rfl h0 ?_
          refine zw_getfield 35 f127_32 rfl g127_22_12 (hb_52 _ _ _ _) rfl ?_
          refine zw_iload_n 36 f127_35 rfl h3 ?_
          refine zw_iaload k (A 57 k) 37 f127_36 rfl (hb_57 _ _ _ _) (nI_clamp (by omega)) (nI_pos (by omega)) (by omega) rfl ?_
          refine zw_iload_n 38 f127_37 rfl h1 ?_
          refine zw_ic_ne 41 50 f127_38 (by decide +kernel) rfl (fun hc4 => ?_) (fun hc4 => ?_)
          · refine zw_iconst 1 51 f127_50 rfl (by decide +kernel) ?_
            refine zw_goto 55 f127_51 (by decide +kernel) ?_
            refine zw_istore_n _ 56 f127_55 rfl (by decide +kernel) rfl ?_
            refine zw_iinc (nI (k + 1)) _ 59 f127_56 rfl (zl1_ne rfl rfl h3) (by decide +kernel) (nI_1 _) rfl ?_
            refine zw_goto 9 f127_59 (by decide +kernel) ?_
            exact ih (k + 1) _ (zl1_ne rfl rfl (zl1_ne rfl rfl h0)) (zl1_ne rfl rfl (zl1_ne rfl rfl h1)) (by rw [(mRun_c hc2 hc4)]; exact (zl1_ne rfl rfl zl1_eq)) zl1_eq (by omega) (by omega)
          · refine zw_aload_n 42 f127_41 rfl h0 ?_
            refine zw_getfield 45 f127_42 rfl g127_52_12 (hb_52 _ _ _ _) rfl ?_
            refine zw_iload_n 46 f127_45 rfl h3 ?_
            refine zw_baload k (A 65 k) 47 f127_46 rfl (hb_65 _ _ _ _) (nI_clamp (by omega)) (nI_pos (by omega)) (by omega) rfl ?_
            refine zw_if_eq 50 54 f127_47 (by decide +kernel) rfl (fun hc5 => ?_) (fun hc5 => ?_)
            · refine zw_iconst 0 55 f127_54 rfl (by decide +kernel) ?_
              refine zw_istore_n _ 56 f127_55 rfl (by decide +kernel) rfl ?_
              refine zw_iinc (nI (k + 1)) _ 59 f127_56 rfl (zl1_ne rfl rfl h3) (by decide +kernel) (nI_1 _) rfl ?_
              refine zw_goto 9 f127_59 (by decide +kernel) ?_
              exact ih (k + 1) _ (zl1_ne rfl rfl (zl1_ne rfl rfl h0)) (zl1_ne rfl rfl (zl1_ne rfl rfl h1)) (by rw [(mRun_a hc2 (Decidable.of_not_not hc3) (Decidable.of_not_not hc4) hc5)]; exact (zl1_ne rfl rfl zl1_eq)) zl1_eq (by omega) (by omega)
            · refine zw_iconst 1 51 f127_50 rfl (by decide +kernel) ?_
              refine zw_goto 55 f127_51 (by decide +kernel) ?_
              refine zw_istore_n _ 56 f127_55 rfl (by decide +kernel) rfl ?_
              refine zw_iinc (nI (k + 1)) _ 59 f127_56 rfl (zl1_ne rfl rfl h3) (by decide +kernel) (nI_1 _) rfl ?_
              refine zw_goto 9 f127_59 (by decide +kernel) ?_
              exact ih (k + 1) _ (zl1_ne rfl rfl (zl1_ne rfl rfl h0)) (zl1_ne rfl rfl (zl1_ne rfl rfl h1)) (by rw [(mRun_d hc2 hc5)]; exact (zl1_ne rfl rfl zl1_eq)) zl1_eq (by omega) (by omega)
set_option maxRecDepth 100000 in
set_option maxHeartbeats 0 in
theorem mm_runs (ro : UInt32 → Nat × (Nat → Int32)) (nv p : Nat) (I : Nat → Nat → Int32) (G : Nat → Nat → Int64) (A : Nat → Nat → Int32) (B : Nat → Nat → Int64) (hv : I 52 0 = nI nv) (hn : nv ≤ 8) (hp : p < 14) (hz : A 64 p = 0 ∨ A 64 p = 1) : zWp ro 127 0 [(0, .ref 52), (1, .int (nI p))] [] (hS I G A B) 0 0 (fun r h1 => h1 = hS I G A B ∧ r = some (.int (mRn nv A p))) := by
  refine zw_aload_n 1 f127_0 rfl rfl ?_
  refine zw_getfield 4 f127_1 rfl g127_48_12 (hb_52 _ _ _ _) rfl ?_
  refine zw_iload_n 5 f127_4 rfl rfl ?_
  refine zw_baload p (A 64 p) 6 f127_5 rfl (hb_64 _ _ _ _) (nI_clamp (by omega)) (nI_pos (by omega)) (by omega) rfl ?_
  refine zw_istore_n _ 7 f127_6 rfl (by decide +kernel) rfl ?_
  refine zw_iconst 0 8 f127_7 rfl (by decide +kernel) ?_
  refine zw_istore_n _ 9 f127_8 rfl (by decide +kernel) rfl ?_
  exact lmm_runs ro nv p I G A B hv hn hp hz (nv + 1) 0 _ (zl1_ne rfl rfl (zl1_ne rfl rfl rfl)) (zl1_ne rfl rfl (zl1_ne rfl rfl rfl)) (zl1_ne rfl rfl zl1_eq) zl1_eq (by omega) (by omega)
theorem mm_runs_y (ro : UInt32 → Nat × (Nat → Int32)) (nv p : Nat) (I : Nat → Nat → Int32) (G : Nat → Nat → Int64) (A : Nat → Nat → Int32) (B : Nat → Nat → Int64) (y : Int32) (hv : I 52 0 = nI nv) (hn : nv ≤ 8) (hp : p < 14) (hz : A 64 p = 0 ∨ A 64 p = 1) (hy : mRn nv A p = y) : zWp ro 127 0 [(0, .ref 52), (1, .int (nI p))] [] (hS I G A B) 0 0 (fun r h1 => h1 = hS I G A B ∧ r = some (.int y)) := by
  subst hy
  exact mm_runs ro nv p I G A B hv hn hp hz
set_option maxRecDepth 100000 in
set_option maxHeartbeats 0 in
theorem mm_may (ro : UInt32 → Nat × (Nat → Int32)) (I : Nat → Nat → Int32) (G : Nat → Nat → Int64) (A : Nat → Nat → Int32) (B : Nat → Nat → Int64) (way : Int64) (sp : Int32) : zWp ro 131 0 [(0, .ref 52), (1, .long way), (3, .int sp)] [] (hS I G A B) 0 0 (fun r h1 => ∃ I2 G2, h1 = hS I2 G2 A B ∧ KQ fN p0 I G A B I2 G2 A B ∧ mN I2 G2 = mayF (G 52 12) (mN I G) way sp ∧ r = none) := by
  refine zw_lload_n 1 f131_0 rfl rfl ?_
  refine zw_lconst 0 2 f131_1 rfl (by decide +kernel) ?_
  refine zw_lcmp (lg_cmp way 0) 3 f131_2 rfl rfl ?_
  refine zw_if_le 6 59 f131_3 (by decide +kernel) rfl (fun hc1 => ?_) (fun hc1 => ?_)
  · refine zw_vreturn f131_59 r131 u131 ?_
    exact ⟨_, _, rfl, KQ.rf, Eq.symm (mayF_a (Int64.not_lt.mpr ((lg_cmp_le _ _).mp hc1))), rfl⟩
  · refine zw_iload_n 7 f131_6 rfl rfl ?_
    refine zw_if_le 10 59 f131_7 (by decide +kernel) rfl (fun hc2 => ?_) (fun hc2 => ?_)
    · refine zw_vreturn f131_59 r131 u131 ?_
      exact ⟨_, _, rfl, KQ.rf, Eq.symm (mayF_b (Int32.not_lt.mpr hc2)), rfl⟩
    · refine zw_aload_n 11 f131_10 rfl rfl ?_
      refine zw_getG (G 52 12) 14 f131_11 rfl g131_40_12 (hb_52 _ _ _ _) rfl rfl ?_
      refine zw_iload_n 15 f131_14 rfl rfl ?_
      refine zw_i2l (Int32.toInt64 sp) 16 f131_15 rfl rfl ?_
      refine zw_lmul ((G 52 12) * (Int32.toInt64 sp)) 17 f131_16 rfl rfl ?_
      refine zw_lstore _ 19 f131_17 rfl (by decide +kernel) rfl ?_
      refine zw_aload_n 20 f131_19 rfl (zl2_ne rfl rfl rfl) ?_
      refine zw_getI (I 52 38) 23 f131_20 rfl g131_142_12 (hb_52 _ _ _ _) rfl rfl ?_
      refine zw_if_ne 26 43 f131_23 (by decide +kernel) rfl (fun hc3 => ?_) (fun hc3 => ?_)
      · refine zw_aload_n 44 f131_43 rfl (zl2_ne rfl rfl rfl) ?_
        refine zw_lload_n 45 f131_44 rfl (zl2_ne rfl rfl rfl) ?_
        refine zw_put _ 48 f131_45 rfl g131_148_12 (hb_52 _ _ _ _) rfl (Nat.le_of_ble_eq_true rfl) (by decide +kernel) (hg_52_36 _ _ _ _ _) ?_
        refine zw_aload_n 49 f131_48 rfl (zl2_ne rfl rfl rfl) ?_
        refine zw_lload 51 f131_49 rfl zl2_eq ?_
        refine zw_put _ 54 f131_51 rfl g131_145_12 (hb_52 _ _ _ _) rfl (Nat.le_of_ble_eq_true rfl) (by decide +kernel) (hg_52_37 _ _ _ _ _) ?_
        refine zw_aload_n 55 f131_54 rfl (zl2_ne rfl rfl rfl) ?_
        refine zw_iconst 0 56 f131_55 rfl (by decide +kernel) ?_
        refine zw_put _ 59 f131_56 rfl g131_142_12 (hb_52 _ _ _ _) rfl (Nat.le_of_ble_eq_true rfl) (by decide +kernel) (hi_52_38 _ _ _ _ _) ?_
        refine zw_vreturn f131_59 r131 u131 ?_
        exact ⟨_, _, rfl, (KQ.i rfl (KQ.g rfl (KQ.g rfl KQ.rf))), Eq.symm (mayF_d (Int64.not_le.mp (fun q => hc1 ((lg_cmp_le _ _).mpr q))) (Int32.not_le.mp hc2) hc3), rfl⟩
      · refine zw_lload_n 27 f131_26 rfl (zl2_ne rfl rfl rfl) ?_
        refine zw_aload_n 28 f131_27 rfl (zl2_ne rfl rfl rfl) ?_
        refine zw_getG (G 52 37) 31 f131_28 rfl g131_145_12 (hb_52 _ _ _ _) rfl rfl ?_
        refine zw_lmul (way * (G 52 37)) 32 f131_31 rfl rfl ?_
        refine zw_aload_n 33 f131_32 rfl (zl2_ne rfl rfl rfl) ?_
        refine zw_getG (G 52 36) 36 f131_33 rfl g131_148_12 (hb_52 _ _ _ _) rfl rfl ?_
        refine zw_lload 38 f131_36 rfl zl2_eq ?_
        refine zw_lmul ((G 52 36) * ((G 52 12) * (Int32.toInt64 sp))) 39 f131_38 rfl rfl ?_
        refine zw_lcmp (lg_cmp (way * (G 52 37)) ((G 52 36) * ((G 52 12) * (Int32.toInt64 sp)))) 40 f131_39 rfl rfl ?_
        refine zw_if_ge 43 59 f131_40 (by decide +kernel) rfl (fun hc4 => ?_) (fun hc4 => ?_)
        · refine zw_vreturn f131_59 r131 u131 ?_
          exact ⟨_, _, rfl, KQ.rf, Eq.symm (mayF_c (Decidable.of_not_not hc3) (Int64.not_lt.mpr ((lg_cmp_ge _ _).mp hc4))), rfl⟩
        · refine zw_aload_n 44 f131_43 rfl (zl2_ne rfl rfl rfl) ?_
          refine zw_lload_n 45 f131_44 rfl (zl2_ne rfl rfl rfl) ?_
          refine zw_put _ 48 f131_45 rfl g131_148_12 (hb_52 _ _ _ _) rfl (Nat.le_of_ble_eq_true rfl) (by decide +kernel) (hg_52_36 _ _ _ _ _) ?_
          refine zw_aload_n 49 f131_48 rfl (zl2_ne rfl rfl rfl) ?_
          refine zw_lload 51 f131_49 rfl zl2_eq ?_
          refine zw_put _ 54 f131_51 rfl g131_145_12 (hb_52 _ _ _ _) rfl (Nat.le_of_ble_eq_true rfl) (by decide +kernel) (hg_52_37 _ _ _ _ _) ?_
          refine zw_aload_n 55 f131_54 rfl (zl2_ne rfl rfl rfl) ?_
          refine zw_iconst 0 56 f131_55 rfl (by decide +kernel) ?_
          refine zw_put _ 59 f131_56 rfl g131_142_12 (hb_52 _ _ _ _) rfl (Nat.le_of_ble_eq_true rfl) (by decide +kernel) (hi_52_38 _ _ _ _ _) ?_
          refine zw_vreturn f131_59 r131 u131 ?_
          exact ⟨_, _, rfl, (KQ.i rfl (KQ.g rfl (KQ.g rfl KQ.rf))), Eq.symm (mayF_e (Int64.not_le.mp (fun q => hc1 ((lg_cmp_le _ _).mpr q))) (Int32.not_le.mp hc2) (Int64.not_le.mp (fun q => hc4 ((lg_cmp_ge _ _).mpr q)))), rfl⟩
set_option maxRecDepth 100000 in
set_option maxHeartbeats 0 in
theorem lmm_rateOf (ro : UInt32 → Nat × (Nat → Int32)) (nv np v : Nat) (I : Nat → Nat → Int32) (G : Nat → Nat → Int64) (A : Nat → Nat → Int32) (B : Nat → Nat → Int64) (hP : MP nv np I A) (hB : MB A) (hv : v < nv) (s : (Nat → Int32) × Int32 × (Nat → Int32) × (Nat → Int32)) (hs : mRel I A s) : ∀ (n k : Nat) (ls : List (Nat × Value)) (I1 : Nat → Nat → Int32) (G1 : Nat → Nat → Int64) (A1 : Nat → Nat → Int32) (B1 : Nat → Nat → Int64), KQ fD pR I G A B I1 G1 A1 B1 → ((∀ j, j < 8 → A1 72 j = (mRO (A 60) (A 61) (A 62) (mRn nv A) (B 63 v) v (s.1, s.2.1, s.1 v, 0) k).1 j) ∧ I1 52 35 = (mRO (A 60) (A 61) (A 62) (mRn nv A) (B 63 v) v (s.1, s.2.1, s.1 v, 0) k).2.1 ∧ A1 73 = A 73 ∧ A1 74 = A 74) → zld ls 0 = some (.ref 52) → zld ls 1 = some (.int (nI v)) → zld ls 2 = some (.int ((mRO (A 60) (A 61) (A 62) (mRn nv A) (B 63 v) v (s.1, s.2.1, s.1 v, 0) k).2.2.1)) → zld ls 3 = some (.int ((mRO (A 60) (A 61) (A 62) (mRn nv A) (B 63 v) v (s.1, s.2.1, s.1 v, 0) k).2.2.2)) → zld ls 4 = some (.int (nI k)) → k ≤ np → np + 1 ≤ k + n → zWp ro 130 12 ls [] (hS I1 G1 A1 B1) 0 0 (fun r h1 => ∃ I2 G2 A2 B2, h1 = hS I2 G2 A2 B2 ∧ KQ fD pR I G A B I2 G2 A2 B2 ∧ mRel I2 A2 (mRateOf (A 60) (A 61) (A 62) (mRn nv A) (A 59) (A 54) (B 63) (G 52 12) np v s) ∧ r = none) := by
  have hnv := hP.1.2
  have hnp := hP.2.1.2
  intro n
  induction n with
  | zero =>
    intro k ls I1 G1 A1 B1 _ _ _ _ _ _ _ a b
    exact absurd b (by omega)
  | succ n ih =>
    intro k ls I1 G1 A1 B1 K hr h0 h1 h2 h3 h4 hk1 hk2
    refine zw_iload 14 f130_12 rfl h4 ?_
    refine zw_aload_n 15 f130_14 rfl h0 ?_
    refine zw_getI (nI np) 18 f130_15 rfl g130_121_12 (hb_52 _ _ _ _) rfl ((K.1 52 8 rfl).trans hP.2.1.1) ?_
    refine zw_ic_ge 21 125 f130_18 (by decide +kernel) rfl (fun hc1 => ?_) (fun hc1 => ?_)
    · have hn_hc1 : np ≤ k := zn_ge (by omega) (by omega) hc1
      refine zw_aload_n 126 f130_125 rfl h0 ?_
      refine zw_getfield 129 f130_126 rfl g130_80_12 (hb_52 _ _ _ _) rfl ?_
      refine zw_iload_n 130 f130_129 rfl h1 ?_
      refine zw_aload_n 131 f130_130 rfl h0 ?_
      refine zw_getfield 134 f130_131 rfl g130_77_12 (hb_52 _ _ _ _) rfl ?_
      refine zw_iload_n 135 f130_134 rfl h1 ?_
      refine zw_iaload v ((mRO (A 60) (A 61) (A 62) (mRn nv A) (B 63 v) v (s.1, s.2.1, s.1 v, 0) k).1 v) 136 f130_135 rfl (hb_72 _ _ _ _) (nI_clamp (by omega)) (nI_pos (by omega)) (by omega) (hr.1 v (by omega)) ?_
      refine zw_iload_n 137 f130_136 rfl h3 ?_
      refine zw_isub (((mRO (A 60) (A 61) (A 62) (mRn nv A) (B 63 v) v (s.1, s.2.1, s.1 v, 0) k).1 v) - ((mRO (A 60) (A 61) (A 62) (mRn nv A) (B 63 v) v (s.1, s.2.1, s.1 v, 0) k).2.2.2)) 138 f130_137 rfl rfl ?_
      refine zw_ast v _ 139 f130_138 rfl (hb_73 _ _ _ _) (nI_clamp (by omega)) (nI_pos (by omega)) (by omega) (ha_73 _ _ _ _ _) ?_
      refine zw_aload_n 140 f130_139 rfl h0 ?_
      refine zw_getfield 143 f130_140 rfl g130_80_12 (hb_52 _ _ _ _) rfl ?_
      refine zw_iload_n 144 f130_143 rfl h1 ?_
      refine zw_iaload v (((mRO (A 60) (A 61) (A 62) (mRn nv A) (B 63 v) v (s.1, s.2.1, s.1 v, 0) k).1 v) - ((mRO (A 60) (A 61) (A 62) (mRn nv A) (B 63 v) v (s.1, s.2.1, s.1 v, 0) k).2.2.2)) 145 f130_144 rfl (hb_73 _ _ _ _) (nI_clamp (by omega)) (nI_pos (by omega)) (by omega) (if_pos rfl) ?_
      refine zw_if_le 148 205 f130_145 (by decide +kernel) rfl (fun hc2 => ?_) (fun hc2 => ?_)
      · refine zw_vreturn f130_205 r130 u130 ?_
        have hk : k = np := by omega
        have hE : (mRO (A 60) (A 61) (A 62) (mRn nv A) (B 63 v) v (s.1, s.2.1, s.1 v, 0) np) = (mRO (A 60) (A 61) (A 62) (mRn nv A) (B 63 v) v (s.1, s.2.1, s.1 v, 0) k) := by rw [hk]
        have E := mRateOf_n (over := A 59) (brim := A 54) (g := G 52 12) (s := s) hE (fun q => (Int32.not_lt.mpr hc2) q.1)
        refine ⟨_, _, _, _, rfl, (KQ.a rfl K), ?_, rfl⟩
        rw [E]
        exact ⟨hr.1, hr.2.1, mC_u (fun j hj => (congrFun hr.2.2.1 j).trans (hs.2.2.1 j hj)) rfl, (fun j hj => (congrFun hr.2.2.2 j).trans (hs.2.2.2 j hj))⟩
      · refine zw_aload_n 149 f130_148 rfl h0 ?_
        refine zw_getfield 152 f130_149 rfl g130_44_12 (hb_52 _ _ _ _) rfl ?_
        refine zw_iload_n 153 f130_152 rfl h1 ?_
        refine zw_laload v (B 63 v) 154 f130_153 rfl (hb_63 _ _ _ _) (nI_clamp (by omega)) (nI_pos (by omega)) (by omega) (congrFun ((K.2.2.2 63 rfl)) v) ?_
        refine zw_aload_n 155 f130_154 rfl h0 ?_
        refine zw_getfield 158 f130_155 rfl g130_13_12 (hb_52 _ _ _ _) rfl ?_
        refine zw_iload_n 159 f130_158 rfl h1 ?_
        refine zw_iaload v (A 54 v) 160 f130_159 rfl (hb_54 _ _ _ _) (nI_clamp (by omega)) (nI_pos (by omega)) (by omega) (congrFun ((K.2.2.1 54 rfl)) v) ?_
        refine zw_i2l (Int32.toInt64 (A 54 v)) 161 f130_160 rfl rfl ?_
        refine zw_aload_n 162 f130_161 rfl h0 ?_
        refine zw_getG (G 52 12) 165 f130_162 rfl g130_40_12 (hb_52 _ _ _ _) rfl (K.2.1 52 12 rfl) ?_
        refine zw_lmul ((Int32.toInt64 (A 54 v)) * (G 52 12)) 166 f130_165 rfl rfl ?_
        refine zw_lcmp (lg_cmp (B 63 v) ((Int32.toInt64 (A 54 v)) * (G 52 12))) 167 f130_166 rfl rfl ?_
        refine zw_if_ne 170 205 f130_167 (by decide +kernel) rfl (fun hc3 => ?_) (fun hc3 => ?_)
        · refine zw_vreturn f130_205 r130 u130 ?_
          have hk : k = np := by omega
          have hE : (mRO (A 60) (A 61) (A 62) (mRn nv A) (B 63 v) v (s.1, s.2.1, s.1 v, 0) np) = (mRO (A 60) (A 61) (A 62) (mRn nv A) (B 63 v) v (s.1, s.2.1, s.1 v, 0) k) := by rw [hk]
          have E := mRateOf_n (over := A 59) (brim := A 54) (g := G 52 12) (s := s) hE (fun q => (fun q => hc3 ((lg_cmp_eq _ _).mpr q)) q.2)
          refine ⟨_, _, _, _, rfl, (KQ.a rfl K), ?_, rfl⟩
          rw [E]
          exact ⟨hr.1, hr.2.1, mC_u (fun j hj => (congrFun hr.2.2.1 j).trans (hs.2.2.1 j hj)) rfl, (fun j hj => (congrFun hr.2.2.2 j).trans (hs.2.2.2 j hj))⟩
        · refine zw_aload_n 171 f130_170 rfl h0 ?_
          refine zw_getfield 174 f130_171 rfl g130_83_12 (hb_52 _ _ _ _) rfl ?_
          refine zw_iload_n 175 f130_174 rfl h1 ?_
          refine zw_aload_n 176 f130_175 rfl h0 ?_
          refine zw_getfield 179 f130_176 rfl g130_80_12 (hb_52 _ _ _ _) rfl ?_
          refine zw_iload_n 180 f130_179 rfl h1 ?_
          refine zw_iaload v (((mRO (A 60) (A 61) (A 62) (mRn nv A) (B 63 v) v (s.1, s.2.1, s.1 v, 0) k).1 v) - ((mRO (A 60) (A 61) (A 62) (mRn nv A) (B 63 v) v (s.1, s.2.1, s.1 v, 0) k).2.2.2)) 181 f130_180 rfl (hb_73 _ _ _ _) (nI_clamp (by omega)) (nI_pos (by omega)) (by omega) (if_pos rfl) ?_
          refine zw_ast v _ 182 f130_181 rfl (hb_74 _ _ _ _) (nI_clamp (by omega)) (nI_pos (by omega)) (by omega) (ha_74 _ _ _ _ _) ?_
          refine zw_aload_n 183 f130_182 rfl h0 ?_
          refine zw_getfield 186 f130_183 rfl g130_80_12 (hb_52 _ _ _ _) rfl ?_
          refine zw_iload_n 187 f130_186 rfl h1 ?_
          refine zw_iconst 0 188 f130_187 rfl (by decide +kernel) ?_
          refine zw_ast v _ 189 f130_188 rfl (hb_73 _ _ _ _) (nI_clamp (by omega)) (nI_pos (by omega)) (by omega) (ha_73 _ _ _ _ _) ?_
          refine zw_aload_n 190 f130_189 rfl h0 ?_
          refine zw_aload_n 191 f130_190 rfl h0 ?_
          refine zw_getfield 194 f130_191 rfl g130_28_12 (hb_52 _ _ _ _) rfl ?_
          refine zw_iload_n 195 f130_194 rfl h1 ?_
          rcases (hP.2.2.1 v (by omega)).2.2.2.2.2 with t4q | ⟨t4, t4l, t4n, t4q⟩
          · refine zw_iaload v (-1) 196 f130_195 rfl (hb_59 _ _ _ _) (nI_clamp (by omega)) (nI_pos (by omega)) (by omega) ((congrFun (K.2.2.1 59 rfl) v).trans t4q) ?_
            refine zw_aload_n 197 f130_196 rfl h0 ?_
            refine zw_getfield 200 f130_197 rfl g130_83_12 (hb_52 _ _ _ _) rfl ?_
            refine zw_iload_n 201 f130_200 rfl h1 ?_
            refine zw_iaload v (((mRO (A 60) (A 61) (A 62) (mRn nv A) (B 63 v) v (s.1, s.2.1, s.1 v, 0) k).1 v) - ((mRO (A 60) (A 61) (A 62) (mRn nv A) (B 63 v) v (s.1, s.2.1, s.1 v, 0) k).2.2.2)) 202 f130_201 rfl (hb_74 _ _ _ _) (nI_clamp (by omega)) (nI_pos (by omega)) (by omega) (if_pos rfl) ?_
            refine zw_virtual_v 205 0 0 [.ref 52, .int (-1), .int (((mRO (A 60) (A 61) (A 62) (mRn nv A) (B 63 v) v (s.1, s.2.1, s.1 v, 0) k).1 v) - ((mRO (A 60) (A 61) (A 62) (mRn nv A) (B 63 v) v (s.1, s.2.1, s.1 v, 0) k).2.2.2))] [(0, .ref 52), (1, .int (-1)), (2, .int (((mRO (A 60) (A 61) (A 62) (mRn nv A) (B 63 v) v (s.1, s.2.1, s.1 v, 0) k).1 v) - ((mRO (A 60) (A 61) (A 62) (mRn nv A) (B 63 v) v (s.1, s.2.1, s.1 v, 0) k).2.2.2)))] f130_202 rfl n130_134 k130_134_12 rfl (hb_52 _ _ _ _) (by decide +kernel) (Nat.le_of_ble_eq_true rfl) rfl rfl (by decide +kernel) (by decide +kernel) rfl (Nat.le_of_ble_eq_true rfl) rfl ?_
            refine zw_iload_n 1 f128_0 rfl rfl ?_
            refine zw_iconst (-1) 2 f128_1 rfl (by decide +kernel) ?_
            refine zw_ic_ne_f 5 18 f128_2 (by decide +kernel) rfl (by decide +kernel) ?_
            refine zw_aload_n 6 f128_5 rfl rfl ?_
            refine zw_dup 7 f128_6 rfl rfl ?_
            refine zw_getI (I1 52 35) 10 f128_7 rfl g128_124_12 (hb_52 _ _ _ _) rfl rfl ?_
            refine zw_iload_n 11 f128_10 rfl rfl ?_
            refine zw_iadd ((I1 52 35) + (((mRO (A 60) (A 61) (A 62) (mRn nv A) (B 63 v) v (s.1, s.2.1, s.1 v, 0) k).1 v) - ((mRO (A 60) (A 61) (A 62) (mRn nv A) (B 63 v) v (s.1, s.2.1, s.1 v, 0) k).2.2.2))) 12 f128_11 rfl rfl ?_
            refine zw_put _ 15 f128_12 rfl g128_124_12 (hb_52 _ _ _ _) rfl (Nat.le_of_ble_eq_true rfl) (by decide +kernel) (hi_52_35 _ _ _ _ _) ?_
            refine zw_goto 28 f128_15 (by decide +kernel) ?_
            refine zw_vreturn f128_28 r128 u128 ⟨rfl, ?_⟩
            refine zw_vreturn f130_205 r130 u130 ?_
            have hk : k = np := by omega
            have hE : (mRO (A 60) (A 61) (A 62) (mRn nv A) (B 63 v) v (s.1, s.2.1, s.1 v, 0) np) = (mRO (A 60) (A 61) (A 62) (mRn nv A) (B 63 v) v (s.1, s.2.1, s.1 v, 0) k) := by rw [hk]
            have E := mRateOf_y (over := A 59) (brim := A 54) (g := G 52 12) (s := s) (-1) t4q hE (Int32.not_le.mp hc2) ((lg_cmp_eq _ _).mp (Decidable.of_not_not hc3))
            rw [mGoC_m, mGoD_m] at E
            refine ⟨_, _, _, _, rfl, (KQ.i rfl (KQ.a rfl (KQ.a rfl (KQ.a rfl K)))), ?_, rfl⟩
            rw [E]
            exact ⟨hr.1, congrArg (fun z => z + (((mRO (A 60) (A 61) (A 62) (mRn nv A) (B 63 v) v (s.1, s.2.1, s.1 v, 0) k).1 v) - ((mRO (A 60) (A 61) (A 62) (mRn nv A) (B 63 v) v (s.1, s.2.1, s.1 v, 0) k).2.2.2))) hr.2.1, mC_uu (fun j hj => (congrFun hr.2.2.1 j).trans (hs.2.2.1 j hj)) rfl, mC_u (fun j hj => (congrFun hr.2.2.2 j).trans (hs.2.2.2 j hj)) rfl⟩
          · refine zw_iaload v (nI t4) 196 f130_195 rfl (hb_59 _ _ _ _) (nI_clamp (by omega)) (nI_pos (by omega)) (by omega) ((congrFun (K.2.2.1 59 rfl) v).trans t4q) ?_
            refine zw_aload_n 197 f130_196 rfl h0 ?_
            refine zw_getfield 200 f130_197 rfl g130_83_12 (hb_52 _ _ _ _) rfl ?_
            refine zw_iload_n 201 f130_200 rfl h1 ?_
            refine zw_iaload v (((mRO (A 60) (A 61) (A 62) (mRn nv A) (B 63 v) v (s.1, s.2.1, s.1 v, 0) k).1 v) - ((mRO (A 60) (A 61) (A 62) (mRn nv A) (B 63 v) v (s.1, s.2.1, s.1 v, 0) k).2.2.2)) 202 f130_201 rfl (hb_74 _ _ _ _) (nI_clamp (by omega)) (nI_pos (by omega)) (by omega) (if_pos rfl) ?_
            refine zw_virtual_v 205 0 0 [.ref 52, .int (nI t4), .int (((mRO (A 60) (A 61) (A 62) (mRn nv A) (B 63 v) v (s.1, s.2.1, s.1 v, 0) k).1 v) - ((mRO (A 60) (A 61) (A 62) (mRn nv A) (B 63 v) v (s.1, s.2.1, s.1 v, 0) k).2.2.2))] [(0, .ref 52), (1, .int (nI t4)), (2, .int (((mRO (A 60) (A 61) (A 62) (mRn nv A) (B 63 v) v (s.1, s.2.1, s.1 v, 0) k).1 v) - ((mRO (A 60) (A 61) (A 62) (mRn nv A) (B 63 v) v (s.1, s.2.1, s.1 v, 0) k).2.2.2)))] f130_202 rfl n130_134 k130_134_12 rfl (hb_52 _ _ _ _) (by decide +kernel) (Nat.le_of_ble_eq_true rfl) rfl rfl (by decide +kernel) (by decide +kernel) rfl (Nat.le_of_ble_eq_true rfl) rfl ?_
            refine zw_iload_n 1 f128_0 rfl rfl ?_
            refine zw_iconst (-1) 2 f128_1 rfl (by decide +kernel) ?_
            refine zw_ic_ne_t 18 f128_2 (by decide +kernel) (nI_nem (by omega)) ?_
            refine zw_aload_n 19 f128_18 rfl rfl ?_
            refine zw_getfield 22 f128_19 rfl g128_77_12 (hb_52 _ _ _ _) rfl ?_
            refine zw_iload_n 23 f128_22 rfl rfl ?_
            refine zw_dup2 24 f128_23 rfl rfl rfl ?_
            refine zw_iaload t4 (A1 72 t4) 25 f128_24 rfl (hb_72 _ _ _ _) (nI_clamp (by omega)) (nI_pos (by omega)) (by omega) rfl ?_
            refine zw_iload_n 26 f128_25 rfl rfl ?_
            refine zw_iadd ((A1 72 t4) + (((mRO (A 60) (A 61) (A 62) (mRn nv A) (B 63 v) v (s.1, s.2.1, s.1 v, 0) k).1 v) - ((mRO (A 60) (A 61) (A 62) (mRn nv A) (B 63 v) v (s.1, s.2.1, s.1 v, 0) k).2.2.2))) 27 f128_26 rfl rfl ?_
            refine zw_ast t4 _ 28 f128_27 rfl (hb_72 _ _ _ _) (nI_clamp (by omega)) (nI_pos (by omega)) (by omega) (ha_72 _ _ _ _ _) ?_
            refine zw_vreturn f128_28 r128 u128 ⟨rfl, ?_⟩
            refine zw_vreturn f130_205 r130 u130 ?_
            have hk : k = np := by omega
            have hE : (mRO (A 60) (A 61) (A 62) (mRn nv A) (B 63 v) v (s.1, s.2.1, s.1 v, 0) np) = (mRO (A 60) (A 61) (A 62) (mRn nv A) (B 63 v) v (s.1, s.2.1, s.1 v, 0) k) := by rw [hk]
            have E := mRateOf_y (over := A 59) (brim := A 54) (g := G 52 12) (s := s) (nI t4) t4q hE (Int32.not_le.mp hc2) ((lg_cmp_eq _ _).mp (Decidable.of_not_not hc3))
            rw [mGoC_t (by omega), mGoD_t (by omega)] at E
            refine ⟨_, _, _, _, rfl, (KQ.a rfl (KQ.a rfl (KQ.a rfl (KQ.a rfl K)))), ?_, rfl⟩
            rw [E]
            exact ⟨mC_t hr.1 (by omega), hr.2.1, mC_uu (fun j hj => (congrFun hr.2.2.1 j).trans (hs.2.2.1 j hj)) rfl, mC_u (fun j hj => (congrFun hr.2.2.2 j).trans (hs.2.2.2 j hj)) rfl⟩
    · have hn_hc1 : k < np := zn_lt (by omega) (by omega) hc1
      refine zw_aload_n 22 f130_21 rfl h0 ?_
      refine zw_getfield 25 f130_22 rfl g130_31_12 (hb_52 _ _ _ _) rfl ?_
      refine zw_iload 27 f130_25 rfl h4 ?_
      refine zw_iaload k (A 60 k) 28 f130_27 rfl (hb_60 _ _ _ _) (nI_clamp (by omega)) (nI_pos (by omega)) (by omega) (congrFun ((K.2.2.1 60 rfl)) k) ?_
      refine zw_iload_n 29 f130_28 rfl h1 ?_
      refine zw_ic_ne 32 119 f130_29 (by decide +kernel) rfl (fun hc5 => ?_) (fun hc5 => ?_)
      · refine zw_iinc (nI (k + 1)) _ 122 f130_119 rfl h4 (by decide +kernel) (nI_1 _) rfl ?_
        refine zw_goto 12 f130_122 (by decide +kernel) ?_
        have E := mRO_n (frm := A 60) (too := A 61) (amt := A 62) (run := mRn nv A) (lev := B 63 v) (v := v) (s := (s.1, s.2.1, s.1 v, 0)) (k := k) (fun q => hc5 q.1)
        exact ih (k + 1) _ _ _ _ _ K (by rw [E]; exact hr) (zl1_ne rfl rfl h0) (zl1_ne rfl rfl h1) (by rw [E]; exact (zl1_ne rfl rfl h2)) (by rw [E]; exact (zl1_ne rfl rfl h3)) zl1_eq (by omega) (by omega)
      · refine zw_aload_n 33 f130_32 rfl h0 ?_
        refine zw_iload 35 f130_33 rfl h4 ?_
        refine zw_virtual_i 38 0 0 [.ref 52, .int (nI k)] [(0, .ref 52), (1, .int (nI k))] f130_35 rfl n130_130 k130_130_12 rfl (hb_52 _ _ _ _) (by decide +kernel) (Nat.le_of_ble_eq_true rfl) rfl rfl (by decide +kernel) (by decide +kernel) rfl (Nat.le_of_ble_eq_true rfl) rfl ?_
        refine zWp.mono (mm_runs_y ro nv k _ _ _ _ (mRn nv A k) ((K.1 52 0 rfl).trans hP.1.1) (by omega) (by omega) (by rw [(K.2.2.1 64 rfl)]; exact (hB.1 k (by omega))) (mRn_c (K.2.2.1 53 rfl) (K.2.2.1 57 rfl) (K.2.2.1 65 rfl) (K.2.2.1 64 rfl))) ?_
        rintro r h1 ⟨rfl, rfl⟩
        refine ⟨_, rfl, ?_⟩
        refine zw_if_eq 41 119 f130_38 (by decide +kernel) rfl (fun hc6 => ?_) (fun hc6 => ?_)
        · refine zw_iinc (nI (k + 1)) _ 122 f130_119 rfl h4 (by decide +kernel) (nI_1 _) rfl ?_
          refine zw_goto 12 f130_122 (by decide +kernel) ?_
          have E := mRO_n (frm := A 60) (too := A 61) (amt := A 62) (run := mRn nv A) (lev := B 63 v) (v := v) (s := (s.1, s.2.1, s.1 v, 0)) (k := k) (fun q => q.2 hc6)
          exact ih (k + 1) _ _ _ _ _ K (by rw [E]; exact hr) (zl1_ne rfl rfl h0) (zl1_ne rfl rfl h1) (by rw [E]; exact (zl1_ne rfl rfl h2)) (by rw [E]; exact (zl1_ne rfl rfl h3)) zl1_eq (by omega) (by omega)
        · refine zw_aload_n 42 f130_41 rfl h0 ?_
          refine zw_getfield 45 f130_42 rfl g130_86_12 (hb_52 _ _ _ _) rfl ?_
          refine zw_iload 47 f130_45 rfl h4 ?_
          refine zw_aload_n 48 f130_47 rfl h0 ?_
          refine zw_getfield 51 f130_48 rfl g130_44_12 (hb_52 _ _ _ _) rfl ?_
          refine zw_iload_n 52 f130_51 rfl h1 ?_
          refine zw_laload v (B 63 v) 53 f130_52 rfl (hb_63 _ _ _ _) (nI_clamp (by omega)) (nI_pos (by omega)) (by omega) (congrFun ((K.2.2.2 63 rfl)) v) ?_
          refine zw_lconst 0 54 f130_53 rfl (by decide +kernel) ?_
          refine zw_lcmp (lg_cmp (B 63 v) 0) 55 f130_54 rfl rfl ?_
          refine zw_if_gt 58 69 f130_55 (by decide +kernel) rfl (fun hc7 => ?_) (fun hc7 => ?_)
          · refine zw_aload_n 70 f130_69 rfl h0 ?_
            refine zw_getfield 73 f130_70 rfl g130_37_12 (hb_52 _ _ _ _) rfl ?_
            refine zw_iload 75 f130_73 rfl h4 ?_
            refine zw_iaload k (A 62 k) 76 f130_75 rfl (hb_62 _ _ _ _) (nI_clamp (by omega)) (nI_pos (by omega)) (by omega) (congrFun ((K.2.2.1 62 rfl)) k) ?_
            refine zw_goto 80 f130_76 (by decide +kernel) ?_
            refine zw_ast k _ 81 f130_80 rfl (hb_75 _ _ _ _) (nI_clamp (by omega)) (nI_pos (by omega)) (by omega) (ha_75 _ _ _ _ _) ?_
            refine zw_iload_n 82 f130_81 rfl h2 ?_
            refine zw_aload_n 83 f130_82 rfl h0 ?_
            refine zw_getfield 86 f130_83 rfl g130_86_12 (hb_52 _ _ _ _) rfl ?_
            refine zw_iload 88 f130_86 rfl h4 ?_
            refine zw_iaload k (A 62 k) 89 f130_88 rfl (hb_75 _ _ _ _) (nI_clamp (by omega)) (nI_pos (by omega)) (by omega) (if_pos rfl) ?_
            refine zw_isub (((mRO (A 60) (A 61) (A 62) (mRn nv A) (B 63 v) v (s.1, s.2.1, s.1 v, 0) k).2.2.1) - (A 62 k)) 90 f130_89 rfl rfl ?_
            refine zw_istore_n _ 91 f130_90 rfl (by decide +kernel) rfl ?_
            refine zw_iload_n 92 f130_91 rfl (zl1_ne rfl rfl h3) ?_
            refine zw_aload_n 93 f130_92 rfl (zl1_ne rfl rfl h0) ?_
            refine zw_getfield 96 f130_93 rfl g130_86_12 (hb_52 _ _ _ _) rfl ?_
            refine zw_iload 98 f130_96 rfl (zl1_ne rfl rfl h4) ?_
            refine zw_iaload k (A 62 k) 99 f130_98 rfl (hb_75 _ _ _ _) (nI_clamp (by omega)) (nI_pos (by omega)) (by omega) (if_pos rfl) ?_
            refine zw_iadd (((mRO (A 60) (A 61) (A 62) (mRn nv A) (B 63 v) v (s.1, s.2.1, s.1 v, 0) k).2.2.2) + (A 62 k)) 100 f130_99 rfl rfl ?_
            refine zw_istore_n _ 101 f130_100 rfl (by decide +kernel) rfl ?_
            refine zw_aload_n 102 f130_101 rfl (zl1_ne rfl rfl (zl1_ne rfl rfl h0)) ?_
            refine zw_aload_n 103 f130_102 rfl (zl1_ne rfl rfl (zl1_ne rfl rfl h0)) ?_
            refine zw_getfield 106 f130_103 rfl g130_34_12 (hb_52 _ _ _ _) rfl ?_
            refine zw_iload 108 f130_106 rfl (zl1_ne rfl rfl (zl1_ne rfl rfl h4)) ?_
            rcases (hP.2.2.2 k (by omega)).1 with t8q | ⟨t8, t8l, t8n, t8q⟩
            · refine zw_iaload k (-1) 109 f130_108 rfl (hb_61 _ _ _ _) (nI_clamp (by omega)) (nI_pos (by omega)) (by omega) ((congrFun (K.2.2.1 61 rfl) k).trans t8q) ?_
              refine zw_aload_n 110 f130_109 rfl (zl1_ne rfl rfl (zl1_ne rfl rfl h0)) ?_
              refine zw_getfield 113 f130_110 rfl g130_86_12 (hb_52 _ _ _ _) rfl ?_
              refine zw_iload 115 f130_113 rfl (zl1_ne rfl rfl (zl1_ne rfl rfl h4)) ?_
              refine zw_iaload k (A 62 k) 116 f130_115 rfl (hb_75 _ _ _ _) (nI_clamp (by omega)) (nI_pos (by omega)) (by omega) (if_pos rfl) ?_
              refine zw_virtual_v 119 0 0 [.ref 52, .int (-1), .int (A 62 k)] [(0, .ref 52), (1, .int (-1)), (2, .int (A 62 k))] f130_116 rfl n130_134 k130_134_12 rfl (hb_52 _ _ _ _) (by decide +kernel) (Nat.le_of_ble_eq_true rfl) rfl rfl (by decide +kernel) (by decide +kernel) rfl (Nat.le_of_ble_eq_true rfl) rfl ?_
              refine zw_iload_n 1 f128_0 rfl rfl ?_
              refine zw_iconst (-1) 2 f128_1 rfl (by decide +kernel) ?_
              refine zw_ic_ne_f 5 18 f128_2 (by decide +kernel) rfl (by decide +kernel) ?_
              refine zw_aload_n 6 f128_5 rfl rfl ?_
              refine zw_dup 7 f128_6 rfl rfl ?_
              refine zw_getI (I1 52 35) 10 f128_7 rfl g128_124_12 (hb_52 _ _ _ _) rfl rfl ?_
              refine zw_iload_n 11 f128_10 rfl rfl ?_
              refine zw_iadd ((I1 52 35) + (A 62 k)) 12 f128_11 rfl rfl ?_
              refine zw_put _ 15 f128_12 rfl g128_124_12 (hb_52 _ _ _ _) rfl (Nat.le_of_ble_eq_true rfl) (by decide +kernel) (hi_52_35 _ _ _ _ _) ?_
              refine zw_goto 28 f128_15 (by decide +kernel) ?_
              refine zw_vreturn f128_28 r128 u128 ⟨rfl, ?_⟩
              refine zw_iinc (nI (k + 1)) _ 122 f130_119 rfl (zl1_ne rfl rfl (zl1_ne rfl rfl h4)) (by decide +kernel) (nI_1 _) rfl ?_
              refine zw_goto 12 f130_122 (by decide +kernel) ?_
              have E := mRO_y (frm := A 60) (too := A 61) (amt := A 62) (run := mRn nv A) (lev := B 63 v) (v := v) (s := (s.1, s.2.1, s.1 v, 0)) (k := k) (A 62 k) (-1) t8q (mFl_a ((lg_cmp_gt _ _).mp hc7)) (Decidable.of_not_not hc5) hc6
              rw [mGoC_m, mGoD_m] at E
              exact ih (k + 1) _ _ _ _ _ (KQ.i rfl (KQ.a rfl K)) (by rw [E]; exact ⟨hr.1, congrArg (fun z => z + (A 62 k)) hr.2.1, hr.2.2⟩) (zl1_ne rfl rfl (zl1_ne rfl rfl (zl1_ne rfl rfl h0))) (zl1_ne rfl rfl (zl1_ne rfl rfl (zl1_ne rfl rfl h1))) (by rw [E]; exact (zl1_ne rfl rfl (zl1_ne rfl rfl zl1_eq))) (by rw [E]; exact (zl1_ne rfl rfl zl1_eq)) zl1_eq (by omega) (by omega)
            · refine zw_iaload k (nI t8) 109 f130_108 rfl (hb_61 _ _ _ _) (nI_clamp (by omega)) (nI_pos (by omega)) (by omega) ((congrFun (K.2.2.1 61 rfl) k).trans t8q) ?_
              refine zw_aload_n 110 f130_109 rfl (zl1_ne rfl rfl (zl1_ne rfl rfl h0)) ?_
              refine zw_getfield 113 f130_110 rfl g130_86_12 (hb_52 _ _ _ _) rfl ?_
              refine zw_iload 115 f130_113 rfl (zl1_ne rfl rfl (zl1_ne rfl rfl h4)) ?_
              refine zw_iaload k (A 62 k) 116 f130_115 rfl (hb_75 _ _ _ _) (nI_clamp (by omega)) (nI_pos (by omega)) (by omega) (if_pos rfl) ?_
              refine zw_virtual_v 119 0 0 [.ref 52, .int (nI t8), .int (A 62 k)] [(0, .ref 52), (1, .int (nI t8)), (2, .int (A 62 k))] f130_116 rfl n130_134 k130_134_12 rfl (hb_52 _ _ _ _) (by decide +kernel) (Nat.le_of_ble_eq_true rfl) rfl rfl (by decide +kernel) (by decide +kernel) rfl (Nat.le_of_ble_eq_true rfl) rfl ?_
              refine zw_iload_n 1 f128_0 rfl rfl ?_
              refine zw_iconst (-1) 2 f128_1 rfl (by decide +kernel) ?_
              refine zw_ic_ne_t 18 f128_2 (by decide +kernel) (nI_nem (by omega)) ?_
              refine zw_aload_n 19 f128_18 rfl rfl ?_
              refine zw_getfield 22 f128_19 rfl g128_77_12 (hb_52 _ _ _ _) rfl ?_
              refine zw_iload_n 23 f128_22 rfl rfl ?_
              refine zw_dup2 24 f128_23 rfl rfl rfl ?_
              refine zw_iaload t8 (A1 72 t8) 25 f128_24 rfl (hb_72 _ _ _ _) (nI_clamp (by omega)) (nI_pos (by omega)) (by omega) rfl ?_
              refine zw_iload_n 26 f128_25 rfl rfl ?_
              refine zw_iadd ((A1 72 t8) + (A 62 k)) 27 f128_26 rfl rfl ?_
              refine zw_ast t8 _ 28 f128_27 rfl (hb_72 _ _ _ _) (nI_clamp (by omega)) (nI_pos (by omega)) (by omega) (ha_72 _ _ _ _ _) ?_
              refine zw_vreturn f128_28 r128 u128 ⟨rfl, ?_⟩
              refine zw_iinc (nI (k + 1)) _ 122 f130_119 rfl (zl1_ne rfl rfl (zl1_ne rfl rfl h4)) (by decide +kernel) (nI_1 _) rfl ?_
              refine zw_goto 12 f130_122 (by decide +kernel) ?_
              have E := mRO_y (frm := A 60) (too := A 61) (amt := A 62) (run := mRn nv A) (lev := B 63 v) (v := v) (s := (s.1, s.2.1, s.1 v, 0)) (k := k) (A 62 k) (nI t8) t8q (mFl_a ((lg_cmp_gt _ _).mp hc7)) (Decidable.of_not_not hc5) hc6
              rw [mGoC_t (by omega), mGoD_t (by omega)] at E
              exact ih (k + 1) _ _ _ _ _ (KQ.a rfl (KQ.a rfl K)) (by rw [E]; exact ⟨mC_t hr.1 (by omega), hr.2⟩) (zl1_ne rfl rfl (zl1_ne rfl rfl (zl1_ne rfl rfl h0))) (zl1_ne rfl rfl (zl1_ne rfl rfl (zl1_ne rfl rfl h1))) (by rw [E]; exact (zl1_ne rfl rfl (zl1_ne rfl rfl zl1_eq))) (by rw [E]; exact (zl1_ne rfl rfl zl1_eq)) zl1_eq (by omega) (by omega)
          · refine zw_aload_n 59 f130_58 rfl h0 ?_
            refine zw_getfield 62 f130_59 rfl g130_37_12 (hb_52 _ _ _ _) rfl ?_
            refine zw_iload 64 f130_62 rfl h4 ?_
            refine zw_iaload k (A 62 k) 65 f130_64 rfl (hb_62 _ _ _ _) (nI_clamp (by omega)) (nI_pos (by omega)) (by omega) (congrFun ((K.2.2.1 62 rfl)) k) ?_
            refine zw_iload_n 66 f130_65 rfl h2 ?_
            refine zw_ic_ge 69 79 f130_66 (by decide +kernel) rfl (fun hc9 => ?_) (fun hc9 => ?_)
            · refine zw_iload_n 80 f130_79 rfl h2 ?_
              refine zw_ast k _ 81 f130_80 rfl (hb_75 _ _ _ _) (nI_clamp (by omega)) (nI_pos (by omega)) (by omega) (ha_75 _ _ _ _ _) ?_
              refine zw_iload_n 82 f130_81 rfl h2 ?_
              refine zw_aload_n 83 f130_82 rfl h0 ?_
              refine zw_getfield 86 f130_83 rfl g130_86_12 (hb_52 _ _ _ _) rfl ?_
              refine zw_iload 88 f130_86 rfl h4 ?_
              refine zw_iaload k ((mRO (A 60) (A 61) (A 62) (mRn nv A) (B 63 v) v (s.1, s.2.1, s.1 v, 0) k).2.2.1) 89 f130_88 rfl (hb_75 _ _ _ _) (nI_clamp (by omega)) (nI_pos (by omega)) (by omega) (if_pos rfl) ?_
              refine zw_isub (((mRO (A 60) (A 61) (A 62) (mRn nv A) (B 63 v) v (s.1, s.2.1, s.1 v, 0) k).2.2.1) - ((mRO (A 60) (A 61) (A 62) (mRn nv A) (B 63 v) v (s.1, s.2.1, s.1 v, 0) k).2.2.1)) 90 f130_89 rfl rfl ?_
              refine zw_istore_n _ 91 f130_90 rfl (by decide +kernel) rfl ?_
              refine zw_iload_n 92 f130_91 rfl (zl1_ne rfl rfl h3) ?_
              refine zw_aload_n 93 f130_92 rfl (zl1_ne rfl rfl h0) ?_
              refine zw_getfield 96 f130_93 rfl g130_86_12 (hb_52 _ _ _ _) rfl ?_
              refine zw_iload 98 f130_96 rfl (zl1_ne rfl rfl h4) ?_
              refine zw_iaload k ((mRO (A 60) (A 61) (A 62) (mRn nv A) (B 63 v) v (s.1, s.2.1, s.1 v, 0) k).2.2.1) 99 f130_98 rfl (hb_75 _ _ _ _) (nI_clamp (by omega)) (nI_pos (by omega)) (by omega) (if_pos rfl) ?_
              refine zw_iadd (((mRO (A 60) (A 61) (A 62) (mRn nv A) (B 63 v) v (s.1, s.2.1, s.1 v, 0) k).2.2.2) + ((mRO (A 60) (A 61) (A 62) (mRn nv A) (B 63 v) v (s.1, s.2.1, s.1 v, 0) k).2.2.1)) 100 f130_99 rfl rfl ?_
              refine zw_istore_n _ 101 f130_100 rfl (by decide +kernel) rfl ?_
              refine zw_aload_n 102 f130_101 rfl (zl1_ne rfl rfl (zl1_ne rfl rfl h0)) ?_
              refine zw_aload_n 103 f130_102 rfl (zl1_ne rfl rfl (zl1_ne rfl rfl h0)) ?_
              refine zw_getfield 106 f130_103 rfl g130_34_12 (hb_52 _ _ _ _) rfl ?_
              refine zw_iload 108 f130_106 rfl (zl1_ne rfl rfl (zl1_ne rfl rfl h4)) ?_
              rcases (hP.2.2.2 k (by omega)).1 with t10q | ⟨t10, t10l, t10n, t10q⟩
              · refine zw_iaload k (-1) 109 f130_108 rfl (hb_61 _ _ _ _) (nI_clamp (by omega)) (nI_pos (by omega)) (by omega) ((congrFun (K.2.2.1 61 rfl) k).trans t10q) ?_
                refine zw_aload_n 110 f130_109 rfl (zl1_ne rfl rfl (zl1_ne rfl rfl h0)) ?_
                refine zw_getfield 113 f130_110 rfl g130_86_12 (hb_52 _ _ _ _) rfl ?_
                refine zw_iload 115 f130_113 rfl (zl1_ne rfl rfl (zl1_ne rfl rfl h4)) ?_
                refine zw_iaload k ((mRO (A 60) (A 61) (A 62) (mRn nv A) (B 63 v) v (s.1, s.2.1, s.1 v, 0) k).2.2.1) 116 f130_115 rfl (hb_75 _ _ _ _) (nI_clamp (by omega)) (nI_pos (by omega)) (by omega) (if_pos rfl) ?_
                refine zw_virtual_v 119 0 0 [.ref 52, .int (-1), .int ((mRO (A 60) (A 61) (A 62) (mRn nv A) (B 63 v) v (s.1, s.2.1, s.1 v, 0) k).2.2.1)] [(0, .ref 52), (1, .int (-1)), (2, .int ((mRO (A 60) (A 61) (A 62) (mRn nv A) (B 63 v) v (s.1, s.2.1, s.1 v, 0) k).2.2.1))] f130_116 rfl n130_134 k130_134_12 rfl (hb_52 _ _ _ _) (by decide +kernel) (Nat.le_of_ble_eq_true rfl) rfl rfl (by decide +kernel) (by decide +kernel) rfl (Nat.le_of_ble_eq_true rfl) rfl ?_
                refine zw_iload_n 1 f128_0 rfl rfl ?_
                refine zw_iconst (-1) 2 f128_1 rfl (by decide +kernel) ?_
                refine zw_ic_ne_f 5 18 f128_2 (by decide +kernel) rfl (by decide +kernel) ?_
                refine zw_aload_n 6 f128_5 rfl rfl ?_
                refine zw_dup 7 f128_6 rfl rfl ?_
                refine zw_getI (I1 52 35) 10 f128_7 rfl g128_124_12 (hb_52 _ _ _ _) rfl rfl ?_
                refine zw_iload_n 11 f128_10 rfl rfl ?_
                refine zw_iadd ((I1 52 35) + ((mRO (A 60) (A 61) (A 62) (mRn nv A) (B 63 v) v (s.1, s.2.1, s.1 v, 0) k).2.2.1)) 12 f128_11 rfl rfl ?_
                refine zw_put _ 15 f128_12 rfl g128_124_12 (hb_52 _ _ _ _) rfl (Nat.le_of_ble_eq_true rfl) (by decide +kernel) (hi_52_35 _ _ _ _ _) ?_
                refine zw_goto 28 f128_15 (by decide +kernel) ?_
                refine zw_vreturn f128_28 r128 u128 ⟨rfl, ?_⟩
                refine zw_iinc (nI (k + 1)) _ 122 f130_119 rfl (zl1_ne rfl rfl (zl1_ne rfl rfl h4)) (by decide +kernel) (nI_1 _) rfl ?_
                refine zw_goto 12 f130_122 (by decide +kernel) ?_
                have E := mRO_y (frm := A 60) (too := A 61) (amt := A 62) (run := mRn nv A) (lev := B 63 v) (v := v) (s := (s.1, s.2.1, s.1 v, 0)) (k := k) ((mRO (A 60) (A 61) (A 62) (mRn nv A) (B 63 v) v (s.1, s.2.1, s.1 v, 0) k).2.2.1) (-1) t10q (mFl_c (Int64.not_lt.mpr (Int64.not_lt.mp (fun q => hc7 ((lg_cmp_gt _ _).mpr q)))) (Int32.not_lt.mpr hc9)) (Decidable.of_not_not hc5) hc6
                rw [mGoC_m, mGoD_m] at E
                exact ih (k + 1) _ _ _ _ _ (KQ.i rfl (KQ.a rfl K)) (by rw [E]; exact ⟨hr.1, congrArg (fun z => z + ((mRO (A 60) (A 61) (A 62) (mRn nv A) (B 63 v) v (s.1, s.2.1, s.1 v, 0) k).2.2.1)) hr.2.1, hr.2.2⟩) (zl1_ne rfl rfl (zl1_ne rfl rfl (zl1_ne rfl rfl h0))) (zl1_ne rfl rfl (zl1_ne rfl rfl (zl1_ne rfl rfl h1))) (by rw [E]; exact (zl1_ne rfl rfl (zl1_ne rfl rfl zl1_eq))) (by rw [E]; exact (zl1_ne rfl rfl zl1_eq)) zl1_eq (by omega) (by omega)
              · refine zw_iaload k (nI t10) 109 f130_108 rfl (hb_61 _ _ _ _) (nI_clamp (by omega)) (nI_pos (by omega)) (by omega) ((congrFun (K.2.2.1 61 rfl) k).trans t10q) ?_
                refine zw_aload_n 110 f130_109 rfl (zl1_ne rfl rfl (zl1_ne rfl rfl h0)) ?_
                refine zw_getfield 113 f130_110 rfl g130_86_12 (hb_52 _ _ _ _) rfl ?_
                refine zw_iload 115 f130_113 rfl (zl1_ne rfl rfl (zl1_ne rfl rfl h4)) ?_
                refine zw_iaload k ((mRO (A 60) (A 61) (A 62) (mRn nv A) (B 63 v) v (s.1, s.2.1, s.1 v, 0) k).2.2.1) 116 f130_115 rfl (hb_75 _ _ _ _) (nI_clamp (by omega)) (nI_pos (by omega)) (by omega) (if_pos rfl) ?_
                refine zw_virtual_v 119 0 0 [.ref 52, .int (nI t10), .int ((mRO (A 60) (A 61) (A 62) (mRn nv A) (B 63 v) v (s.1, s.2.1, s.1 v, 0) k).2.2.1)] [(0, .ref 52), (1, .int (nI t10)), (2, .int ((mRO (A 60) (A 61) (A 62) (mRn nv A) (B 63 v) v (s.1, s.2.1, s.1 v, 0) k).2.2.1))] f130_116 rfl n130_134 k130_134_12 rfl (hb_52 _ _ _ _) (by decide +kernel) (Nat.le_of_ble_eq_true rfl) rfl rfl (by decide +kernel) (by decide +kernel) rfl (Nat.le_of_ble_eq_true rfl) rfl ?_
                refine zw_iload_n 1 f128_0 rfl rfl ?_
                refine zw_iconst (-1) 2 f128_1 rfl (by decide +kernel) ?_
                refine zw_ic_ne_t 18 f128_2 (by decide +kernel) (nI_nem (by omega)) ?_
                refine zw_aload_n 19 f128_18 rfl rfl ?_
                refine zw_getfield 22 f128_19 rfl g128_77_12 (hb_52 _ _ _ _) rfl ?_
                refine zw_iload_n 23 f128_22 rfl rfl ?_
                refine zw_dup2 24 f128_23 rfl rfl rfl ?_
                refine zw_iaload t10 (A1 72 t10) 25 f128_24 rfl (hb_72 _ _ _ _) (nI_clamp (by omega)) (nI_pos (by omega)) (by omega) rfl ?_
                refine zw_iload_n 26 f128_25 rfl rfl ?_
                refine zw_iadd ((A1 72 t10) + ((mRO (A 60) (A 61) (A 62) (mRn nv A) (B 63 v) v (s.1, s.2.1, s.1 v, 0) k).2.2.1)) 27 f128_26 rfl rfl ?_
                refine zw_ast t10 _ 28 f128_27 rfl (hb_72 _ _ _ _) (nI_clamp (by omega)) (nI_pos (by omega)) (by omega) (ha_72 _ _ _ _ _) ?_
                refine zw_vreturn f128_28 r128 u128 ⟨rfl, ?_⟩
                refine zw_iinc (nI (k + 1)) _ 122 f130_119 rfl (zl1_ne rfl rfl (zl1_ne rfl rfl h4)) (by decide +kernel) (nI_1 _) rfl ?_
                refine zw_goto 12 f130_122 (by decide +kernel) ?_
                have E := mRO_y (frm := A 60) (too := A 61) (amt := A 62) (run := mRn nv A) (lev := B 63 v) (v := v) (s := (s.1, s.2.1, s.1 v, 0)) (k := k) ((mRO (A 60) (A 61) (A 62) (mRn nv A) (B 63 v) v (s.1, s.2.1, s.1 v, 0) k).2.2.1) (nI t10) t10q (mFl_c (Int64.not_lt.mpr (Int64.not_lt.mp (fun q => hc7 ((lg_cmp_gt _ _).mpr q)))) (Int32.not_lt.mpr hc9)) (Decidable.of_not_not hc5) hc6
                rw [mGoC_t (by omega), mGoD_t (by omega)] at E
                exact ih (k + 1) _ _ _ _ _ (KQ.a rfl (KQ.a rfl K)) (by rw [E]; exact ⟨mC_t hr.1 (by omega), hr.2⟩) (zl1_ne rfl rfl (zl1_ne rfl rfl (zl1_ne rfl rfl h0))) (zl1_ne rfl rfl (zl1_ne rfl rfl (zl1_ne rfl rfl h1))) (by rw [E]; exact (zl1_ne rfl rfl (zl1_ne rfl rfl zl1_eq))) (by rw [E]; exact (zl1_ne rfl rfl zl1_eq)) zl1_eq (by omega) (by omega)
            · refine zw_aload_n 70 f130_69 rfl h0 ?_
              refine zw_getfield 73 f130_70 rfl g130_37_12 (hb_52 _ _ _ _) rfl ?_
              refine zw_iload 75 f130_73 rfl h4 ?_
              refine zw_iaload k (A 62 k) 76 f130_75 rfl (hb_62 _ _ _ _) (nI_clamp (by omega)) (nI_pos (by omega)) (by omega) (congrFun ((K.2.2.1 62 rfl)) k) ?_
              refine zw_goto 80 f130_76 (by decide +kernel) ?_
              refine zw_ast k _ 81 f130_80 rfl (hb_75 _ _ _ _) (nI_clamp (by omega)) (nI_pos (by omega)) (by omega) (ha_75 _ _ _ _ _) ?_
              refine zw_iload_n 82 f130_81 rfl h2 ?_
              refine zw_aload_n 83 f130_82 rfl h0 ?_
              refine zw_getfield 86 f130_83 rfl g130_86_12 (hb_52 _ _ _ _) rfl ?_
              refine zw_iload 88 f130_86 rfl h4 ?_
              refine zw_iaload k (A 62 k) 89 f130_88 rfl (hb_75 _ _ _ _) (nI_clamp (by omega)) (nI_pos (by omega)) (by omega) (if_pos rfl) ?_
              refine zw_isub (((mRO (A 60) (A 61) (A 62) (mRn nv A) (B 63 v) v (s.1, s.2.1, s.1 v, 0) k).2.2.1) - (A 62 k)) 90 f130_89 rfl rfl ?_
              refine zw_istore_n _ 91 f130_90 rfl (by decide +kernel) rfl ?_
              refine zw_iload_n 92 f130_91 rfl (zl1_ne rfl rfl h3) ?_
              refine zw_aload_n 93 f130_92 rfl (zl1_ne rfl rfl h0) ?_
              refine zw_getfield 96 f130_93 rfl g130_86_12 (hb_52 _ _ _ _) rfl ?_
              refine zw_iload 98 f130_96 rfl (zl1_ne rfl rfl h4) ?_
              refine zw_iaload k (A 62 k) 99 f130_98 rfl (hb_75 _ _ _ _) (nI_clamp (by omega)) (nI_pos (by omega)) (by omega) (if_pos rfl) ?_
              refine zw_iadd (((mRO (A 60) (A 61) (A 62) (mRn nv A) (B 63 v) v (s.1, s.2.1, s.1 v, 0) k).2.2.2) + (A 62 k)) 100 f130_99 rfl rfl ?_
              refine zw_istore_n _ 101 f130_100 rfl (by decide +kernel) rfl ?_
              refine zw_aload_n 102 f130_101 rfl (zl1_ne rfl rfl (zl1_ne rfl rfl h0)) ?_
              refine zw_aload_n 103 f130_102 rfl (zl1_ne rfl rfl (zl1_ne rfl rfl h0)) ?_
              refine zw_getfield 106 f130_103 rfl g130_34_12 (hb_52 _ _ _ _) rfl ?_
              refine zw_iload 108 f130_106 rfl (zl1_ne rfl rfl (zl1_ne rfl rfl h4)) ?_
              rcases (hP.2.2.2 k (by omega)).1 with t11q | ⟨t11, t11l, t11n, t11q⟩
              · refine zw_iaload k (-1) 109 f130_108 rfl (hb_61 _ _ _ _) (nI_clamp (by omega)) (nI_pos (by omega)) (by omega) ((congrFun (K.2.2.1 61 rfl) k).trans t11q) ?_
                refine zw_aload_n 110 f130_109 rfl (zl1_ne rfl rfl (zl1_ne rfl rfl h0)) ?_
                refine zw_getfield 113 f130_110 rfl g130_86_12 (hb_52 _ _ _ _) rfl ?_
                refine zw_iload 115 f130_113 rfl (zl1_ne rfl rfl (zl1_ne rfl rfl h4)) ?_
                refine zw_iaload k (A 62 k) 116 f130_115 rfl (hb_75 _ _ _ _) (nI_clamp (by omega)) (nI_pos (by omega)) (by omega) (if_pos rfl) ?_
                refine zw_virtual_v 119 0 0 [.ref 52, .int (-1), .int (A 62 k)] [(0, .ref 52), (1, .int (-1)), (2, .int (A 62 k))] f130_116 rfl n130_134 k130_134_12 rfl (hb_52 _ _ _ _) (by decide +kernel) (Nat.le_of_ble_eq_true rfl) rfl rfl (by decide +kernel) (by decide +kernel) rfl (Nat.le_of_ble_eq_true rfl) rfl ?_
                refine zw_iload_n 1 f128_0 rfl rfl ?_
                refine zw_iconst (-1) 2 f128_1 rfl (by decide +kernel) ?_
                refine zw_ic_ne_f 5 18 f128_2 (by decide +kernel) rfl (by decide +kernel) ?_
                refine zw_aload_n 6 f128_5 rfl rfl ?_
                refine zw_dup 7 f128_6 rfl rfl ?_
                refine zw_getI (I1 52 35) 10 f128_7 rfl g128_124_12 (hb_52 _ _ _ _) rfl rfl ?_
                refine zw_iload_n 11 f128_10 rfl rfl ?_
                refine zw_iadd ((I1 52 35) + (A 62 k)) 12 f128_11 rfl rfl ?_
                refine zw_put _ 15 f128_12 rfl g128_124_12 (hb_52 _ _ _ _) rfl (Nat.le_of_ble_eq_true rfl) (by decide +kernel) (hi_52_35 _ _ _ _ _) ?_
                refine zw_goto 28 f128_15 (by decide +kernel) ?_
                refine zw_vreturn f128_28 r128 u128 ⟨rfl, ?_⟩
                refine zw_iinc (nI (k + 1)) _ 122 f130_119 rfl (zl1_ne rfl rfl (zl1_ne rfl rfl h4)) (by decide +kernel) (nI_1 _) rfl ?_
                refine zw_goto 12 f130_122 (by decide +kernel) ?_
                have E := mRO_y (frm := A 60) (too := A 61) (amt := A 62) (run := mRn nv A) (lev := B 63 v) (v := v) (s := (s.1, s.2.1, s.1 v, 0)) (k := k) (A 62 k) (-1) t11q (mFl_b (Int32.not_le.mp hc9)) (Decidable.of_not_not hc5) hc6
                rw [mGoC_m, mGoD_m] at E
                exact ih (k + 1) _ _ _ _ _ (KQ.i rfl (KQ.a rfl K)) (by rw [E]; exact ⟨hr.1, congrArg (fun z => z + (A 62 k)) hr.2.1, hr.2.2⟩) (zl1_ne rfl rfl (zl1_ne rfl rfl (zl1_ne rfl rfl h0))) (zl1_ne rfl rfl (zl1_ne rfl rfl (zl1_ne rfl rfl h1))) (by rw [E]; exact (zl1_ne rfl rfl (zl1_ne rfl rfl zl1_eq))) (by rw [E]; exact (zl1_ne rfl rfl zl1_eq)) zl1_eq (by omega) (by omega)
              · refine zw_iaload k (nI t11) 109 f130_108 rfl (hb_61 _ _ _ _) (nI_clamp (by omega)) (nI_pos (by omega)) (by omega) ((congrFun (K.2.2.1 61 rfl) k).trans t11q) ?_
                refine zw_aload_n 110 f130_109 rfl (zl1_ne rfl rfl (zl1_ne rfl rfl h0)) ?_
                refine zw_getfield 113 f130_110 rfl g130_86_12 (hb_52 _ _ _ _) rfl ?_
                refine zw_iload 115 f130_113 rfl (zl1_ne rfl rfl (zl1_ne rfl rfl h4)) ?_
                refine zw_iaload k (A 62 k) 116 f130_115 rfl (hb_75 _ _ _ _) (nI_clamp (by omega)) (nI_pos (by omega)) (by omega) (if_pos rfl) ?_
                refine zw_virtual_v 119 0 0 [.ref 52, .int (nI t11), .int (A 62 k)] [(0, .ref 52), (1, .int (nI t11)), (2, .int (A 62 k))] f130_116 rfl n130_134 k130_134_12 rfl (hb_52 _ _ _ _) (by decide +kernel) (Nat.le_of_ble_eq_true rfl) rfl rfl (by decide +kernel) (by decide +kernel) rfl (Nat.le_of_ble_eq_true rfl) rfl ?_
                refine zw_iload_n 1 f128_0 rfl rfl ?_
                refine zw_iconst (-1) 2 f128_1 rfl (by decide +kernel) ?_
                refine zw_ic_ne_t 18 f128_2 (by decide +kernel) (nI_nem (by omega)) ?_
                refine zw_aload_n 19 f128_18 rfl rfl ?_
                refine zw_getfield 22 f128_19 rfl g128_77_12 (hb_52 _ _ _ _) rfl ?_
                refine zw_iload_n 23 f128_22 rfl rfl ?_
                refine zw_dup2 24 f128_23 rfl rfl rfl ?_
                refine zw_iaload t11 (A1 72 t11) 25 f128_24 rfl (hb_72 _ _ _ _) (nI_clamp (by omega)) (nI_pos (by omega)) (by omega) rfl ?_
                refine zw_iload_n 26 f128_25 rfl rfl ?_
                refine zw_iadd ((A1 72 t11) + (A 62 k)) 27 f128_26 rfl rfl ?_
                refine zw_ast t11 _ 28 f128_27 rfl (hb_72 _ _ _ _) (nI_clamp (by omega)) (nI_pos (by omega)) (by omega) (ha_72 _ _ _ _ _) ?_
                refine zw_vreturn f128_28 r128 u128 ⟨rfl, ?_⟩
                refine zw_iinc (nI (k + 1)) _ 122 f130_119 rfl (zl1_ne rfl rfl (zl1_ne rfl rfl h4)) (by decide +kernel) (nI_1 _) rfl ?_
                refine zw_goto 12 f130_122 (by decide +kernel) ?_
                have E := mRO_y (frm := A 60) (too := A 61) (amt := A 62) (run := mRn nv A) (lev := B 63 v) (v := v) (s := (s.1, s.2.1, s.1 v, 0)) (k := k) (A 62 k) (nI t11) t11q (mFl_b (Int32.not_le.mp hc9)) (Decidable.of_not_not hc5) hc6
                rw [mGoC_t (by omega), mGoD_t (by omega)] at E
                exact ih (k + 1) _ _ _ _ _ (KQ.a rfl (KQ.a rfl K)) (by rw [E]; exact ⟨mC_t hr.1 (by omega), hr.2⟩) (zl1_ne rfl rfl (zl1_ne rfl rfl (zl1_ne rfl rfl h0))) (zl1_ne rfl rfl (zl1_ne rfl rfl (zl1_ne rfl rfl h1))) (by rw [E]; exact (zl1_ne rfl rfl (zl1_ne rfl rfl zl1_eq))) (by rw [E]; exact (zl1_ne rfl rfl zl1_eq)) zl1_eq (by omega) (by omega)
set_option maxRecDepth 100000 in
set_option maxHeartbeats 0 in
theorem mm_rateOf (ro : UInt32 → Nat × (Nat → Int32)) (nv np v : Nat) (I : Nat → Nat → Int32) (G : Nat → Nat → Int64) (A : Nat → Nat → Int32) (B : Nat → Nat → Int64) (hP : MP nv np I A) (hB : MB A) (hv : v < nv) (s : (Nat → Int32) × Int32 × (Nat → Int32) × (Nat → Int32)) (hs : mRel I A s) : zWp ro 130 0 [(0, .ref 52), (1, .int (nI v))] [] (hS I G A B) 0 0 (fun r h1 => ∃ I2 G2 A2 B2, h1 = hS I2 G2 A2 B2 ∧ KQ fD pR I G A B I2 G2 A2 B2 ∧ mRel I2 A2 (mRateOf (A 60) (A 61) (A 62) (mRn nv A) (A 59) (A 54) (B 63) (G 52 12) np v s) ∧ r = none) := by
  have hnv := hP.1.2
  have hnp := hP.2.1.2
  refine zw_aload_n 1 f130_0 rfl rfl ?_
  refine zw_getfield 4 f130_1 rfl g130_77_12 (hb_52 _ _ _ _) rfl ?_
  refine zw_iload_n 5 f130_4 rfl rfl ?_
  refine zw_iaload v (s.1 v) 6 f130_5 rfl (hb_72 _ _ _ _) (nI_clamp (by omega)) (nI_pos (by omega)) (by omega) (hs.1 v (by omega)) ?_
  refine zw_istore_n _ 7 f130_6 rfl (by decide +kernel) rfl ?_
  refine zw_iconst 0 8 f130_7 rfl (by decide +kernel) ?_
  refine zw_istore_n _ 9 f130_8 rfl (by decide +kernel) rfl ?_
  refine zw_iconst 0 10 f130_9 rfl (by decide +kernel) ?_
  refine zw_istore _ 12 f130_10 rfl (by decide +kernel) rfl ?_
  exact lmm_rateOf ro nv np v I G A B hP hB hv s hs (np + 1) 0 _ _ _ _ _ KQ.rf ⟨hs.1, hs.2.1, rfl, rfl⟩ (zl1_ne rfl rfl (zl1_ne rfl rfl (zl1_ne rfl rfl rfl))) (zl1_ne rfl rfl (zl1_ne rfl rfl (zl1_ne rfl rfl rfl))) (zl1_ne rfl rfl (zl1_ne rfl rfl zl1_eq)) (zl1_ne rfl rfl zl1_eq) zl1_eq (by omega) (by omega)
