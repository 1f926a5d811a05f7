noncomputable def an_now (W : qW) (a : Int32) : Int32 := cI (a = 0) (Int64.toInt32 (rAb W.2.1 W.1)) (cI (a = 1) (Int64.toInt32 (rBe W.2.1 W.1)) (cI (a = 2) (Int64.toInt32 W.1) (-1)))
set_option maxRecDepth 100000 in
set_option maxHeartbeats 0 in
theorem cq_now (ro : UInt32 → Nat × (Nat → Int32)) (nv np : Nat) (P : Nat → Nat → Int32) (W : qW) (L : qLog) (K : Int) (I : Nat → Nat → Int32) (G : Nat → Nat → Int64) (A : Nat → Nat → Int32) (B : Nat → Nat → Int64) (hR : cRS 11 nv np P W I G A B) (hp : MPa nv np P) (hq : qOw nv np P) (hW : wInv nv 10000 K P W) (hQ : qKd nv P) (hL : cLg L I A) (hn : L.1 < 900000000) (a : Int32) : zWp ro 88 0 [(0, .ref 0), (1, .int a)] [] (hS I G A B) 0 0 (fun r h1 => ∃ I2 G2 A2 B2, h1 = hS I2 G2 A2 B2 ∧ KQ fNe pNe I G A B I2 G2 A2 B2 ∧ r = some (.int (an_now W a))) := by
  have h8 := hp.1
  have h14 := hp.2.1
  have hg0 : 0 < W.1.toInt := hW.1.1.1.1
  have ht0 : 0 ≤ W.2.1.toInt := hW.1.2.1.1
  refine zw_iload_n 1 f88_0 rfl rfl ?_
  rcases zl_sw 2 (by decide) a with hs1 | ⟨hs1k, hs1l, hs1e⟩
  · refine zw_table_o 90 f88_1 hs1 (by decide +kernel) ?_
    refine zw_iconst (-1) 91 f88_90 rfl (by decide +kernel) ?_
    refine zw_ireturn f88_91 r88 u88 ?_
    exact ⟨_, _, _, _, rfl, KQ.rf, by rw [show an_now W a = (-1) from ((cI_n (sw_ne hs1 (by decide))).trans ((cI_n (sw_ne hs1 (by decide))).trans ((cI_n (sw_ne hs1 (by decide))).trans rfl)))]⟩
  · rcases (show hs1k = 0 ∨ hs1k = 1 ∨ hs1k = 2 by omega) with rfl | rfl | rfl
    · refine zw_table_k 27 28 f88_1 hs1e (by decide +kernel) (by decide +kernel) (by decide +kernel) ?_
      refine zw_aload_n 29 f88_28 rfl rfl ?_
      refine zw_getfield 32 f88_29 rfl g88_21_11 (hb_0 _ _ _ _) rfl ?_
      refine zw_getfield 35 f88_32 rfl g88_134_10 (hb_11 _ _ _ _) rfl ?_
      refine zw_getG W.2.1 38 f88_35 rfl g88_191_9 (hb_12 _ _ _ _) rfl hR.2.2.1.2.1 ?_
      refine zw_aload_n 39 f88_38 rfl rfl ?_
      refine zw_getfield 42 f88_39 rfl g88_21_11 (hb_0 _ _ _ _) rfl ?_
      refine zw_getfield 45 f88_42 rfl g88_134_10 (hb_11 _ _ _ _) rfl ?_
      refine zw_getG W.1 48 f88_45 rfl g88_151_9 (hb_12 _ _ _ _) rfl hR.2.2.1.1 ?_
      refine zw_static_l 51 0 0 [.long W.2.1, .long W.1] [] [(0, .long W.2.1), (2, .long W.1)] f88_48 rfl k88_194_99 rfl (by decide +kernel) (Nat.le_of_ble_eq_true rfl) (Nat.le_of_ble_eq_true rfl) rfl rfl (by decide +kernel) (by decide +kernel) rfl (Nat.le_of_ble_eq_true rfl) rfl ?_
      refine zw_lload_n 1 f116_0 rfl rfl ?_
      refine zw_lload_n 2 f116_1 rfl rfl ?_
      refine zw_static_l 5 0 0 [.long W.2.1, .long W.1] [] [(0, .long W.2.1), (2, .long W.1)] f116_2 rfl k116_336_99 rfl (by decide +kernel) (Nat.le_of_ble_eq_true rfl) (Nat.le_of_ble_eq_true rfl) rfl rfl (by decide +kernel) (by decide +kernel) rfl (Nat.le_of_ble_eq_true rfl) rfl ?_
      refine zWp.mono (cx_gcd ro _ W.2.1 W.1) ?_
      rintro r h1 ⟨rfl, rfl⟩
      refine ⟨_, rfl, ?_⟩
      refine zw_lstore _ 7 f116_5 rfl (by decide +kernel) rfl ?_
      refine zw_lload 9 f116_7 rfl zl2_eq ?_
      refine zw_lconst 0 10 f116_9 rfl (by decide +kernel) ?_
      refine zw_lcmp (lg_cmp (cGc W.2.1 W.1) 0) 11 f116_10 rfl rfl ?_
      refine zw_if_ne_t 18 f116_11 (by decide +kernel) (fun q => cGc_ne0 ((lg_cmp_eq _ _).mp q)) ?_
      refine zw_lload_n 19 f116_18 rfl (zl2_ne rfl rfl rfl) ?_
      refine zw_lload 21 f116_19 rfl zl2_eq ?_
      refine zw_ldiv (W.2.1 / (cGc W.2.1 W.1)) 22 f116_21 rfl cGc_ne0 rfl ?_
      refine zw_lreturn f116_22 r116 u116 ⟨_, rfl, ?_⟩
      refine zw_l2i (Int64.toInt32 (W.2.1 / (cGc W.2.1 W.1))) 52 f88_51 rfl rfl ?_
      refine zw_ireturn f88_52 r88 u88 ?_
      exact ⟨_, _, _, _, rfl, KQ.rf, by rw [show an_now W a = (Int64.toInt32 (W.2.1 / (cGc W.2.1 W.1))) from ((cI_y (show a = 0 from hs1e)).trans (congrArg Int64.toInt32 (rAb_c ht0 hg0).1.symm))]⟩
    · refine zw_table_k 52 53 f88_1 hs1e (by decide +kernel) (by decide +kernel) (by decide +kernel) ?_
      refine zw_aload_n 54 f88_53 rfl rfl ?_
      refine zw_getfield 57 f88_54 rfl g88_21_11 (hb_0 _ _ _ _) rfl ?_
      refine zw_getfield 60 f88_57 rfl g88_134_10 (hb_11 _ _ _ _) rfl ?_
      refine zw_getG W.2.1 63 f88_60 rfl g88_191_9 (hb_12 _ _ _ _) rfl hR.2.2.1.2.1 ?_
      refine zw_aload_n 64 f88_63 rfl rfl ?_
      refine zw_getfield 67 f88_64 rfl g88_21_11 (hb_0 _ _ _ _) rfl ?_
      refine zw_getfield 70 f88_67 rfl g88_134_10 (hb_11 _ _ _ _) rfl ?_
      refine zw_getG W.1 73 f88_70 rfl g88_151_9 (hb_12 _ _ _ _) rfl hR.2.2.1.1 ?_
      refine zw_static_l 76 0 0 [.long W.2.1, .long W.1] [] [(0, .long W.2.1), (2, .long W.1)] f88_73 rfl k88_198_99 rfl (by decide +kernel) (Nat.le_of_ble_eq_true rfl) (Nat.le_of_ble_eq_true rfl) rfl rfl (by decide +kernel) (by decide +kernel) rfl (Nat.le_of_ble_eq_true rfl) rfl ?_
      refine zw_lload_n 1 f117_0 rfl rfl ?_
      refine zw_lload_n 2 f117_1 rfl rfl ?_
      refine zw_static_l 5 0 0 [.long W.2.1, .long W.1] [] [(0, .long W.2.1), (2, .long W.1)] f117_2 rfl k117_336_99 rfl (by decide +kernel) (Nat.le_of_ble_eq_true rfl) (Nat.le_of_ble_eq_true rfl) rfl rfl (by decide +kernel) (by decide +kernel) rfl (Nat.le_of_ble_eq_true rfl) rfl ?_
      refine zWp.mono (cx_gcd ro _ W.2.1 W.1) ?_
      rintro r h1 ⟨rfl, rfl⟩
      refine ⟨_, rfl, ?_⟩
      refine zw_lstore _ 7 f117_5 rfl (by decide +kernel) rfl ?_
      refine zw_lload 9 f117_7 rfl zl2_eq ?_
      refine zw_lconst 0 10 f117_9 rfl (by decide +kernel) ?_
      refine zw_lcmp (lg_cmp (cGc W.2.1 W.1) 0) 11 f117_10 rfl rfl ?_
      refine zw_if_ne_t 18 f117_11 (by decide +kernel) (fun q => cGc_ne0 ((lg_cmp_eq _ _).mp q)) ?_
      refine zw_lload_n 19 f117_18 rfl (zl2_ne rfl rfl rfl) ?_
      refine zw_lload 21 f117_19 rfl zl2_eq ?_
      refine zw_ldiv (W.1 / (cGc W.2.1 W.1)) 22 f117_21 rfl cGc_ne0 rfl ?_
      refine zw_lreturn f117_22 r117 u117 ⟨_, rfl, ?_⟩
      refine zw_l2i (Int64.toInt32 (W.1 / (cGc W.2.1 W.1))) 77 f88_76 rfl rfl ?_
      refine zw_ireturn f88_77 r88 u88 ?_
      exact ⟨_, _, _, _, rfl, KQ.rf, by rw [show an_now W a = (Int64.toInt32 (W.1 / (cGc W.2.1 W.1))) from ((cI_n (kne (show a = 1 from hs1e) (by decide))).trans ((cI_y (show a = 1 from hs1e)).trans (congrArg Int64.toInt32 (rAb_c ht0 hg0).2.symm)))]⟩
    · refine zw_table_k 77 78 f88_1 hs1e (by decide +kernel) (by decide +kernel) (by decide +kernel) ?_
      refine zw_aload_n 79 f88_78 rfl rfl ?_
      refine zw_getfield 82 f88_79 rfl g88_21_11 (hb_0 _ _ _ _) rfl ?_
      refine zw_getfield 85 f88_82 rfl g88_134_10 (hb_11 _ _ _ _) rfl ?_
      refine zw_getG W.1 88 f88_85 rfl g88_151_9 (hb_12 _ _ _ _) rfl hR.2.2.1.1 ?_
      refine zw_l2i (Int64.toInt32 W.1) 89 f88_88 rfl rfl ?_
      refine zw_ireturn f88_89 r88 u88 ?_
      exact ⟨_, _, _, _, rfl, KQ.rf, by rw [show an_now W a = (Int64.toInt32 W.1) from ((cI_n (kne (show a = 2 from hs1e) (by decide))).trans ((cI_n (kne (show a = 2 from hs1e) (by decide))).trans ((cI_y (show a = 2 from hs1e)).trans rfl)))]⟩
set_option maxRecDepth 100000 in
set_option maxHeartbeats 0 in
theorem mx_now (ro : UInt32 → Nat × (Nat → Int32)) (nv np : Nat) (P : Nat → Nat → Int32) (W : qW) (L : qLog) (I : Nat → Nat → Int32) (G : Nat → Nat → Int64) (A : Nat → Nat → Int32) (B : Nat → Nat → Int64) (K : Int) (hR : mRS nv np P W L I G A B) (hp : MPa nv np P) (hW : wInv nv 10000 K P W) (hn : L.1 < 900000000) (hg : qLG L) (hi : mId I) (a : Int32) : zWp ro 154 0 [(0, .ref 52), (1, .int a)] [] (hS I G A B) 0 0 (fun r h1 => ∃ I2 G2 A2 B2, h1 = hS I2 G2 A2 B2 ∧ KQ fQu pQu I G A B I2 G2 A2 B2 ∧ mId I2 ∧ r = some (.int (an_now W a))) := by
  have h8 := hp.1
  have h14 := hp.2.1
  obtain ⟨t, ht, et⟩ := hi.2.2
  refine zw_iload_n 1 f154_0 rfl rfl ?_
  refine zw_if_eq 4 9 f154_1 (by decide +kernel) rfl (fun hc1 => ?_) (fun hc1 => ?_)
  · refine zw_aload_n 10 f154_9 rfl rfl ?_
    refine zw_getG W.2.1 13 f154_10 rfl g154_172_12 (hb_52 _ _ _ _) rfl hR.t ?_
    refine zw_aload_n 14 f154_13 rfl rfl ?_
    refine zw_getG W.1 17 f154_14 rfl g154_40_12 (hb_52 _ _ _ _) rfl hR.g ?_
    refine zw_iload_n 18 f154_17 rfl rfl ?_
    refine zw_static_l 21 0 0 [.long W.2.1, .long W.1, .int a] [] [(0, .long W.2.1), (2, .long W.1), (4, .int a)] f154_18 rfl k154_239_99 rfl (by decide +kernel) (Nat.le_of_ble_eq_true rfl) (Nat.le_of_ble_eq_true rfl) rfl rfl (by decide +kernel) (by decide +kernel) rfl (Nat.le_of_ble_eq_true rfl) rfl ?_
    refine zw_lload_n 1 f153_0 rfl rfl ?_
    refine zw_lload_n 2 f153_1 rfl rfl ?_
    refine zw_static_l 5 0 0 [.long W.2.1, .long W.1] [] [(0, .long W.2.1), (2, .long W.1)] f153_2 rfl k153_164_99 rfl (by decide +kernel) (Nat.le_of_ble_eq_true rfl) (Nat.le_of_ble_eq_true rfl) rfl rfl (by decide +kernel) (by decide +kernel) rfl (Nat.le_of_ble_eq_true rfl) rfl ?_
    refine zWp.mono (mm_divisor ro _ W.2.1 W.1) ?_
    rintro r h1 ⟨rfl, rfl⟩
    refine ⟨_, rfl, ?_⟩
    refine zw_lstore _ 7 f153_5 rfl (by decide +kernel) rfl ?_
    refine zw_iload 9 f153_7 rfl (zl2_ne rfl rfl rfl) ?_
    refine zw_if_ne_f 12 19 f153_9 (by decide +kernel) rfl (fun q => q hc1) ?_
    refine zw_lload_n 13 f153_12 rfl (zl2_ne rfl rfl rfl) ?_
    refine zw_lload 15 f153_13 rfl zl2_eq ?_
    refine zw_ldiv (W.2.1 / (mD W.2.1 W.1)) 16 f153_15 rfl (mD_ne0 (i64_ne0 hW.1.1.1.1)) rfl ?_
    refine zw_goto 23 f153_16 (by decide +kernel) ?_
    refine zw_lreturn f153_23 r153 u153 ⟨_, rfl, ?_⟩
    refine zw_l2i (Int64.toInt32 (W.2.1 / (mD W.2.1 W.1))) 22 f154_21 rfl rfl ?_
    refine zw_goto 39 f154_22 (by decide +kernel) ?_
    refine zw_ireturn f154_39 r154 u154 ?_
    exact ⟨_, _, _, _, rfl, KQ.rf, ⟨hi.1, hi.2.1, t, by omega, et⟩, by rw [show an_now W a = (Int64.toInt32 (W.2.1 / (mD W.2.1 W.1))) from ((cI_y hc1).trans rfl)]⟩
  · refine zw_iload_n 5 f154_4 rfl rfl ?_
    refine zw_iconst 1 6 f154_5 rfl (by decide +kernel) ?_
    refine zw_ic_ne 9 25 f154_6 (by decide +kernel) rfl (fun hc2 => ?_) (fun hc2 => ?_)
    · refine zw_iload_n 26 f154_25 rfl rfl ?_
      refine zw_iconst 2 27 f154_26 rfl (by decide +kernel) ?_
      refine zw_ic_ne 30 38 f154_27 (by decide +kernel) rfl (fun hc3 => ?_) (fun hc3 => ?_)
      · refine zw_iconst (-1) 39 f154_38 rfl (by decide +kernel) ?_
        refine zw_ireturn f154_39 r154 u154 ?_
        exact ⟨_, _, _, _, rfl, KQ.rf, ⟨hi.1, hi.2.1, t, by omega, et⟩, by rw [show an_now W a = (-1) from ((cI_n hc1).trans ((cI_n hc2).trans ((cI_n hc3).trans rfl)))]⟩
      · refine zw_aload_n 31 f154_30 rfl rfl ?_
        refine zw_getG W.1 34 f154_31 rfl g154_40_12 (hb_52 _ _ _ _) rfl hR.g ?_
        refine zw_l2i (Int64.toInt32 W.1) 35 f154_34 rfl rfl ?_
        refine zw_goto 39 f154_35 (by decide +kernel) ?_
        refine zw_ireturn f154_39 r154 u154 ?_
        exact ⟨_, _, _, _, rfl, KQ.rf, ⟨hi.1, hi.2.1, t, by omega, et⟩, by rw [show an_now W a = (Int64.toInt32 W.1) from ((cI_n hc1).trans ((cI_n hc2).trans ((cI_y (Decidable.of_not_not hc3)).trans rfl)))]⟩
    · refine zw_aload_n 10 f154_9 rfl rfl ?_
      refine zw_getG W.2.1 13 f154_10 rfl g154_172_12 (hb_52 _ _ _ _) rfl hR.t ?_
      refine zw_aload_n 14 f154_13 rfl rfl ?_
      refine zw_getG W.1 17 f154_14 rfl g154_40_12 (hb_52 _ _ _ _) rfl hR.g ?_
      refine zw_iload_n 18 f154_17 rfl rfl ?_
      refine zw_static_l 21 0 0 [.long W.2.1, .long W.1, .int a] [] [(0, .long W.2.1), (2, .long W.1), (4, .int a)] f154_18 rfl k154_239_99 rfl (by decide +kernel) (Nat.le_of_ble_eq_true rfl) (Nat.le_of_ble_eq_true rfl) rfl rfl (by decide +kernel) (by decide +kernel) rfl (Nat.le_of_ble_eq_true rfl) rfl ?_
      refine zw_lload_n 1 f153_0 rfl rfl ?_
      refine zw_lload_n 2 f153_1 rfl rfl ?_
      refine zw_static_l 5 0 0 [.long W.2.1, .long W.1] [] [(0, .long W.2.1), (2, .long W.1)] f153_2 rfl k153_164_99 rfl (by decide +kernel) (Nat.le_of_ble_eq_true rfl) (Nat.le_of_ble_eq_true rfl) rfl rfl (by decide +kernel) (by decide +kernel) rfl (Nat.le_of_ble_eq_true rfl) rfl ?_
      refine zWp.mono (mm_divisor ro _ W.2.1 W.1) ?_
      rintro r h1 ⟨rfl, rfl⟩
      refine ⟨_, rfl, ?_⟩
      refine zw_lstore _ 7 f153_5 rfl (by decide +kernel) rfl ?_
      refine zw_iload 9 f153_7 rfl (zl2_ne rfl rfl rfl) ?_
      refine zw_if_ne_t 19 f153_9 (by decide +kernel) hc1 ?_
      refine zw_lload_n 20 f153_19 rfl (zl2_ne rfl rfl rfl) ?_
      refine zw_lload 22 f153_20 rfl zl2_eq ?_
      refine zw_ldiv (W.1 / (mD W.2.1 W.1)) 23 f153_22 rfl (mD_ne0 (i64_ne0 hW.1.1.1.1)) rfl ?_
      refine zw_lreturn f153_23 r153 u153 ⟨_, rfl, ?_⟩
      refine zw_l2i (Int64.toInt32 (W.1 / (mD W.2.1 W.1))) 22 f154_21 rfl rfl ?_
      refine zw_goto 39 f154_22 (by decide +kernel) ?_
      refine zw_ireturn f154_39 r154 u154 ?_
      exact ⟨_, _, _, _, rfl, KQ.rf, ⟨hi.1, hi.2.1, t, by omega, et⟩, by rw [show an_now W a = (Int64.toInt32 (W.1 / (mD W.2.1 W.1))) from ((cI_n hc1).trans ((cI_y (Decidable.of_not_not hc2)).trans rfl))]⟩
set_option maxHeartbeats 0 in
theorem pairX_nowx (ro : UInt32 → Nat × (Nat → Int32)) (k : Nat) (I : Nat → Nat → Int32) (G : Nat → Nat → Int64) (A : Nat → Nat → Int32) (B : Nat → Nat → Int64) (h : zCx k I G A B) (hk : k < 512) (a : Int32) : zWp ro 88 0 [(0, .ref 0), (1, .int a)] [] (hS I G A B) 0 0 (zPX ro 154 [(0, .ref 52), (1, .int a)] k (fun v w => v = w)) := by
  obtain ⟨nv, np, W, L, F, R, ow, kd, lw, lg⟩ := h
  have fn := F.2.2.2.2.2
  refine zWp.mono (cq_now ro nv np A W L (242600 * k) I G A B R F.2.1 ow F.2.2.1 kd lg (by omega) a) ?_
  rintro r h1 ⟨I1, G1, A1, B1, rfl, K1, rfl⟩
  have F1 := F.kq K1 fNe_52 pNe_52
  have e1 : PE A A1 := fun k _ _ => (K1.2.2.1 k (pNe_52 k (by omega))).symm
  have R1 := R.k K1 ⟨rfl, rfl⟩ (fun j h1 h2 => by simp only [fNe, decide_eq_false_iff_not]; omega) (fun k h1 h2 => by simp only [pNe, decide_eq_false_iff_not]; omega)
  have g1 := lg.k K1 rfl rfl rfl rfl rfl
  refine ⟨_, rfl, zWp.mono (mx_now ro nv np A W L I1 G1 A1 B1 (242600 * k) ⟨F1.1.1, e1.sy, F1.1.2.2⟩ F.2.1 F.2.2.1 (by omega) F1.2.2.2.1 F1.2.2.2.2.1 a) ?_⟩
  rintro r2 h2 ⟨I2, G2, A2, B2, rfl, K2, id2, rfl⟩
  have R2 := F1.1.k K2 fQu_R pQu_R
  refine ⟨_, rfl, ?_, rfl⟩
  exact zCx.mk (zRf.of R2 F1.2.1 F1.2.2.1 F1.2.2.2.1 id2 fn) (by omega) (by omega) R1 (e1.tr R2.2.1.sy) K2 fQu_c pQu_c ow kd lw g1
theorem pair2_nowx (ro : UInt32 → Nat × (Nat → Int32)) (k : Nat) (I : Nat → Nat → Int32) (G : Nat → Nat → Int64) (A : Nat → Nat → Int32) (B : Nat → Nat → Int64) (h : zL2 k I G A B) (hk : k < 512) (a : Int32) : zWp ro 88 0 [(0, .ref 0), (1, .int a)] [] (hS I G A B) 0 0 (zP2 ro 154 [(0, .ref 52), (1, .int a)] k (fun v w => v = w)) := by
  obtain ⟨h1, I3, G3, A3, B3, eh, hx⟩ := h
  have p1 := pair_now ro k I G A B h1 hk a
  have p2 := pairX_nowx ro k I3 G3 A3 B3 hx hk a
  rw [← eh] at p2
  exact zP_and p1 p2
