noncomputable def an_flood (nv np : Nat) (P : Nat → Nat → Int32) (W : qW) (a : Int32) : Int32 := cI (qV nv a) ((wR2 nv np P W).2.2.2 a.toNatClampNeg) (-1)
set_option maxRecDepth 100000 in
set_option maxHeartbeats 0 in
theorem cq_flood (ro : UInt32 → Nat × (Nat → Int32)) (nv np : Nat) (P : Nat → Nat → Int32) (W : qW) (L : qLog) (K : Int) (I : Nat → Nat → Int32) (G : Nat → Nat → Int64) (A : Nat → Nat → Int32) (B : Nat → Nat → Int64) (hR : cRS 11 nv np P W I G A B) (hp : MPa nv np P) (hq : qOw nv np P) (hW : wInv nv 10000 K P W) (hQ : qKd nv P) (hL : cLg L I A) (hn : L.1 < 900000000) (a : Int32) : zWp ro 93 0 [(0, .ref 0), (1, .int a)] [] (hS I G A B) 0 0 (fun r h1 => ∃ I2 G2 A2 B2, h1 = hS I2 G2 A2 B2 ∧ KQ fNe pNe I G A B I2 G2 A2 B2 ∧ r = some (.int (an_flood nv np P W a))) := by
  have h8 := hp.1
  have h14 := hp.2.1
  have hg0 : 0 < W.1.toInt := hW.1.1.1.1
  have ht0 : 0 ≤ W.2.1.toInt := hW.1.2.1.1
  refine zw_aload_n 1 f93_0 rfl rfl ?_
  refine zw_getfield 4 f93_1 rfl g93_10_11 (hb_0 _ _ _ _) rfl ?_
  refine zw_iload_n 5 f93_4 rfl rfl ?_
  refine zw_virtual_i 8 0 0 [.ref 1, .int a] [(0, .ref 1), (1, .int a)] f93_5 rfl n93_89 k93_89_4 rfl (hb_1 _ _ _ _) (by decide +kernel) (Nat.le_of_ble_eq_true rfl) rfl rfl (by decide +kernel) (by decide +kernel) rfl (Nat.le_of_ble_eq_true rfl) rfl ?_
  refine zw_iload_n 1 f13_0 rfl rfl ?_
  refine zw_if_lt 4 22 f13_1 (by decide +kernel) rfl (fun hc1 => ?_) (fun hc1 => ?_)
  · refine zw_iconst 0 23 f13_22 rfl (by decide +kernel) ?_
    refine zw_zreturn f13_23 r13 u13 (by decide +kernel) ⟨_, rfl, ?_⟩
    refine zw_if_ne_f 11 13 f93_8 (by decide +kernel) rfl (by decide +kernel) ?_
    refine zw_iconst (-1) 12 f93_11 rfl (by decide +kernel) ?_
    refine zw_ireturn f93_12 r93 u93 ?_
    exact ⟨_, _, _, _, rfl, KQ.rf, by rw [show an_flood nv np P W a = (-1) from (cI_n (qV.n0 (by omega) hc1))]⟩
  · refine zw_iload_n 5 f13_4 rfl rfl ?_
    refine zw_aload_n 6 f13_5 rfl rfl ?_
    refine zw_getI (nI nv) 9 f13_6 rfl g13_39_4 (hb_1 _ _ _ _) rfl hR.1.1 ?_
    refine zw_ic_ge 12 22 f13_9 (by decide +kernel) rfl (fun hc2 => ?_) (fun hc2 => ?_)
    · refine zw_iconst 0 23 f13_22 rfl (by decide +kernel) ?_
      refine zw_zreturn f13_23 r13 u13 (by decide +kernel) ⟨_, rfl, ?_⟩
      refine zw_if_ne_f 11 13 f93_8 (by decide +kernel) rfl (by decide +kernel) ?_
      refine zw_iconst (-1) 12 f93_11 rfl (by decide +kernel) ?_
      refine zw_ireturn f93_12 r93 u93 ?_
      exact ⟨_, _, _, _, rfl, KQ.rf, by rw [show an_flood nv np P W a = (-1) from (cI_n (qV.n2 (by omega) hc2))]⟩
    · refine zw_iload_n 13 f13_12 rfl rfl ?_
      refine zw_bipush 8 15 f13_13 rfl (by decide +kernel) ?_
      refine zw_ic_ge 18 22 f13_15 (by decide +kernel) rfl (fun hc3 => ?_) (fun hc3 => ?_)
      · refine zw_iconst 0 23 f13_22 rfl (by decide +kernel) ?_
        refine zw_zreturn f13_23 r13 u13 (by decide +kernel) ⟨_, rfl, ?_⟩
        refine zw_if_ne_f 11 13 f93_8 (by decide +kernel) rfl (by decide +kernel) ?_
        refine zw_iconst (-1) 12 f93_11 rfl (by decide +kernel) ?_
        refine zw_ireturn f93_12 r93 u93 ?_
        exact ⟨_, _, _, _, rfl, KQ.rf, by rw [show an_flood nv np P W a = (-1) from (cI_n (qV.n3 (m := 8) (N := 8) (by omega) (by omega) (by decide) hc3))]⟩
      · refine zw_iconst 1 19 f13_18 rfl (by decide +kernel) ?_
        refine zw_goto 23 f13_19 (by decide +kernel) ?_
        refine zw_zreturn f13_23 r13 u13 (by decide +kernel) ⟨_, rfl, ?_⟩
        refine zw_if_ne_t 13 f93_8 (by decide +kernel) (by decide +kernel) ?_
        refine zw_aload_n 14 f93_13 rfl rfl ?_
        refine zw_getfield 17 f93_14 rfl g93_21_11 (hb_0 _ _ _ _) rfl ?_
        refine zw_virtual_v 20 0 0 [.ref 11] [(0, .ref 11)] f93_17 rfl n93_219 k93_219_10 rfl (hb_11 _ _ _ _) (by decide +kernel) (Nat.le_of_ble_eq_true rfl) rfl rfl (by decide +kernel) (by decide +kernel) rfl (Nat.le_of_ble_eq_true rfl) rfl ?_
        refine zWp.mono (cx_rates_11 ro nv np P W 10000 K _ _ _ _ hR hp hW.2.1 hq hW.1) ?_
        rintro r h1 ⟨I_r, G_r, A_r, B_r, rfl, K_r, hRt, rfl⟩
        refine ⟨rfl, ?_⟩
        have hR2 := hR.k K_r ⟨rfl, rfl⟩ (fCr_w 11) (pCr_w 11 (by omega))
        refine zw_aload_n 21 f93_20 rfl rfl ?_
        refine zw_getfield 24 f93_21 rfl g93_21_11 (hb_0 _ _ _ _) rfl ?_
        refine zw_getfield 27 f93_24 rfl g93_228_10 (hb_11 _ _ _ _) rfl ?_
        refine zw_iload_n 28 f93_27 rfl rfl ?_
        refine zw_iaload a.toNatClampNeg ((wR2 nv np P W).2.2.2 a.toNatClampNeg) 29 f93_28 rfl (hb_18 _ _ _ _) rfl hc1 (zix (by decide) hc1 hc3) (hRt.1.2.2.2 _ ((qV.ofc (by omega) hc1 hc2)).1) ?_
        refine zw_ireturn f93_29 r93 u93 ?_
        exact ⟨_, _, _, _, rfl, (KQ.wk K_r fCr_Ne pCr_Ne), by rw [show an_flood nv np P W a = ((wR2 nv np P W).2.2.2 a.toNatClampNeg) from (cI_y (qV.ofc (by omega) hc1 hc2))]⟩
set_option maxRecDepth 100000 in
set_option maxHeartbeats 0 in
theorem mx_flood (ro : UInt32 → Nat × (Nat → Int32)) (nv np : Nat) (P : Nat → Nat → Int32) (W : qW) (L : qLog) (I : Nat → Nat → Int32) (G : Nat → Nat → Int64) (A : Nat → Nat → Int32) (B : Nat → Nat → Int64) (K : Int) (hR : mRS nv np P W L I G A B) (hp : MPa nv np P) (hW : wInv nv 10000 K P W) (hn : L.1 < 900000000) (hg : qLG L) (hi : mId I) (a : Int32) : zWp ro 159 0 [(0, .ref 52), (1, .int a)] [] (hS I G A B) 0 0 (fun r h1 => ∃ I2 G2 A2 B2, h1 = hS I2 G2 A2 B2 ∧ KQ fQu pQu I G A B I2 G2 A2 B2 ∧ mId I2 ∧ r = some (.int (an_flood nv np P W a))) := by
  have h8 := hp.1
  have h14 := hp.2.1
  obtain ⟨t, ht, et⟩ := hi.2.2
  refine zw_aload_n 1 f159_0 rfl rfl ?_
  refine zw_virtual_v 4 0 0 [.ref 52] [(0, .ref 52)] f159_1 rfl n159_151 k159_151_12 rfl (hb_52 _ _ _ _) (by decide +kernel) (Nat.le_of_ble_eq_true rfl) rfl rfl (by decide +kernel) (by decide +kernel) rfl (Nat.le_of_ble_eq_true rfl) rfl ?_
  refine zWp.mono (mm_ratesW ro nv np P W L _ _ _ _ hR hp hW.2.1) ?_
  rintro r h1 ⟨I_r, G_r, A_r, B_r, rfl, K_r, R_r, T_r, rfl⟩
  refine ⟨rfl, ?_⟩
  refine zw_aload_n 5 f159_4 rfl rfl ?_
  refine zw_iload_n 6 f159_5 rfl rfl ?_
  refine zw_virtual_i 9 0 0 [.ref 52, .int a] [(0, .ref 52), (1, .int a)] f159_6 rfl n159_215 k159_215_12 rfl (hb_52 _ _ _ _) (by decide +kernel) (Nat.le_of_ble_eq_true rfl) rfl rfl (by decide +kernel) (by decide +kernel) rfl (Nat.le_of_ble_eq_true rfl) rfl ?_
  refine zw_iload_n 1 f123_0 rfl rfl ?_
  refine zw_iconst 0 2 f123_1 rfl (by decide +kernel) ?_
  refine zw_aload_n 3 f123_2 rfl rfl ?_
  refine zw_getI (nI nv) 6 f123_3 rfl g123_114_12 (hb_52 _ _ _ _) rfl R_r.1.1 ?_
  refine zw_iconst 1 7 f123_6 rfl (by decide +kernel) ?_
  refine zw_isub ((nI nv) - 1) 8 f123_7 rfl rfl ?_
  refine zw_static_i 11 0 0 [.int a, .int 0, .int ((nI nv) - 1)] [] [(0, .int a), (1, .int 0), (2, .int ((nI nv) - 1))] f123_8 rfl k123_117_99 rfl (by decide +kernel) (Nat.le_of_ble_eq_true rfl) (Nat.le_of_ble_eq_true rfl) rfl rfl (by decide +kernel) (by decide +kernel) rfl (Nat.le_of_ble_eq_true rfl) rfl ?_
  refine zw_iload_n 1 f120_0 rfl rfl ?_
  refine zw_iload_n 2 f120_1 rfl rfl ?_
  refine zw_ic_lt 5 14 f120_2 (by decide +kernel) rfl (fun hc1 => ?_) (fun hc1 => ?_)
  · refine zw_iconst 0 15 f120_14 rfl (by decide +kernel) ?_
    refine zw_zreturn f120_15 r120 u120 (by decide +kernel) ⟨_, rfl, ?_⟩
    refine zw_zreturn f123_11 r123 u123 (by decide +kernel) ⟨_, rfl, ?_⟩
    refine zw_if_eq_t 21 f159_9 (by decide +kernel) (by decide +kernel) ?_
    refine zw_iconst (-1) 22 f159_21 rfl (by decide +kernel) ?_
    refine zw_ireturn f159_22 r159 u159 ?_
    exact ⟨_, _, _, _, rfl, (KQ.wk K_r fR_Qu pR_Qu), ⟨((K_r.1 52 22 rfl).trans hi.1), ((K_r.1 52 41 rfl).trans hi.2.1), t, by omega, ((K_r.1 52 29 rfl).trans et)⟩, by rw [show an_flood nv np P W a = (-1) from (cI_n (qV.n0 (by omega) hc1))]⟩
  · refine zw_iload_n 6 f120_5 rfl rfl ?_
    refine zw_iload_n 7 f120_6 rfl rfl ?_
    refine zw_ic_gt 10 14 f120_7 (by decide +kernel) rfl (fun hc2 => ?_) (fun hc2 => ?_)
    · refine zw_iconst 0 15 f120_14 rfl (by decide +kernel) ?_
      refine zw_zreturn f120_15 r120 u120 (by decide +kernel) ⟨_, rfl, ?_⟩
      refine zw_zreturn f123_11 r123 u123 (by decide +kernel) ⟨_, rfl, ?_⟩
      refine zw_if_eq_t 21 f159_9 (by decide +kernel) (by decide +kernel) ?_
      refine zw_iconst (-1) 22 f159_21 rfl (by decide +kernel) ?_
      refine zw_ireturn f159_22 r159 u159 ?_
      exact ⟨_, _, _, _, rfl, (KQ.wk K_r fR_Qu pR_Qu), ⟨((K_r.1 52 22 rfl).trans hi.1), ((K_r.1 52 41 rfl).trans hi.2.1), t, by omega, ((K_r.1 52 29 rfl).trans et)⟩, by rw [show an_flood nv np P W a = (-1) from (cI_n (qV.n1 (by omega) hc2))]⟩
    · refine zw_iconst 1 11 f120_10 rfl (by decide +kernel) ?_
      refine zw_goto 15 f120_11 (by decide +kernel) ?_
      refine zw_zreturn f120_15 r120 u120 (by decide +kernel) ⟨_, rfl, ?_⟩
      refine zw_zreturn f123_11 r123 u123 (by decide +kernel) ⟨_, rfl, ?_⟩
      refine zw_if_eq_f 12 21 f159_9 (by decide +kernel) rfl (by decide +kernel) ?_
      refine zw_aload_n 13 f159_12 rfl rfl ?_
      refine zw_getfield 16 f159_13 rfl g159_83_12 (hb_52 _ _ _ _) rfl ?_
      refine zw_iload_n 17 f159_16 rfl rfl ?_
      refine zw_iaload a.toNatClampNeg ((wR2 nv np P W).2.2.2 a.toNatClampNeg) 18 f159_17 rfl (hb_74 _ _ _ _) rfl hc1 (zix (by decide) hc1 (show ¬ 8 ≤ a from ix_le hp.1 (by decide) (by decide) hc1 hc2)) (T_r.2.2.2 _ (by have q := ((qV.of (by omega) hc1 hc2)).1; omega)) ?_
      refine zw_goto 22 f159_18 (by decide +kernel) ?_
      refine zw_ireturn f159_22 r159 u159 ?_
      exact ⟨_, _, _, _, rfl, (KQ.wk K_r fR_Qu pR_Qu), ⟨((K_r.1 52 22 rfl).trans hi.1), ((K_r.1 52 41 rfl).trans hi.2.1), t, by omega, ((K_r.1 52 29 rfl).trans et)⟩, by rw [show an_flood nv np P W a = ((wR2 nv np P W).2.2.2 a.toNatClampNeg) from (cI_y (qV.of (by omega) hc1 hc2))]⟩
set_option maxHeartbeats 0 in
theorem pairX_floodx (ro : UInt32 → Nat × (Nat → Int32)) (k : Nat) (I : Nat → Nat → Int32) (G : Nat → Nat → Int64) (A : Nat → Nat → Int32) (B : Nat → Nat → Int64) (h : zCx k I G A B) (hk : k < 512) (a : Int32) : zWp ro 93 0 [(0, .ref 0), (1, .int a)] [] (hS I G A B) 0 0 (zPX ro 159 [(0, .ref 52), (1, .int a)] k (fun v w => v = w)) := by
  obtain ⟨nv, np, W, L, F, R, ow, kd, lw, lg⟩ := h
  have fn := F.2.2.2.2.2
  refine zWp.mono (cq_flood ro nv np A W L (242600 * k) I G A B R F.2.1 ow F.2.2.1 kd lg (by omega) a) ?_
  rintro r h1 ⟨I1, G1, A1, B1, rfl, K1, rfl⟩
  have F1 := F.kq K1 fNe_52 pNe_52
  have e1 : PE A A1 := fun k _ _ => (K1.2.2.1 k (pNe_52 k (by omega))).symm
  have R1 := R.k K1 ⟨rfl, rfl⟩ (fun j h1 h2 => by simp only [fNe, decide_eq_false_iff_not]; omega) (fun k h1 h2 => by simp only [pNe, decide_eq_false_iff_not]; omega)
  have g1 := lg.k K1 rfl rfl rfl rfl rfl
  refine ⟨_, rfl, zWp.mono (mx_flood ro nv np A W L I1 G1 A1 B1 (242600 * k) ⟨F1.1.1, e1.sy, F1.1.2.2⟩ F.2.1 F.2.2.1 (by omega) F1.2.2.2.1 F1.2.2.2.2.1 a) ?_⟩
  rintro r2 h2 ⟨I2, G2, A2, B2, rfl, K2, id2, rfl⟩
  have R2 := F1.1.k K2 fQu_R pQu_R
  refine ⟨_, rfl, ?_, rfl⟩
  exact zCx.mk (zRf.of R2 F1.2.1 F1.2.2.1 F1.2.2.2.1 id2 fn) (by omega) (by omega) R1 (e1.tr R2.2.1.sy) K2 fQu_c pQu_c ow kd lw g1
theorem pair2_floodx (ro : UInt32 → Nat × (Nat → Int32)) (k : Nat) (I : Nat → Nat → Int32) (G : Nat → Nat → Int64) (A : Nat → Nat → Int32) (B : Nat → Nat → Int64) (h : zL2 k I G A B) (hk : k < 512) (a : Int32) : zWp ro 93 0 [(0, .ref 0), (1, .int a)] [] (hS I G A B) 0 0 (zP2 ro 159 [(0, .ref 52), (1, .int a)] k (fun v w => v = w)) := by
  obtain ⟨h1, I3, G3, A3, B3, eh, hx⟩ := h
  have p1 := pair_flood ro k I G A B h1 hk a
  have p2 := pairX_floodx ro k I3 G3 A3 B3 hx hk a
  rw [← eh] at p2
  exact zP_and p1 p2
