set_option maxRecDepth 100000 in
set_option maxHeartbeats 0 in
theorem cm_fill (ro : UInt32 → Nat × (Nat → Int32)) (nv np cm : Nat) (I : Nat → Nat → Int32) (G : Nat → Nat → Int64) (A : Nat → Nat → Int32) (B : Nat → Nat → Int64) (hI : CV nv np cm I) (hcm : cm < 900000000) (hQ : qKd nv (cP A)) (a : Int32) (b : Int32) : zWp ro 84 0 [(0, .ref 0), (1, .int a), (2, .int b)] [] (hS I G A B) 0 0 (fun r h1 => ∃ I2 G2 A2 B2, h1 = hS I2 G2 A2 B2 ∧ KP pX I G A B I2 G2 A2 B2 ∧ ((¬ ok_fill nv np (cP A) a b ∧ cSt nv np (cm + 8) (cP A) I2 A2 ∧ r = some (.int (-1))) ∨ (ok_fill nv np (cP A) a b ∧ cSt nv np (cm + 8) (cP A) I2 A2 ∧ r = some (.int 1)))) := by
  have h8 := hI.1.1.2
  have h14 := hI.1.2.1.2
  obtain ⟨t, ht, et⟩ := hI.2.2
  refine zw_aload_n 1 f84_0 rfl rfl ?_
  refine zw_getfield 4 f84_1 rfl g84_10_11 (hb_0 _ _ _ _) rfl ?_
  refine zw_iload_n 5 f84_4 rfl rfl ?_
  refine zw_virtual_i 8 0 0 [.ref 1, .int a] [(0, .ref 1), (1, .int a)] f84_5 rfl n84_89 k84_89_4 rfl (hb_1 _ _ _ _) (by decide +kernel) (Nat.le_of_ble_eq_true rfl) rfl rfl (by decide +kernel) (by decide +kernel) rfl (Nat.le_of_ble_eq_true rfl) rfl ?_
  refine zw_iload_n 1 f13_0 rfl rfl ?_
  refine zw_if_lt 4 22 f13_1 (by decide +kernel) rfl (fun hc1 => ?_) (fun hc1 => ?_)
  · refine zw_iconst 0 23 f13_22 rfl (by decide +kernel) ?_
    refine zw_zreturn f13_23 r13 u13 (by decide +kernel) ⟨_, rfl, ?_⟩
    refine zw_if_eq_t 22 f84_8 (by decide +kernel) (by decide +kernel) ?_
    refine zw_aload_n 23 f84_22 rfl rfl ?_
    refine zw_iconst 1 24 f84_23 rfl (by decide +kernel) ?_
    refine zw_virtual_i 27 0 0 [.ref 0, .int 1] [(0, .ref 0), (1, .int 1)] f84_24 rfl n84_78 k84_78_11 rfl (hb_0 _ _ _ _) (by decide +kernel) (Nat.le_of_ble_eq_true rfl) rfl rfl (by decide +kernel) (by decide +kernel) rfl (Nat.le_of_ble_eq_true rfl) rfl ?_
    refine zw_aload_n 1 f105_0 rfl rfl ?_
    refine zw_iload_n 2 f105_1 rfl rfl ?_
    refine zw_put _ 5 f105_2 rfl g105_70_11 (hb_0 _ _ _ _) rfl (Nat.le_of_ble_eq_true rfl) (by decide +kernel) (hi_0_7 _ _ _ _ _) ?_
    refine zw_iconst (-1) 6 f105_5 rfl (by decide +kernel) ?_
    refine zw_ireturn f105_6 r105 u105 ⟨_, rfl, ?_⟩
    refine zw_ireturn f84_27 r84 u84 ?_
    exact ⟨_, _, _, _, rfl, (KP.i rfl KP.rf), Or.inl ⟨(fun q => (qV.n0 (by omega) hc1) q.1), ⟨hI.mono (by omega), PE.rf⟩, rfl⟩⟩
  · refine zw_iload_n 5 f13_4 rfl rfl ?_
    refine zw_aload_n 6 f13_5 rfl rfl ?_
    refine zw_getI (nI nv) 9 f13_6 rfl g13_39_4 (hb_1 _ _ _ _) rfl hI.1.1.1 ?_
    refine zw_ic_ge 12 22 f13_9 (by decide +kernel) rfl (fun hc2 => ?_) (fun hc2 => ?_)
    · refine zw_iconst 0 23 f13_22 rfl (by decide +kernel) ?_
      refine zw_zreturn f13_23 r13 u13 (by decide +kernel) ⟨_, rfl, ?_⟩
      refine zw_if_eq_t 22 f84_8 (by decide +kernel) (by decide +kernel) ?_
      refine zw_aload_n 23 f84_22 rfl rfl ?_
      refine zw_iconst 1 24 f84_23 rfl (by decide +kernel) ?_
      refine zw_virtual_i 27 0 0 [.ref 0, .int 1] [(0, .ref 0), (1, .int 1)] f84_24 rfl n84_78 k84_78_11 rfl (hb_0 _ _ _ _) (by decide +kernel) (Nat.le_of_ble_eq_true rfl) rfl rfl (by decide +kernel) (by decide +kernel) rfl (Nat.le_of_ble_eq_true rfl) rfl ?_
      refine zw_aload_n 1 f105_0 rfl rfl ?_
      refine zw_iload_n 2 f105_1 rfl rfl ?_
      refine zw_put _ 5 f105_2 rfl g105_70_11 (hb_0 _ _ _ _) rfl (Nat.le_of_ble_eq_true rfl) (by decide +kernel) (hi_0_7 _ _ _ _ _) ?_
      refine zw_iconst (-1) 6 f105_5 rfl (by decide +kernel) ?_
      refine zw_ireturn f105_6 r105 u105 ⟨_, rfl, ?_⟩
      refine zw_ireturn f84_27 r84 u84 ?_
      exact ⟨_, _, _, _, rfl, (KP.i rfl KP.rf), Or.inl ⟨(fun q => (qV.n2 (by omega) hc2) q.1), ⟨hI.mono (by omega), PE.rf⟩, rfl⟩⟩
    · refine zw_iload_n 13 f13_12 rfl rfl ?_
      refine zw_bipush 8 15 f13_13 rfl (by decide +kernel) ?_
      refine zw_ic_ge 18 22 f13_15 (by decide +kernel) rfl (fun hc3 => ?_) (fun hc3 => ?_)
      · refine zw_iconst 0 23 f13_22 rfl (by decide +kernel) ?_
        refine zw_zreturn f13_23 r13 u13 (by decide +kernel) ⟨_, rfl, ?_⟩
        refine zw_if_eq_t 22 f84_8 (by decide +kernel) (by decide +kernel) ?_
        refine zw_aload_n 23 f84_22 rfl rfl ?_
        refine zw_iconst 1 24 f84_23 rfl (by decide +kernel) ?_
        refine zw_virtual_i 27 0 0 [.ref 0, .int 1] [(0, .ref 0), (1, .int 1)] f84_24 rfl n84_78 k84_78_11 rfl (hb_0 _ _ _ _) (by decide +kernel) (Nat.le_of_ble_eq_true rfl) rfl rfl (by decide +kernel) (by decide +kernel) rfl (Nat.le_of_ble_eq_true rfl) rfl ?_
        refine zw_aload_n 1 f105_0 rfl rfl ?_
        refine zw_iload_n 2 f105_1 rfl rfl ?_
        refine zw_put _ 5 f105_2 rfl g105_70_11 (hb_0 _ _ _ _) rfl (Nat.le_of_ble_eq_true rfl) (by decide +kernel) (hi_0_7 _ _ _ _ _) ?_
        refine zw_iconst (-1) 6 f105_5 rfl (by decide +kernel) ?_
        refine zw_ireturn f105_6 r105 u105 ⟨_, rfl, ?_⟩
        refine zw_ireturn f84_27 r84 u84 ?_
        exact ⟨_, _, _, _, rfl, (KP.i rfl KP.rf), Or.inl ⟨(fun q => (qV.n3 (m := 8) (N := 8) (by omega) (by omega) (by decide) hc3) q.1), ⟨hI.mono (by omega), PE.rf⟩, rfl⟩⟩
      · refine zw_iconst 1 19 f13_18 rfl (by decide +kernel) ?_
        refine zw_goto 23 f13_19 (by decide +kernel) ?_
        refine zw_zreturn f13_23 r13 u13 (by decide +kernel) ⟨_, rfl, ?_⟩
        refine zw_if_eq_f 11 22 f84_8 (by decide +kernel) rfl (by decide +kernel) ?_
        refine zw_iload_n 12 f84_11 rfl rfl ?_
        refine zw_iconst 1 13 f84_12 rfl (by decide +kernel) ?_
        refine zw_sipush 1000 16 f84_13 rfl (by decide +kernel) ?_
        refine zw_static_i 19 0 0 [.int b, .int 1, .int 1000] [] [(0, .int b), (1, .int 1), (2, .int 1000)] f84_16 rfl k84_74_99 rfl (by decide +kernel) (Nat.le_of_ble_eq_true rfl) (Nat.le_of_ble_eq_true rfl) rfl rfl (by decide +kernel) (by decide +kernel) rfl (Nat.le_of_ble_eq_true rfl) rfl ?_
        refine zw_iload_n 1 f112_0 rfl rfl ?_
        refine zw_iload_n 2 f112_1 rfl rfl ?_
        refine zw_ic_lt 5 14 f112_2 (by decide +kernel) rfl (fun hc4 => ?_) (fun hc4 => ?_)
        · refine zw_iconst 0 15 f112_14 rfl (by decide +kernel) ?_
          refine zw_zreturn f112_15 r112 u112 (by decide +kernel) ⟨_, rfl, ?_⟩
          refine zw_if_ne_f 22 28 f84_19 (by decide +kernel) rfl (by decide +kernel) ?_
          refine zw_aload_n 23 f84_22 rfl rfl ?_
          refine zw_iconst 1 24 f84_23 rfl (by decide +kernel) ?_
          refine zw_virtual_i 27 0 0 [.ref 0, .int 1] [(0, .ref 0), (1, .int 1)] f84_24 rfl n84_78 k84_78_11 rfl (hb_0 _ _ _ _) (by decide +kernel) (Nat.le_of_ble_eq_true rfl) rfl rfl (by decide +kernel) (by decide +kernel) rfl (Nat.le_of_ble_eq_true rfl) rfl ?_
          refine zw_aload_n 1 f105_0 rfl rfl ?_
          refine zw_iload_n 2 f105_1 rfl rfl ?_
          refine zw_put _ 5 f105_2 rfl g105_70_11 (hb_0 _ _ _ _) rfl (Nat.le_of_ble_eq_true rfl) (by decide +kernel) (hi_0_7 _ _ _ _ _) ?_
          refine zw_iconst (-1) 6 f105_5 rfl (by decide +kernel) ?_
          refine zw_ireturn f105_6 r105 u105 ⟨_, rfl, ?_⟩
          refine zw_ireturn f84_27 r84 u84 ?_
          exact ⟨_, _, _, _, rfl, (KP.i rfl KP.rf), Or.inl ⟨(fun q => (fun q => q.1 hc4) q.2), ⟨hI.mono (by omega), PE.rf⟩, rfl⟩⟩
        · refine zw_iload_n 6 f112_5 rfl rfl ?_
          refine zw_iload_n 7 f112_6 rfl rfl ?_
          refine zw_ic_gt 10 14 f112_7 (by decide +kernel) rfl (fun hc5 => ?_) (fun hc5 => ?_)
          · refine zw_iconst 0 15 f112_14 rfl (by decide +kernel) ?_
            refine zw_zreturn f112_15 r112 u112 (by decide +kernel) ⟨_, rfl, ?_⟩
            refine zw_if_ne_f 22 28 f84_19 (by decide +kernel) rfl (by decide +kernel) ?_
            refine zw_aload_n 23 f84_22 rfl rfl ?_
            refine zw_iconst 1 24 f84_23 rfl (by decide +kernel) ?_
            refine zw_virtual_i 27 0 0 [.ref 0, .int 1] [(0, .ref 0), (1, .int 1)] f84_24 rfl n84_78 k84_78_11 rfl (hb_0 _ _ _ _) (by decide +kernel) (Nat.le_of_ble_eq_true rfl) rfl rfl (by decide +kernel) (by decide +kernel) rfl (Nat.le_of_ble_eq_true rfl) rfl ?_
            refine zw_aload_n 1 f105_0 rfl rfl ?_
            refine zw_iload_n 2 f105_1 rfl rfl ?_
            refine zw_put _ 5 f105_2 rfl g105_70_11 (hb_0 _ _ _ _) rfl (Nat.le_of_ble_eq_true rfl) (by decide +kernel) (hi_0_7 _ _ _ _ _) ?_
            refine zw_iconst (-1) 6 f105_5 rfl (by decide +kernel) ?_
            refine zw_ireturn f105_6 r105 u105 ⟨_, rfl, ?_⟩
            refine zw_ireturn f84_27 r84 u84 ?_
            exact ⟨_, _, _, _, rfl, (KP.i rfl KP.rf), Or.inl ⟨(fun q => (fun q => q.2 hc5) q.2), ⟨hI.mono (by omega), PE.rf⟩, rfl⟩⟩
          · refine zw_iconst 1 11 f112_10 rfl (by decide +kernel) ?_
            refine zw_goto 15 f112_11 (by decide +kernel) ?_
            refine zw_zreturn f112_15 r112 u112 (by decide +kernel) ⟨_, rfl, ?_⟩
            refine zw_if_ne_t 28 f84_19 (by decide +kernel) (by decide +kernel) ?_
            refine zw_aload_n 29 f84_28 rfl rfl ?_
            refine zw_getfield 32 f84_29 rfl g84_21_11 (hb_0 _ _ _ _) rfl ?_
            refine zw_getfield 35 f84_32 rfl g84_134_10 (hb_11 _ _ _ _) rfl ?_
            refine zw_dup 36 f84_35 rfl rfl ?_
            refine zw_getG (G 12 4) 39 f84_36 rfl g84_147_9 (hb_12 _ _ _ _) rfl rfl ?_
            refine zw_iload_n 40 f84_39 rfl rfl ?_
            refine zw_i2l (Int32.toInt64 b) 41 f84_40 rfl rfl ?_
            refine zw_ladd ((G 12 4) + (Int32.toInt64 b)) 42 f84_41 rfl rfl ?_
            refine zw_put _ 45 f84_42 rfl g84_147_9 (hb_12 _ _ _ _) rfl (Nat.le_of_ble_eq_true rfl) (by decide +kernel) (hg_12_4 _ _ _ _ _) ?_
            refine zw_aload_n 46 f84_45 rfl rfl ?_
            refine zw_getfield 49 f84_46 rfl g84_21_11 (hb_0 _ _ _ _) rfl ?_
            refine zw_iload_n 50 f84_49 rfl rfl ?_
            refine zw_iload_n 51 f84_50 rfl rfl ?_
            refine zw_i2l (Int32.toInt64 b) 52 f84_51 rfl rfl ?_
            refine zw_aload_n 53 f84_52 rfl rfl ?_
            refine zw_getfield 56 f84_53 rfl g84_21_11 (hb_0 _ _ _ _) rfl ?_
            refine zw_getfield 59 f84_56 rfl g84_134_10 (hb_11 _ _ _ _) rfl ?_
            refine zw_getG (G 12 0) 62 f84_59 rfl g84_151_9 (hb_12 _ _ _ _) rfl rfl ?_
            refine zw_lmul ((Int32.toInt64 b) * (G 12 0)) 63 f84_62 rfl rfl ?_
            refine zw_virtual_v 66 0 0 [.ref 11, .int a, .long ((Int32.toInt64 b) * (G 12 0))] [(0, .ref 11), (1, .int a), (2, .long ((Int32.toInt64 b) * (G 12 0)))] f84_63 rfl n84_154 k84_154_10 rfl (hb_11 _ _ _ _) (by decide +kernel) (Nat.le_of_ble_eq_true rfl) rfl rfl (by decide +kernel) (by decide +kernel) rfl (Nat.le_of_ble_eq_true rfl) rfl ?_
            refine zWp.mono (ck_X10_pourTo_11 ro nv np I _ _ _ hI.1 a ((Int32.toInt64 b) * (G 12 0))) ?_
            rintro r h1 ⟨I_6, G_6, A_6, B_6, rfl, K_6, C_6, rfl⟩
            refine ⟨rfl, ?_⟩
            have hV_6 : CV nv np cm I_6 := CV.of (I := I) hI K_6 C_6
            refine zw_aload_n 67 f84_66 rfl rfl ?_
            refine zw_iconst 1 68 f84_67 rfl (by decide +kernel) ?_
            refine zw_virtual_i 71 0 0 [.ref 0, .int 1] [(0, .ref 0), (1, .int 1)] f84_68 rfl n84_86 k84_86_11 rfl (hb_0 _ _ _ _) (by decide +kernel) (Nat.le_of_ble_eq_true rfl) rfl rfl (by decide +kernel) (by decide +kernel) rfl (Nat.le_of_ble_eq_true rfl) rfl ?_
            refine zw_aload_n 1 f107_0 rfl rfl ?_
            refine zw_getfield 4 f107_1 rfl g107_21_11 (hb_0 _ _ _ _) rfl ?_
            refine zw_virtual_v 7 0 0 [.ref 11] [(0, .ref 11)] f107_4 rfl n107_318 k107_318_10 rfl (hb_11 _ _ _ _) (by decide +kernel) (Nat.le_of_ble_eq_true rfl) rfl rfl (by decide +kernel) (by decide +kernel) rfl (Nat.le_of_ble_eq_true rfl) rfl ?_
            have hC_7 : CV nv np cm I_6 := hV_6
            refine zWp.mono (ck_X10_settle_11 ro nv np I_6 _ _ _ hC_7.1) ?_
            rintro r h1 ⟨I_7, G_7, A_7, B_7, rfl, K_7, C_7, rfl⟩
            refine ⟨rfl, ?_⟩
            have hV_7 : CV nv np cm I_7 := CV.of (I := I_6) hC_7 K_7 C_7
            refine zw_aload_n 8 f107_7 rfl rfl ?_
            refine zw_getfield 11 f107_8 rfl g107_31_11 (hb_0 _ _ _ _) rfl ?_
            refine zw_aload_n 12 f107_11 rfl rfl ?_
            refine zw_getfield 15 f107_12 rfl g107_21_11 (hb_0 _ _ _ _) rfl ?_
            refine zw_virtual_v 18 0 0 [.ref 33, .ref 11] [(0, .ref 33), (1, .ref 11)] f107_15 rfl n107_187 k107_187_3 rfl (hb_33 _ _ _ _) (by decide +kernel) (Nat.le_of_ble_eq_true rfl) rfl rfl (by decide +kernel) (by decide +kernel) rfl (Nat.le_of_ble_eq_true rfl) rfl ?_
            refine zWp.mono (cv_X3_take_33 ro nv np cm _ _ _ _ hV_7 (by omega)) ?_
            rintro r h1 ⟨I_8, G_8, A_8, B_8, rfl, K_8, C_8, rfl⟩
            refine ⟨rfl, ?_⟩
            refine zw_aload_n 19 f107_18 rfl rfl ?_
            refine zw_iload_n 20 f107_19 rfl rfl ?_
            refine zw_virtual_i 23 0 0 [.ref 0, .int 1] [(0, .ref 0), (1, .int 1)] f107_20 rfl n107_181 k107_181_11 rfl (hb_0 _ _ _ _) (by decide +kernel) (Nat.le_of_ble_eq_true rfl) rfl rfl (by decide +kernel) (by decide +kernel) rfl (Nat.le_of_ble_eq_true rfl) rfl ?_
            refine zw_aload_n 1 f106_0 rfl rfl ?_
            refine zw_iconst 0 2 f106_1 rfl (by decide +kernel) ?_
            refine zw_put _ 5 f106_2 rfl g106_70_11 (hb_0 _ _ _ _) rfl (Nat.le_of_ble_eq_true rfl) (by decide +kernel) (hi_0_7 _ _ _ _ _) ?_
            refine zw_iload_n 6 f106_5 rfl rfl ?_
            refine zw_ireturn f106_6 r106 u106 ⟨_, rfl, ?_⟩
            refine zw_ireturn f107_23 r107 u107 ⟨_, rfl, ?_⟩
            refine zw_ireturn f84_71 r84 u84 ?_
            exact ⟨_, _, _, _, rfl, (KP.i rfl (KP.tr (KP.tr (KP.tr (KP.g rfl KP.rf) (KP.wk K_6 (fun k h => pWN k (pNX k h)))) (KP.wk K_7 (fun k h => pWN k (pNX k h)))) (KP.wk K_8 pNX))), Or.inr ⟨⟨(qV.ofc (by omega) hc1 hc2), ⟨hc4, hc5⟩⟩, ⟨C_8, PE.of10 ((K_8.2.2.1 2 rfl).trans ((K_7.2.2.1 2 rfl).trans (K_6.2.2.1 2 rfl))) ((K_8.2.2.1 3 rfl).trans ((K_7.2.2.1 3 rfl).trans (K_6.2.2.1 3 rfl))) ((K_8.2.2.1 4 rfl).trans ((K_7.2.2.1 4 rfl).trans (K_6.2.2.1 4 rfl))) ((K_8.2.2.1 5 rfl).trans ((K_7.2.2.1 5 rfl).trans (K_6.2.2.1 5 rfl))) ((K_8.2.2.1 6 rfl).trans ((K_7.2.2.1 6 rfl).trans (K_6.2.2.1 6 rfl))) ((K_8.2.2.1 7 rfl).trans ((K_7.2.2.1 7 rfl).trans (K_6.2.2.1 7 rfl))) ((K_8.2.2.1 8 rfl).trans ((K_7.2.2.1 8 rfl).trans (K_6.2.2.1 8 rfl))) ((K_8.2.2.1 9 rfl).trans ((K_7.2.2.1 9 rfl).trans (K_6.2.2.1 9 rfl))) ((K_8.2.2.1 10 rfl).trans ((K_7.2.2.1 10 rfl).trans (K_6.2.2.1 10 rfl))) ((K_8.2.2.1 15 rfl).trans ((K_7.2.2.1 15 rfl).trans (K_6.2.2.1 15 rfl)))⟩, rfl⟩⟩
set_option maxHeartbeats 0 in
theorem pair_fillx (ro : UInt32 → Nat × (Nat → Int32)) (k : Nat) (I : Nat → Nat → Int32) (G : Nat → Nat → Int64) (A : Nat → Nat → Int32) (B : Nat → Nat → Int64) (h : zLI k I G A B) (hk : k < 512) (a : Int32) (b : Int32) : zWp ro 84 0 [(0, .ref 0), (1, .int a), (2, .int b)] [] (hS I G A B) 0 0 (zPI ro 148 [(0, .ref 52), (1, .int a), (2, .int b)] k (fun v w => v = w)) := by
  obtain ⟨nv, np, W, L, hC, hF, hE, hQ⟩ := h
  refine zWp.mono (cm_fill ro nv np (1216 * k) I G A B hC (by omega) hQ a b) ?_
  rintro r h1 ⟨I1, G1, A1, B1, rfl, K1, hc⟩
  have F1 := hF.kp K1 pX52
  have fn := F1.2.2.2.2.2
  have hE1 : PE (cP A) A1 := fun k k1 k2 => (hE k k1 k2).trans (K1.2.2.1 k (pX52 k (by omega))).symm
  have mm := mm_fill ro nv np W L I1 G1 A1 B1 (242600 * k) F1.1 F1.2.1 F1.2.2.1 (by omega) (by omega) (by omega) a b
  rcases hc with ⟨n1, c1, rfl⟩ | ⟨y1, c1, rfl⟩
  · refine ⟨I1, G1, A1, B1, _, rfl, rfl, ?_⟩
    refine zWp.mono mm ?_
    rintro r2 h2 ⟨I2, G2, A2, B2, rfl, K2, (⟨n2, R2, rfl⟩ | ⟨y2, -⟩)⟩
    · refine ⟨I2, G2, A2, B2, _, rfl, rfl, ?_, rfl⟩
      exact zLI.mk c1.1 (by omega) K2 fHn_c pHn_c (zRf.of R2 F1.2.1 F1.2.2.1 F1.2.2.2.1 (mId.k K2 rfl rfl rfl F1.2.2.2.2.1) fn) (by omega) (by omega) ((c1.2.tr hE1).tr R2.2.1.sy) (hQ.pe c1.2)
    · exact absurd y2 n1
  · refine ⟨I1, G1, A1, B1, _, rfl, rfl, ?_⟩
    refine zWp.mono mm ?_
    rintro r2 h2 ⟨I2, G2, A2, B2, rfl, K2, (⟨n2, -⟩ | ⟨y2, p2, w2, R2, rfl⟩)⟩
    · exact absurd y1 n2
    · refine ⟨I2, G2, A2, B2, _, rfl, rfl, ?_, rfl⟩
      exact zLI.mk c1.1 (by omega) K2 fHn_c pHn_c (zRf.hd p2 w2 (by omega) F1.2.2.2.1 F1.2.2.2.2.1.1 R2 (mId.k K2 rfl rfl rfl F1.2.2.2.2.1) fn) (by omega) (by omega) ((c1.2.tr hE1).tr R2.2.1.sy) (qKd.pe2 c1.2 hQ)
