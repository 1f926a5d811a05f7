set_option maxRecDepth 100000 in
set_option maxHeartbeats 0 in
theorem cm_brimOf (ro : UInt32 → Nat × (Nat → Int32)) (nv np cm : Nat) (I : Nat → Nat → Int32) (G : Nat → Nat → Int64) (A : Nat → Nat → Int32) (B : Nat → Nat → Int64) (hI : CV nv np cm I) (hcm : cm < 900000000) (hQ : qKd nv (cP A)) (a : Int32) : zWp ro 16 0 [(0, .ref 1), (1, .int a)] [] (hS I G A B) 0 0 (fun r h1 => h1 = hS I G A B ∧ ∃ v : Int32, r = some (.int v)) := by
  have h8 := hI.1.1.2
  have h14 := hI.1.2.1.2
  obtain ⟨t, ht, et⟩ := hI.2.2
  refine zw_aload_n 1 f16_0 rfl rfl ?_
  refine zw_iload_n 2 f16_1 rfl rfl ?_
  refine zw_virtual_i 5 0 0 [.ref 1, .int a] [(0, .ref 1), (1, .int a)] f16_2 rfl n16_46 k16_46_4 rfl (hb_1 _ _ _ _) (by decide +kernel) (Nat.le_of_ble_eq_true rfl) rfl rfl (by decide +kernel) (by decide +kernel) rfl (Nat.le_of_ble_eq_true rfl) rfl ?_
  refine zw_iload_n 1 f13_0 rfl rfl ?_
  refine zw_if_lt 4 22 f13_1 (by decide +kernel) rfl (fun hc1 => ?_) (fun hc1 => ?_)
  · refine zw_iconst 0 23 f13_22 rfl (by decide +kernel) ?_
    refine zw_zreturn f13_23 r13 u13 (by decide +kernel) ⟨_, rfl, ?_⟩
    refine zw_if_eq_t 17 f16_5 (by decide +kernel) (by decide +kernel) ?_
    refine zw_iconst 0 18 f16_17 rfl (by decide +kernel) ?_
    refine zw_ireturn f16_18 r16 u16 ?_
    exact ⟨rfl, _, rfl⟩
  · refine zw_iload_n 5 f13_4 rfl rfl ?_
    refine zw_aload_n 6 f13_5 rfl rfl ?_
    refine zw_getI (nI nv) 9 f13_6 rfl g13_39_4 (hb_1 _ _ _ _) rfl hI.1.1.1 ?_
    refine zw_ic_ge 12 22 f13_9 (by decide +kernel) rfl (fun hc2 => ?_) (fun hc2 => ?_)
    · refine zw_iconst 0 23 f13_22 rfl (by decide +kernel) ?_
      refine zw_zreturn f13_23 r13 u13 (by decide +kernel) ⟨_, rfl, ?_⟩
      refine zw_if_eq_t 17 f16_5 (by decide +kernel) (by decide +kernel) ?_
      refine zw_iconst 0 18 f16_17 rfl (by decide +kernel) ?_
      refine zw_ireturn f16_18 r16 u16 ?_
      exact ⟨rfl, _, rfl⟩
    · refine zw_iload_n 13 f13_12 rfl rfl ?_
      refine zw_bipush 8 15 f13_13 rfl (by decide +kernel) ?_
      refine zw_ic_ge 18 22 f13_15 (by decide +kernel) rfl (fun hc3 => ?_) (fun hc3 => ?_)
      · refine zw_iconst 0 23 f13_22 rfl (by decide +kernel) ?_
        refine zw_zreturn f13_23 r13 u13 (by decide +kernel) ⟨_, rfl, ?_⟩
        refine zw_if_eq_t 17 f16_5 (by decide +kernel) (by decide +kernel) ?_
        refine zw_iconst 0 18 f16_17 rfl (by decide +kernel) ?_
        refine zw_ireturn f16_18 r16 u16 ?_
        exact ⟨rfl, _, rfl⟩
      · refine zw_iconst 1 19 f13_18 rfl (by decide +kernel) ?_
        refine zw_goto 23 f13_19 (by decide +kernel) ?_
        refine zw_zreturn f13_23 r13 u13 (by decide +kernel) ⟨_, rfl, ?_⟩
        refine zw_if_eq_f 8 17 f16_5 (by decide +kernel) rfl (by decide +kernel) ?_
        refine zw_aload_n 9 f16_8 rfl rfl ?_
        refine zw_getfield 12 f16_9 rfl g16_15_4 (hb_1 _ _ _ _) rfl ?_
        refine zw_iload_n 13 f16_12 rfl rfl ?_
        refine zw_iaload a.toNatClampNeg (A 3 a.toNatClampNeg) 14 f16_13 rfl (hb_3 _ _ _ _) rfl hc1 (zix (by decide) hc1 hc3) rfl ?_
        refine zw_goto 18 f16_14 (by decide +kernel) ?_
        refine zw_ireturn f16_18 r16 u16 ?_
        exact ⟨rfl, _, rfl⟩
set_option maxRecDepth 100000 in
set_option maxHeartbeats 0 in
theorem cm_act (ro : UInt32 → Nat × (Nat → Int32)) (nv np cm : Nat) (I : Nat → Nat → Int32) (G : Nat → Nat → Int64) (A : Nat → Nat → Int32) (B : Nat → Nat → Int64) (hI : CV nv np cm I) (hcm : cm < 900000000) (hQ : qKd nv (cP A)) (hro : (ro 1).1 = 5 ∧ (ro 1).2 = zka) (a : Int32) (b : Int32) (c : Int32) : zWp ro 101 0 [(0, .ref 0), (1, .int a), (2, .int b), (3, .int c)] [] (hS I G A B) 0 0 (fun r h1 => ∃ I2 G2 A2 B2, h1 = hS I2 G2 A2 B2 ∧ KP pX I G A B I2 G2 A2 B2 ∧ cSt nv np cm (cP A) I2 A2 ∧ ∃ v : Int32, r = some (.int v)) := by
  have h8 := hI.1.1.2
  have h14 := hI.1.2.1.2
  obtain ⟨t, ht, et⟩ := hI.2.2
  refine zw_aload_n 1 f101_0 rfl rfl ?_
  refine zw_getfield 4 f101_1 rfl g101_10_11 (hb_0 _ _ _ _) rfl ?_
  refine zw_iload_n 5 f101_4 rfl rfl ?_
  refine zw_virtual_i 8 0 0 [.ref 1, .int a] [(0, .ref 1), (1, .int a)] f101_5 rfl n101_112 k101_112_4 rfl (hb_1 _ _ _ _) (by decide +kernel) (Nat.le_of_ble_eq_true rfl) rfl rfl (by decide +kernel) (by decide +kernel) rfl (Nat.le_of_ble_eq_true rfl) rfl ?_
  refine zw_iload_n 1 f15_0 rfl rfl ?_
  refine zw_if_lt 4 27 f15_1 (by decide +kernel) rfl (fun hc1 => ?_) (fun hc1 => ?_)
  · refine zw_iconst (-1) 28 f15_27 rfl (by decide +kernel) ?_
    refine zw_ireturn f15_28 r15 u15 ⟨_, rfl, ?_⟩
    refine zw_istore _ 10 f101_8 rfl (by decide +kernel) rfl ?_
    refine zw_iload 12 f101_10 rfl zl1_eq ?_
    refine zw_iconst 0 13 f101_12 rfl (by decide +kernel) ?_
    refine zw_iconst 4 14 f101_13 rfl (by decide +kernel) ?_
    refine zw_static_i 17 0 0 [.int (-1), .int 0, .int 4] [] [(0, .int (-1)), (1, .int 0), (2, .int 4)] f101_14 rfl k101_74_99 rfl (by decide +kernel) (Nat.le_of_ble_eq_true rfl) (Nat.le_of_ble_eq_true rfl) rfl rfl (by decide +kernel) (by decide +kernel) rfl (Nat.le_of_ble_eq_true rfl) rfl ?_
    refine zw_iload_n 1 f112_0 rfl rfl ?_
    refine zw_iload_n 2 f112_1 rfl rfl ?_
    refine zw_ic_lt_t 14 f112_2 (by decide +kernel) (by decide +kernel) ?_
    refine zw_iconst 0 15 f112_14 rfl (by decide +kernel) ?_
    refine zw_zreturn f112_15 r112 u112 (by decide +kernel) ⟨_, rfl, ?_⟩
    refine zw_if_eq_t 29 f101_17 (by decide +kernel) (by decide +kernel) ?_
    refine zw_aload_n 30 f101_29 rfl (zl1_ne rfl rfl rfl) ?_
    refine zw_iconst 1 31 f101_30 rfl (by decide +kernel) ?_
    refine zw_virtual_i 34 0 0 [.ref 0, .int 1] [(0, .ref 0), (1, .int 1)] f101_31 rfl n101_78 k101_78_11 rfl (hb_0 _ _ _ _) (by decide +kernel) (Nat.le_of_ble_eq_true rfl) rfl rfl (by decide +kernel) (by decide +kernel) rfl (Nat.le_of_ble_eq_true rfl) rfl ?_
    refine zw_aload_n 1 f105_0 rfl rfl ?_
    refine zw_iload_n 2 f105_1 rfl rfl ?_
    refine zw_put _ 5 f105_2 rfl g105_70_11 (hb_0 _ _ _ _) rfl (Nat.le_of_ble_eq_true rfl) (by decide +kernel) (hi_0_7 _ _ _ _ _) ?_
    refine zw_iconst (-1) 6 f105_5 rfl (by decide +kernel) ?_
    refine zw_ireturn f105_6 r105 u105 ⟨_, rfl, ?_⟩
    refine zw_ireturn f101_34 r101 u101 ?_
    exact ⟨_, _, _, _, rfl, (KP.i rfl KP.rf), ⟨⟨hI.1, hI.2.1, t, by omega, et⟩, PE.of10 rfl rfl rfl rfl rfl rfl rfl rfl rfl rfl⟩, _, rfl⟩
  · refine zw_iload_n 5 f15_4 rfl rfl ?_
    refine zw_aload_n 6 f15_5 rfl rfl ?_
    refine zw_getI (nI nv) 9 f15_6 rfl g15_39_4 (hb_1 _ _ _ _) rfl hI.1.1.1 ?_
    refine zw_ic_ge 12 27 f15_9 (by decide +kernel) rfl (fun hc2 => ?_) (fun hc2 => ?_)
    · refine zw_iconst (-1) 28 f15_27 rfl (by decide +kernel) ?_
      refine zw_ireturn f15_28 r15 u15 ⟨_, rfl, ?_⟩
      refine zw_istore _ 10 f101_8 rfl (by decide +kernel) rfl ?_
      refine zw_iload 12 f101_10 rfl zl1_eq ?_
      refine zw_iconst 0 13 f101_12 rfl (by decide +kernel) ?_
      refine zw_iconst 4 14 f101_13 rfl (by decide +kernel) ?_
      refine zw_static_i 17 0 0 [.int (-1), .int 0, .int 4] [] [(0, .int (-1)), (1, .int 0), (2, .int 4)] f101_14 rfl k101_74_99 rfl (by decide +kernel) (Nat.le_of_ble_eq_true rfl) (Nat.le_of_ble_eq_true rfl) rfl rfl (by decide +kernel) (by decide +kernel) rfl (Nat.le_of_ble_eq_true rfl) rfl ?_
      refine zw_iload_n 1 f112_0 rfl rfl ?_
      refine zw_iload_n 2 f112_1 rfl rfl ?_
      refine zw_ic_lt_t 14 f112_2 (by decide +kernel) (by decide +kernel) ?_
      refine zw_iconst 0 15 f112_14 rfl (by decide +kernel) ?_
      refine zw_zreturn f112_15 r112 u112 (by decide +kernel) ⟨_, rfl, ?_⟩
      refine zw_if_eq_t 29 f101_17 (by decide +kernel) (by decide +kernel) ?_
      refine zw_aload_n 30 f101_29 rfl (zl1_ne rfl rfl rfl) ?_
      refine zw_iconst 1 31 f101_30 rfl (by decide +kernel) ?_
      refine zw_virtual_i 34 0 0 [.ref 0, .int 1] [(0, .ref 0), (1, .int 1)] f101_31 rfl n101_78 k101_78_11 rfl (hb_0 _ _ _ _) (by decide +kernel) (Nat.le_of_ble_eq_true rfl) rfl rfl (by decide +kernel) (by decide +kernel) rfl (Nat.le_of_ble_eq_true rfl) rfl ?_
      refine zw_aload_n 1 f105_0 rfl rfl ?_
      refine zw_iload_n 2 f105_1 rfl rfl ?_
      refine zw_put _ 5 f105_2 rfl g105_70_11 (hb_0 _ _ _ _) rfl (Nat.le_of_ble_eq_true rfl) (by decide +kernel) (hi_0_7 _ _ _ _ _) ?_
      refine zw_iconst (-1) 6 f105_5 rfl (by decide +kernel) ?_
      refine zw_ireturn f105_6 r105 u105 ⟨_, rfl, ?_⟩
      refine zw_ireturn f101_34 r101 u101 ?_
      exact ⟨_, _, _, _, rfl, (KP.i rfl KP.rf), ⟨⟨hI.1, hI.2.1, t, by omega, et⟩, PE.of10 rfl rfl rfl rfl rfl rfl rfl rfl rfl rfl⟩, _, rfl⟩
    · refine zw_iload_n 13 f15_12 rfl rfl ?_
      refine zw_bipush 8 15 f15_13 rfl (by decide +kernel) ?_
      refine zw_ic_ge 18 27 f15_15 (by decide +kernel) rfl (fun hc3 => ?_) (fun hc3 => ?_)
      · refine zw_iconst (-1) 28 f15_27 rfl (by decide +kernel) ?_
        refine zw_ireturn f15_28 r15 u15 ⟨_, rfl, ?_⟩
        refine zw_istore _ 10 f101_8 rfl (by decide +kernel) rfl ?_
        refine zw_iload 12 f101_10 rfl zl1_eq ?_
        refine zw_iconst 0 13 f101_12 rfl (by decide +kernel) ?_
        refine zw_iconst 4 14 f101_13 rfl (by decide +kernel) ?_
        refine zw_static_i 17 0 0 [.int (-1), .int 0, .int 4] [] [(0, .int (-1)), (1, .int 0), (2, .int 4)] f101_14 rfl k101_74_99 rfl (by decide +kernel) (Nat.le_of_ble_eq_true rfl) (Nat.le_of_ble_eq_true rfl) rfl rfl (by decide +kernel) (by decide +kernel) rfl (Nat.le_of_ble_eq_true rfl) rfl ?_
        refine zw_iload_n 1 f112_0 rfl rfl ?_
        refine zw_iload_n 2 f112_1 rfl rfl ?_
        refine zw_ic_lt_t 14 f112_2 (by decide +kernel) (by decide +kernel) ?_
        refine zw_iconst 0 15 f112_14 rfl (by decide +kernel) ?_
        refine zw_zreturn f112_15 r112 u112 (by decide +kernel) ⟨_, rfl, ?_⟩
        refine zw_if_eq_t 29 f101_17 (by decide +kernel) (by decide +kernel) ?_
        refine zw_aload_n 30 f101_29 rfl (zl1_ne rfl rfl rfl) ?_
        refine zw_iconst 1 31 f101_30 rfl (by decide +kernel) ?_
        refine zw_virtual_i 34 0 0 [.ref 0, .int 1] [(0, .ref 0), (1, .int 1)] f101_31 rfl n101_78 k101_78_11 rfl (hb_0 _ _ _ _) (by decide +kernel) (Nat.le_of_ble_eq_true rfl) rfl rfl (by decide +kernel) (by decide +kernel) rfl (Nat.le_of_ble_eq_true rfl) rfl ?_
        refine zw_aload_n 1 f105_0 rfl rfl ?_
        refine zw_iload_n 2 f105_1 rfl rfl ?_
        refine zw_put _ 5 f105_2 rfl g105_70_11 (hb_0 _ _ _ _) rfl (Nat.le_of_ble_eq_true rfl) (by decide +kernel) (hi_0_7 _ _ _ _ _) ?_
        refine zw_iconst (-1) 6 f105_5 rfl (by decide +kernel) ?_
        refine zw_ireturn f105_6 r105 u105 ⟨_, rfl, ?_⟩
        refine zw_ireturn f101_34 r101 u101 ?_
        exact ⟨_, _, _, _, rfl, (KP.i rfl KP.rf), ⟨⟨hI.1, hI.2.1, t, by omega, et⟩, PE.of10 rfl rfl rfl rfl rfl rfl rfl rfl rfl rfl⟩, _, rfl⟩
      · refine zw_aload_n 19 f15_18 rfl rfl ?_
        refine zw_getfield 22 f15_19 rfl g15_9_4 (hb_1 _ _ _ _) rfl ?_
        refine zw_iload_n 23 f15_22 rfl rfl ?_
        refine zw_iaload a.toNatClampNeg (A 2 a.toNatClampNeg) 24 f15_23 rfl (hb_2 _ _ _ _) rfl hc1 (zix (by decide) hc1 hc3) rfl ?_
        refine zw_goto 28 f15_24 (by decide +kernel) ?_
        refine zw_ireturn f15_28 r15 u15 ⟨_, rfl, ?_⟩
        refine zw_istore _ 10 f101_8 rfl (by decide +kernel) rfl ?_
        refine zw_iload 12 f101_10 rfl zl1_eq ?_
        refine zw_iconst 0 13 f101_12 rfl (by decide +kernel) ?_
        refine zw_iconst 4 14 f101_13 rfl (by decide +kernel) ?_
        refine zw_static_i 17 0 0 [.int (A 2 a.toNatClampNeg), .int 0, .int 4] [] [(0, .int (A 2 a.toNatClampNeg)), (1, .int 0), (2, .int 4)] f101_14 rfl k101_74_99 rfl (by decide +kernel) (Nat.le_of_ble_eq_true rfl) (Nat.le_of_ble_eq_true rfl) rfl rfl (by decide +kernel) (by decide +kernel) rfl (Nat.le_of_ble_eq_true rfl) rfl ?_
        refine zw_iload_n 1 f112_0 rfl rfl ?_
        refine zw_iload_n 2 f112_1 rfl rfl ?_
        refine zw_ic_lt 5 14 f112_2 (by decide +kernel) rfl (fun hc4 => ?_) (fun hc4 => ?_)
        · refine zw_iconst 0 15 f112_14 rfl (by decide +kernel) ?_
          refine zw_zreturn f112_15 r112 u112 (by decide +kernel) ⟨_, rfl, ?_⟩
          refine zw_if_eq_t 29 f101_17 (by decide +kernel) (by decide +kernel) ?_
          refine zw_aload_n 30 f101_29 rfl (zl1_ne rfl rfl rfl) ?_
          refine zw_iconst 1 31 f101_30 rfl (by decide +kernel) ?_
          refine zw_virtual_i 34 0 0 [.ref 0, .int 1] [(0, .ref 0), (1, .int 1)] f101_31 rfl n101_78 k101_78_11 rfl (hb_0 _ _ _ _) (by decide +kernel) (Nat.le_of_ble_eq_true rfl) rfl rfl (by decide +kernel) (by decide +kernel) rfl (Nat.le_of_ble_eq_true rfl) rfl ?_
          refine zw_aload_n 1 f105_0 rfl rfl ?_
          refine zw_iload_n 2 f105_1 rfl rfl ?_
          refine zw_put _ 5 f105_2 rfl g105_70_11 (hb_0 _ _ _ _) rfl (Nat.le_of_ble_eq_true rfl) (by decide +kernel) (hi_0_7 _ _ _ _ _) ?_
          refine zw_iconst (-1) 6 f105_5 rfl (by decide +kernel) ?_
          refine zw_ireturn f105_6 r105 u105 ⟨_, rfl, ?_⟩
          refine zw_ireturn f101_34 r101 u101 ?_
          exact ⟨_, _, _, _, rfl, (KP.i rfl KP.rf), ⟨⟨hI.1, hI.2.1, t, by omega, et⟩, PE.of10 rfl rfl rfl rfl rfl rfl rfl rfl rfl rfl⟩, _, rfl⟩
        · refine zw_iload_n 6 f112_5 rfl rfl ?_
          refine zw_iload_n 7 f112_6 rfl rfl ?_
          refine zw_ic_gt 10 14 f112_7 (by decide +kernel) rfl (fun hc5 => ?_) (fun hc5 => ?_)
          · refine zw_iconst 0 15 f112_14 rfl (by decide +kernel) ?_
            refine zw_zreturn f112_15 r112 u112 (by decide +kernel) ⟨_, rfl, ?_⟩
            refine zw_if_eq_t 29 f101_17 (by decide +kernel) (by decide +kernel) ?_
            refine zw_aload_n 30 f101_29 rfl (zl1_ne rfl rfl rfl) ?_
            refine zw_iconst 1 31 f101_30 rfl (by decide +kernel) ?_
            refine zw_virtual_i 34 0 0 [.ref 0, .int 1] [(0, .ref 0), (1, .int 1)] f101_31 rfl n101_78 k101_78_11 rfl (hb_0 _ _ _ _) (by decide +kernel) (Nat.le_of_ble_eq_true rfl) rfl rfl (by decide +kernel) (by decide +kernel) rfl (Nat.le_of_ble_eq_true rfl) rfl ?_
            refine zw_aload_n 1 f105_0 rfl rfl ?_
            refine zw_iload_n 2 f105_1 rfl rfl ?_
            refine zw_put _ 5 f105_2 rfl g105_70_11 (hb_0 _ _ _ _) rfl (Nat.le_of_ble_eq_true rfl) (by decide +kernel) (hi_0_7 _ _ _ _ _) ?_
            refine zw_iconst (-1) 6 f105_5 rfl (by decide +kernel) ?_
            refine zw_ireturn f105_6 r105 u105 ⟨_, rfl, ?_⟩
            refine zw_ireturn f101_34 r101 u101 ?_
            exact ⟨_, _, _, _, rfl, (KP.i rfl KP.rf), ⟨⟨hI.1, hI.2.1, t, by omega, et⟩, PE.of10 rfl rfl rfl rfl rfl rfl rfl rfl rfl rfl⟩, _, rfl⟩
          · refine zw_iconst 1 11 f112_10 rfl (by decide +kernel) ?_
            refine zw_goto 15 f112_11 (by decide +kernel) ?_
            refine zw_zreturn f112_15 r112 u112 (by decide +kernel) ⟨_, rfl, ?_⟩
            refine zw_if_eq_f 20 29 f101_17 (by decide +kernel) rfl (by decide +kernel) ?_
            refine zw_iload_n 21 f101_20 rfl (zl1_ne rfl rfl rfl) ?_
            refine zw_iconst 0 22 f101_21 rfl (by decide +kernel) ?_
            refine zw_iconst 3 23 f101_22 rfl (by decide +kernel) ?_
            refine zw_static_i 26 0 0 [.int b, .int 0, .int 3] [] [(0, .int b), (1, .int 0), (2, .int 3)] f101_23 rfl k101_74_99 rfl (by decide +kernel) (Nat.le_of_ble_eq_true rfl) (Nat.le_of_ble_eq_true rfl) rfl rfl (by decide +kernel) (by decide +kernel) rfl (Nat.le_of_ble_eq_true rfl) rfl ?_
            refine zw_iload_n 1 f112_0 rfl rfl ?_
            refine zw_iload_n 2 f112_1 rfl rfl ?_
            refine zw_ic_lt 5 14 f112_2 (by decide +kernel) rfl (fun hc6 => ?_) (fun hc6 => ?_)
            · refine zw_iconst 0 15 f112_14 rfl (by decide +kernel) ?_
              refine zw_zreturn f112_15 r112 u112 (by decide +kernel) ⟨_, rfl, ?_⟩
              refine zw_if_ne_f 29 35 f101_26 (by decide +kernel) rfl (by decide +kernel) ?_
              refine zw_aload_n 30 f101_29 rfl (zl1_ne rfl rfl rfl) ?_
              refine zw_iconst 1 31 f101_30 rfl (by decide +kernel) ?_
              refine zw_virtual_i 34 0 0 [.ref 0, .int 1] [(0, .ref 0), (1, .int 1)] f101_31 rfl n101_78 k101_78_11 rfl (hb_0 _ _ _ _) (by decide +kernel) (Nat.le_of_ble_eq_true rfl) rfl rfl (by decide +kernel) (by decide +kernel) rfl (Nat.le_of_ble_eq_true rfl) rfl ?_
              refine zw_aload_n 1 f105_0 rfl rfl ?_
              refine zw_iload_n 2 f105_1 rfl rfl ?_
              refine zw_put _ 5 f105_2 rfl g105_70_11 (hb_0 _ _ _ _) rfl (Nat.le_of_ble_eq_true rfl) (by decide +kernel) (hi_0_7 _ _ _ _ _) ?_
              refine zw_iconst (-1) 6 f105_5 rfl (by decide +kernel) ?_
              refine zw_ireturn f105_6 r105 u105 ⟨_, rfl, ?_⟩
              refine zw_ireturn f101_34 r101 u101 ?_
              exact ⟨_, _, _, _, rfl, (KP.i rfl KP.rf), ⟨⟨hI.1, hI.2.1, t, by omega, et⟩, PE.of10 rfl rfl rfl rfl rfl rfl rfl rfl rfl rfl⟩, _, rfl⟩
            · refine zw_iload_n 6 f112_5 rfl rfl ?_
              refine zw_iload_n 7 f112_6 rfl rfl ?_
              refine zw_ic_gt 10 14 f112_7 (by decide +kernel) rfl (fun hc7 => ?_) (fun hc7 => ?_)
              · refine zw_iconst 0 15 f112_14 rfl (by decide +kernel) ?_
                refine zw_zreturn f112_15 r112 u112 (by decide +kernel) ⟨_, rfl, ?_⟩
                refine zw_if_ne_f 29 35 f101_26 (by decide +kernel) rfl (by decide +kernel) ?_
                refine zw_aload_n 30 f101_29 rfl (zl1_ne rfl rfl rfl) ?_
                refine zw_iconst 1 31 f101_30 rfl (by decide +kernel) ?_
                refine zw_virtual_i 34 0 0 [.ref 0, .int 1] [(0, .ref 0), (1, .int 1)] f101_31 rfl n101_78 k101_78_11 rfl (hb_0 _ _ _ _) (by decide +kernel) (Nat.le_of_ble_eq_true rfl) rfl rfl (by decide +kernel) (by decide +kernel) rfl (Nat.le_of_ble_eq_true rfl) rfl ?_
                refine zw_aload_n 1 f105_0 rfl rfl ?_
                refine zw_iload_n 2 f105_1 rfl rfl ?_
                refine zw_put _ 5 f105_2 rfl g105_70_11 (hb_0 _ _ _ _) rfl (Nat.le_of_ble_eq_true rfl) (by decide +kernel) (hi_0_7 _ _ _ _ _) ?_
                refine zw_iconst (-1) 6 f105_5 rfl (by decide +kernel) ?_
                refine zw_ireturn f105_6 r105 u105 ⟨_, rfl, ?_⟩
                refine zw_ireturn f101_34 r101 u101 ?_
                exact ⟨_, _, _, _, rfl, (KP.i rfl KP.rf), ⟨⟨hI.1, hI.2.1, t, by omega, et⟩, PE.of10 rfl rfl rfl rfl rfl rfl rfl rfl rfl rfl⟩, _, rfl⟩
              · refine zw_iconst 1 11 f112_10 rfl (by decide +kernel) ?_
                refine zw_goto 15 f112_11 (by decide +kernel) ?_
                refine zw_zreturn f112_15 r112 u112 (by decide +kernel) ⟨_, rfl, ?_⟩
                refine zw_if_ne_t 35 f101_26 (by decide +kernel) (by decide +kernel) ?_
                refine zw_aload_n 36 f101_35 rfl (zl1_ne rfl rfl rfl) ?_
                refine zw_getfield 39 f101_36 rfl g101_51_11 (hb_0 _ _ _ _) rfl ?_
                refine zw_iload 41 f101_39 rfl zl1_eq ?_
                rcases (k5 (x := (A 2 a.toNatClampNeg)) ⟨hc4, hc5⟩) with hk | hk | hk | hk | hk
                · refine zw_aaload 0 42 f101_41 rfl (hb_46 _ _ _ _) (by rw [hk]; decide) (by rw [hk]; decide) (by decide) rfl ?_
                  refine zw_astore _ 44 f101_42 rfl (by decide +kernel) rfl ?_
                  refine zw_aload 46 f101_44 rfl zl1_eq ?_
                  refine zw_ifnonnull 55 f101_46 (by decide +kernel) ?_
                  refine zw_aload_n 56 f101_55 rfl (zl1_ne rfl rfl (zl1_ne rfl rfl rfl)) ?_
                  refine zw_getfield 59 f101_56 rfl g101_45_11 (hb_0 _ _ _ _) rfl ?_
                  refine zw_aload_n 60 f101_59 rfl (zl1_ne rfl rfl (zl1_ne rfl rfl rfl)) ?_
                  refine zw_getfield 63 f101_60 rfl g101_10_11 (hb_0 _ _ _ _) rfl ?_
                  refine zw_aload_n 64 f101_63 rfl (zl1_ne rfl rfl (zl1_ne rfl rfl rfl)) ?_
                  refine zw_getfield 67 f101_64 rfl g101_21_11 (hb_0 _ _ _ _) rfl ?_
                  refine zw_getfield 70 f101_67 rfl g101_134_10 (hb_11 _ _ _ _) rfl ?_
                  refine zw_iload_n 71 f101_70 rfl (zl1_ne rfl rfl (zl1_ne rfl rfl rfl)) ?_
                  refine zw_virtual_v 74 0 0 [.ref 44, .ref 1, .ref 12, .int a] [(0, .ref 44), (1, .ref 1), (2, .ref 12), (3, .int a)] f101_71 rfl n101_285 k101_285_0 rfl (hb_44 _ _ _ _) (by decide +kernel) (Nat.le_of_ble_eq_true rfl) rfl rfl (by decide +kernel) (by decide +kernel) rfl (Nat.le_of_ble_eq_true rfl) rfl ?_
                  refine zw_aload_n 1 f1_0 rfl rfl ?_
                  refine zw_iconst 0 2 f1_1 rfl (by decide +kernel) ?_
                  refine zw_put _ 5 f1_2 rfl g1_15_0 (hb_44 _ _ _ _) rfl (Nat.le_of_ble_eq_true rfl) (by decide +kernel) (hi_44_4 _ _ _ _ _) ?_
                  refine zw_aload_n 6 f1_5 rfl rfl ?_
                  refine zw_iload_n 7 f1_6 rfl rfl ?_
                  refine zw_virtual_i 10 0 0 [.ref 1, .int a] [(0, .ref 1), (1, .int a)] f1_7 rfl n1_19 k1_19_4 rfl (hb_1 _ _ _ _) (by decide +kernel) (Nat.le_of_ble_eq_true rfl) rfl rfl (by decide +kernel) (by decide +kernel) rfl (Nat.le_of_ble_eq_true rfl) rfl ?_
                  refine zw_iload_n 1 f13_0 rfl rfl ?_
                  refine zw_if_lt_f 4 22 f13_1 (by decide +kernel) rfl hc1 ?_
                  refine zw_iload_n 5 f13_4 rfl rfl ?_
                  refine zw_aload_n 6 f13_5 rfl rfl ?_
                  refine zw_getI (nI nv) 9 f13_6 rfl g13_39_4 (hb_1 _ _ _ _) rfl hI.1.1.1 ?_
                  refine zw_ic_ge_f 12 22 f13_9 (by decide +kernel) rfl hc2 ?_
                  refine zw_iload_n 13 f13_12 rfl rfl ?_
                  refine zw_bipush 8 15 f13_13 rfl (by decide +kernel) ?_
                  refine zw_ic_ge_f 18 22 f13_15 (by decide +kernel) rfl hc3 ?_
                  refine zw_iconst 1 19 f13_18 rfl (by decide +kernel) ?_
                  refine zw_goto 23 f13_19 (by decide +kernel) ?_
                  refine zw_zreturn f13_23 r13 u13 (by decide +kernel) ⟨_, rfl, ?_⟩
                  refine zw_if_eq_f 13 53 f1_10 (by decide +kernel) rfl (by decide +kernel) ?_
                  refine zw_aload_n 14 f1_13 rfl rfl ?_
                  refine zw_aload_n 15 f1_14 rfl rfl ?_
                  refine zw_getfield 18 f1_15 rfl g1_25_4 (hb_1 _ _ _ _) rfl ?_
                  refine zw_iload_n 19 f1_18 rfl rfl ?_
                  refine zw_iaload a.toNatClampNeg (A 3 a.toNatClampNeg) 20 f1_19 rfl (hb_3 _ _ _ _) rfl hc1 (zix (by decide) hc1 hc3) rfl ?_
                  refine zw_put _ 23 f1_20 rfl g1_28_0 (hb_44 _ _ _ _) rfl (Nat.le_of_ble_eq_true rfl) (by decide +kernel) (hi_44_0 _ _ _ _ _) ?_
                  refine zw_aload_n 24 f1_23 rfl rfl ?_
                  refine zw_aload_n 25 f1_24 rfl rfl ?_
                  refine zw_getfield 28 f1_25 rfl g1_31_4 (hb_1 _ _ _ _) rfl ?_
                  refine zw_iload_n 29 f1_28 rfl rfl ?_
                  refine zw_iaload a.toNatClampNeg (A 4 a.toNatClampNeg) 30 f1_29 rfl (hb_4 _ _ _ _) rfl hc1 (zix (by decide) hc1 hc3) rfl ?_
                  refine zw_put _ 33 f1_30 rfl g1_34_0 (hb_44 _ _ _ _) rfl (Nat.le_of_ble_eq_true rfl) (by decide +kernel) (hi_44_1 _ _ _ _ _) ?_
                  refine zw_aload_n 34 f1_33 rfl rfl ?_
                  refine zw_aload_n 35 f1_34 rfl rfl ?_
                  refine zw_getfield 38 f1_35 rfl g1_37_4 (hb_1 _ _ _ _) rfl ?_
                  refine zw_iload_n 39 f1_38 rfl rfl ?_
                  refine zw_iaload a.toNatClampNeg (A 5 a.toNatClampNeg) 40 f1_39 rfl (hb_5 _ _ _ _) rfl hc1 (zix (by decide) hc1 hc3) rfl ?_
                  refine zw_put _ 43 f1_40 rfl g1_40_0 (hb_44 _ _ _ _) rfl (Nat.le_of_ble_eq_true rfl) (by decide +kernel) (hi_44_2 _ _ _ _ _) ?_
                  refine zw_aload_n 44 f1_43 rfl rfl ?_
                  refine zw_aload_n 45 f1_44 rfl rfl ?_
                  refine zw_getfield 48 f1_45 rfl g1_43_9 (hb_12 _ _ _ _) rfl ?_
                  refine zw_iload_n 49 f1_48 rfl rfl ?_
                  refine zw_iaload a.toNatClampNeg (A 14 a.toNatClampNeg) 50 f1_49 rfl (hb_14 _ _ _ _) rfl hc1 (zix (by decide) hc1 hc3) rfl ?_
                  refine zw_put _ 53 f1_50 rfl g1_48_0 (hb_44 _ _ _ _) rfl (Nat.le_of_ble_eq_true rfl) (by decide +kernel) (hi_44_3 _ _ _ _ _) ?_
                  refine zw_vreturn f1_53 r1 u1 ⟨rfl, ?_⟩
                  refine zw_iload_n 75 f101_74 rfl (zl1_ne rfl rfl (zl1_ne rfl rfl rfl)) ?_
                  rcases zl_sw 2 (by decide) b with hs8 | ⟨hs8k, hs8l, hs8e⟩
                  · refine zw_table_o 133 f101_75 hs8 (by decide +kernel) ?_
                    refine zw_aload_n 134 f101_133 rfl (zl1_ne rfl rfl (zl1_ne rfl rfl rfl)) ?_
                    refine zw_aload 136 f101_134 rfl zl1_eq ?_
                    refine zw_iload_n 137 f101_136 rfl (zl1_ne rfl rfl (zl1_ne rfl rfl rfl)) ?_
                    refine zw_virtual_i 140 0 0 [.ref 47, .int c] [(0, .ref 47), (1, .int c)] f101_137 rfl n101_298 k101_298_8 rfl (hb_47 _ _ _ _) (by decide +kernel) (Nat.le_of_ble_eq_true rfl) rfl rfl (by decide +kernel) (by decide +kernel) rfl (Nat.le_of_ble_eq_true rfl) rfl ?_
                    refine zw_aload_n 1 f40_0 rfl rfl ?_
                    refine zw_getfield 4 f40_1 rfl g40_7_8 (hb_47 _ _ _ _) rfl ?_
                    refine zw_bipush 13 6 f40_4 rfl (by decide +kernel) ?_
                    refine zw_virtual_v 9 0 0 [.ref 44, .int 13] [(0, .ref 44), (1, .int 13)] f40_6 rfl n40_13 k40_13_0 rfl (hb_44 _ _ _ _) (by decide +kernel) (Nat.le_of_ble_eq_true rfl) rfl rfl (by decide +kernel) (by decide +kernel) rfl (Nat.le_of_ble_eq_true rfl) rfl ?_
                    refine zw_aload_n 1 f2_0 rfl rfl ?_
                    refine zw_getI 0 4 f2_1 rfl g2_15_0 (hb_44 _ _ _ _) rfl rfl ?_
                    refine zw_bipush 50 6 f2_4 rfl (by decide +kernel) ?_
                    refine zw_ic_ge_f 9 29 f2_6 (by decide +kernel) rfl (by decide +kernel) ?_
                    refine zw_aload_n 10 f2_9 rfl rfl ?_
                    refine zw_getfield 13 f2_10 rfl g2_9_0 (hb_44 _ _ _ _) rfl ?_
                    refine zw_aload_n 14 f2_13 rfl rfl ?_
                    refine zw_getI 0 17 f2_14 rfl g2_15_0 (hb_44 _ _ _ _) rfl rfl ?_
                    refine zw_iload_n 18 f2_17 rfl rfl ?_
                    refine zw_ast 0 _ 19 f2_18 rfl (hb_45 _ _ _ _) (by decide +kernel) (by decide +kernel) (by decide +kernel) (ha_45 _ _ _ _ _) ?_
                    refine zw_aload_n 20 f2_19 rfl rfl ?_
                    refine zw_dup 21 f2_20 rfl rfl ?_
                    refine zw_getI 0 24 f2_21 rfl g2_15_0 (hb_44 _ _ _ _) rfl rfl ?_
                    refine zw_iconst 1 25 f2_24 rfl (by decide +kernel) ?_
                    refine zw_iadd 1 26 f2_25 rfl (by decide +kernel) ?_
                    refine zw_put _ 29 f2_26 rfl g2_15_0 (hb_44 _ _ _ _) rfl (Nat.le_of_ble_eq_true rfl) (by decide +kernel) (hi_44_4 _ _ _ _ _) ?_
                    refine zw_vreturn f2_29 r2 u2 ⟨rfl, ?_⟩
                    refine zw_aload_n 10 f40_9 rfl rfl ?_
                    refine zw_iload_n 11 f40_10 rfl rfl ?_
                    refine zw_virtual_i 14 0 0 [.ref 47, .int c] [(0, .ref 47), (1, .int c)] f40_11 rfl n40_27 k40_27_8 rfl (hb_47 _ _ _ _) (by decide +kernel) (Nat.le_of_ble_eq_true rfl) rfl rfl (by decide +kernel) (by decide +kernel) rfl (Nat.le_of_ble_eq_true rfl) rfl ?_
                    refine zw_aload_n 1 f38_0 rfl rfl ?_
                    refine zw_getfield 4 f38_1 rfl g38_7_8 (hb_47 _ _ _ _) rfl ?_
                    refine zw_bipush 11 6 f38_4 rfl (by decide +kernel) ?_
                    refine zw_virtual_v 9 0 0 [.ref 44, .int 11] [(0, .ref 44), (1, .int 11)] f38_6 rfl n38_13 k38_13_0 rfl (hb_44 _ _ _ _) (by decide +kernel) (Nat.le_of_ble_eq_true rfl) rfl rfl (by decide +kernel) (by decide +kernel) rfl (Nat.le_of_ble_eq_true rfl) rfl ?_
                    refine zw_aload_n 1 f2_0 rfl rfl ?_
                    refine zw_getI 1 4 f2_1 rfl g2_15_0 (hb_44 _ _ _ _) rfl rfl ?_
                    refine zw_bipush 50 6 f2_4 rfl (by decide +kernel) ?_
                    refine zw_ic_ge_f 9 29 f2_6 (by decide +kernel) rfl (by decide +kernel) ?_
                    refine zw_aload_n 10 f2_9 rfl rfl ?_
                    refine zw_getfield 13 f2_10 rfl g2_9_0 (hb_44 _ _ _ _) rfl ?_
                    refine zw_aload_n 14 f2_13 rfl rfl ?_
                    refine zw_getI 1 17 f2_14 rfl g2_15_0 (hb_44 _ _ _ _) rfl rfl ?_
                    refine zw_iload_n 18 f2_17 rfl rfl ?_
                    refine zw_ast 1 _ 19 f2_18 rfl (hb_45 _ _ _ _) (by decide +kernel) (by decide +kernel) (by decide +kernel) (ha_45 _ _ _ _ _) ?_
                    refine zw_aload_n 20 f2_19 rfl rfl ?_
                    refine zw_dup 21 f2_20 rfl rfl ?_
                    refine zw_getI 1 24 f2_21 rfl g2_15_0 (hb_44 _ _ _ _) rfl rfl ?_
                    refine zw_iconst 1 25 f2_24 rfl (by decide +kernel) ?_
                    refine zw_iadd 2 26 f2_25 rfl (by decide +kernel) ?_
                    refine zw_put _ 29 f2_26 rfl g2_15_0 (hb_44 _ _ _ _) rfl (Nat.le_of_ble_eq_true rfl) (by decide +kernel) (hi_44_4 _ _ _ _ _) ?_
                    refine zw_vreturn f2_29 r2 u2 ⟨rfl, ?_⟩
                    refine zw_aload_n 10 f38_9 rfl rfl ?_
                    refine zw_iload_n 11 f38_10 rfl rfl ?_
                    refine zw_virtual_i 14 0 0 [.ref 47, .int c] [(0, .ref 47), (1, .int c)] f38_11 rfl n38_23 k38_23_8 rfl (hb_47 _ _ _ _) (by decide +kernel) (Nat.le_of_ble_eq_true rfl) rfl rfl (by decide +kernel) (by decide +kernel) rfl (Nat.le_of_ble_eq_true rfl) rfl ?_
                    refine zw_aload_n 1 f37_0 rfl rfl ?_
                    refine zw_getfield 4 f37_1 rfl g37_7_8 (hb_47 _ _ _ _) rfl ?_
                    refine zw_bipush 10 6 f37_4 rfl (by decide +kernel) ?_
                    refine zw_virtual_v 9 0 0 [.ref 44, .int 10] [(0, .ref 44), (1, .int 10)] f37_6 rfl n37_13 k37_13_0 rfl (hb_44 _ _ _ _) (by decide +kernel) (Nat.le_of_ble_eq_true rfl) rfl rfl (by decide +kernel) (by decide +kernel) rfl (Nat.le_of_ble_eq_true rfl) rfl ?_
                    refine zw_aload_n 1 f2_0 rfl rfl ?_
                    refine zw_getI 2 4 f2_1 rfl g2_15_0 (hb_44 _ _ _ _) rfl rfl ?_
                    refine zw_bipush 50 6 f2_4 rfl (by decide +kernel) ?_
                    refine zw_ic_ge_f 9 29 f2_6 (by decide +kernel) rfl (by decide +kernel) ?_
                    refine zw_aload_n 10 f2_9 rfl rfl ?_
                    refine zw_getfield 13 f2_10 rfl g2_9_0 (hb_44 _ _ _ _) rfl ?_
                    refine zw_aload_n 14 f2_13 rfl rfl ?_
                    refine zw_getI 2 17 f2_14 rfl g2_15_0 (hb_44 _ _ _ _) rfl rfl ?_
                    refine zw_iload_n 18 f2_17 rfl rfl ?_
                    refine zw_ast 2 _ 19 f2_18 rfl (hb_45 _ _ _ _) (by decide +kernel) (by decide +kernel) (by decide +kernel) (ha_45 _ _ _ _ _) ?_
                    refine zw_aload_n 20 f2_19 rfl rfl ?_
                    refine zw_dup 21 f2_20 rfl rfl ?_
                    refine zw_getI 2 24 f2_21 rfl g2_15_0 (hb_44 _ _ _ _) rfl rfl ?_
                    refine zw_iconst 1 25 f2_24 rfl (by decide +kernel) ?_
                    refine zw_iadd 3 26 f2_25 rfl (by decide +kernel) ?_
                    refine zw_put _ 29 f2_26 rfl g2_15_0 (hb_44 _ _ _ _) rfl (Nat.le_of_ble_eq_true rfl) (by decide +kernel) (hi_44_4 _ _ _ _ _) ?_
                    refine zw_vreturn f2_29 r2 u2 ⟨rfl, ?_⟩
                    refine zw_iload_n 10 f37_9 rfl rfl ?_
                    refine zw_aload_n 11 f37_10 rfl rfl ?_
                    refine zw_getfield 14 f37_11 rfl g37_7_8 (hb_47 _ _ _ _) rfl ?_
                    refine zw_getI (A 3 a.toNatClampNeg) 17 f37_14 rfl g37_19_0 (hb_44 _ _ _ _) rfl rfl ?_
                    refine zw_iadd (c + (A 3 a.toNatClampNeg)) 18 f37_17 rfl rfl ?_
                    refine zw_ireturn f37_18 r37 u37 ⟨_, rfl, ?_⟩
                    refine zw_iconst 3 15 f38_14 rfl (by decide +kernel) ?_
                    refine zw_imul ((c + (A 3 a.toNatClampNeg)) * 3) 16 f38_15 rfl rfl ?_
                    refine zw_ireturn f38_16 r38 u38 ⟨_, rfl, ?_⟩
                    refine zw_aload_n 15 f40_14 rfl rfl ?_
                    refine zw_iload_n 16 f40_15 rfl rfl ?_
                    refine zw_virtual_i 19 0 0 [.ref 47, .int c] [(0, .ref 47), (1, .int c)] f40_16 rfl n40_30 k40_30_8 rfl (hb_47 _ _ _ _) (by decide +kernel) (Nat.le_of_ble_eq_true rfl) rfl rfl (by decide +kernel) (by decide +kernel) rfl (Nat.le_of_ble_eq_true rfl) rfl ?_
                    refine zw_aload_n 1 f39_0 rfl rfl ?_
                    refine zw_getfield 4 f39_1 rfl g39_7_8 (hb_47 _ _ _ _) rfl ?_
                    refine zw_bipush 12 6 f39_4 rfl (by decide +kernel) ?_
                    refine zw_virtual_v 9 0 0 [.ref 44, .int 12] [(0, .ref 44), (1, .int 12)] f39_6 rfl n39_13 k39_13_0 rfl (hb_44 _ _ _ _) (by decide +kernel) (Nat.le_of_ble_eq_true rfl) rfl rfl (by decide +kernel) (by decide +kernel) rfl (Nat.le_of_ble_eq_true rfl) rfl ?_
                    refine zw_aload_n 1 f2_0 rfl rfl ?_
                    refine zw_getI 3 4 f2_1 rfl g2_15_0 (hb_44 _ _ _ _) rfl rfl ?_
                    refine zw_bipush 50 6 f2_4 rfl (by decide +kernel) ?_
                    refine zw_ic_ge_f 9 29 f2_6 (by decide +kernel) rfl (by decide +kernel) ?_
                    refine zw_aload_n 10 f2_9 rfl rfl ?_
                    refine zw_getfield 13 f2_10 rfl g2_9_0 (hb_44 _ _ _ _) rfl ?_
                    refine zw_aload_n 14 f2_13 rfl rfl ?_
                    refine zw_getI 3 17 f2_14 rfl g2_15_0 (hb_44 _ _ _ _) rfl rfl ?_
                    refine zw_iload_n 18 f2_17 rfl rfl ?_
                    refine zw_ast 3 _ 19 f2_18 rfl (hb_45 _ _ _ _) (by decide +kernel) (by decide +kernel) (by decide +kernel) (ha_45 _ _ _ _ _) ?_
                    refine zw_aload_n 20 f2_19 rfl rfl ?_
                    refine zw_dup 21 f2_20 rfl rfl ?_
                    refine zw_getI 3 24 f2_21 rfl g2_15_0 (hb_44 _ _ _ _) rfl rfl ?_
                    refine zw_iconst 1 25 f2_24 rfl (by decide +kernel) ?_
                    refine zw_iadd 4 26 f2_25 rfl (by decide +kernel) ?_
                    refine zw_put _ 29 f2_26 rfl g2_15_0 (hb_44 _ _ _ _) rfl (Nat.le_of_ble_eq_true rfl) (by decide +kernel) (hi_44_4 _ _ _ _ _) ?_
                    refine zw_vreturn f2_29 r2 u2 ⟨rfl, ?_⟩
                    refine zw_iload_n 10 f39_9 rfl rfl ?_
                    refine zw_aload_n 11 f39_10 rfl rfl ?_
                    refine zw_getfield 14 f39_11 rfl g39_7_8 (hb_47 _ _ _ _) rfl ?_
                    refine zw_getI (A 3 a.toNatClampNeg) 17 f39_14 rfl g39_19_0 (hb_44 _ _ _ _) rfl rfl ?_
                    refine zw_ixor (c ^^^ (A 3 a.toNatClampNeg)) 18 f39_17 rfl rfl ?_
                    refine zw_ireturn f39_18 r39 u39 ⟨_, rfl, ?_⟩
                    refine zw_isub (((c + (A 3 a.toNatClampNeg)) * 3) - (c ^^^ (A 3 a.toNatClampNeg))) 20 f40_19 rfl rfl ?_
                    refine zw_ireturn f40_20 r40 u40 ⟨_, rfl, ?_⟩
                    refine zw_virtual_i 143 0 0 [.ref 0, .int (((c + (A 3 a.toNatClampNeg)) * 3) - (c ^^^ (A 3 a.toNatClampNeg)))] [(0, .ref 0), (1, .int (((c + (A 3 a.toNatClampNeg)) * 3) - (c ^^^ (A 3 a.toNatClampNeg))))] f101_140 rfl n101_181 k101_181_11 rfl (hb_0 _ _ _ _) (by decide +kernel) (Nat.le_of_ble_eq_true rfl) rfl rfl (by decide +kernel) (by decide +kernel) rfl (Nat.le_of_ble_eq_true rfl) rfl ?_
                    refine zw_aload_n 1 f106_0 rfl rfl ?_
                    refine zw_iconst 0 2 f106_1 rfl (by decide +kernel) ?_
                    refine zw_put _ 5 f106_2 rfl g106_70_11 (hb_0 _ _ _ _) rfl (Nat.le_of_ble_eq_true rfl) (by decide +kernel) (hi_0_7 _ _ _ _ _) ?_
                    refine zw_iload_n 6 f106_5 rfl rfl ?_
                    refine zw_ireturn f106_6 r106 u106 ⟨_, rfl, ?_⟩
                    refine zw_ireturn f101_143 r101 u101 ?_
                    exact ⟨_, _, _, _, rfl, (KP.i rfl (KP.i rfl (KP.a rfl (KP.i rfl (KP.a rfl (KP.i rfl (KP.a rfl (KP.i rfl (KP.a rfl (KP.i rfl (KP.i rfl (KP.i rfl (KP.i rfl (KP.i rfl KP.rf)))))))))))))), ⟨⟨hI.1, hI.2.1, 4, by omega, rfl⟩, PE.of10 rfl rfl rfl rfl rfl rfl rfl rfl rfl rfl⟩, _, rfl⟩
                  · rcases (show hs8k = 0 ∨ hs8k = 1 ∨ hs8k = 2 by omega) with rfl | rfl | rfl
                    · refine zw_table_k 25 100 f101_75 hs8e (by decide +kernel) (by decide +kernel) (by decide +kernel) ?_
                      refine zw_aload_n 101 f101_100 rfl (zl1_ne rfl rfl (zl1_ne rfl rfl rfl)) ?_
                      refine zw_aload 103 f101_101 rfl zl1_eq ?_
                      refine zw_iload_n 104 f101_103 rfl (zl1_ne rfl rfl (zl1_ne rfl rfl rfl)) ?_
                      refine zw_virtual_i 107 0 0 [.ref 47, .int c] [(0, .ref 47), (1, .int c)] f101_104 rfl n101_289 k101_289_8 rfl (hb_47 _ _ _ _) (by decide +kernel) (Nat.le_of_ble_eq_true rfl) rfl rfl (by decide +kernel) (by decide +kernel) rfl (Nat.le_of_ble_eq_true rfl) rfl ?_
                      refine zw_aload_n 1 f37_0 rfl rfl ?_
                      refine zw_getfield 4 f37_1 rfl g37_7_8 (hb_47 _ _ _ _) rfl ?_
                      refine zw_bipush 10 6 f37_4 rfl (by decide +kernel) ?_
                      refine zw_virtual_v 9 0 0 [.ref 44, .int 10] [(0, .ref 44), (1, .int 10)] f37_6 rfl n37_13 k37_13_0 rfl (hb_44 _ _ _ _) (by decide +kernel) (Nat.le_of_ble_eq_true rfl) rfl rfl (by decide +kernel) (by decide +kernel) rfl (Nat.le_of_ble_eq_true rfl) rfl ?_
                      refine zw_aload_n 1 f2_0 rfl rfl ?_
                      refine zw_getI 0 4 f2_1 rfl g2_15_0 (hb_44 _ _ _ _) rfl rfl ?_
                      refine zw_bipush 50 6 f2_4 rfl (by decide +kernel) ?_
                      refine zw_ic_ge_f 9 29 f2_6 (by decide +kernel) rfl (by decide +kernel) ?_
                      refine zw_aload_n 10 f2_9 rfl rfl ?_
                      refine zw_getfield 13 f2_10 rfl g2_9_0 (hb_44 _ _ _ _) rfl ?_
                      refine zw_aload_n 14 f2_13 rfl rfl ?_
                      refine zw_getI 0 17 f2_14 rfl g2_15_0 (hb_44 _ _ _ _) rfl rfl ?_
                      refine zw_iload_n 18 f2_17 rfl rfl ?_
                      refine zw_ast 0 _ 19 f2_18 rfl (hb_45 _ _ _ _) (by decide +kernel) (by decide +kernel) (by decide +kernel) (ha_45 _ _ _ _ _) ?_
                      refine zw_aload_n 20 f2_19 rfl rfl ?_
                      refine zw_dup 21 f2_20 rfl rfl ?_
                      refine zw_getI 0 24 f2_21 rfl g2_15_0 (hb_44 _ _ _ _) rfl rfl ?_
                      refine zw_iconst 1 25 f2_24 rfl (by decide +kernel) ?_
                      refine zw_iadd 1 26 f2_25 rfl (by decide +kernel) ?_
                      refine zw_put _ 29 f2_26 rfl g2_15_0 (hb_44 _ _ _ _) rfl (Nat.le_of_ble_eq_true rfl) (by decide +kernel) (hi_44_4 _ _ _ _ _) ?_
                      refine zw_vreturn f2_29 r2 u2 ⟨rfl, ?_⟩
                      refine zw_iload_n 10 f37_9 rfl rfl ?_
                      refine zw_aload_n 11 f37_10 rfl rfl ?_
                      refine zw_getfield 14 f37_11 rfl g37_7_8 (hb_47 _ _ _ _) rfl ?_
                      refine zw_getI (A 3 a.toNatClampNeg) 17 f37_14 rfl g37_19_0 (hb_44 _ _ _ _) rfl rfl ?_
                      refine zw_iadd (c + (A 3 a.toNatClampNeg)) 18 f37_17 rfl rfl ?_
                      refine zw_ireturn f37_18 r37 u37 ⟨_, rfl, ?_⟩
                      refine zw_virtual_i 110 0 0 [.ref 0, .int (c + (A 3 a.toNatClampNeg))] [(0, .ref 0), (1, .int (c + (A 3 a.toNatClampNeg)))] f101_107 rfl n101_181 k101_181_11 rfl (hb_0 _ _ _ _) (by decide +kernel) (Nat.le_of_ble_eq_true rfl) rfl rfl (by decide +kernel) (by decide +kernel) rfl (Nat.le_of_ble_eq_true rfl) rfl ?_
                      refine zw_aload_n 1 f106_0 rfl rfl ?_
                      refine zw_iconst 0 2 f106_1 rfl (by decide +kernel) ?_
                      refine zw_put _ 5 f106_2 rfl g106_70_11 (hb_0 _ _ _ _) rfl (Nat.le_of_ble_eq_true rfl) (by decide +kernel) (hi_0_7 _ _ _ _ _) ?_
                      refine zw_iload_n 6 f106_5 rfl rfl ?_
                      refine zw_ireturn f106_6 r106 u106 ⟨_, rfl, ?_⟩
                      refine zw_ireturn f101_110 r101 u101 ?_
                      exact ⟨_, _, _, _, rfl, (KP.i rfl (KP.i rfl (KP.a rfl (KP.i rfl (KP.i rfl (KP.i rfl (KP.i rfl (KP.i rfl KP.rf)))))))), ⟨⟨hI.1, hI.2.1, 1, by omega, rfl⟩, PE.of10 rfl rfl rfl rfl rfl rfl rfl rfl rfl rfl⟩, _, rfl⟩
                    · refine zw_table_k 36 111 f101_75 hs8e (by decide +kernel) (by decide +kernel) (by decide +kernel) ?_
                      refine zw_aload_n 112 f101_111 rfl (zl1_ne rfl rfl (zl1_ne rfl rfl rfl)) ?_
                      refine zw_aload 114 f101_112 rfl zl1_eq ?_
                      refine zw_iload_n 115 f101_114 rfl (zl1_ne rfl rfl (zl1_ne rfl rfl rfl)) ?_
                      refine zw_virtual_i 118 0 0 [.ref 47, .int c] [(0, .ref 47), (1, .int c)] f101_115 rfl n101_292 k101_292_8 rfl (hb_47 _ _ _ _) (by decide +kernel) (Nat.le_of_ble_eq_true rfl) rfl rfl (by decide +kernel) (by decide +kernel) rfl (Nat.le_of_ble_eq_true rfl) rfl ?_
                      refine zw_aload_n 1 f38_0 rfl rfl ?_
                      refine zw_getfield 4 f38_1 rfl g38_7_8 (hb_47 _ _ _ _) rfl ?_
                      refine zw_bipush 11 6 f38_4 rfl (by decide +kernel) ?_
                      refine zw_virtual_v 9 0 0 [.ref 44, .int 11] [(0, .ref 44), (1, .int 11)] f38_6 rfl n38_13 k38_13_0 rfl (hb_44 _ _ _ _) (by decide +kernel) (Nat.le_of_ble_eq_true rfl) rfl rfl (by decide +kernel) (by decide +kernel) rfl (Nat.le_of_ble_eq_true rfl) rfl ?_
                      refine zw_aload_n 1 f2_0 rfl rfl ?_
                      refine zw_getI 0 4 f2_1 rfl g2_15_0 (hb_44 _ _ _ _) rfl rfl ?_
                      refine zw_bipush 50 6 f2_4 rfl (by decide +kernel) ?_
                      refine zw_ic_ge_f 9 29 f2_6 (by decide +kernel) rfl (by decide +kernel) ?_
                      refine zw_aload_n 10 f2_9 rfl rfl ?_
                      refine zw_getfield 13 f2_10 rfl g2_9_0 (hb_44 _ _ _ _) rfl ?_
                      refine zw_aload_n 14 f2_13 rfl rfl ?_
                      refine zw_getI 0 17 f2_14 rfl g2_15_0 (hb_44 _ _ _ _) rfl rfl ?_
                      refine zw_iload_n 18 f2_17 rfl rfl ?_
                      refine zw_ast 0 _ 19 f2_18 rfl (hb_45 _ _ _ _) (by decide +kernel) (by decide +kernel) (by decide +kernel) (ha_45 _ _ _ _ _) ?_
                      refine zw_aload_n 20 f2_19 rfl rfl ?_
                      refine zw_dup 21 f2_20 rfl rfl ?_
                      refine zw_getI 0 24 f2_21 rfl g2_15_0 (hb_44 _ _ _ _) rfl rfl ?_
                      refine zw_iconst 1 25 f2_24 rfl (by decide +kernel) ?_
                      refine zw_iadd 1 26 f2_25 rfl (by decide +kernel) ?_
                      refine zw_put _ 29 f2_26 rfl g2_15_0 (hb_44 _ _ _ _) rfl (Nat.le_of_ble_eq_true rfl) (by decide +kernel) (hi_44_4 _ _ _ _ _) ?_
                      refine zw_vreturn f2_29 r2 u2 ⟨rfl, ?_⟩
                      refine zw_aload_n 10 f38_9 rfl rfl ?_
                      refine zw_iload_n 11 f38_10 rfl rfl ?_
                      refine zw_virtual_i 14 0 0 [.ref 47, .int c] [(0, .ref 47), (1, .int c)] f38_11 rfl n38_23 k38_23_8 rfl (hb_47 _ _ _ _) (by decide +kernel) (Nat.le_of_ble_eq_true rfl) rfl rfl (by decide +kernel) (by decide +kernel) rfl (Nat.le_of_ble_eq_true rfl) rfl ?_
                      refine zw_aload_n 1 f37_0 rfl rfl ?_
                      refine zw_getfield 4 f37_1 rfl g37_7_8 (hb_47 _ _ _ _) rfl ?_
                      refine zw_bipush 10 6 f37_4 rfl (by decide +kernel) ?_
                      refine zw_virtual_v 9 0 0 [.ref 44, .int 10] [(0, .ref 44), (1, .int 10)] f37_6 rfl n37_13 k37_13_0 rfl (hb_44 _ _ _ _) (by decide +kernel) (Nat.le_of_ble_eq_true rfl) rfl rfl (by decide +kernel) (by decide +kernel) rfl (Nat.le_of_ble_eq_true rfl) rfl ?_
                      refine zw_aload_n 1 f2_0 rfl rfl ?_
                      refine zw_getI 1 4 f2_1 rfl g2_15_0 (hb_44 _ _ _ _) rfl rfl ?_
                      refine zw_bipush 50 6 f2_4 rfl (by decide +kernel) ?_
                      refine zw_ic_ge_f 9 29 f2_6 (by decide +kernel) rfl (by decide +kernel) ?_
                      refine zw_aload_n 10 f2_9 rfl rfl ?_
                      refine zw_getfield 13 f2_10 rfl g2_9_0 (hb_44 _ _ _ _) rfl ?_
                      refine zw_aload_n 14 f2_13 rfl rfl ?_
                      refine zw_getI 1 17 f2_14 rfl g2_15_0 (hb_44 _ _ _ _) rfl rfl ?_
                      refine zw_iload_n 18 f2_17 rfl rfl ?_
                      refine zw_ast 1 _ 19 f2_18 rfl (hb_45 _ _ _ _) (by decide +kernel) (by decide +kernel) (by decide +kernel) (ha_45 _ _ _ _ _) ?_
                      refine zw_aload_n 20 f2_19 rfl rfl ?_
                      refine zw_dup 21 f2_20 rfl rfl ?_
                      refine zw_getI 1 24 f2_21 rfl g2_15_0 (hb_44 _ _ _ _) rfl rfl ?_
                      refine zw_iconst 1 25 f2_24 rfl (by decide +kernel) ?_
                      refine zw_iadd 2 26 f2_25 rfl (by decide +kernel) ?_
                      refine zw_put _ 29 f2_26 rfl g2_15_0 (hb_44 _ _ _ _) rfl (Nat.le_of_ble_eq_true rfl) (by decide +kernel) (hi_44_4 _ _ _ _ _) ?_
                      refine zw_vreturn f2_29 r2 u2 ⟨rfl, ?_⟩
                      refine zw_iload_n 10 f37_9 rfl rfl ?_
                      refine zw_aload_n 11 f37_10 rfl rfl ?_
                      refine zw_getfield 14 f37_11 rfl g37_7_8 (hb_47 _ _ _ _) rfl ?_
                      refine zw_getI (A 3 a.toNatClampNeg) 17 f37_14 rfl g37_19_0 (hb_44 _ _ _ _) rfl rfl ?_
                      refine zw_iadd (c + (A 3 a.toNatClampNeg)) 18 f37_17 rfl rfl ?_
                      refine zw_ireturn f37_18 r37 u37 ⟨_, rfl, ?_⟩
                      refine zw_iconst 3 15 f38_14 rfl (by decide +kernel) ?_
                      refine zw_imul ((c + (A 3 a.toNatClampNeg)) * 3) 16 f38_15 rfl rfl ?_
                      refine zw_ireturn f38_16 r38 u38 ⟨_, rfl, ?_⟩
                      refine zw_virtual_i 121 0 0 [.ref 0, .int ((c + (A 3 a.toNatClampNeg)) * 3)] [(0, .ref 0), (1, .int ((c + (A 3 a.toNatClampNeg)) * 3))] f101_118 rfl n101_181 k101_181_11 rfl (hb_0 _ _ _ _) (by decide +kernel) (Nat.le_of_ble_eq_true rfl) rfl rfl (by decide +kernel) (by decide +kernel) rfl (Nat.le_of_ble_eq_true rfl) rfl ?_
                      refine zw_aload_n 1 f106_0 rfl rfl ?_
                      refine zw_iconst 0 2 f106_1 rfl (by decide +kernel) ?_
                      refine zw_put _ 5 f106_2 rfl g106_70_11 (hb_0 _ _ _ _) rfl (Nat.le_of_ble_eq_true rfl) (by decide +kernel) (hi_0_7 _ _ _ _ _) ?_
                      refine zw_iload_n 6 f106_5 rfl rfl ?_
                      refine zw_ireturn f106_6 r106 u106 ⟨_, rfl, ?_⟩
                      refine zw_ireturn f101_121 r101 u101 ?_
                      exact ⟨_, _, _, _, rfl, (KP.i rfl (KP.i rfl (KP.a rfl (KP.i rfl (KP.a rfl (KP.i rfl (KP.i rfl (KP.i rfl (KP.i rfl (KP.i rfl KP.rf)))))))))), ⟨⟨hI.1, hI.2.1, 2, by omega, rfl⟩, PE.of10 rfl rfl rfl rfl rfl rfl rfl rfl rfl rfl⟩, _, rfl⟩
                    · refine zw_table_k 47 122 f101_75 hs8e (by decide +kernel) (by decide +kernel) (by decide +kernel) ?_
                      refine zw_aload_n 123 f101_122 rfl (zl1_ne rfl rfl (zl1_ne rfl rfl rfl)) ?_
                      refine zw_aload 125 f101_123 rfl zl1_eq ?_
                      refine zw_iload_n 126 f101_125 rfl (zl1_ne rfl rfl (zl1_ne rfl rfl rfl)) ?_
                      refine zw_virtual_i 129 0 0 [.ref 47, .int c] [(0, .ref 47), (1, .int c)] f101_126 rfl n101_295 k101_295_8 rfl (hb_47 _ _ _ _) (by decide +kernel) (Nat.le_of_ble_eq_true rfl) rfl rfl (by decide +kernel) (by decide +kernel) rfl (Nat.le_of_ble_eq_true rfl) rfl ?_
                      refine zw_aload_n 1 f39_0 rfl rfl ?_
                      refine zw_getfield 4 f39_1 rfl g39_7_8 (hb_47 _ _ _ _) rfl ?_
                      refine zw_bipush 12 6 f39_4 rfl (by decide +kernel) ?_
                      refine zw_virtual_v 9 0 0 [.ref 44, .int 12] [(0, .ref 44), (1, .int 12)] f39_6 rfl n39_13 k39_13_0 rfl (hb_44 _ _ _ _) (by decide +kernel) (Nat.le_of_ble_eq_true rfl) rfl rfl (by decide +kernel) (by decide +kernel) rfl (Nat.le_of_ble_eq_true rfl) rfl ?_
                      refine zw_aload_n 1 f2_0 rfl rfl ?_
                      refine zw_getI 0 4 f2_1 rfl g2_15_0 (hb_44 _ _ _ _) rfl rfl ?_
                      refine zw_bipush 50 6 f2_4 rfl (by decide +kernel) ?_
                      refine zw_ic_ge_f 9 29 f2_6 (by decide +kernel) rfl (by decide +kernel) ?_
                      refine zw_aload_n 10 f2_9 rfl rfl ?_
                      refine zw_getfield 13 f2_10 rfl g2_9_0 (hb_44 _ _ _ _) rfl ?_
                      refine zw_aload_n 14 f2_13 rfl rfl ?_
                      refine zw_getI 0 17 f2_14 rfl g2_15_0 (hb_44 _ _ _ _) rfl rfl ?_
                      refine zw_iload_n 18 f2_17 rfl rfl ?_
                      refine zw_ast 0 _ 19 f2_18 rfl (hb_45 _ _ _ _) (by decide +kernel) (by decide +kernel) (by decide +kernel) (ha_45 _ _ _ _ _) ?_
                      refine zw_aload_n 20 f2_19 rfl rfl ?_
                      refine zw_dup 21 f2_20 rfl rfl ?_
                      refine zw_getI 0 24 f2_21 rfl g2_15_0 (hb_44 _ _ _ _) rfl rfl ?_
                      refine zw_iconst 1 25 f2_24 rfl (by decide +kernel) ?_
                      refine zw_iadd 1 26 f2_25 rfl (by decide +kernel) ?_
                      refine zw_put _ 29 f2_26 rfl g2_15_0 (hb_44 _ _ _ _) rfl (Nat.le_of_ble_eq_true rfl) (by decide +kernel) (hi_44_4 _ _ _ _ _) ?_
                      refine zw_vreturn f2_29 r2 u2 ⟨rfl, ?_⟩
                      refine zw_iload_n 10 f39_9 rfl rfl ?_
                      refine zw_aload_n 11 f39_10 rfl rfl ?_
                      refine zw_getfield 14 f39_11 rfl g39_7_8 (hb_47 _ _ _ _) rfl ?_
                      refine zw_getI (A 3 a.toNatClampNeg) 17 f39_14 rfl g39_19_0 (hb_44 _ _ _ _) rfl rfl ?_
                      refine zw_ixor (c ^^^ (A 3 a.toNatClampNeg)) 18 f39_17 rfl rfl ?_
                      refine zw_ireturn f39_18 r39 u39 ⟨_, rfl, ?_⟩
                      refine zw_virtual_i 132 0 0 [.ref 0, .int (c ^^^ (A 3 a.toNatClampNeg))] [(0, .ref 0), (1, .int (c ^^^ (A 3 a.toNatClampNeg)))] f101_129 rfl n101_181 k101_181_11 rfl (hb_0 _ _ _ _) (by decide +kernel) (Nat.le_of_ble_eq_true rfl) rfl rfl (by decide +kernel) (by decide +kernel) rfl (Nat.le_of_ble_eq_true rfl) rfl ?_
                      refine zw_aload_n 1 f106_0 rfl rfl ?_
                      refine zw_iconst 0 2 f106_1 rfl (by decide +kernel) ?_
                      refine zw_put _ 5 f106_2 rfl g106_70_11 (hb_0 _ _ _ _) rfl (Nat.le_of_ble_eq_true rfl) (by decide +kernel) (hi_0_7 _ _ _ _ _) ?_
                      refine zw_iload_n 6 f106_5 rfl rfl ?_
                      refine zw_ireturn f106_6 r106 u106 ⟨_, rfl, ?_⟩
                      refine zw_ireturn f101_132 r101 u101 ?_
                      exact ⟨_, _, _, _, rfl, (KP.i rfl (KP.i rfl (KP.a rfl (KP.i rfl (KP.i rfl (KP.i rfl (KP.i rfl (KP.i rfl KP.rf)))))))), ⟨⟨hI.1, hI.2.1, 1, by omega, rfl⟩, PE.of10 rfl rfl rfl rfl rfl rfl rfl rfl rfl rfl⟩, _, rfl⟩
                · refine zw_aaload 1 42 f101_41 rfl (hb_46 _ _ _ _) (by rw [hk]; decide) (by rw [hk]; decide) (by decide) rfl ?_
                  refine zw_astore _ 44 f101_42 rfl (by decide +kernel) rfl ?_
                  refine zw_aload 46 f101_44 rfl zl1_eq ?_
                  refine zw_ifnonnull 55 f101_46 (by decide +kernel) ?_
                  refine zw_aload_n 56 f101_55 rfl (zl1_ne rfl rfl (zl1_ne rfl rfl rfl)) ?_
                  refine zw_getfield 59 f101_56 rfl g101_45_11 (hb_0 _ _ _ _) rfl ?_
                  refine zw_aload_n 60 f101_59 rfl (zl1_ne rfl rfl (zl1_ne rfl rfl rfl)) ?_
                  refine zw_getfield 63 f101_60 rfl g101_10_11 (hb_0 _ _ _ _) rfl ?_
                  refine zw_aload_n 64 f101_63 rfl (zl1_ne rfl rfl (zl1_ne rfl rfl rfl)) ?_
                  refine zw_getfield 67 f101_64 rfl g101_21_11 (hb_0 _ _ _ _) rfl ?_
                  refine zw_getfield 70 f101_67 rfl g101_134_10 (hb_11 _ _ _ _) rfl ?_
                  refine zw_iload_n 71 f101_70 rfl (zl1_ne rfl rfl (zl1_ne rfl rfl rfl)) ?_
                  refine zw_virtual_v 74 0 0 [.ref 44, .ref 1, .ref 12, .int a] [(0, .ref 44), (1, .ref 1), (2, .ref 12), (3, .int a)] f101_71 rfl n101_285 k101_285_0 rfl (hb_44 _ _ _ _) (by decide +kernel) (Nat.le_of_ble_eq_true rfl) rfl rfl (by decide +kernel) (by decide +kernel) rfl (Nat.le_of_ble_eq_true rfl) rfl ?_
                  refine zw_aload_n 1 f1_0 rfl rfl ?_
                  refine zw_iconst 0 2 f1_1 rfl (by decide +kernel) ?_
                  refine zw_put _ 5 f1_2 rfl g1_15_0 (hb_44 _ _ _ _) rfl (Nat.le_of_ble_eq_true rfl) (by decide +kernel) (hi_44_4 _ _ _ _ _) ?_
                  refine zw_aload_n 6 f1_5 rfl rfl ?_
                  refine zw_iload_n 7 f1_6 rfl rfl ?_
                  refine zw_virtual_i 10 0 0 [.ref 1, .int a] [(0, .ref 1), (1, .int a)] f1_7 rfl n1_19 k1_19_4 rfl (hb_1 _ _ _ _) (by decide +kernel) (Nat.le_of_ble_eq_true rfl) rfl rfl (by decide +kernel) (by decide +kernel) rfl (Nat.le_of_ble_eq_true rfl) rfl ?_
                  refine zw_iload_n 1 f13_0 rfl rfl ?_
                  refine zw_if_lt_f 4 22 f13_1 (by decide +kernel) rfl hc1 ?_
                  refine zw_iload_n 5 f13_4 rfl rfl ?_
                  refine zw_aload_n 6 f13_5 rfl rfl ?_
                  refine zw_getI (nI nv) 9 f13_6 rfl g13_39_4 (hb_1 _ _ _ _) rfl hI.1.1.1 ?_
                  refine zw_ic_ge_f 12 22 f13_9 (by decide +kernel) rfl hc2 ?_
                  refine zw_iload_n 13 f13_12 rfl rfl ?_
                  refine zw_bipush 8 15 f13_13 rfl (by decide +kernel) ?_
                  refine zw_ic_ge_f 18 22 f13_15 (by decide +kernel) rfl hc3 ?_
                  refine zw_iconst 1 19 f13_18 rfl (by decide +kernel) ?_
                  refine zw_goto 23 f13_19 (by decide +kernel) ?_
                  refine zw_zreturn f13_23 r13 u13 (by decide +kernel) ⟨_, rfl, ?_⟩
                  refine zw_if_eq_f 13 53 f1_10 (by decide +kernel) rfl (by decide +kernel) ?_
                  refine zw_aload_n 14 f1_13 rfl rfl ?_
                  refine zw_aload_n 15 f1_14 rfl rfl ?_
                  refine zw_getfield 18 f1_15 rfl g1_25_4 (hb_1 _ _ _ _) rfl ?_
                  refine zw_iload_n 19 f1_18 rfl rfl ?_
                  refine zw_iaload a.toNatClampNeg (A 3 a.toNatClampNeg) 20 f1_19 rfl (hb_3 _ _ _ _) rfl hc1 (zix (by decide) hc1 hc3) rfl ?_
                  refine zw_put _ 23 f1_20 rfl g1_28_0 (hb_44 _ _ _ _) rfl (Nat.le_of_ble_eq_true rfl) (by decide +kernel) (hi_44_0 _ _ _ _ _) ?_
                  refine zw_aload_n 24 f1_23 rfl rfl ?_
                  refine zw_aload_n 25 f1_24 rfl rfl ?_
                  refine zw_getfield 28 f1_25 rfl g1_31_4 (hb_1 _ _ _ _) rfl ?_
                  refine zw_iload_n 29 f1_28 rfl rfl ?_
                  refine zw_iaload a.toNatClampNeg (A 4 a.toNatClampNeg) 30 f1_29 rfl (hb_4 _ _ _ _) rfl hc1 (zix (by decide) hc1 hc3) rfl ?_
                  refine zw_put _ 33 f1_30 rfl g1_34_0 (hb_44 _ _ _ _) rfl (Nat.le_of_ble_eq_true rfl) (by decide +kernel) (hi_44_1 _ _ _ _ _) ?_
                  refine zw_aload_n 34 f1_33 rfl rfl ?_
                  refine zw_aload_n 35 f1_34 rfl rfl ?_
                  refine zw_getfield 38 f1_35 rfl g1_37_4 (hb_1 _ _ _ _) rfl ?_
                  refine zw_iload_n 39 f1_38 rfl rfl ?_
                  refine zw_iaload a.toNatClampNeg (A 5 a.toNatClampNeg) 40 f1_39 rfl (hb_5 _ _ _ _) rfl hc1 (zix (by decide) hc1 hc3) rfl ?_
                  refine zw_put _ 43 f1_40 rfl g1_40_0 (hb_44 _ _ _ _) rfl (Nat.le_of_ble_eq_true rfl) (by decide +kernel) (hi_44_2 _ _ _ _ _) ?_
                  refine zw_aload_n 44 f1_43 rfl rfl ?_
                  refine zw_aload_n 45 f1_44 rfl rfl ?_
                  refine zw_getfield 48 f1_45 rfl g1_43_9 (hb_12 _ _ _ _) rfl ?_
                  refine zw_iload_n 49 f1_48 rfl rfl ?_
                  refine zw_iaload a.toNatClampNeg (A 14 a.toNatClampNeg) 50 f1_49 rfl (hb_14 _ _ _ _) rfl hc1 (zix (by decide) hc1 hc3) rfl ?_
                  refine zw_put _ 53 f1_50 rfl g1_48_0 (hb_44 _ _ _ _) rfl (Nat.le_of_ble_eq_true rfl) (by decide +kernel) (hi_44_3 _ _ _ _ _) ?_
                  refine zw_vreturn f1_53 r1 u1 ⟨rfl, ?_⟩
                  refine zw_iload_n 75 f101_74 rfl (zl1_ne rfl rfl (zl1_ne rfl rfl rfl)) ?_
                  rcases zl_sw 2 (by decide) b with hs9 | ⟨hs9k, hs9l, hs9e⟩
                  · refine zw_table_o 133 f101_75 hs9 (by decide +kernel) ?_
                    refine zw_aload_n 134 f101_133 rfl (zl1_ne rfl rfl (zl1_ne rfl rfl rfl)) ?_
                    refine zw_aload 136 f101_134 rfl zl1_eq ?_
                    refine zw_iload_n 137 f101_136 rfl (zl1_ne rfl rfl (zl1_ne rfl rfl rfl)) ?_
                    refine zw_virtual_i 140 0 0 [.ref 48, .int c] [(0, .ref 48), (1, .int c)] f101_137 rfl n101_298 k101_298_6 rfl (hb_48 _ _ _ _) (by decide +kernel) (Nat.le_of_ble_eq_true rfl) rfl rfl (by decide +kernel) (by decide +kernel) rfl (Nat.le_of_ble_eq_true rfl) rfl ?_
                    refine zw_aload_n 1 f33_0 rfl rfl ?_
                    refine zw_getfield 4 f33_1 rfl g33_7_6 (hb_48 _ _ _ _) rfl ?_
                    refine zw_bipush 21 6 f33_4 rfl (by decide +kernel) ?_
                    refine zw_virtual_v 9 0 0 [.ref 44, .int 21] [(0, .ref 44), (1, .int 21)] f33_6 rfl n33_13 k33_13_0 rfl (hb_44 _ _ _ _) (by decide +kernel) (Nat.le_of_ble_eq_true rfl) rfl rfl (by decide +kernel) (by decide +kernel) rfl (Nat.le_of_ble_eq_true rfl) rfl ?_
                    refine zw_aload_n 1 f2_0 rfl rfl ?_
                    refine zw_getI 0 4 f2_1 rfl g2_15_0 (hb_44 _ _ _ _) rfl rfl ?_
                    refine zw_bipush 50 6 f2_4 rfl (by decide +kernel) ?_
                    refine zw_ic_ge_f 9 29 f2_6 (by decide +kernel) rfl (by decide +kernel) ?_
                    refine zw_aload_n 10 f2_9 rfl rfl ?_
                    refine zw_getfield 13 f2_10 rfl g2_9_0 (hb_44 _ _ _ _) rfl ?_
                    refine zw_aload_n 14 f2_13 rfl rfl ?_
                    refine zw_getI 0 17 f2_14 rfl g2_15_0 (hb_44 _ _ _ _) rfl rfl ?_
                    refine zw_iload_n 18 f2_17 rfl rfl ?_
                    refine zw_ast 0 _ 19 f2_18 rfl (hb_45 _ _ _ _) (by decide +kernel) (by decide +kernel) (by decide +kernel) (ha_45 _ _ _ _ _) ?_
                    refine zw_aload_n 20 f2_19 rfl rfl ?_
                    refine zw_dup 21 f2_20 rfl rfl ?_
                    refine zw_getI 0 24 f2_21 rfl g2_15_0 (hb_44 _ _ _ _) rfl rfl ?_
                    refine zw_iconst 1 25 f2_24 rfl (by decide +kernel) ?_
                    refine zw_iadd 1 26 f2_25 rfl (by decide +kernel) ?_
                    refine zw_put _ 29 f2_26 rfl g2_15_0 (hb_44 _ _ _ _) rfl (Nat.le_of_ble_eq_true rfl) (by decide +kernel) (hi_44_4 _ _ _ _ _) ?_
                    refine zw_vreturn f2_29 r2 u2 ⟨rfl, ?_⟩
                    refine zw_aload_n 10 f33_9 rfl rfl ?_
                    refine zw_iload_n 11 f33_10 rfl rfl ?_
                    refine zw_iconst 2 12 f33_11 rfl (by decide +kernel) ?_
                    refine zw_imul (c * 2) 13 f33_12 rfl rfl ?_
                    refine zw_super_i 16 0 0 [.ref 48, .int (c * 2)] [(0, .ref 48), (1, .int (c * 2))] f33_13 rfl k33_27_99 k33_27_98 (by decide +kernel) rfl (hb_48 _ _ _ _) (by decide +kernel) (Nat.le_of_ble_eq_true rfl) rfl rfl (by decide +kernel) (by decide +kernel) rfl (Nat.le_of_ble_eq_true rfl) rfl ?_
                    refine zw_aload_n 1 f40_0 rfl rfl ?_
                    refine zw_getfield 4 f40_1 rfl g40_7_6 (hb_48 _ _ _ _) rfl ?_
                    refine zw_bipush 13 6 f40_4 rfl (by decide +kernel) ?_
                    refine zw_virtual_v 9 0 0 [.ref 44, .int 13] [(0, .ref 44), (1, .int 13)] f40_6 rfl n40_13 k40_13_0 rfl (hb_44 _ _ _ _) (by decide +kernel) (Nat.le_of_ble_eq_true rfl) rfl rfl (by decide +kernel) (by decide +kernel) rfl (Nat.le_of_ble_eq_true rfl) rfl ?_
                    refine zw_aload_n 1 f2_0 rfl rfl ?_
                    refine zw_getI 1 4 f2_1 rfl g2_15_0 (hb_44 _ _ _ _) rfl rfl ?_
                    refine zw_bipush 50 6 f2_4 rfl (by decide +kernel) ?_
                    refine zw_ic_ge_f 9 29 f2_6 (by decide +kernel) rfl (by decide +kernel) ?_
                    refine zw_aload_n 10 f2_9 rfl rfl ?_
                    refine zw_getfield 13 f2_10 rfl g2_9_0 (hb_44 _ _ _ _) rfl ?_
                    refine zw_aload_n 14 f2_13 rfl rfl ?_
                    refine zw_getI 1 17 f2_14 rfl g2_15_0 (hb_44 _ _ _ _) rfl rfl ?_
                    refine zw_iload_n 18 f2_17 rfl rfl ?_
                    refine zw_ast 1 _ 19 f2_18 rfl (hb_45 _ _ _ _) (by decide +kernel) (by decide +kernel) (by decide +kernel) (ha_45 _ _ _ _ _) ?_
                    refine zw_aload_n 20 f2_19 rfl rfl ?_
                    refine zw_dup 21 f2_20 rfl rfl ?_
                    refine zw_getI 1 24 f2_21 rfl g2_15_0 (hb_44 _ _ _ _) rfl rfl ?_
                    refine zw_iconst 1 25 f2_24 rfl (by decide +kernel) ?_
                    refine zw_iadd 2 26 f2_25 rfl (by decide +kernel) ?_
                    refine zw_put _ 29 f2_26 rfl g2_15_0 (hb_44 _ _ _ _) rfl (Nat.le_of_ble_eq_true rfl) (by decide +kernel) (hi_44_4 _ _ _ _ _) ?_
                    refine zw_vreturn f2_29 r2 u2 ⟨rfl, ?_⟩
                    refine zw_aload_n 10 f40_9 rfl rfl ?_
                    refine zw_iload_n 11 f40_10 rfl rfl ?_
                    refine zw_virtual_i 14 0 0 [.ref 48, .int (c * 2)] [(0, .ref 48), (1, .int (c * 2))] f40_11 rfl n40_27 k40_27_6 rfl (hb_48 _ _ _ _) (by decide +kernel) (Nat.le_of_ble_eq_true rfl) rfl rfl (by decide +kernel) (by decide +kernel) rfl (Nat.le_of_ble_eq_true rfl) rfl ?_
                    refine zw_aload_n 1 f32_0 rfl rfl ?_
                    refine zw_getfield 4 f32_1 rfl g32_7_6 (hb_48 _ _ _ _) rfl ?_
                    refine zw_bipush 20 6 f32_4 rfl (by decide +kernel) ?_
                    refine zw_virtual_v 9 0 0 [.ref 44, .int 20] [(0, .ref 44), (1, .int 20)] f32_6 rfl n32_13 k32_13_0 rfl (hb_44 _ _ _ _) (by decide +kernel) (Nat.le_of_ble_eq_true rfl) rfl rfl (by decide +kernel) (by decide +kernel) rfl (Nat.le_of_ble_eq_true rfl) rfl ?_
                    refine zw_aload_n 1 f2_0 rfl rfl ?_
                    refine zw_getI 2 4 f2_1 rfl g2_15_0 (hb_44 _ _ _ _) rfl rfl ?_
                    refine zw_bipush 50 6 f2_4 rfl (by decide +kernel) ?_
                    refine zw_ic_ge_f 9 29 f2_6 (by decide +kernel) rfl (by decide +kernel) ?_
                    refine zw_aload_n 10 f2_9 rfl rfl ?_
                    refine zw_getfield 13 f2_10 rfl g2_9_0 (hb_44 _ _ _ _) rfl ?_
                    refine zw_aload_n 14 f2_13 rfl rfl ?_
                    refine zw_getI 2 17 f2_14 rfl g2_15_0 (hb_44 _ _ _ _) rfl rfl ?_
                    refine zw_iload_n 18 f2_17 rfl rfl ?_
                    refine zw_ast 2 _ 19 f2_18 rfl (hb_45 _ _ _ _) (by decide +kernel) (by decide +kernel) (by decide +kernel) (ha_45 _ _ _ _ _) ?_
                    refine zw_aload_n 20 f2_19 rfl rfl ?_
                    refine zw_dup 21 f2_20 rfl rfl ?_
                    refine zw_getI 2 24 f2_21 rfl g2_15_0 (hb_44 _ _ _ _) rfl rfl ?_
                    refine zw_iconst 1 25 f2_24 rfl (by decide +kernel) ?_
                    refine zw_iadd 3 26 f2_25 rfl (by decide +kernel) ?_
                    refine zw_put _ 29 f2_26 rfl g2_15_0 (hb_44 _ _ _ _) rfl (Nat.le_of_ble_eq_true rfl) (by decide +kernel) (hi_44_4 _ _ _ _ _) ?_
                    refine zw_vreturn f2_29 r2 u2 ⟨rfl, ?_⟩
                    refine zw_aload_n 10 f32_9 rfl rfl ?_
                    refine zw_iload_n 11 f32_10 rfl rfl ?_
                    refine zw_super_i 14 0 0 [.ref 48, .int (c * 2)] [(0, .ref 48), (1, .int (c * 2))] f32_11 rfl k32_19_99 k32_19_98 (by decide +kernel) rfl (hb_48 _ _ _ _) (by decide +kernel) (Nat.le_of_ble_eq_true rfl) rfl rfl (by decide +kernel) (by decide +kernel) rfl (Nat.le_of_ble_eq_true rfl) rfl ?_
                    refine zw_aload_n 1 f38_0 rfl rfl ?_
                    refine zw_getfield 4 f38_1 rfl g38_7_6 (hb_48 _ _ _ _) rfl ?_
                    refine zw_bipush 11 6 f38_4 rfl (by decide +kernel) ?_
                    refine zw_virtual_v 9 0 0 [.ref 44, .int 11] [(0, .ref 44), (1, .int 11)] f38_6 rfl n38_13 k38_13_0 rfl (hb_44 _ _ _ _) (by decide +kernel) (Nat.le_of_ble_eq_true rfl) rfl rfl (by decide +kernel) (by decide +kernel) rfl (Nat.le_of_ble_eq_true rfl) rfl ?_
                    refine zw_aload_n 1 f2_0 rfl rfl ?_
                    refine zw_getI 3 4 f2_1 rfl g2_15_0 (hb_44 _ _ _ _) rfl rfl ?_
                    refine zw_bipush 50 6 f2_4 rfl (by decide +kernel) ?_
                    refine zw_ic_ge_f 9 29 f2_6 (by decide +kernel) rfl (by decide +kernel) ?_
                    refine zw_aload_n 10 f2_9 rfl rfl ?_
                    refine zw_getfield 13 f2_10 rfl g2_9_0 (hb_44 _ _ _ _) rfl ?_
                    refine zw_aload_n 14 f2_13 rfl rfl ?_
                    refine zw_getI 3 17 f2_14 rfl g2_15_0 (hb_44 _ _ _ _) rfl rfl ?_
                    refine zw_iload_n 18 f2_17 rfl rfl ?_
                    refine zw_ast 3 _ 19 f2_18 rfl (hb_45 _ _ _ _) (by decide +kernel) (by decide +kernel) (by decide +kernel) (ha_45 _ _ _ _ _) ?_
                    refine zw_aload_n 20 f2_19 rfl rfl ?_
                    refine zw_dup 21 f2_20 rfl rfl ?_
                    refine zw_getI 3 24 f2_21 rfl g2_15_0 (hb_44 _ _ _ _) rfl rfl ?_
                    refine zw_iconst 1 25 f2_24 rfl (by decide +kernel) ?_
                    refine zw_iadd 4 26 f2_25 rfl (by decide +kernel) ?_
                    refine zw_put _ 29 f2_26 rfl g2_15_0 (hb_44 _ _ _ _) rfl (Nat.le_of_ble_eq_true rfl) (by decide +kernel) (hi_44_4 _ _ _ _ _) ?_
                    refine zw_vreturn f2_29 r2 u2 ⟨rfl, ?_⟩
                    refine zw_aload_n 10 f38_9 rfl rfl ?_
                    refine zw_iload_n 11 f38_10 rfl rfl ?_
                    refine zw_virtual_i 14 0 0 [.ref 48, .int (c * 2)] [(0, .ref 48), (1, .int (c * 2))] f38_11 rfl n38_23 k38_23_6 rfl (hb_48 _ _ _ _) (by decide +kernel) (Nat.le_of_ble_eq_true rfl) rfl rfl (by decide +kernel) (by decide +kernel) rfl (Nat.le_of_ble_eq_true rfl) rfl ?_
                    refine zw_aload_n 1 f37_0 rfl rfl ?_
                    refine zw_getfield 4 f37_1 rfl g37_7_6 (hb_48 _ _ _ _) rfl ?_
                    refine zw_bipush 10 6 f37_4 rfl (by decide +kernel) ?_
                    refine zw_virtual_v 9 0 0 [.ref 44, .int 10] [(0, .ref 44), (1, .int 10)] f37_6 rfl n37_13 k37_13_0 rfl (hb_44 _ _ _ _) (by decide +kernel) (Nat.le_of_ble_eq_true rfl) rfl rfl (by decide +kernel) (by decide +kernel) rfl (Nat.le_of_ble_eq_true rfl) rfl ?_
                    refine zw_aload_n 1 f2_0 rfl rfl ?_
                    refine zw_getI 4 4 f2_1 rfl g2_15_0 (hb_44 _ _ _ _) rfl rfl ?_
                    refine zw_bipush 50 6 f2_4 rfl (by decide +kernel) ?_
                    refine zw_ic_ge_f 9 29 f2_6 (by decide +kernel) rfl (by decide +kernel) ?_
                    refine zw_aload_n 10 f2_9 rfl rfl ?_
                    refine zw_getfield 13 f2_10 rfl g2_9_0 (hb_44 _ _ _ _) rfl ?_
                    refine zw_aload_n 14 f2_13 rfl rfl ?_
                    refine zw_getI 4 17 f2_14 rfl g2_15_0 (hb_44 _ _ _ _) rfl rfl ?_
                    refine zw_iload_n 18 f2_17 rfl rfl ?_
                    refine zw_ast 4 _ 19 f2_18 rfl (hb_45 _ _ _ _) (by decide +kernel) (by decide +kernel) (by decide +kernel) (ha_45 _ _ _ _ _) ?_
                    refine zw_aload_n 20 f2_19 rfl rfl ?_
                    refine zw_dup 21 f2_20 rfl rfl ?_
                    refine zw_getI 4 24 f2_21 rfl g2_15_0 (hb_44 _ _ _ _) rfl rfl ?_
                    refine zw_iconst 1 25 f2_24 rfl (by decide +kernel) ?_
                    refine zw_iadd 5 26 f2_25 rfl (by decide +kernel) ?_
                    refine zw_put _ 29 f2_26 rfl g2_15_0 (hb_44 _ _ _ _) rfl (Nat.le_of_ble_eq_true rfl) (by decide +kernel) (hi_44_4 _ _ _ _ _) ?_
                    refine zw_vreturn f2_29 r2 u2 ⟨rfl, ?_⟩
                    refine zw_iload_n 10 f37_9 rfl rfl ?_
                    refine zw_aload_n 11 f37_10 rfl rfl ?_
                    refine zw_getfield 14 f37_11 rfl g37_7_6 (hb_48 _ _ _ _) rfl ?_
                    refine zw_getI (A 3 a.toNatClampNeg) 17 f37_14 rfl g37_19_0 (hb_44 _ _ _ _) rfl rfl ?_
                    refine zw_iadd ((c * 2) + (A 3 a.toNatClampNeg)) 18 f37_17 rfl rfl ?_
                    refine zw_ireturn f37_18 r37 u37 ⟨_, rfl, ?_⟩
                    refine zw_iconst 3 15 f38_14 rfl (by decide +kernel) ?_
                    refine zw_imul (((c * 2) + (A 3 a.toNatClampNeg)) * 3) 16 f38_15 rfl rfl ?_
                    refine zw_ireturn f38_16 r38 u38 ⟨_, rfl, ?_⟩
                    refine zw_aload_n 15 f32_14 rfl rfl ?_
                    refine zw_getfield 18 f32_15 rfl g32_7_6 (hb_48 _ _ _ _) rfl ?_
                    refine zw_getI (A 4 a.toNatClampNeg) 21 f32_18 rfl g32_23_0 (hb_44 _ _ _ _) rfl rfl ?_
                    refine zw_iadd ((((c * 2) + (A 3 a.toNatClampNeg)) * 3) + (A 4 a.toNatClampNeg)) 22 f32_21 rfl rfl ?_
                    refine zw_ireturn f32_22 r32 u32 ⟨_, rfl, ?_⟩
                    refine zw_aload_n 15 f40_14 rfl rfl ?_
                    refine zw_iload_n 16 f40_15 rfl rfl ?_
                    refine zw_virtual_i 19 0 0 [.ref 48, .int (c * 2)] [(0, .ref 48), (1, .int (c * 2))] f40_16 rfl n40_30 k40_30_6 rfl (hb_48 _ _ _ _) (by decide +kernel) (Nat.le_of_ble_eq_true rfl) rfl rfl (by decide +kernel) (by decide +kernel) rfl (Nat.le_of_ble_eq_true rfl) rfl ?_
                    refine zw_aload_n 1 f39_0 rfl rfl ?_
                    refine zw_getfield 4 f39_1 rfl g39_7_6 (hb_48 _ _ _ _) rfl ?_
                    refine zw_bipush 12 6 f39_4 rfl (by decide +kernel) ?_
                    refine zw_virtual_v 9 0 0 [.ref 44, .int 12] [(0, .ref 44), (1, .int 12)] f39_6 rfl n39_13 k39_13_0 rfl (hb_44 _ _ _ _) (by decide +kernel) (Nat.le_of_ble_eq_true rfl) rfl rfl (by decide +kernel) (by decide +kernel) rfl (Nat.le_of_ble_eq_true rfl) rfl ?_
                    refine zw_aload_n 1 f2_0 rfl rfl ?_
                    refine zw_getI 5 4 f2_1 rfl g2_15_0 (hb_44 _ _ _ _) rfl rfl ?_
                    refine zw_bipush 50 6 f2_4 rfl (by decide +kernel) ?_
                    refine zw_ic_ge_f 9 29 f2_6 (by decide +kernel) rfl (by decide +kernel) ?_
                    refine zw_aload_n 10 f2_9 rfl rfl ?_
                    refine zw_getfield 13 f2_10 rfl g2_9_0 (hb_44 _ _ _ _) rfl ?_
                    refine zw_aload_n 14 f2_13 rfl rfl ?_
                    refine zw_getI 5 17 f2_14 rfl g2_15_0 (hb_44 _ _ _ _) rfl rfl ?_
                    refine zw_iload_n 18 f2_17 rfl rfl ?_
                    refine zw_ast 5 _ 19 f2_18 rfl (hb_45 _ _ _ _) (by decide +kernel) (by decide +kernel) (by decide +kernel) (ha_45 _ _ _ _ _) ?_
                    refine zw_aload_n 20 f2_19 rfl rfl ?_
                    refine zw_dup 21 f2_20 rfl rfl ?_
                    refine zw_getI 5 24 f2_21 rfl g2_15_0 (hb_44 _ _ _ _) rfl rfl ?_
                    refine zw_iconst 1 25 f2_24 rfl (by decide +kernel) ?_
                    refine zw_iadd 6 26 f2_25 rfl (by decide +kernel) ?_
                    refine zw_put _ 29 f2_26 rfl g2_15_0 (hb_44 _ _ _ _) rfl (Nat.le_of_ble_eq_true rfl) (by decide +kernel) (hi_44_4 _ _ _ _ _) ?_
                    refine zw_vreturn f2_29 r2 u2 ⟨rfl, ?_⟩
                    refine zw_iload_n 10 f39_9 rfl rfl ?_
                    refine zw_aload_n 11 f39_10 rfl rfl ?_
                    refine zw_getfield 14 f39_11 rfl g39_7_6 (hb_48 _ _ _ _) rfl ?_
                    refine zw_getI (A 3 a.toNatClampNeg) 17 f39_14 rfl g39_19_0 (hb_44 _ _ _ _) rfl rfl ?_
                    refine zw_ixor ((c * 2) ^^^ (A 3 a.toNatClampNeg)) 18 f39_17 rfl rfl ?_
                    refine zw_ireturn f39_18 r39 u39 ⟨_, rfl, ?_⟩
                    refine zw_isub (((((c * 2) + (A 3 a.toNatClampNeg)) * 3) + (A 4 a.toNatClampNeg)) - ((c * 2) ^^^ (A 3 a.toNatClampNeg))) 20 f40_19 rfl rfl ?_
                    refine zw_ireturn f40_20 r40 u40 ⟨_, rfl, ?_⟩
                    refine zw_ireturn f33_16 r33 u33 ⟨_, rfl, ?_⟩
                    refine zw_virtual_i 143 0 0 [.ref 0, .int (((((c * 2) + (A 3 a.toNatClampNeg)) * 3) + (A 4 a.toNatClampNeg)) - ((c * 2) ^^^ (A 3 a.toNatClampNeg)))] [(0, .ref 0), (1, .int (((((c * 2) + (A 3 a.toNatClampNeg)) * 3) + (A 4 a.toNatClampNeg)) - ((c * 2) ^^^ (A 3 a.toNatClampNeg))))] f101_140 rfl n101_181 k101_181_11 rfl (hb_0 _ _ _ _) (by decide +kernel) (Nat.le_of_ble_eq_true rfl) rfl rfl (by decide +kernel) (by decide +kernel) rfl (Nat.le_of_ble_eq_true rfl) rfl ?_
                    refine zw_aload_n 1 f106_0 rfl rfl ?_
                    refine zw_iconst 0 2 f106_1 rfl (by decide +kernel) ?_
                    refine zw_put _ 5 f106_2 rfl g106_70_11 (hb_0 _ _ _ _) rfl (Nat.le_of_ble_eq_true rfl) (by decide +kernel) (hi_0_7 _ _ _ _ _) ?_
                    refine zw_iload_n 6 f106_5 rfl rfl ?_
                    refine zw_ireturn f106_6 r106 u106 ⟨_, rfl, ?_⟩
                    refine zw_ireturn f101_143 r101 u101 ?_
                    exact ⟨_, _, _, _, rfl, (KP.i rfl (KP.i rfl (KP.a rfl (KP.i rfl (KP.a rfl (KP.i rfl (KP.a rfl (KP.i rfl (KP.a rfl (KP.i rfl (KP.a rfl (KP.i rfl (KP.a rfl (KP.i rfl (KP.i rfl (KP.i rfl (KP.i rfl (KP.i rfl KP.rf)))))))))))))))))), ⟨⟨hI.1, hI.2.1, 6, by omega, rfl⟩, PE.of10 rfl rfl rfl rfl rfl rfl rfl rfl rfl rfl⟩, _, rfl⟩
                  · rcases (show hs9k = 0 ∨ hs9k = 1 ∨ hs9k = 2 by omega) with rfl | rfl | rfl
                    · refine zw_table_k 25 100 f101_75 hs9e (by decide +kernel) (by decide +kernel) (by decide +kernel) ?_
                      refine zw_aload_n 101 f101_100 rfl (zl1_ne rfl rfl (zl1_ne rfl rfl rfl)) ?_
                      refine zw_aload 103 f101_101 rfl zl1_eq ?_
                      refine zw_iload_n 104 f101_103 rfl (zl1_ne rfl rfl (zl1_ne rfl rfl rfl)) ?_
                      refine zw_virtual_i 107 0 0 [.ref 48, .int c] [(0, .ref 48), (1, .int c)] f101_104 rfl n101_289 k101_289_6 rfl (hb_48 _ _ _ _) (by decide +kernel) (Nat.le_of_ble_eq_true rfl) rfl rfl (by decide +kernel) (by decide +kernel) rfl (Nat.le_of_ble_eq_true rfl) rfl ?_
                      refine zw_aload_n 1 f37_0 rfl rfl ?_
                      refine zw_getfield 4 f37_1 rfl g37_7_6 (hb_48 _ _ _ _) rfl ?_
                      refine zw_bipush 10 6 f37_4 rfl (by decide +kernel) ?_
                      refine zw_virtual_v 9 0 0 [.ref 44, .int 10] [(0, .ref 44), (1, .int 10)] f37_6 rfl n37_13 k37_13_0 rfl (hb_44 _ _ _ _) (by decide +kernel) (Nat.le_of_ble_eq_true rfl) rfl rfl (by decide +kernel) (by decide +kernel) rfl (Nat.le_of_ble_eq_true rfl) rfl ?_
                      refine zw_aload_n 1 f2_0 rfl rfl ?_
                      refine zw_getI 0 4 f2_1 rfl g2_15_0 (hb_44 _ _ _ _) rfl rfl ?_
                      refine zw_bipush 50 6 f2_4 rfl (by decide +kernel) ?_
                      refine zw_ic_ge_f 9 29 f2_6 (by decide +kernel) rfl (by decide +kernel) ?_
                      refine zw_aload_n 10 f2_9 rfl rfl ?_
                      refine zw_getfield 13 f2_10 rfl g2_9_0 (hb_44 _ _ _ _) rfl ?_
                      refine zw_aload_n 14 f2_13 rfl rfl ?_
                      refine zw_getI 0 17 f2_14 rfl g2_15_0 (hb_44 _ _ _ _) rfl rfl ?_
                      refine zw_iload_n 18 f2_17 rfl rfl ?_
                      refine zw_ast 0 _ 19 f2_18 rfl (hb_45 _ _ _ _) (by decide +kernel) (by decide +kernel) (by decide +kernel) (ha_45 _ _ _ _ _) ?_
                      refine zw_aload_n 20 f2_19 rfl rfl ?_
                      refine zw_dup 21 f2_20 rfl rfl ?_
                      refine zw_getI 0 24 f2_21 rfl g2_15_0 (hb_44 _ _ _ _) rfl rfl ?_
                      refine zw_iconst 1 25 f2_24 rfl (by decide +kernel) ?_
                      refine zw_iadd 1 26 f2_25 rfl (by decide +kernel) ?_
                      refine zw_put _ 29 f2_26 rfl g2_15_0 (hb_44 _ _ _ _) rfl (Nat.le_of_ble_eq_true rfl) (by decide +kernel) (hi_44_4 _ _ _ _ _) ?_
                      refine zw_vreturn f2_29 r2 u2 ⟨rfl, ?_⟩
                      refine zw_iload_n 10 f37_9 rfl rfl ?_
                      refine zw_aload_n 11 f37_10 rfl rfl ?_
                      refine zw_getfield 14 f37_11 rfl g37_7_6 (hb_48 _ _ _ _) rfl ?_
                      refine zw_getI (A 3 a.toNatClampNeg) 17 f37_14 rfl g37_19_0 (hb_44 _ _ _ _) rfl rfl ?_
                      refine zw_iadd (c + (A 3 a.toNatClampNeg)) 18 f37_17 rfl rfl ?_
                      refine zw_ireturn f37_18 r37 u37 ⟨_, rfl, ?_⟩
                      refine zw_virtual_i 110 0 0 [.ref 0, .int (c + (A 3 a.toNatClampNeg))] [(0, .ref 0), (1, .int (c + (A 3 a.toNatClampNeg)))] f101_107 rfl n101_181 k101_181_11 rfl (hb_0 _ _ _ _) (by decide +kernel) (Nat.le_of_ble_eq_true rfl) rfl rfl (by decide +kernel) (by decide +kernel) rfl (Nat.le_of_ble_eq_true rfl) rfl ?_
                      refine zw_aload_n 1 f106_0 rfl rfl ?_
                      refine zw_iconst 0 2 f106_1 rfl (by decide +kernel) ?_
                      refine zw_put _ 5 f106_2 rfl g106_70_11 (hb_0 _ _ _ _) rfl (Nat.le_of_ble_eq_true rfl) (by decide +kernel) (hi_0_7 _ _ _ _ _) ?_
                      refine zw_iload_n 6 f106_5 rfl rfl ?_
                      refine zw_ireturn f106_6 r106 u106 ⟨_, rfl, ?_⟩
                      refine zw_ireturn f101_110 r101 u101 ?_
                      exact ⟨_, _, _, _, rfl, (KP.i rfl (KP.i rfl (KP.a rfl (KP.i rfl (KP.i rfl (KP.i rfl (KP.i rfl (KP.i rfl KP.rf)))))))), ⟨⟨hI.1, hI.2.1, 1, by omega, rfl⟩, PE.of10 rfl rfl rfl rfl rfl rfl rfl rfl rfl rfl⟩, _, rfl⟩
                    · refine zw_table_k 36 111 f101_75 hs9e (by decide +kernel) (by decide +kernel) (by decide +kernel) ?_
                      refine zw_aload_n 112 f101_111 rfl (zl1_ne rfl rfl (zl1_ne rfl rfl rfl)) ?_
                      refine zw_aload 114 f101_112 rfl zl1_eq ?_
                      refine zw_iload_n 115 f101_114 rfl (zl1_ne rfl rfl (zl1_ne rfl rfl rfl)) ?_
                      refine zw_virtual_i 118 0 0 [.ref 48, .int c] [(0, .ref 48), (1, .int c)] f101_115 rfl n101_292 k101_292_6 rfl (hb_48 _ _ _ _) (by decide +kernel) (Nat.le_of_ble_eq_true rfl) rfl rfl (by decide +kernel) (by decide +kernel) rfl (Nat.le_of_ble_eq_true rfl) rfl ?_
                      refine zw_aload_n 1 f32_0 rfl rfl ?_
                      refine zw_getfield 4 f32_1 rfl g32_7_6 (hb_48 _ _ _ _) rfl ?_
                      refine zw_bipush 20 6 f32_4 rfl (by decide +kernel) ?_
                      refine zw_virtual_v 9 0 0 [.ref 44, .int 20] [(0, .ref 44), (1, .int 20)] f32_6 rfl n32_13 k32_13_0 rfl (hb_44 _ _ _ _) (by decide +kernel) (Nat.le_of_ble_eq_true rfl) rfl rfl (by decide +kernel) (by decide +kernel) rfl (Nat.le_of_ble_eq_true rfl) rfl ?_
                      refine zw_aload_n 1 f2_0 rfl rfl ?_
                      refine zw_getI 0 4 f2_1 rfl g2_15_0 (hb_44 _ _ _ _) rfl rfl ?_
                      refine zw_bipush 50 6 f2_4 rfl (by decide +kernel) ?_
                      refine zw_ic_ge_f 9 29 f2_6 (by decide +kernel) rfl (by decide +kernel) ?_
                      refine zw_aload_n 10 f2_9 rfl rfl ?_
                      refine zw_getfield 13 f2_10 rfl g2_9_0 (hb_44 _ _ _ _) rfl ?_
                      refine zw_aload_n 14 f2_13 rfl rfl ?_
                      refine zw_getI 0 17 f2_14 rfl g2_15_0 (hb_44 _ _ _ _) rfl rfl ?_
                      refine zw_iload_n 18 f2_17 rfl rfl ?_
                      refine zw_ast 0 _ 19 f2_18 rfl (hb_45 _ _ _ _) (by decide +kernel) (by decide +kernel) (by decide +kernel) (ha_45 _ _ _ _ _) ?_
                      refine zw_aload_n 20 f2_19 rfl rfl ?_
                      refine zw_dup 21 f2_20 rfl rfl ?_
                      refine zw_getI 0 24 f2_21 rfl g2_15_0 (hb_44 _ _ _ _) rfl rfl ?_
                      refine zw_iconst 1 25 f2_24 rfl (by decide +kernel) ?_
                      refine zw_iadd 1 26 f2_25 rfl (by decide +kernel) ?_
                      refine zw_put _ 29 f2_26 rfl g2_15_0 (hb_44 _ _ _ _) rfl (Nat.le_of_ble_eq_true rfl) (by decide +kernel) (hi_44_4 _ _ _ _ _) ?_
                      refine zw_vreturn f2_29 r2 u2 ⟨rfl, ?_⟩
                      refine zw_aload_n 10 f32_9 rfl rfl ?_
                      refine zw_iload_n 11 f32_10 rfl rfl ?_
                      refine zw_super_i 14 0 0 [.ref 48, .int c] [(0, .ref 48), (1, .int c)] f32_11 rfl k32_19_99 k32_19_98 (by decide +kernel) rfl (hb_48 _ _ _ _) (by decide +kernel) (Nat.le_of_ble_eq_true rfl) rfl rfl (by decide +kernel) (by decide +kernel) rfl (Nat.le_of_ble_eq_true rfl) rfl ?_
                      refine zw_aload_n 1 f38_0 rfl rfl ?_
                      refine zw_getfield 4 f38_1 rfl g38_7_6 (hb_48 _ _ _ _) rfl ?_
                      refine zw_bipush 11 6 f38_4 rfl (by decide +kernel) ?_
                      refine zw_virtual_v 9 0 0 [.ref 44, .int 11] [(0, .ref 44), (1, .int 11)] f38_6 rfl n38_13 k38_13_0 rfl (hb_44 _ _ _ _) (by decide +kernel) (Nat.le_of_ble_eq_true rfl) rfl rfl (by decide +kernel) (by decide +kernel) rfl (Nat.le_of_ble_eq_true rfl) rfl ?_
                      refine zw_aload_n 1 f2_0 rfl rfl ?_
                      refine zw_getI 1 4 f2_1 rfl g2_15_0 (hb_44 _ _ _ _) rfl rfl ?_
                      refine zw_bipush 50 6 f2_4 rfl (by decide +kernel) ?_
                      refine zw_ic_ge_f 9 29 f2_6 (by decide +kernel) rfl (by decide +kernel) ?_
                      refine zw_aload_n 10 f2_9 rfl rfl ?_
                      refine zw_getfield 13 f2_10 rfl g2_9_0 (hb_44 _ _ _ _) rfl ?_
                      refine zw_aload_n 14 f2_13 rfl rfl ?_
                      refine zw_getI 1 17 f2_14 rfl g2_15_0 (hb_44 _ _ _ _) rfl rfl ?_
                      refine zw_iload_n 18 f2_17 rfl rfl ?_
                      refine zw_ast 1 _ 19 f2_18 rfl (hb_45 _ _ _ _) (by decide +kernel) (by decide +kernel) (by decide +kernel) (ha_45 _ _ _ _ _) ?_
                      refine zw_aload_n 20 f2_19 rfl rfl ?_
                      refine zw_dup 21 f2_20 rfl rfl ?_
                      refine zw_getI 1 24 f2_21 rfl g2_15_0 (hb_44 _ _ _ _) rfl rfl ?_
                      refine zw_iconst 1 25 f2_24 rfl (by decide +kernel) ?_
                      refine zw_iadd 2 26 f2_25 rfl (by decide +kernel) ?_
                      refine zw_put _ 29 f2_26 rfl g2_15_0 (hb_44 _ _ _ _) rfl (Nat.le_of_ble_eq_true rfl) (by decide +kernel) (hi_44_4 _ _ _ _ _) ?_
                      refine zw_vreturn f2_29 r2 u2 ⟨rfl, ?_⟩
                      refine zw_aload_n 10 f38_9 rfl rfl ?_
                      refine zw_iload_n 11 f38_10 rfl rfl ?_
                      refine zw_virtual_i 14 0 0 [.ref 48, .int c] [(0, .ref 48), (1, .int c)] f38_11 rfl n38_23 k38_23_6 rfl (hb_48 _ _ _ _) (by decide +kernel) (Nat.le_of_ble_eq_true rfl) rfl rfl (by decide +kernel) (by decide +kernel) rfl (Nat.le_of_ble_eq_true rfl) rfl ?_
                      refine zw_aload_n 1 f37_0 rfl rfl ?_
                      refine zw_getfield 4 f37_1 rfl g37_7_6 (hb_48 _ _ _ _) rfl ?_
                      refine zw_bipush 10 6 f37_4 rfl (by decide +kernel) ?_
                      refine zw_virtual_v 9 0 0 [.ref 44, .int 10] [(0, .ref 44), (1, .int 10)] f37_6 rfl n37_13 k37_13_0 rfl (hb_44 _ _ _ _) (by decide +kernel) (Nat.le_of_ble_eq_true rfl) rfl rfl (by decide +kernel) (by decide +kernel) rfl (Nat.le_of_ble_eq_true rfl) rfl ?_
                      refine zw_aload_n 1 f2_0 rfl rfl ?_
                      refine zw_getI 2 4 f2_1 rfl g2_15_0 (hb_44 _ _ _ _) rfl rfl ?_
                      refine zw_bipush 50 6 f2_4 rfl (by decide +kernel) ?_
                      refine zw_ic_ge_f 9 29 f2_6 (by decide +kernel) rfl (by decide +kernel) ?_
                      refine zw_aload_n 10 f2_9 rfl rfl ?_
                      refine zw_getfield 13 f2_10 rfl g2_9_0 (hb_44 _ _ _ _) rfl ?_
                      refine zw_aload_n 14 f2_13 rfl rfl ?_
                      refine zw_getI 2 17 f2_14 rfl g2_15_0 (hb_44 _ _ _ _) rfl rfl ?_
                      refine zw_iload_n 18 f2_17 rfl rfl ?_
                      refine zw_ast 2 _ 19 f2_18 rfl (hb_45 _ _ _ _) (by decide +kernel) (by decide +kernel) (by decide +kernel) (ha_45 _ _ _ _ _) ?_
                      refine zw_aload_n 20 f2_19 rfl rfl ?_
                      refine zw_dup 21 f2_20 rfl rfl ?_
                      refine zw_getI 2 24 f2_21 rfl g2_15_0 (hb_44 _ _ _ _) rfl rfl ?_
                      refine zw_iconst 1 25 f2_24 rfl (by decide +kernel) ?_
                      refine zw_iadd 3 26 f2_25 rfl (by decide +kernel) ?_
                      refine zw_put _ 29 f2_26 rfl g2_15_0 (hb_44 _ _ _ _) rfl (Nat.le_of_ble_eq_true rfl) (by decide +kernel) (hi_44_4 _ _ _ _ _) ?_
                      refine zw_vreturn f2_29 r2 u2 ⟨rfl, ?_⟩
                      refine zw_iload_n 10 f37_9 rfl rfl ?_
                      refine zw_aload_n 11 f37_10 rfl rfl ?_
                      refine zw_getfield 14 f37_11 rfl g37_7_6 (hb_48 _ _ _ _) rfl ?_
                      refine zw_getI (A 3 a.toNatClampNeg) 17 f37_14 rfl g37_19_0 (hb_44 _ _ _ _) rfl rfl ?_
                      refine zw_iadd (c + (A 3 a.toNatClampNeg)) 18 f37_17 rfl rfl ?_
                      refine zw_ireturn f37_18 r37 u37 ⟨_, rfl, ?_⟩
                      refine zw_iconst 3 15 f38_14 rfl (by decide +kernel) ?_
                      refine zw_imul ((c + (A 3 a.toNatClampNeg)) * 3) 16 f38_15 rfl rfl ?_
                      refine zw_ireturn f38_16 r38 u38 ⟨_, rfl, ?_⟩
                      refine zw_aload_n 15 f32_14 rfl rfl ?_
                      refine zw_getfield 18 f32_15 rfl g32_7_6 (hb_48 _ _ _ _) rfl ?_
                      refine zw_getI (A 4 a.toNatClampNeg) 21 f32_18 rfl g32_23_0 (hb_44 _ _ _ _) rfl rfl ?_
                      refine zw_iadd (((c + (A 3 a.toNatClampNeg)) * 3) + (A 4 a.toNatClampNeg)) 22 f32_21 rfl rfl ?_
                      refine zw_ireturn f32_22 r32 u32 ⟨_, rfl, ?_⟩
                      refine zw_virtual_i 121 0 0 [.ref 0, .int (((c + (A 3 a.toNatClampNeg)) * 3) + (A 4 a.toNatClampNeg))] [(0, .ref 0), (1, .int (((c + (A 3 a.toNatClampNeg)) * 3) + (A 4 a.toNatClampNeg)))] f101_118 rfl n101_181 k101_181_11 rfl (hb_0 _ _ _ _) (by decide +kernel) (Nat.le_of_ble_eq_true rfl) rfl rfl (by decide +kernel) (by decide +kernel) rfl (Nat.le_of_ble_eq_true rfl) rfl ?_
                      refine zw_aload_n 1 f106_0 rfl rfl ?_
                      refine zw_iconst 0 2 f106_1 rfl (by decide +kernel) ?_
                      refine zw_put _ 5 f106_2 rfl g106_70_11 (hb_0 _ _ _ _) rfl (Nat.le_of_ble_eq_true rfl) (by decide +kernel) (hi_0_7 _ _ _ _ _) ?_
                      refine zw_iload_n 6 f106_5 rfl rfl ?_
                      refine zw_ireturn f106_6 r106 u106 ⟨_, rfl, ?_⟩
                      refine zw_ireturn f101_121 r101 u101 ?_
                      exact ⟨_, _, _, _, rfl, (KP.i rfl (KP.i rfl (KP.a rfl (KP.i rfl (KP.a rfl (KP.i rfl (KP.a rfl (KP.i rfl (KP.i rfl (KP.i rfl (KP.i rfl (KP.i rfl KP.rf)))))))))))), ⟨⟨hI.1, hI.2.1, 3, by omega, rfl⟩, PE.of10 rfl rfl rfl rfl rfl rfl rfl rfl rfl rfl⟩, _, rfl⟩
                    · refine zw_table_k 47 122 f101_75 hs9e (by decide +kernel) (by decide +kernel) (by decide +kernel) ?_
                      refine zw_aload_n 123 f101_122 rfl (zl1_ne rfl rfl (zl1_ne rfl rfl rfl)) ?_
                      refine zw_aload 125 f101_123 rfl zl1_eq ?_
                      refine zw_iload_n 126 f101_125 rfl (zl1_ne rfl rfl (zl1_ne rfl rfl rfl)) ?_
                      refine zw_virtual_i 129 0 0 [.ref 48, .int c] [(0, .ref 48), (1, .int c)] f101_126 rfl n101_295 k101_295_6 rfl (hb_48 _ _ _ _) (by decide +kernel) (Nat.le_of_ble_eq_true rfl) rfl rfl (by decide +kernel) (by decide +kernel) rfl (Nat.le_of_ble_eq_true rfl) rfl ?_
                      refine zw_aload_n 1 f39_0 rfl rfl ?_
                      refine zw_getfield 4 f39_1 rfl g39_7_6 (hb_48 _ _ _ _) rfl ?_
                      refine zw_bipush 12 6 f39_4 rfl (by decide +kernel) ?_
                      refine zw_virtual_v 9 0 0 [.ref 44, .int 12] [(0, .ref 44), (1, .int 12)] f39_6 rfl n39_13 k39_13_0 rfl (hb_44 _ _ _ _) (by decide +kernel) (Nat.le_of_ble_eq_true rfl) rfl rfl (by decide +kernel) (by decide +kernel) rfl (Nat.le_of_ble_eq_true rfl) rfl ?_
                      refine zw_aload_n 1 f2_0 rfl rfl ?_
                      refine zw_getI 0 4 f2_1 rfl g2_15_0 (hb_44 _ _ _ _) rfl rfl ?_
                      refine zw_bipush 50 6 f2_4 rfl (by decide +kernel) ?_
                      refine zw_ic_ge_f 9 29 f2_6 (by decide +kernel) rfl (by decide +kernel) ?_
                      refine zw_aload_n 10 f2_9 rfl rfl ?_
                      refine zw_getfield 13 f2_10 rfl g2_9_0 (hb_44 _ _ _ _) rfl ?_
                      refine zw_aload_n 14 f2_13 rfl rfl ?_
                      refine zw_getI 0 17 f2_14 rfl g2_15_0 (hb_44 _ _ _ _) rfl rfl ?_
                      refine zw_iload_n 18 f2_17 rfl rfl ?_
                      refine zw_ast 0 _ 19 f2_18 rfl (hb_45 _ _ _ _) (by decide +kernel) (by decide +kernel) (by decide +kernel) (ha_45 _ _ _ _ _) ?_
                      refine zw_aload_n 20 f2_19 rfl rfl ?_
                      refine zw_dup 21 f2_20 rfl rfl ?_
                      refine zw_getI 0 24 f2_21 rfl g2_15_0 (hb_44 _ _ _ _) rfl rfl ?_
                      refine zw_iconst 1 25 f2_24 rfl (by decide +kernel) ?_
                      refine zw_iadd 1 26 f2_25 rfl (by decide +kernel) ?_
                      refine zw_put _ 29 f2_26 rfl g2_15_0 (hb_44 _ _ _ _) rfl (Nat.le_of_ble_eq_true rfl) (by decide +kernel) (hi_44_4 _ _ _ _ _) ?_
                      refine zw_vreturn f2_29 r2 u2 ⟨rfl, ?_⟩
                      refine zw_iload_n 10 f39_9 rfl rfl ?_
                      refine zw_aload_n 11 f39_10 rfl rfl ?_
                      refine zw_getfield 14 f39_11 rfl g39_7_6 (hb_48 _ _ _ _) rfl ?_
                      refine zw_getI (A 3 a.toNatClampNeg) 17 f39_14 rfl g39_19_0 (hb_44 _ _ _ _) rfl rfl ?_
                      refine zw_ixor (c ^^^ (A 3 a.toNatClampNeg)) 18 f39_17 rfl rfl ?_
                      refine zw_ireturn f39_18 r39 u39 ⟨_, rfl, ?_⟩
                      refine zw_virtual_i 132 0 0 [.ref 0, .int (c ^^^ (A 3 a.toNatClampNeg))] [(0, .ref 0), (1, .int (c ^^^ (A 3 a.toNatClampNeg)))] f101_129 rfl n101_181 k101_181_11 rfl (hb_0 _ _ _ _) (by decide +kernel) (Nat.le_of_ble_eq_true rfl) rfl rfl (by decide +kernel) (by decide +kernel) rfl (Nat.le_of_ble_eq_true rfl) rfl ?_
                      refine zw_aload_n 1 f106_0 rfl rfl ?_
                      refine zw_iconst 0 2 f106_1 rfl (by decide +kernel) ?_
                      refine zw_put _ 5 f106_2 rfl g106_70_11 (hb_0 _ _ _ _) rfl (Nat.le_of_ble_eq_true rfl) (by decide +kernel) (hi_0_7 _ _ _ _ _) ?_
                      refine zw_iload_n 6 f106_5 rfl rfl ?_
                      refine zw_ireturn f106_6 r106 u106 ⟨_, rfl, ?_⟩
                      refine zw_ireturn f101_132 r101 u101 ?_
                      exact ⟨_, _, _, _, rfl, (KP.i rfl (KP.i rfl (KP.a rfl (KP.i rfl (KP.i rfl (KP.i rfl (KP.i rfl (KP.i rfl KP.rf)))))))), ⟨⟨hI.1, hI.2.1, 1, by omega, rfl⟩, PE.of10 rfl rfl rfl rfl rfl rfl rfl rfl rfl rfl⟩, _, rfl⟩
                · refine zw_aaload 2 42 f101_41 rfl (hb_46 _ _ _ _) (by rw [hk]; decide) (by rw [hk]; decide) (by decide) rfl ?_
                  refine zw_astore _ 44 f101_42 rfl (by decide +kernel) rfl ?_
                  refine zw_aload 46 f101_44 rfl zl1_eq ?_
                  refine zw_ifnonnull 55 f101_46 (by decide +kernel) ?_
                  refine zw_aload_n 56 f101_55 rfl (zl1_ne rfl rfl (zl1_ne rfl rfl rfl)) ?_
                  refine zw_getfield 59 f101_56 rfl g101_45_11 (hb_0 _ _ _ _) rfl ?_
                  refine zw_aload_n 60 f101_59 rfl (zl1_ne rfl rfl (zl1_ne rfl rfl rfl)) ?_
                  refine zw_getfield 63 f101_60 rfl g101_10_11 (hb_0 _ _ _ _) rfl ?_
                  refine zw_aload_n 64 f101_63 rfl (zl1_ne rfl rfl (zl1_ne rfl rfl rfl)) ?_
                  refine zw_getfield 67 f101_64 rfl g101_21_11 (hb_0 _ _ _ _) rfl ?_
                  refine zw_getfield 70 f101_67 rfl g101_134_10 (hb_11 _ _ _ _) rfl ?_
                  refine zw_iload_n 71 f101_70 rfl (zl1_ne rfl rfl (zl1_ne rfl rfl rfl)) ?_
                  refine zw_virtual_v 74 0 0 [.ref 44, .ref 1, .ref 12, .int a] [(0, .ref 44), (1, .ref 1), (2, .ref 12), (3, .int a)] f101_71 rfl n101_285 k101_285_0 rfl (hb_44 _ _ _ _) (by decide +kernel) (Nat.le_of_ble_eq_true rfl) rfl rfl (by decide +kernel) (by decide +kernel) rfl (Nat.le_of_ble_eq_true rfl) rfl ?_
                  refine zw_aload_n 1 f1_0 rfl rfl ?_
                  refine zw_iconst 0 2 f1_1 rfl (by decide +kernel) ?_
                  refine zw_put _ 5 f1_2 rfl g1_15_0 (hb_44 _ _ _ _) rfl (Nat.le_of_ble_eq_true rfl) (by decide +kernel) (hi_44_4 _ _ _ _ _) ?_
                  refine zw_aload_n 6 f1_5 rfl rfl ?_
                  refine zw_iload_n 7 f1_6 rfl rfl ?_
                  refine zw_virtual_i 10 0 0 [.ref 1, .int a] [(0, .ref 1), (1, .int a)] f1_7 rfl n1_19 k1_19_4 rfl (hb_1 _ _ _ _) (by decide +kernel) (Nat.le_of_ble_eq_true rfl) rfl rfl (by decide +kernel) (by decide +kernel) rfl (Nat.le_of_ble_eq_true rfl) rfl ?_
                  refine zw_iload_n 1 f13_0 rfl rfl ?_
                  refine zw_if_lt_f 4 22 f13_1 (by decide +kernel) rfl hc1 ?_
                  refine zw_iload_n 5 f13_4 rfl rfl ?_
                  refine zw_aload_n 6 f13_5 rfl rfl ?_
                  refine zw_getI (nI nv) 9 f13_6 rfl g13_39_4 (hb_1 _ _ _ _) rfl hI.1.1.1 ?_
                  refine zw_ic_ge_f 12 22 f13_9 (by decide +kernel) rfl hc2 ?_
                  refine zw_iload_n 13 f13_12 rfl rfl ?_
                  refine zw_bipush 8 15 f13_13 rfl (by decide +kernel) ?_
                  refine zw_ic_ge_f 18 22 f13_15 (by decide +kernel) rfl hc3 ?_
                  refine zw_iconst 1 19 f13_18 rfl (by decide +kernel) ?_
                  refine zw_goto 23 f13_19 (by decide +kernel) ?_
                  refine zw_zreturn f13_23 r13 u13 (by decide +kernel) ⟨_, rfl, ?_⟩
                  refine zw_if_eq_f 13 53 f1_10 (by decide +kernel) rfl (by decide +kernel) ?_
                  refine zw_aload_n 14 f1_13 rfl rfl ?_
                  refine zw_aload_n 15 f1_14 rfl rfl ?_
                  refine zw_getfield 18 f1_15 rfl g1_25_4 (hb_1 _ _ _ _) rfl ?_
                  refine zw_iload_n 19 f1_18 rfl rfl ?_
                  refine zw_iaload a.toNatClampNeg (A 3 a.toNatClampNeg) 20 f1_19 rfl (hb_3 _ _ _ _) rfl hc1 (zix (by decide) hc1 hc3) rfl ?_
                  refine zw_put _ 23 f1_20 rfl g1_28_0 (hb_44 _ _ _ _) rfl (Nat.le_of_ble_eq_true rfl) (by decide +kernel) (hi_44_0 _ _ _ _ _) ?_
                  refine zw_aload_n 24 f1_23 rfl rfl ?_
                  refine zw_aload_n 25 f1_24 rfl rfl ?_
                  refine zw_getfield 28 f1_25 rfl g1_31_4 (hb_1 _ _ _ _) rfl ?_
                  refine zw_iload_n 29 f1_28 rfl rfl ?_
                  refine zw_iaload a.toNatClampNeg (A 4 a.toNatClampNeg) 30 f1_29 rfl (hb_4 _ _ _ _) rfl hc1 (zix (by decide) hc1 hc3) rfl ?_
                  refine zw_put _ 33 f1_30 rfl g1_34_0 (hb_44 _ _ _ _) rfl (Nat.le_of_ble_eq_true rfl) (by decide +kernel) (hi_44_1 _ _ _ _ _) ?_
                  refine zw_aload_n 34 f1_33 rfl rfl ?_
                  refine zw_aload_n 35 f1_34 rfl rfl ?_
                  refine zw_getfield 38 f1_35 rfl g1_37_4 (hb_1 _ _ _ _) rfl ?_
                  refine zw_iload_n 39 f1_38 rfl rfl ?_
                  refine zw_iaload a.toNatClampNeg (A 5 a.toNatClampNeg) 40 f1_39 rfl (hb_5 _ _ _ _) rfl hc1 (zix (by decide) hc1 hc3) rfl ?_
                  refine zw_put _ 43 f1_40 rfl g1_40_0 (hb_44 _ _ _ _) rfl (Nat.le_of_ble_eq_true rfl) (by decide +kernel) (hi_44_2 _ _ _ _ _) ?_
                  refine zw_aload_n 44 f1_43 rfl rfl ?_
                  refine zw_aload_n 45 f1_44 rfl rfl ?_
                  refine zw_getfield 48 f1_45 rfl g1_43_9 (hb_12 _ _ _ _) rfl ?_
                  refine zw_iload_n 49 f1_48 rfl rfl ?_
                  refine zw_iaload a.toNatClampNeg (A 14 a.toNatClampNeg) 50 f1_49 rfl (hb_14 _ _ _ _) rfl hc1 (zix (by decide) hc1 hc3) rfl ?_
                  refine zw_put _ 53 f1_50 rfl g1_48_0 (hb_44 _ _ _ _) rfl (Nat.le_of_ble_eq_true rfl) (by decide +kernel) (hi_44_3 _ _ _ _ _) ?_
                  refine zw_vreturn f1_53 r1 u1 ⟨rfl, ?_⟩
                  refine zw_iload_n 75 f101_74 rfl (zl1_ne rfl rfl (zl1_ne rfl rfl rfl)) ?_
                  rcases zl_sw 2 (by decide) b with hs10 | ⟨hs10k, hs10l, hs10e⟩
                  · refine zw_table_o 133 f101_75 hs10 (by decide +kernel) ?_
                    refine zw_aload_n 134 f101_133 rfl (zl1_ne rfl rfl (zl1_ne rfl rfl rfl)) ?_
                    refine zw_aload 136 f101_134 rfl zl1_eq ?_
                    refine zw_iload_n 137 f101_136 rfl (zl1_ne rfl rfl (zl1_ne rfl rfl rfl)) ?_
                    refine zw_virtual_i 140 0 0 [.ref 49, .int c] [(0, .ref 49), (1, .int c)] f101_137 rfl n101_298 k101_298_7 rfl (hb_49 _ _ _ _) (by decide +kernel) (Nat.le_of_ble_eq_true rfl) rfl rfl (by decide +kernel) (by decide +kernel) rfl (Nat.le_of_ble_eq_true rfl) rfl ?_
                    refine zw_aload_n 1 f40_0 rfl rfl ?_
                    refine zw_getfield 4 f40_1 rfl g40_7_7 (hb_49 _ _ _ _) rfl ?_
                    refine zw_bipush 13 6 f40_4 rfl (by decide +kernel) ?_
                    refine zw_virtual_v 9 0 0 [.ref 44, .int 13] [(0, .ref 44), (1, .int 13)] f40_6 rfl n40_13 k40_13_0 rfl (hb_44 _ _ _ _) (by decide +kernel) (Nat.le_of_ble_eq_true rfl) rfl rfl (by decide +kernel) (by decide +kernel) rfl (Nat.le_of_ble_eq_true rfl) rfl ?_
                    refine zw_aload_n 1 f2_0 rfl rfl ?_
                    refine zw_getI 0 4 f2_1 rfl g2_15_0 (hb_44 _ _ _ _) rfl rfl ?_
                    refine zw_bipush 50 6 f2_4 rfl (by decide +kernel) ?_
                    refine zw_ic_ge_f 9 29 f2_6 (by decide +kernel) rfl (by decide +kernel) ?_
                    refine zw_aload_n 10 f2_9 rfl rfl ?_
                    refine zw_getfield 13 f2_10 rfl g2_9_0 (hb_44 _ _ _ _) rfl ?_
                    refine zw_aload_n 14 f2_13 rfl rfl ?_
                    refine zw_getI 0 17 f2_14 rfl g2_15_0 (hb_44 _ _ _ _) rfl rfl ?_
                    refine zw_iload_n 18 f2_17 rfl rfl ?_
                    refine zw_ast 0 _ 19 f2_18 rfl (hb_45 _ _ _ _) (by decide +kernel) (by decide +kernel) (by decide +kernel) (ha_45 _ _ _ _ _) ?_
                    refine zw_aload_n 20 f2_19 rfl rfl ?_
                    refine zw_dup 21 f2_20 rfl rfl ?_
                    refine zw_getI 0 24 f2_21 rfl g2_15_0 (hb_44 _ _ _ _) rfl rfl ?_
                    refine zw_iconst 1 25 f2_24 rfl (by decide +kernel) ?_
                    refine zw_iadd 1 26 f2_25 rfl (by decide +kernel) ?_
                    refine zw_put _ 29 f2_26 rfl g2_15_0 (hb_44 _ _ _ _) rfl (Nat.le_of_ble_eq_true rfl) (by decide +kernel) (hi_44_4 _ _ _ _ _) ?_
                    refine zw_vreturn f2_29 r2 u2 ⟨rfl, ?_⟩
                    refine zw_aload_n 10 f40_9 rfl rfl ?_
                    refine zw_iload_n 11 f40_10 rfl rfl ?_
                    refine zw_virtual_i 14 0 0 [.ref 49, .int c] [(0, .ref 49), (1, .int c)] f40_11 rfl n40_27 k40_27_7 rfl (hb_49 _ _ _ _) (by decide +kernel) (Nat.le_of_ble_eq_true rfl) rfl rfl (by decide +kernel) (by decide +kernel) rfl (Nat.le_of_ble_eq_true rfl) rfl ?_
                    refine zw_aload_n 1 f38_0 rfl rfl ?_
                    refine zw_getfield 4 f38_1 rfl g38_7_7 (hb_49 _ _ _ _) rfl ?_
                    refine zw_bipush 11 6 f38_4 rfl (by decide +kernel) ?_
                    refine zw_virtual_v 9 0 0 [.ref 44, .int 11] [(0, .ref 44), (1, .int 11)] f38_6 rfl n38_13 k38_13_0 rfl (hb_44 _ _ _ _) (by decide +kernel) (Nat.le_of_ble_eq_true rfl) rfl rfl (by decide +kernel) (by decide +kernel) rfl (Nat.le_of_ble_eq_true rfl) rfl ?_
                    refine zw_aload_n 1 f2_0 rfl rfl ?_
                    refine zw_getI 1 4 f2_1 rfl g2_15_0 (hb_44 _ _ _ _) rfl rfl ?_
                    refine zw_bipush 50 6 f2_4 rfl (by decide +kernel) ?_
                    refine zw_ic_ge_f 9 29 f2_6 (by decide +kernel) rfl (by decide +kernel) ?_
                    refine zw_aload_n 10 f2_9 rfl rfl ?_
                    refine zw_getfield 13 f2_10 rfl g2_9_0 (hb_44 _ _ _ _) rfl ?_
                    refine zw_aload_n 14 f2_13 rfl rfl ?_
                    refine zw_getI 1 17 f2_14 rfl g2_15_0 (hb_44 _ _ _ _) rfl rfl ?_
                    refine zw_iload_n 18 f2_17 rfl rfl ?_
                    refine zw_ast 1 _ 19 f2_18 rfl (hb_45 _ _ _ _) (by decide +kernel) (by decide +kernel) (by decide +kernel) (ha_45 _ _ _ _ _) ?_
                    refine zw_aload_n 20 f2_19 rfl rfl ?_
                    refine zw_dup 21 f2_20 rfl rfl ?_
                    refine zw_getI 1 24 f2_21 rfl g2_15_0 (hb_44 _ _ _ _) rfl rfl ?_
                    refine zw_iconst 1 25 f2_24 rfl (by decide +kernel) ?_
                    refine zw_iadd 2 26 f2_25 rfl (by decide +kernel) ?_
                    refine zw_put _ 29 f2_26 rfl g2_15_0 (hb_44 _ _ _ _) rfl (Nat.le_of_ble_eq_true rfl) (by decide +kernel) (hi_44_4 _ _ _ _ _) ?_
                    refine zw_vreturn f2_29 r2 u2 ⟨rfl, ?_⟩
                    refine zw_aload_n 10 f38_9 rfl rfl ?_
                    refine zw_iload_n 11 f38_10 rfl rfl ?_
                    refine zw_virtual_i 14 0 0 [.ref 49, .int c] [(0, .ref 49), (1, .int c)] f38_11 rfl n38_23 k38_23_7 rfl (hb_49 _ _ _ _) (by decide +kernel) (Nat.le_of_ble_eq_true rfl) rfl rfl (by decide +kernel) (by decide +kernel) rfl (Nat.le_of_ble_eq_true rfl) rfl ?_
                    refine zw_aload_n 1 f35_0 rfl rfl ?_
                    refine zw_getfield 4 f35_1 rfl g35_7_7 (hb_49 _ _ _ _) rfl ?_
                    refine zw_bipush 30 6 f35_4 rfl (by decide +kernel) ?_
                    refine zw_virtual_v 9 0 0 [.ref 44, .int 30] [(0, .ref 44), (1, .int 30)] f35_6 rfl n35_13 k35_13_0 rfl (hb_44 _ _ _ _) (by decide +kernel) (Nat.le_of_ble_eq_true rfl) rfl rfl (by decide +kernel) (by decide +kernel) rfl (Nat.le_of_ble_eq_true rfl) rfl ?_
                    refine zw_aload_n 1 f2_0 rfl rfl ?_
                    refine zw_getI 2 4 f2_1 rfl g2_15_0 (hb_44 _ _ _ _) rfl rfl ?_
                    refine zw_bipush 50 6 f2_4 rfl (by decide +kernel) ?_
                    refine zw_ic_ge_f 9 29 f2_6 (by decide +kernel) rfl (by decide +kernel) ?_
                    refine zw_aload_n 10 f2_9 rfl rfl ?_
                    refine zw_getfield 13 f2_10 rfl g2_9_0 (hb_44 _ _ _ _) rfl ?_
                    refine zw_aload_n 14 f2_13 rfl rfl ?_
                    refine zw_getI 2 17 f2_14 rfl g2_15_0 (hb_44 _ _ _ _) rfl rfl ?_
                    refine zw_iload_n 18 f2_17 rfl rfl ?_
                    refine zw_ast 2 _ 19 f2_18 rfl (hb_45 _ _ _ _) (by decide +kernel) (by decide +kernel) (by decide +kernel) (ha_45 _ _ _ _ _) ?_
                    refine zw_aload_n 20 f2_19 rfl rfl ?_
                    refine zw_dup 21 f2_20 rfl rfl ?_
                    refine zw_getI 2 24 f2_21 rfl g2_15_0 (hb_44 _ _ _ _) rfl rfl ?_
                    refine zw_iconst 1 25 f2_24 rfl (by decide +kernel) ?_
                    refine zw_iadd 3 26 f2_25 rfl (by decide +kernel) ?_
                    refine zw_put _ 29 f2_26 rfl g2_15_0 (hb_44 _ _ _ _) rfl (Nat.le_of_ble_eq_true rfl) (by decide +kernel) (hi_44_4 _ _ _ _ _) ?_
                    refine zw_vreturn f2_29 r2 u2 ⟨rfl, ?_⟩
                    refine zw_aload_n 10 f35_9 rfl rfl ?_
                    refine zw_iload_n 11 f35_10 rfl rfl ?_
                    refine zw_super_i 14 0 0 [.ref 49, .int c] [(0, .ref 49), (1, .int c)] f35_11 rfl k35_19_99 k35_19_98 (by decide +kernel) rfl (hb_49 _ _ _ _) (by decide +kernel) (Nat.le_of_ble_eq_true rfl) rfl rfl (by decide +kernel) (by decide +kernel) rfl (Nat.le_of_ble_eq_true rfl) rfl ?_
                    refine zw_aload_n 1 f37_0 rfl rfl ?_
                    refine zw_getfield 4 f37_1 rfl g37_7_7 (hb_49 _ _ _ _) rfl ?_
                    refine zw_bipush 10 6 f37_4 rfl (by decide +kernel) ?_
                    refine zw_virtual_v 9 0 0 [.ref 44, .int 10] [(0, .ref 44), (1, .int 10)] f37_6 rfl n37_13 k37_13_0 rfl (hb_44 _ _ _ _) (by decide +kernel) (Nat.le_of_ble_eq_true rfl) rfl rfl (by decide +kernel) (by decide +kernel) rfl (Nat.le_of_ble_eq_true rfl) rfl ?_
                    refine zw_aload_n 1 f2_0 rfl rfl ?_
                    refine zw_getI 3 4 f2_1 rfl g2_15_0 (hb_44 _ _ _ _) rfl rfl ?_
                    refine zw_bipush 50 6 f2_4 rfl (by decide +kernel) ?_
                    refine zw_ic_ge_f 9 29 f2_6 (by decide +kernel) rfl (by decide +kernel) ?_
                    refine zw_aload_n 10 f2_9 rfl rfl ?_
                    refine zw_getfield 13 f2_10 rfl g2_9_0 (hb_44 _ _ _ _) rfl ?_
                    refine zw_aload_n 14 f2_13 rfl rfl ?_
                    refine zw_getI 3 17 f2_14 rfl g2_15_0 (hb_44 _ _ _ _) rfl rfl ?_
                    refine zw_iload_n 18 f2_17 rfl rfl ?_
                    refine zw_ast 3 _ 19 f2_18 rfl (hb_45 _ _ _ _) (by decide +kernel) (by decide +kernel) (by decide +kernel) (ha_45 _ _ _ _ _) ?_
                    refine zw_aload_n 20 f2_19 rfl rfl ?_
                    refine zw_dup 21 f2_20 rfl rfl ?_
                    refine zw_getI 3 24 f2_21 rfl g2_15_0 (hb_44 _ _ _ _) rfl rfl ?_
                    refine zw_iconst 1 25 f2_24 rfl (by decide +kernel) ?_
                    refine zw_iadd 4 26 f2_25 rfl (by decide +kernel) ?_
                    refine zw_put _ 29 f2_26 rfl g2_15_0 (hb_44 _ _ _ _) rfl (Nat.le_of_ble_eq_true rfl) (by decide +kernel) (hi_44_4 _ _ _ _ _) ?_
                    refine zw_vreturn f2_29 r2 u2 ⟨rfl, ?_⟩
                    refine zw_iload_n 10 f37_9 rfl rfl ?_
                    refine zw_aload_n 11 f37_10 rfl rfl ?_
                    refine zw_getfield 14 f37_11 rfl g37_7_7 (hb_49 _ _ _ _) rfl ?_
                    refine zw_getI (A 3 a.toNatClampNeg) 17 f37_14 rfl g37_19_0 (hb_44 _ _ _ _) rfl rfl ?_
                    refine zw_iadd (c + (A 3 a.toNatClampNeg)) 18 f37_17 rfl rfl ?_
                    refine zw_ireturn f37_18 r37 u37 ⟨_, rfl, ?_⟩
                    refine zw_iconst 2 15 f35_14 rfl (by decide +kernel) ?_
                    refine zw_imul ((c + (A 3 a.toNatClampNeg)) * 2) 16 f35_15 rfl rfl ?_
                    refine zw_ireturn f35_16 r35 u35 ⟨_, rfl, ?_⟩
                    refine zw_iconst 3 15 f38_14 rfl (by decide +kernel) ?_
                    refine zw_imul (((c + (A 3 a.toNatClampNeg)) * 2) * 3) 16 f38_15 rfl rfl ?_
                    refine zw_ireturn f38_16 r38 u38 ⟨_, rfl, ?_⟩
                    refine zw_aload_n 15 f40_14 rfl rfl ?_
                    refine zw_iload_n 16 f40_15 rfl rfl ?_
                    refine zw_virtual_i 19 0 0 [.ref 49, .int c] [(0, .ref 49), (1, .int c)] f40_16 rfl n40_30 k40_30_7 rfl (hb_49 _ _ _ _) (by decide +kernel) (Nat.le_of_ble_eq_true rfl) rfl rfl (by decide +kernel) (by decide +kernel) rfl (Nat.le_of_ble_eq_true rfl) rfl ?_
                    refine zw_aload_n 1 f39_0 rfl rfl ?_
                    refine zw_getfield 4 f39_1 rfl g39_7_7 (hb_49 _ _ _ _) rfl ?_
                    refine zw_bipush 12 6 f39_4 rfl (by decide +kernel) ?_
                    refine zw_virtual_v 9 0 0 [.ref 44, .int 12] [(0, .ref 44), (1, .int 12)] f39_6 rfl n39_13 k39_13_0 rfl (hb_44 _ _ _ _) (by decide +kernel) (Nat.le_of_ble_eq_true rfl) rfl rfl (by decide +kernel) (by decide +kernel) rfl (Nat.le_of_ble_eq_true rfl) rfl ?_
                    refine zw_aload_n 1 f2_0 rfl rfl ?_
                    refine zw_getI 4 4 f2_1 rfl g2_15_0 (hb_44 _ _ _ _) rfl rfl ?_
                    refine zw_bipush 50 6 f2_4 rfl (by decide +kernel) ?_
                    refine zw_ic_ge_f 9 29 f2_6 (by decide +kernel) rfl (by decide +kernel) ?_
                    refine zw_aload_n 10 f2_9 rfl rfl ?_
                    refine zw_getfield 13 f2_10 rfl g2_9_0 (hb_44 _ _ _ _) rfl ?_
                    refine zw_aload_n 14 f2_13 rfl rfl ?_
                    refine zw_getI 4 17 f2_14 rfl g2_15_0 (hb_44 _ _ _ _) rfl rfl ?_
                    refine zw_iload_n 18 f2_17 rfl rfl ?_
                    refine zw_ast 4 _ 19 f2_18 rfl (hb_45 _ _ _ _) (by decide +kernel) (by decide +kernel) (by decide +kernel) (ha_45 _ _ _ _ _) ?_
                    refine zw_aload_n 20 f2_19 rfl rfl ?_
                    refine zw_dup 21 f2_20 rfl rfl ?_
                    refine zw_getI 4 24 f2_21 rfl g2_15_0 (hb_44 _ _ _ _) rfl rfl ?_
                    refine zw_iconst 1 25 f2_24 rfl (by decide +kernel) ?_
                    refine zw_iadd 5 26 f2_25 rfl (by decide +kernel) ?_
                    refine zw_put _ 29 f2_26 rfl g2_15_0 (hb_44 _ _ _ _) rfl (Nat.le_of_ble_eq_true rfl) (by decide +kernel) (hi_44_4 _ _ _ _ _) ?_
                    refine zw_vreturn f2_29 r2 u2 ⟨rfl, ?_⟩
                    refine zw_iload_n 10 f39_9 rfl rfl ?_
                    refine zw_aload_n 11 f39_10 rfl rfl ?_
                    refine zw_getfield 14 f39_11 rfl g39_7_7 (hb_49 _ _ _ _) rfl ?_
                    refine zw_getI (A 3 a.toNatClampNeg) 17 f39_14 rfl g39_19_0 (hb_44 _ _ _ _) rfl rfl ?_
                    refine zw_ixor (c ^^^ (A 3 a.toNatClampNeg)) 18 f39_17 rfl rfl ?_
                    refine zw_ireturn f39_18 r39 u39 ⟨_, rfl, ?_⟩
                    refine zw_isub ((((c + (A 3 a.toNatClampNeg)) * 2) * 3) - (c ^^^ (A 3 a.toNatClampNeg))) 20 f40_19 rfl rfl ?_
                    refine zw_ireturn f40_20 r40 u40 ⟨_, rfl, ?_⟩
                    refine zw_virtual_i 143 0 0 [.ref 0, .int ((((c + (A 3 a.toNatClampNeg)) * 2) * 3) - (c ^^^ (A 3 a.toNatClampNeg)))] [(0, .ref 0), (1, .int ((((c + (A 3 a.toNatClampNeg)) * 2) * 3) - (c ^^^ (A 3 a.toNatClampNeg))))] f101_140 rfl n101_181 k101_181_11 rfl (hb_0 _ _ _ _) (by decide +kernel) (Nat.le_of_ble_eq_true rfl) rfl rfl (by decide +kernel) (by decide +kernel) rfl (Nat.le_of_ble_eq_true rfl) rfl ?_
                    refine zw_aload_n 1 f106_0 rfl rfl ?_
                    refine zw_iconst 0 2 f106_1 rfl (by decide +kernel) ?_
                    refine zw_put _ 5 f106_2 rfl g106_70_11 (hb_0 _ _ _ _) rfl (Nat.le_of_ble_eq_true rfl) (by decide +kernel) (hi_0_7 _ _ _ _ _) ?_
                    refine zw_iload_n 6 f106_5 rfl rfl ?_
                    refine zw_ireturn f106_6 r106 u106 ⟨_, rfl, ?_⟩
                    refine zw_ireturn f101_143 r101 u101 ?_
                    exact ⟨_, _, _, _, rfl, (KP.i rfl (KP.i rfl (KP.a rfl (KP.i rfl (KP.a rfl (KP.i rfl (KP.a rfl (KP.i rfl (KP.a rfl (KP.i rfl (KP.a rfl (KP.i rfl (KP.i rfl (KP.i rfl (KP.i rfl (KP.i rfl KP.rf)))))))))))))))), ⟨⟨hI.1, hI.2.1, 5, by omega, rfl⟩, PE.of10 rfl rfl rfl rfl rfl rfl rfl rfl rfl rfl⟩, _, rfl⟩
                  · rcases (show hs10k = 0 ∨ hs10k = 1 ∨ hs10k = 2 by omega) with rfl | rfl | rfl
                    · refine zw_table_k 25 100 f101_75 hs10e (by decide +kernel) (by decide +kernel) (by decide +kernel) ?_
                      refine zw_aload_n 101 f101_100 rfl (zl1_ne rfl rfl (zl1_ne rfl rfl rfl)) ?_
                      refine zw_aload 103 f101_101 rfl zl1_eq ?_
                      refine zw_iload_n 104 f101_103 rfl (zl1_ne rfl rfl (zl1_ne rfl rfl rfl)) ?_
                      refine zw_virtual_i 107 0 0 [.ref 49, .int c] [(0, .ref 49), (1, .int c)] f101_104 rfl n101_289 k101_289_7 rfl (hb_49 _ _ _ _) (by decide +kernel) (Nat.le_of_ble_eq_true rfl) rfl rfl (by decide +kernel) (by decide +kernel) rfl (Nat.le_of_ble_eq_true rfl) rfl ?_
                      refine zw_aload_n 1 f35_0 rfl rfl ?_
                      refine zw_getfield 4 f35_1 rfl g35_7_7 (hb_49 _ _ _ _) rfl ?_
                      refine zw_bipush 30 6 f35_4 rfl (by decide +kernel) ?_
                      refine zw_virtual_v 9 0 0 [.ref 44, .int 30] [(0, .ref 44), (1, .int 30)] f35_6 rfl n35_13 k35_13_0 rfl (hb_44 _ _ _ _) (by decide +kernel) (Nat.le_of_ble_eq_true rfl) rfl rfl (by decide +kernel) (by decide +kernel) rfl (Nat.le_of_ble_eq_true rfl) rfl ?_
                      refine zw_aload_n 1 f2_0 rfl rfl ?_
                      refine zw_getI 0 4 f2_1 rfl g2_15_0 (hb_44 _ _ _ _) rfl rfl ?_
                      refine zw_bipush 50 6 f2_4 rfl (by decide +kernel) ?_
                      refine zw_ic_ge_f 9 29 f2_6 (by decide +kernel) rfl (by decide +kernel) ?_
                      refine zw_aload_n 10 f2_9 rfl rfl ?_
                      refine zw_getfield 13 f2_10 rfl g2_9_0 (hb_44 _ _ _ _) rfl ?_
                      refine zw_aload_n 14 f2_13 rfl rfl ?_
                      refine zw_getI 0 17 f2_14 rfl g2_15_0 (hb_44 _ _ _ _) rfl rfl ?_
                      refine zw_iload_n 18 f2_17 rfl rfl ?_
                      refine zw_ast 0 _ 19 f2_18 rfl (hb_45 _ _ _ _) (by decide +kernel) (by decide +kernel) (by decide +kernel) (ha_45 _ _ _ _ _) ?_
                      refine zw_aload_n 20 f2_19 rfl rfl ?_
                      refine zw_dup 21 f2_20 rfl rfl ?_
                      refine zw_getI 0 24 f2_21 rfl g2_15_0 (hb_44 _ _ _ _) rfl rfl ?_
                      refine zw_iconst 1 25 f2_24 rfl (by decide +kernel) ?_
                      refine zw_iadd 1 26 f2_25 rfl (by decide +kernel) ?_
                      refine zw_put _ 29 f2_26 rfl g2_15_0 (hb_44 _ _ _ _) rfl (Nat.le_of_ble_eq_true rfl) (by decide +kernel) (hi_44_4 _ _ _ _ _) ?_
                      refine zw_vreturn f2_29 r2 u2 ⟨rfl, ?_⟩
                      refine zw_aload_n 10 f35_9 rfl rfl ?_
                      refine zw_iload_n 11 f35_10 rfl rfl ?_
                      refine zw_super_i 14 0 0 [.ref 49, .int c] [(0, .ref 49), (1, .int c)] f35_11 rfl k35_19_99 k35_19_98 (by decide +kernel) rfl (hb_49 _ _ _ _) (by decide +kernel) (Nat.le_of_ble_eq_true rfl) rfl rfl (by decide +kernel) (by decide +kernel) rfl (Nat.le_of_ble_eq_true rfl) rfl ?_
                      refine zw_aload_n 1 f37_0 rfl rfl ?_
                      refine zw_getfield 4 f37_1 rfl g37_7_7 (hb_49 _ _ _ _) rfl ?_
                      refine zw_bipush 10 6 f37_4 rfl (by decide +kernel) ?_
                      refine zw_virtual_v 9 0 0 [.ref 44, .int 10] [(0, .ref 44), (1, .int 10)] f37_6 rfl n37_13 k37_13_0 rfl (hb_44 _ _ _ _) (by decide +kernel) (Nat.le_of_ble_eq_true rfl) rfl rfl (by decide +kernel) (by decide +kernel) rfl (Nat.le_of_ble_eq_true rfl) rfl ?_
                      refine zw_aload_n 1 f2_0 rfl rfl ?_
                      refine zw_getI 1 4 f2_1 rfl g2_15_0 (hb_44 _ _ _ _) rfl rfl ?_
                      refine zw_bipush 50 6 f2_4 rfl (by decide +kernel) ?_
                      refine zw_ic_ge_f 9 29 f2_6 (by decide +kernel) rfl (by decide +kernel) ?_
                      refine zw_aload_n 10 f2_9 rfl rfl ?_
                      refine zw_getfield 13 f2_10 rfl g2_9_0 (hb_44 _ _ _ _) rfl ?_
                      refine zw_aload_n 14 f2_13 rfl rfl ?_
                      refine zw_getI 1 17 f2_14 rfl g2_15_0 (hb_44 _ _ _ _) rfl rfl ?_
                      refine zw_iload_n 18 f2_17 rfl rfl ?_
                      refine zw_ast 1 _ 19 f2_18 rfl (hb_45 _ _ _ _) (by decide +kernel) (by decide +kernel) (by decide +kernel) (ha_45 _ _ _ _ _) ?_
                      refine zw_aload_n 20 f2_19 rfl rfl ?_
                      refine zw_dup 21 f2_20 rfl rfl ?_
                      refine zw_getI 1 24 f2_21 rfl g2_15_0 (hb_44 _ _ _ _) rfl rfl ?_
                      refine zw_iconst 1 25 f2_24 rfl (by decide +kernel) ?_
                      refine zw_iadd 2 26 f2_25 rfl (by decide +kernel) ?_
                      refine zw_put _ 29 f2_26 rfl g2_15_0 (hb_44 _ _ _ _) rfl (Nat.le_of_ble_eq_true rfl) (by decide +kernel) (hi_44_4 _ _ _ _ _) ?_
                      refine zw_vreturn f2_29 r2 u2 ⟨rfl, ?_⟩
                      refine zw_iload_n 10 f37_9 rfl rfl ?_
                      refine zw_aload_n 11 f37_10 rfl rfl ?_
                      refine zw_getfield 14 f37_11 rfl g37_7_7 (hb_49 _ _ _ _) rfl ?_
                      refine zw_getI (A 3 a.toNatClampNeg) 17 f37_14 rfl g37_19_0 (hb_44 _ _ _ _) rfl rfl ?_
                      refine zw_iadd (c + (A 3 a.toNatClampNeg)) 18 f37_17 rfl rfl ?_
                      refine zw_ireturn f37_18 r37 u37 ⟨_, rfl, ?_⟩
                      refine zw_iconst 2 15 f35_14 rfl (by decide +kernel) ?_
                      refine zw_imul ((c + (A 3 a.toNatClampNeg)) * 2) 16 f35_15 rfl rfl ?_
                      refine zw_ireturn f35_16 r35 u35 ⟨_, rfl, ?_⟩
                      refine zw_virtual_i 110 0 0 [.ref 0, .int ((c + (A 3 a.toNatClampNeg)) * 2)] [(0, .ref 0), (1, .int ((c + (A 3 a.toNatClampNeg)) * 2))] f101_107 rfl n101_181 k101_181_11 rfl (hb_0 _ _ _ _) (by decide +kernel) (Nat.le_of_ble_eq_true rfl) rfl rfl (by decide +kernel) (by decide +kernel) rfl (Nat.le_of_ble_eq_true rfl) rfl ?_
                      refine zw_aload_n 1 f106_0 rfl rfl ?_
                      refine zw_iconst 0 2 f106_1 rfl (by decide +kernel) ?_
                      refine zw_put _ 5 f106_2 rfl g106_70_11 (hb_0 _ _ _ _) rfl (Nat.le_of_ble_eq_true rfl) (by decide +kernel) (hi_0_7 _ _ _ _ _) ?_
                      refine zw_iload_n 6 f106_5 rfl rfl ?_
                      refine zw_ireturn f106_6 r106 u106 ⟨_, rfl, ?_⟩
                      refine zw_ireturn f101_110 r101 u101 ?_
                      exact ⟨_, _, _, _, rfl, (KP.i rfl (KP.i rfl (KP.a rfl (KP.i rfl (KP.a rfl (KP.i rfl (KP.i rfl (KP.i rfl (KP.i rfl (KP.i rfl KP.rf)))))))))), ⟨⟨hI.1, hI.2.1, 2, by omega, rfl⟩, PE.of10 rfl rfl rfl rfl rfl rfl rfl rfl rfl rfl⟩, _, rfl⟩
                    · refine zw_table_k 36 111 f101_75 hs10e (by decide +kernel) (by decide +kernel) (by decide +kernel) ?_
                      refine zw_aload_n 112 f101_111 rfl (zl1_ne rfl rfl (zl1_ne rfl rfl rfl)) ?_
                      refine zw_aload 114 f101_112 rfl zl1_eq ?_
                      refine zw_iload_n 115 f101_114 rfl (zl1_ne rfl rfl (zl1_ne rfl rfl rfl)) ?_
                      refine zw_virtual_i 118 0 0 [.ref 49, .int c] [(0, .ref 49), (1, .int c)] f101_115 rfl n101_292 k101_292_7 rfl (hb_49 _ _ _ _) (by decide +kernel) (Nat.le_of_ble_eq_true rfl) rfl rfl (by decide +kernel) (by decide +kernel) rfl (Nat.le_of_ble_eq_true rfl) rfl ?_
                      refine zw_aload_n 1 f38_0 rfl rfl ?_
                      refine zw_getfield 4 f38_1 rfl g38_7_7 (hb_49 _ _ _ _) rfl ?_
                      refine zw_bipush 11 6 f38_4 rfl (by decide +kernel) ?_
                      refine zw_virtual_v 9 0 0 [.ref 44, .int 11] [(0, .ref 44), (1, .int 11)] f38_6 rfl n38_13 k38_13_0 rfl (hb_44 _ _ _ _) (by decide +kernel) (Nat.le_of_ble_eq_true rfl) rfl rfl (by decide +kernel) (by decide +kernel) rfl (Nat.le_of_ble_eq_true rfl) rfl ?_
                      refine zw_aload_n 1 f2_0 rfl rfl ?_
                      refine zw_getI 0 4 f2_1 rfl g2_15_0 (hb_44 _ _ _ _) rfl rfl ?_
                      refine zw_bipush 50 6 f2_4 rfl (by decide +kernel) ?_
                      refine zw_ic_ge_f 9 29 f2_6 (by decide +kernel) rfl (by decide +kernel) ?_
                      refine zw_aload_n 10 f2_9 rfl rfl ?_
                      refine zw_getfield 13 f2_10 rfl g2_9_0 (hb_44 _ _ _ _) rfl ?_
                      refine zw_aload_n 14 f2_13 rfl rfl ?_
                      refine zw_getI 0 17 f2_14 rfl g2_15_0 (hb_44 _ _ _ _) rfl rfl ?_
                      refine zw_iload_n 18 f2_17 rfl rfl ?_
                      refine zw_ast 0 _ 19 f2_18 rfl (hb_45 _ _ _ _) (by decide +kernel) (by decide +kernel) (by decide +kernel) (ha_45 _ _ _ _ _) ?_
                      refine zw_aload_n 20 f2_19 rfl rfl ?_
                      refine zw_dup 21 f2_20 rfl rfl ?_
                      refine zw_getI 0 24 f2_21 rfl g2_15_0 (hb_44 _ _ _ _) rfl rfl ?_
                      refine zw_iconst 1 25 f2_24 rfl (by decide +kernel) ?_
                      refine zw_iadd 1 26 f2_25 rfl (by decide +kernel) ?_
                      refine zw_put _ 29 f2_26 rfl g2_15_0 (hb_44 _ _ _ _) rfl (Nat.le_of_ble_eq_true rfl) (by decide +kernel) (hi_44_4 _ _ _ _ _) ?_
                      refine zw_vreturn f2_29 r2 u2 ⟨rfl, ?_⟩
                      refine zw_aload_n 10 f38_9 rfl rfl ?_
                      refine zw_iload_n 11 f38_10 rfl rfl ?_
                      refine zw_virtual_i 14 0 0 [.ref 49, .int c] [(0, .ref 49), (1, .int c)] f38_11 rfl n38_23 k38_23_7 rfl (hb_49 _ _ _ _) (by decide +kernel) (Nat.le_of_ble_eq_true rfl) rfl rfl (by decide +kernel) (by decide +kernel) rfl (Nat.le_of_ble_eq_true rfl) rfl ?_
                      refine zw_aload_n 1 f35_0 rfl rfl ?_
                      refine zw_getfield 4 f35_1 rfl g35_7_7 (hb_49 _ _ _ _) rfl ?_
                      refine zw_bipush 30 6 f35_4 rfl (by decide +kernel) ?_
                      refine zw_virtual_v 9 0 0 [.ref 44, .int 30] [(0, .ref 44), (1, .int 30)] f35_6 rfl n35_13 k35_13_0 rfl (hb_44 _ _ _ _) (by decide +kernel) (Nat.le_of_ble_eq_true rfl) rfl rfl (by decide +kernel) (by decide +kernel) rfl (Nat.le_of_ble_eq_true rfl) rfl ?_
                      refine zw_aload_n 1 f2_0 rfl rfl ?_
                      refine zw_getI 1 4 f2_1 rfl g2_15_0 (hb_44 _ _ _ _) rfl rfl ?_
                      refine zw_bipush 50 6 f2_4 rfl (by decide +kernel) ?_
                      refine zw_ic_ge_f 9 29 f2_6 (by decide +kernel) rfl (by decide +kernel) ?_
                      refine zw_aload_n 10 f2_9 rfl rfl ?_
                      refine zw_getfield 13 f2_10 rfl g2_9_0 (hb_44 _ _ _ _) rfl ?_
                      refine zw_aload_n 14 f2_13 rfl rfl ?_
                      refine zw_getI 1 17 f2_14 rfl g2_15_0 (hb_44 _ _ _ _) rfl rfl ?_
                      refine zw_iload_n 18 f2_17 rfl rfl ?_
                      refine zw_ast 1 _ 19 f2_18 rfl (hb_45 _ _ _ _) (by decide +kernel) (by decide +kernel) (by decide +kernel) (ha_45 _ _ _ _ _) ?_
                      refine zw_aload_n 20 f2_19 rfl rfl ?_
                      refine zw_dup 21 f2_20 rfl rfl ?_
                      refine zw_getI 1 24 f2_21 rfl g2_15_0 (hb_44 _ _ _ _) rfl rfl ?_
                      refine zw_iconst 1 25 f2_24 rfl (by decide +kernel) ?_
                      refine zw_iadd 2 26 f2_25 rfl (by decide +kernel) ?_
                      refine zw_put _ 29 f2_26 rfl g2_15_0 (hb_44 _ _ _ _) rfl (Nat.le_of_ble_eq_true rfl) (by decide +kernel) (hi_44_4 _ _ _ _ _) ?_
                      refine zw_vreturn f2_29 r2 u2 ⟨rfl, ?_⟩
                      refine zw_aload_n 10 f35_9 rfl rfl ?_
                      refine zw_iload_n 11 f35_10 rfl rfl ?_
                      refine zw_super_i 14 0 0 [.ref 49, .int c] [(0, .ref 49), (1, .int c)] f35_11 rfl k35_19_99 k35_19_98 (by decide +kernel) rfl (hb_49 _ _ _ _) (by decide +kernel) (Nat.le_of_ble_eq_true rfl) rfl rfl (by decide +kernel) (by decide +kernel) rfl (Nat.le_of_ble_eq_true rfl) rfl ?_
                      refine zw_aload_n 1 f37_0 rfl rfl ?_
                      refine zw_getfield 4 f37_1 rfl g37_7_7 (hb_49 _ _ _ _) rfl ?_
                      refine zw_bipush 10 6 f37_4 rfl (by decide +kernel) ?_
                      refine zw_virtual_v 9 0 0 [.ref 44, .int 10] [(0, .ref 44), (1, .int 10)] f37_6 rfl n37_13 k37_13_0 rfl (hb_44 _ _ _ _) (by decide +kernel) (Nat.le_of_ble_eq_true rfl) rfl rfl (by decide +kernel) (by decide +kernel) rfl (Nat.le_of_ble_eq_true rfl) rfl ?_
                      refine zw_aload_n 1 f2_0 rfl rfl ?_
                      refine zw_getI 2 4 f2_1 rfl g2_15_0 (hb_44 _ _ _ _) rfl rfl ?_
                      refine zw_bipush 50 6 f2_4 rfl (by decide +kernel) ?_
                      refine zw_ic_ge_f 9 29 f2_6 (by decide +kernel) rfl (by decide +kernel) ?_
                      refine zw_aload_n 10 f2_9 rfl rfl ?_
                      refine zw_getfield 13 f2_10 rfl g2_9_0 (hb_44 _ _ _ _) rfl ?_
                      refine zw_aload_n 14 f2_13 rfl rfl ?_
                      refine zw_getI 2 17 f2_14 rfl g2_15_0 (hb_44 _ _ _ _) rfl rfl ?_
                      refine zw_iload_n 18 f2_17 rfl rfl ?_
                      refine zw_ast 2 _ 19 f2_18 rfl (hb_45 _ _ _ _) (by decide +kernel) (by decide +kernel) (by decide +kernel) (ha_45 _ _ _ _ _) ?_
                      refine zw_aload_n 20 f2_19 rfl rfl ?_
                      refine zw_dup 21 f2_20 rfl rfl ?_
                      refine zw_getI 2 24 f2_21 rfl g2_15_0 (hb_44 _ _ _ _) rfl rfl ?_
                      refine zw_iconst 1 25 f2_24 rfl (by decide +kernel) ?_
                      refine zw_iadd 3 26 f2_25 rfl (by decide +kernel) ?_
                      refine zw_put _ 29 f2_26 rfl g2_15_0 (hb_44 _ _ _ _) rfl (Nat.le_of_ble_eq_true rfl) (by decide +kernel) (hi_44_4 _ _ _ _ _) ?_
                      refine zw_vreturn f2_29 r2 u2 ⟨rfl, ?_⟩
                      refine zw_iload_n 10 f37_9 rfl rfl ?_
                      refine zw_aload_n 11 f37_10 rfl rfl ?_
                      refine zw_getfield 14 f37_11 rfl g37_7_7 (hb_49 _ _ _ _) rfl ?_
                      refine zw_getI (A 3 a.toNatClampNeg) 17 f37_14 rfl g37_19_0 (hb_44 _ _ _ _) rfl rfl ?_
                      refine zw_iadd (c + (A 3 a.toNatClampNeg)) 18 f37_17 rfl rfl ?_
                      refine zw_ireturn f37_18 r37 u37 ⟨_, rfl, ?_⟩
                      refine zw_iconst 2 15 f35_14 rfl (by decide +kernel) ?_
                      refine zw_imul ((c + (A 3 a.toNatClampNeg)) * 2) 16 f35_15 rfl rfl ?_
                      refine zw_ireturn f35_16 r35 u35 ⟨_, rfl, ?_⟩
                      refine zw_iconst 3 15 f38_14 rfl (by decide +kernel) ?_
                      refine zw_imul (((c + (A 3 a.toNatClampNeg)) * 2) * 3) 16 f38_15 rfl rfl ?_
                      refine zw_ireturn f38_16 r38 u38 ⟨_, rfl, ?_⟩
                      refine zw_virtual_i 121 0 0 [.ref 0, .int (((c + (A 3 a.toNatClampNeg)) * 2) * 3)] [(0, .ref 0), (1, .int (((c + (A 3 a.toNatClampNeg)) * 2) * 3))] f101_118 rfl n101_181 k101_181_11 rfl (hb_0 _ _ _ _) (by decide +kernel) (Nat.le_of_ble_eq_true rfl) rfl rfl (by decide +kernel) (by decide +kernel) rfl (Nat.le_of_ble_eq_true rfl) rfl ?_
                      refine zw_aload_n 1 f106_0 rfl rfl ?_
                      refine zw_iconst 0 2 f106_1 rfl (by decide +kernel) ?_
                      refine zw_put _ 5 f106_2 rfl g106_70_11 (hb_0 _ _ _ _) rfl (Nat.le_of_ble_eq_true rfl) (by decide +kernel) (hi_0_7 _ _ _ _ _) ?_
                      refine zw_iload_n 6 f106_5 rfl rfl ?_
                      refine zw_ireturn f106_6 r106 u106 ⟨_, rfl, ?_⟩
                      refine zw_ireturn f101_121 r101 u101 ?_
                      exact ⟨_, _, _, _, rfl, (KP.i rfl (KP.i rfl (KP.a rfl (KP.i rfl (KP.a rfl (KP.i rfl (KP.a rfl (KP.i rfl (KP.i rfl (KP.i rfl (KP.i rfl (KP.i rfl KP.rf)))))))))))), ⟨⟨hI.1, hI.2.1, 3, by omega, rfl⟩, PE.of10 rfl rfl rfl rfl rfl rfl rfl rfl rfl rfl⟩, _, rfl⟩
                    · refine zw_table_k 47 122 f101_75 hs10e (by decide +kernel) (by decide +kernel) (by decide +kernel) ?_
                      refine zw_aload_n 123 f101_122 rfl (zl1_ne rfl rfl (zl1_ne rfl rfl rfl)) ?_
                      refine zw_aload 125 f101_123 rfl zl1_eq ?_
                      refine zw_iload_n 126 f101_125 rfl (zl1_ne rfl rfl (zl1_ne rfl rfl rfl)) ?_
                      refine zw_virtual_i 129 0 0 [.ref 49, .int c] [(0, .ref 49), (1, .int c)] f101_126 rfl n101_295 k101_295_7 rfl (hb_49 _ _ _ _) (by decide +kernel) (Nat.le_of_ble_eq_true rfl) rfl rfl (by decide +kernel) (by decide +kernel) rfl (Nat.le_of_ble_eq_true rfl) rfl ?_
                      refine zw_aload_n 1 f39_0 rfl rfl ?_
                      refine zw_getfield 4 f39_1 rfl g39_7_7 (hb_49 _ _ _ _) rfl ?_
                      refine zw_bipush 12 6 f39_4 rfl (by decide +kernel) ?_
                      refine zw_virtual_v 9 0 0 [.ref 44, .int 12] [(0, .ref 44), (1, .int 12)] f39_6 rfl n39_13 k39_13_0 rfl (hb_44 _ _ _ _) (by decide +kernel) (Nat.le_of_ble_eq_true rfl) rfl rfl (by decide +kernel) (by decide +kernel) rfl (Nat.le_of_ble_eq_true rfl) rfl ?_
                      refine zw_aload_n 1 f2_0 rfl rfl ?_
                      refine zw_getI 0 4 f2_1 rfl g2_15_0 (hb_44 _ _ _ _) rfl rfl ?_
                      refine zw_bipush 50 6 f2_4 rfl (by decide +kernel) ?_
                      refine zw_ic_ge_f 9 29 f2_6 (by decide +kernel) rfl (by decide +kernel) ?_
                      refine zw_aload_n 10 f2_9 rfl rfl ?_
                      refine zw_getfield 13 f2_10 rfl g2_9_0 (hb_44 _ _ _ _) rfl ?_
                      refine zw_aload_n 14 f2_13 rfl rfl ?_
                      refine zw_getI 0 17 f2_14 rfl g2_15_0 (hb_44 _ _ _ _) rfl rfl ?_
                      refine zw_iload_n 18 f2_17 rfl rfl ?_
                      refine zw_ast 0 _ 19 f2_18 rfl (hb_45 _ _ _ _) (by decide +kernel) (by decide +kernel) (by decide +kernel) (ha_45 _ _ _ _ _) ?_
                      refine zw_aload_n 20 f2_19 rfl rfl ?_
                      refine zw_dup 21 f2_20 rfl rfl ?_
                      refine zw_getI 0 24 f2_21 rfl g2_15_0 (hb_44 _ _ _ _) rfl rfl ?_
                      refine zw_iconst 1 25 f2_24 rfl (by decide +kernel) ?_
                      refine zw_iadd 1 26 f2_25 rfl (by decide +kernel) ?_
                      refine zw_put _ 29 f2_26 rfl g2_15_0 (hb_44 _ _ _ _) rfl (Nat.le_of_ble_eq_true rfl) (by decide +kernel) (hi_44_4 _ _ _ _ _) ?_
                      refine zw_vreturn f2_29 r2 u2 ⟨rfl, ?_⟩
                      refine zw_iload_n 10 f39_9 rfl rfl ?_
                      refine zw_aload_n 11 f39_10 rfl rfl ?_
                      refine zw_getfield 14 f39_11 rfl g39_7_7 (hb_49 _ _ _ _) rfl ?_
                      refine zw_getI (A 3 a.toNatClampNeg) 17 f39_14 rfl g39_19_0 (hb_44 _ _ _ _) rfl rfl ?_
                      refine zw_ixor (c ^^^ (A 3 a.toNatClampNeg)) 18 f39_17 rfl rfl ?_
                      refine zw_ireturn f39_18 r39 u39 ⟨_, rfl, ?_⟩
                      refine zw_virtual_i 132 0 0 [.ref 0, .int (c ^^^ (A 3 a.toNatClampNeg))] [(0, .ref 0), (1, .int (c ^^^ (A 3 a.toNatClampNeg)))] f101_129 rfl n101_181 k101_181_11 rfl (hb_0 _ _ _ _) (by decide +kernel) (Nat.le_of_ble_eq_true rfl) rfl rfl (by decide +kernel) (by decide +kernel) rfl (Nat.le_of_ble_eq_true rfl) rfl ?_
                      refine zw_aload_n 1 f106_0 rfl rfl ?_
                      refine zw_iconst 0 2 f106_1 rfl (by decide +kernel) ?_
                      refine zw_put _ 5 f106_2 rfl g106_70_11 (hb_0 _ _ _ _) rfl (Nat.le_of_ble_eq_true rfl) (by decide +kernel) (hi_0_7 _ _ _ _ _) ?_
                      refine zw_iload_n 6 f106_5 rfl rfl ?_
                      refine zw_ireturn f106_6 r106 u106 ⟨_, rfl, ?_⟩
                      refine zw_ireturn f101_132 r101 u101 ?_
                      exact ⟨_, _, _, _, rfl, (KP.i rfl (KP.i rfl (KP.a rfl (KP.i rfl (KP.i rfl (KP.i rfl (KP.i rfl (KP.i rfl KP.rf)))))))), ⟨⟨hI.1, hI.2.1, 1, by omega, rfl⟩, PE.of10 rfl rfl rfl rfl rfl rfl rfl rfl rfl rfl⟩, _, rfl⟩
                · refine zw_aaload 3 42 f101_41 rfl (hb_46 _ _ _ _) (by rw [hk]; decide) (by rw [hk]; decide) (by decide) rfl ?_
                  refine zw_astore _ 44 f101_42 rfl (by decide +kernel) rfl ?_
                  refine zw_aload 46 f101_44 rfl zl1_eq ?_
                  refine zw_ifnonnull 55 f101_46 (by decide +kernel) ?_
                  refine zw_aload_n 56 f101_55 rfl (zl1_ne rfl rfl (zl1_ne rfl rfl rfl)) ?_
                  refine zw_getfield 59 f101_56 rfl g101_45_11 (hb_0 _ _ _ _) rfl ?_
                  refine zw_aload_n 60 f101_59 rfl (zl1_ne rfl rfl (zl1_ne rfl rfl rfl)) ?_
                  refine zw_getfield 63 f101_60 rfl g101_10_11 (hb_0 _ _ _ _) rfl ?_
                  refine zw_aload_n 64 f101_63 rfl (zl1_ne rfl rfl (zl1_ne rfl rfl rfl)) ?_
                  refine zw_getfield 67 f101_64 rfl g101_21_11 (hb_0 _ _ _ _) rfl ?_
                  refine zw_getfield 70 f101_67 rfl g101_134_10 (hb_11 _ _ _ _) rfl ?_
                  refine zw_iload_n 71 f101_70 rfl (zl1_ne rfl rfl (zl1_ne rfl rfl rfl)) ?_
                  refine zw_virtual_v 74 0 0 [.ref 44, .ref 1, .ref 12, .int a] [(0, .ref 44), (1, .ref 1), (2, .ref 12), (3, .int a)] f101_71 rfl n101_285 k101_285_0 rfl (hb_44 _ _ _ _) (by decide +kernel) (Nat.le_of_ble_eq_true rfl) rfl rfl (by decide +kernel) (by decide +kernel) rfl (Nat.le_of_ble_eq_true rfl) rfl ?_
                  refine zw_aload_n 1 f1_0 rfl rfl ?_
                  refine zw_iconst 0 2 f1_1 rfl (by decide +kernel) ?_
                  refine zw_put _ 5 f1_2 rfl g1_15_0 (hb_44 _ _ _ _) rfl (Nat.le_of_ble_eq_true rfl) (by decide +kernel) (hi_44_4 _ _ _ _ _) ?_
                  refine zw_aload_n 6 f1_5 rfl rfl ?_
                  refine zw_iload_n 7 f1_6 rfl rfl ?_
                  refine zw_virtual_i 10 0 0 [.ref 1, .int a] [(0, .ref 1), (1, .int a)] f1_7 rfl n1_19 k1_19_4 rfl (hb_1 _ _ _ _) (by decide +kernel) (Nat.le_of_ble_eq_true rfl) rfl rfl (by decide +kernel) (by decide +kernel) rfl (Nat.le_of_ble_eq_true rfl) rfl ?_
                  refine zw_iload_n 1 f13_0 rfl rfl ?_
                  refine zw_if_lt_f 4 22 f13_1 (by decide +kernel) rfl hc1 ?_
                  refine zw_iload_n 5 f13_4 rfl rfl ?_
                  refine zw_aload_n 6 f13_5 rfl rfl ?_
                  refine zw_getI (nI nv) 9 f13_6 rfl g13_39_4 (hb_1 _ _ _ _) rfl hI.1.1.1 ?_
                  refine zw_ic_ge_f 12 22 f13_9 (by decide +kernel) rfl hc2 ?_
                  refine zw_iload_n 13 f13_12 rfl rfl ?_
                  refine zw_bipush 8 15 f13_13 rfl (by decide +kernel) ?_
                  refine zw_ic_ge_f 18 22 f13_15 (by decide +kernel) rfl hc3 ?_
                  refine zw_iconst 1 19 f13_18 rfl (by decide +kernel) ?_
                  refine zw_goto 23 f13_19 (by decide +kernel) ?_
                  refine zw_zreturn f13_23 r13 u13 (by decide +kernel) ⟨_, rfl, ?_⟩
                  refine zw_if_eq_f 13 53 f1_10 (by decide +kernel) rfl (by decide +kernel) ?_
                  refine zw_aload_n 14 f1_13 rfl rfl ?_
                  refine zw_aload_n 15 f1_14 rfl rfl ?_
                  refine zw_getfield 18 f1_15 rfl g1_25_4 (hb_1 _ _ _ _) rfl ?_
                  refine zw_iload_n 19 f1_18 rfl rfl ?_
                  refine zw_iaload a.toNatClampNeg (A 3 a.toNatClampNeg) 20 f1_19 rfl (hb_3 _ _ _ _) rfl hc1 (zix (by decide) hc1 hc3) rfl ?_
                  refine zw_put _ 23 f1_20 rfl g1_28_0 (hb_44 _ _ _ _) rfl (Nat.le_of_ble_eq_true rfl) (by decide +kernel) (hi_44_0 _ _ _ _ _) ?_
                  refine zw_aload_n 24 f1_23 rfl rfl ?_
                  refine zw_aload_n 25 f1_24 rfl rfl ?_
                  refine zw_getfield 28 f1_25 rfl g1_31_4 (hb_1 _ _ _ _) rfl ?_
                  refine zw_iload_n 29 f1_28 rfl rfl ?_
                  refine zw_iaload a.toNatClampNeg (A 4 a.toNatClampNeg) 30 f1_29 rfl (hb_4 _ _ _ _) rfl hc1 (zix (by decide) hc1 hc3) rfl ?_
                  refine zw_put _ 33 f1_30 rfl g1_34_0 (hb_44 _ _ _ _) rfl (Nat.le_of_ble_eq_true rfl) (by decide +kernel) (hi_44_1 _ _ _ _ _) ?_
                  refine zw_aload_n 34 f1_33 rfl rfl ?_
                  refine zw_aload_n 35 f1_34 rfl rfl ?_
                  refine zw_getfield 38 f1_35 rfl g1_37_4 (hb_1 _ _ _ _) rfl ?_
                  refine zw_iload_n 39 f1_38 rfl rfl ?_
                  refine zw_iaload a.toNatClampNeg (A 5 a.toNatClampNeg) 40 f1_39 rfl (hb_5 _ _ _ _) rfl hc1 (zix (by decide) hc1 hc3) rfl ?_
                  refine zw_put _ 43 f1_40 rfl g1_40_0 (hb_44 _ _ _ _) rfl (Nat.le_of_ble_eq_true rfl) (by decide +kernel) (hi_44_2 _ _ _ _ _) ?_
                  refine zw_aload_n 44 f1_43 rfl rfl ?_
                  refine zw_aload_n 45 f1_44 rfl rfl ?_
                  refine zw_getfield 48 f1_45 rfl g1_43_9 (hb_12 _ _ _ _) rfl ?_
                  refine zw_iload_n 49 f1_48 rfl rfl ?_
                  refine zw_iaload a.toNatClampNeg (A 14 a.toNatClampNeg) 50 f1_49 rfl (hb_14 _ _ _ _) rfl hc1 (zix (by decide) hc1 hc3) rfl ?_
                  refine zw_put _ 53 f1_50 rfl g1_48_0 (hb_44 _ _ _ _) rfl (Nat.le_of_ble_eq_true rfl) (by decide +kernel) (hi_44_3 _ _ _ _ _) ?_
                  refine zw_vreturn f1_53 r1 u1 ⟨rfl, ?_⟩
                  refine zw_iload_n 75 f101_74 rfl (zl1_ne rfl rfl (zl1_ne rfl rfl rfl)) ?_
                  rcases zl_sw 2 (by decide) b with hs11 | ⟨hs11k, hs11l, hs11e⟩
                  · refine zw_table_o 133 f101_75 hs11 (by decide +kernel) ?_
                    refine zw_aload_n 134 f101_133 rfl (zl1_ne rfl rfl (zl1_ne rfl rfl rfl)) ?_
                    refine zw_aload 136 f101_134 rfl zl1_eq ?_
                    refine zw_iload_n 137 f101_136 rfl (zl1_ne rfl rfl (zl1_ne rfl rfl rfl)) ?_
                    refine zw_virtual_i 140 0 0 [.ref 50, .int c] [(0, .ref 50), (1, .int c)] f101_137 rfl n101_298 k101_298_2 rfl (hb_50 _ _ _ _) (by decide +kernel) (Nat.le_of_ble_eq_true rfl) rfl rfl (by decide +kernel) (by decide +kernel) rfl (Nat.le_of_ble_eq_true rfl) rfl ?_
                    refine zw_aload_n 1 f40_0 rfl rfl ?_
                    refine zw_getfield 4 f40_1 rfl g40_7_2 (hb_50 _ _ _ _) rfl ?_
                    refine zw_bipush 13 6 f40_4 rfl (by decide +kernel) ?_
                    refine zw_virtual_v 9 0 0 [.ref 44, .int 13] [(0, .ref 44), (1, .int 13)] f40_6 rfl n40_13 k40_13_0 rfl (hb_44 _ _ _ _) (by decide +kernel) (Nat.le_of_ble_eq_true rfl) rfl rfl (by decide +kernel) (by decide +kernel) rfl (Nat.le_of_ble_eq_true rfl) rfl ?_
                    refine zw_aload_n 1 f2_0 rfl rfl ?_
                    refine zw_getI 0 4 f2_1 rfl g2_15_0 (hb_44 _ _ _ _) rfl rfl ?_
                    refine zw_bipush 50 6 f2_4 rfl (by decide +kernel) ?_
                    refine zw_ic_ge_f 9 29 f2_6 (by decide +kernel) rfl (by decide +kernel) ?_
                    refine zw_aload_n 10 f2_9 rfl rfl ?_
                    refine zw_getfield 13 f2_10 rfl g2_9_0 (hb_44 _ _ _ _) rfl ?_
                    refine zw_aload_n 14 f2_13 rfl rfl ?_
                    refine zw_getI 0 17 f2_14 rfl g2_15_0 (hb_44 _ _ _ _) rfl rfl ?_
                    refine zw_iload_n 18 f2_17 rfl rfl ?_
                    refine zw_ast 0 _ 19 f2_18 rfl (hb_45 _ _ _ _) (by decide +kernel) (by decide +kernel) (by decide +kernel) (ha_45 _ _ _ _ _) ?_
                    refine zw_aload_n 20 f2_19 rfl rfl ?_
                    refine zw_dup 21 f2_20 rfl rfl ?_
                    refine zw_getI 0 24 f2_21 rfl g2_15_0 (hb_44 _ _ _ _) rfl rfl ?_
                    refine zw_iconst 1 25 f2_24 rfl (by decide +kernel) ?_
                    refine zw_iadd 1 26 f2_25 rfl (by decide +kernel) ?_
                    refine zw_put _ 29 f2_26 rfl g2_15_0 (hb_44 _ _ _ _) rfl (Nat.le_of_ble_eq_true rfl) (by decide +kernel) (hi_44_4 _ _ _ _ _) ?_
                    refine zw_vreturn f2_29 r2 u2 ⟨rfl, ?_⟩
                    refine zw_aload_n 10 f40_9 rfl rfl ?_
                    refine zw_iload_n 11 f40_10 rfl rfl ?_
                    refine zw_virtual_i 14 0 0 [.ref 50, .int c] [(0, .ref 50), (1, .int c)] f40_11 rfl n40_27 k40_27_2 rfl (hb_50 _ _ _ _) (by decide +kernel) (Nat.le_of_ble_eq_true rfl) rfl rfl (by decide +kernel) (by decide +kernel) rfl (Nat.le_of_ble_eq_true rfl) rfl ?_
                    refine zw_aload_n 1 f38_0 rfl rfl ?_
                    refine zw_getfield 4 f38_1 rfl g38_7_2 (hb_50 _ _ _ _) rfl ?_
                    refine zw_bipush 11 6 f38_4 rfl (by decide +kernel) ?_
                    refine zw_virtual_v 9 0 0 [.ref 44, .int 11] [(0, .ref 44), (1, .int 11)] f38_6 rfl n38_13 k38_13_0 rfl (hb_44 _ _ _ _) (by decide +kernel) (Nat.le_of_ble_eq_true rfl) rfl rfl (by decide +kernel) (by decide +kernel) rfl (Nat.le_of_ble_eq_true rfl) rfl ?_
                    refine zw_aload_n 1 f2_0 rfl rfl ?_
                    refine zw_getI 1 4 f2_1 rfl g2_15_0 (hb_44 _ _ _ _) rfl rfl ?_
                    refine zw_bipush 50 6 f2_4 rfl (by decide +kernel) ?_
                    refine zw_ic_ge_f 9 29 f2_6 (by decide +kernel) rfl (by decide +kernel) ?_
                    refine zw_aload_n 10 f2_9 rfl rfl ?_
                    refine zw_getfield 13 f2_10 rfl g2_9_0 (hb_44 _ _ _ _) rfl ?_
                    refine zw_aload_n 14 f2_13 rfl rfl ?_
                    refine zw_getI 1 17 f2_14 rfl g2_15_0 (hb_44 _ _ _ _) rfl rfl ?_
                    refine zw_iload_n 18 f2_17 rfl rfl ?_
                    refine zw_ast 1 _ 19 f2_18 rfl (hb_45 _ _ _ _) (by decide +kernel) (by decide +kernel) (by decide +kernel) (ha_45 _ _ _ _ _) ?_
                    refine zw_aload_n 20 f2_19 rfl rfl ?_
                    refine zw_dup 21 f2_20 rfl rfl ?_
                    refine zw_getI 1 24 f2_21 rfl g2_15_0 (hb_44 _ _ _ _) rfl rfl ?_
                    refine zw_iconst 1 25 f2_24 rfl (by decide +kernel) ?_
                    refine zw_iadd 2 26 f2_25 rfl (by decide +kernel) ?_
                    refine zw_put _ 29 f2_26 rfl g2_15_0 (hb_44 _ _ _ _) rfl (Nat.le_of_ble_eq_true rfl) (by decide +kernel) (hi_44_4 _ _ _ _ _) ?_
                    refine zw_vreturn f2_29 r2 u2 ⟨rfl, ?_⟩
                    refine zw_aload_n 10 f38_9 rfl rfl ?_
                    refine zw_iload_n 11 f38_10 rfl rfl ?_
                    refine zw_virtual_i 14 0 0 [.ref 50, .int c] [(0, .ref 50), (1, .int c)] f38_11 rfl n38_23 k38_23_2 rfl (hb_50 _ _ _ _) (by decide +kernel) (Nat.le_of_ble_eq_true rfl) rfl rfl (by decide +kernel) (by decide +kernel) rfl (Nat.le_of_ble_eq_true rfl) rfl ?_
                    refine zw_aload_n 1 f8_0 rfl rfl ?_
                    refine zw_getfield 4 f8_1 rfl g8_7_2 (hb_50 _ _ _ _) rfl ?_
                    refine zw_bipush 41 6 f8_4 rfl (by decide +kernel) ?_
                    refine zw_virtual_v 9 0 0 [.ref 44, .int 41] [(0, .ref 44), (1, .int 41)] f8_6 rfl n8_13 k8_13_0 rfl (hb_44 _ _ _ _) (by decide +kernel) (Nat.le_of_ble_eq_true rfl) rfl rfl (by decide +kernel) (by decide +kernel) rfl (Nat.le_of_ble_eq_true rfl) rfl ?_
                    refine zw_aload_n 1 f2_0 rfl rfl ?_
                    refine zw_getI 2 4 f2_1 rfl g2_15_0 (hb_44 _ _ _ _) rfl rfl ?_
                    refine zw_bipush 50 6 f2_4 rfl (by decide +kernel) ?_
                    refine zw_ic_ge_f 9 29 f2_6 (by decide +kernel) rfl (by decide +kernel) ?_
                    refine zw_aload_n 10 f2_9 rfl rfl ?_
                    refine zw_getfield 13 f2_10 rfl g2_9_0 (hb_44 _ _ _ _) rfl ?_
                    refine zw_aload_n 14 f2_13 rfl rfl ?_
                    refine zw_getI 2 17 f2_14 rfl g2_15_0 (hb_44 _ _ _ _) rfl rfl ?_
                    refine zw_iload_n 18 f2_17 rfl rfl ?_
                    refine zw_ast 2 _ 19 f2_18 rfl (hb_45 _ _ _ _) (by decide +kernel) (by decide +kernel) (by decide +kernel) (ha_45 _ _ _ _ _) ?_
                    refine zw_aload_n 20 f2_19 rfl rfl ?_
                    refine zw_dup 21 f2_20 rfl rfl ?_
                    refine zw_getI 2 24 f2_21 rfl g2_15_0 (hb_44 _ _ _ _) rfl rfl ?_
                    refine zw_iconst 1 25 f2_24 rfl (by decide +kernel) ?_
                    refine zw_iadd 3 26 f2_25 rfl (by decide +kernel) ?_
                    refine zw_put _ 29 f2_26 rfl g2_15_0 (hb_44 _ _ _ _) rfl (Nat.le_of_ble_eq_true rfl) (by decide +kernel) (hi_44_4 _ _ _ _ _) ?_
                    refine zw_vreturn f2_29 r2 u2 ⟨rfl, ?_⟩
                    refine zw_aload_n 10 f8_9 rfl rfl ?_
                    refine zw_iload_n 11 f8_10 rfl rfl ?_
                    refine zw_aload_n 12 f8_11 rfl rfl ?_
                    refine zw_getfield 15 f8_12 rfl g8_7_2 (hb_50 _ _ _ _) rfl ?_
                    refine zw_getI (A 4 a.toNatClampNeg) 18 f8_15 rfl g8_27_0 (hb_44 _ _ _ _) rfl rfl ?_
                    refine zw_iadd (c + (A 4 a.toNatClampNeg)) 19 f8_18 rfl rfl ?_
                    refine zw_super_i 22 0 0 [.ref 50, .int (c + (A 4 a.toNatClampNeg))] [(0, .ref 50), (1, .int (c + (A 4 a.toNatClampNeg)))] f8_19 rfl k8_30_99 k8_30_98 (by decide +kernel) rfl (hb_50 _ _ _ _) (by decide +kernel) (Nat.le_of_ble_eq_true rfl) rfl rfl (by decide +kernel) (by decide +kernel) rfl (Nat.le_of_ble_eq_true rfl) rfl ?_
                    refine zw_aload_n 1 f37_0 rfl rfl ?_
                    refine zw_getfield 4 f37_1 rfl g37_7_2 (hb_50 _ _ _ _) rfl ?_
                    refine zw_bipush 10 6 f37_4 rfl (by decide +kernel) ?_
                    refine zw_virtual_v 9 0 0 [.ref 44, .int 10] [(0, .ref 44), (1, .int 10)] f37_6 rfl n37_13 k37_13_0 rfl (hb_44 _ _ _ _) (by decide +kernel) (Nat.le_of_ble_eq_true rfl) rfl rfl (by decide +kernel) (by decide +kernel) rfl (Nat.le_of_ble_eq_true rfl) rfl ?_
                    refine zw_aload_n 1 f2_0 rfl rfl ?_
                    refine zw_getI 3 4 f2_1 rfl g2_15_0 (hb_44 _ _ _ _) rfl rfl ?_
                    refine zw_bipush 50 6 f2_4 rfl (by decide +kernel) ?_
                    refine zw_ic_ge_f 9 29 f2_6 (by decide +kernel) rfl (by decide +kernel) ?_
                    refine zw_aload_n 10 f2_9 rfl rfl ?_
                    refine zw_getfield 13 f2_10 rfl g2_9_0 (hb_44 _ _ _ _) rfl ?_
                    refine zw_aload_n 14 f2_13 rfl rfl ?_
                    refine zw_getI 3 17 f2_14 rfl g2_15_0 (hb_44 _ _ _ _) rfl rfl ?_
                    refine zw_iload_n 18 f2_17 rfl rfl ?_
                    refine zw_ast 3 _ 19 f2_18 rfl (hb_45 _ _ _ _) (by decide +kernel) (by decide +kernel) (by decide +kernel) (ha_45 _ _ _ _ _) ?_
                    refine zw_aload_n 20 f2_19 rfl rfl ?_
                    refine zw_dup 21 f2_20 rfl rfl ?_
                    refine zw_getI 3 24 f2_21 rfl g2_15_0 (hb_44 _ _ _ _) rfl rfl ?_
                    refine zw_iconst 1 25 f2_24 rfl (by decide +kernel) ?_
                    refine zw_iadd 4 26 f2_25 rfl (by decide +kernel) ?_
                    refine zw_put _ 29 f2_26 rfl g2_15_0 (hb_44 _ _ _ _) rfl (Nat.le_of_ble_eq_true rfl) (by decide +kernel) (hi_44_4 _ _ _ _ _) ?_
                    refine zw_vreturn f2_29 r2 u2 ⟨rfl, ?_⟩
                    refine zw_iload_n 10 f37_9 rfl rfl ?_
                    refine zw_aload_n 11 f37_10 rfl rfl ?_
                    refine zw_getfield 14 f37_11 rfl g37_7_2 (hb_50 _ _ _ _) rfl ?_
                    refine zw_getI (A 3 a.toNatClampNeg) 17 f37_14 rfl g37_19_0 (hb_44 _ _ _ _) rfl rfl ?_
                    refine zw_iadd ((c + (A 4 a.toNatClampNeg)) + (A 3 a.toNatClampNeg)) 18 f37_17 rfl rfl ?_
                    refine zw_ireturn f37_18 r37 u37 ⟨_, rfl, ?_⟩
                    refine zw_ireturn f8_22 r8 u8 ⟨_, rfl, ?_⟩
                    refine zw_iconst 3 15 f38_14 rfl (by decide +kernel) ?_
                    refine zw_imul (((c + (A 4 a.toNatClampNeg)) + (A 3 a.toNatClampNeg)) * 3) 16 f38_15 rfl rfl ?_
                    refine zw_ireturn f38_16 r38 u38 ⟨_, rfl, ?_⟩
                    refine zw_aload_n 15 f40_14 rfl rfl ?_
                    refine zw_iload_n 16 f40_15 rfl rfl ?_
                    refine zw_virtual_i 19 0 0 [.ref 50, .int c] [(0, .ref 50), (1, .int c)] f40_16 rfl n40_30 k40_30_2 rfl (hb_50 _ _ _ _) (by decide +kernel) (Nat.le_of_ble_eq_true rfl) rfl rfl (by decide +kernel) (by decide +kernel) rfl (Nat.le_of_ble_eq_true rfl) rfl ?_
                    refine zw_aload_n 1 f7_0 rfl rfl ?_
                    refine zw_getfield 4 f7_1 rfl g7_7_2 (hb_50 _ _ _ _) rfl ?_
                    refine zw_bipush 40 6 f7_4 rfl (by decide +kernel) ?_
                    refine zw_virtual_v 9 0 0 [.ref 44, .int 40] [(0, .ref 44), (1, .int 40)] f7_6 rfl n7_13 k7_13_0 rfl (hb_44 _ _ _ _) (by decide +kernel) (Nat.le_of_ble_eq_true rfl) rfl rfl (by decide +kernel) (by decide +kernel) rfl (Nat.le_of_ble_eq_true rfl) rfl ?_
                    refine zw_aload_n 1 f2_0 rfl rfl ?_
                    refine zw_getI 4 4 f2_1 rfl g2_15_0 (hb_44 _ _ _ _) rfl rfl ?_
                    refine zw_bipush 50 6 f2_4 rfl (by decide +kernel) ?_
                    refine zw_ic_ge_f 9 29 f2_6 (by decide +kernel) rfl (by decide +kernel) ?_
                    refine zw_aload_n 10 f2_9 rfl rfl ?_
                    refine zw_getfield 13 f2_10 rfl g2_9_0 (hb_44 _ _ _ _) rfl ?_
                    refine zw_aload_n 14 f2_13 rfl rfl ?_
                    refine zw_getI 4 17 f2_14 rfl g2_15_0 (hb_44 _ _ _ _) rfl rfl ?_
                    refine zw_iload_n 18 f2_17 rfl rfl ?_
                    refine zw_ast 4 _ 19 f2_18 rfl (hb_45 _ _ _ _) (by decide +kernel) (by decide +kernel) (by decide +kernel) (ha_45 _ _ _ _ _) ?_
                    refine zw_aload_n 20 f2_19 rfl rfl ?_
                    refine zw_dup 21 f2_20 rfl rfl ?_
                    refine zw_getI 4 24 f2_21 rfl g2_15_0 (hb_44 _ _ _ _) rfl rfl ?_
                    refine zw_iconst 1 25 f2_24 rfl (by decide +kernel) ?_
                    refine zw_iadd 5 26 f2_25 rfl (by decide +kernel) ?_
                    refine zw_put _ 29 f2_26 rfl g2_15_0 (hb_44 _ _ _ _) rfl (Nat.le_of_ble_eq_true rfl) (by decide +kernel) (hi_44_4 _ _ _ _ _) ?_
                    refine zw_vreturn f2_29 r2 u2 ⟨rfl, ?_⟩
                    refine zw_aload_n 10 f7_9 rfl rfl ?_
                    refine zw_iload_n 11 f7_10 rfl rfl ?_
                    refine zw_super_i 14 0 0 [.ref 50, .int c] [(0, .ref 50), (1, .int c)] f7_11 rfl k7_19_99 k7_19_98 (by decide +kernel) rfl (hb_50 _ _ _ _) (by decide +kernel) (Nat.le_of_ble_eq_true rfl) rfl rfl (by decide +kernel) (by decide +kernel) rfl (Nat.le_of_ble_eq_true rfl) rfl ?_
                    refine zw_aload_n 1 f39_0 rfl rfl ?_
                    refine zw_getfield 4 f39_1 rfl g39_7_2 (hb_50 _ _ _ _) rfl ?_
                    refine zw_bipush 12 6 f39_4 rfl (by decide +kernel) ?_
                    refine zw_virtual_v 9 0 0 [.ref 44, .int 12] [(0, .ref 44), (1, .int 12)] f39_6 rfl n39_13 k39_13_0 rfl (hb_44 _ _ _ _) (by decide +kernel) (Nat.le_of_ble_eq_true rfl) rfl rfl (by decide +kernel) (by decide +kernel) rfl (Nat.le_of_ble_eq_true rfl) rfl ?_
                    refine zw_aload_n 1 f2_0 rfl rfl ?_
                    refine zw_getI 5 4 f2_1 rfl g2_15_0 (hb_44 _ _ _ _) rfl rfl ?_
                    refine zw_bipush 50 6 f2_4 rfl (by decide +kernel) ?_
                    refine zw_ic_ge_f 9 29 f2_6 (by decide +kernel) rfl (by decide +kernel) ?_
                    refine zw_aload_n 10 f2_9 rfl rfl ?_
                    refine zw_getfield 13 f2_10 rfl g2_9_0 (hb_44 _ _ _ _) rfl ?_
                    refine zw_aload_n 14 f2_13 rfl rfl ?_
                    refine zw_getI 5 17 f2_14 rfl g2_15_0 (hb_44 _ _ _ _) rfl rfl ?_
                    refine zw_iload_n 18 f2_17 rfl rfl ?_
                    refine zw_ast 5 _ 19 f2_18 rfl (hb_45 _ _ _ _) (by decide +kernel) (by decide +kernel) (by decide +kernel) (ha_45 _ _ _ _ _) ?_
                    refine zw_aload_n 20 f2_19 rfl rfl ?_
                    refine zw_dup 21 f2_20 rfl rfl ?_
                    refine zw_getI 5 24 f2_21 rfl g2_15_0 (hb_44 _ _ _ _) rfl rfl ?_
                    refine zw_iconst 1 25 f2_24 rfl (by decide +kernel) ?_
                    refine zw_iadd 6 26 f2_25 rfl (by decide +kernel) ?_
                    refine zw_put _ 29 f2_26 rfl g2_15_0 (hb_44 _ _ _ _) rfl (Nat.le_of_ble_eq_true rfl) (by decide +kernel) (hi_44_4 _ _ _ _ _) ?_
                    refine zw_vreturn f2_29 r2 u2 ⟨rfl, ?_⟩
                    refine zw_iload_n 10 f39_9 rfl rfl ?_
                    refine zw_aload_n 11 f39_10 rfl rfl ?_
                    refine zw_getfield 14 f39_11 rfl g39_7_2 (hb_50 _ _ _ _) rfl ?_
                    refine zw_getI (A 3 a.toNatClampNeg) 17 f39_14 rfl g39_19_0 (hb_44 _ _ _ _) rfl rfl ?_
                    refine zw_ixor (c ^^^ (A 3 a.toNatClampNeg)) 18 f39_17 rfl rfl ?_
                    refine zw_ireturn f39_18 r39 u39 ⟨_, rfl, ?_⟩
                    refine zw_aload_n 15 f7_14 rfl rfl ?_
                    refine zw_getfield 18 f7_15 rfl g7_7_2 (hb_50 _ _ _ _) rfl ?_
                    refine zw_getI (A 5 a.toNatClampNeg) 21 f7_18 rfl g7_23_0 (hb_44 _ _ _ _) rfl rfl ?_
                    refine zw_iadd ((c ^^^ (A 3 a.toNatClampNeg)) + (A 5 a.toNatClampNeg)) 22 f7_21 rfl rfl ?_
                    refine zw_ireturn f7_22 r7 u7 ⟨_, rfl, ?_⟩
                    refine zw_isub ((((c + (A 4 a.toNatClampNeg)) + (A 3 a.toNatClampNeg)) * 3) - ((c ^^^ (A 3 a.toNatClampNeg)) + (A 5 a.toNatClampNeg))) 20 f40_19 rfl rfl ?_
                    refine zw_ireturn f40_20 r40 u40 ⟨_, rfl, ?_⟩
                    refine zw_virtual_i 143 0 0 [.ref 0, .int ((((c + (A 4 a.toNatClampNeg)) + (A 3 a.toNatClampNeg)) * 3) - ((c ^^^ (A 3 a.toNatClampNeg)) + (A 5 a.toNatClampNeg)))] [(0, .ref 0), (1, .int ((((c + (A 4 a.toNatClampNeg)) + (A 3 a.toNatClampNeg)) * 3) - ((c ^^^ (A 3 a.toNatClampNeg)) + (A 5 a.toNatClampNeg))))] f101_140 rfl n101_181 k101_181_11 rfl (hb_0 _ _ _ _) (by decide +kernel) (Nat.le_of_ble_eq_true rfl) rfl rfl (by decide +kernel) (by decide +kernel) rfl (Nat.le_of_ble_eq_true rfl) rfl ?_
                    refine zw_aload_n 1 f106_0 rfl rfl ?_
                    refine zw_iconst 0 2 f106_1 rfl (by decide +kernel) ?_
                    refine zw_put _ 5 f106_2 rfl g106_70_11 (hb_0 _ _ _ _) rfl (Nat.le_of_ble_eq_true rfl) (by decide +kernel) (hi_0_7 _ _ _ _ _) ?_
                    refine zw_iload_n 6 f106_5 rfl rfl ?_
                    refine zw_ireturn f106_6 r106 u106 ⟨_, rfl, ?_⟩
                    refine zw_ireturn f101_143 r101 u101 ?_
                    exact ⟨_, _, _, _, rfl, (KP.i rfl (KP.i rfl (KP.a rfl (KP.i rfl (KP.a rfl (KP.i rfl (KP.a rfl (KP.i rfl (KP.a rfl (KP.i rfl (KP.a rfl (KP.i rfl (KP.a rfl (KP.i rfl (KP.i rfl (KP.i rfl (KP.i rfl (KP.i rfl KP.rf)))))))))))))))))), ⟨⟨hI.1, hI.2.1, 6, by omega, rfl⟩, PE.of10 rfl rfl rfl rfl rfl rfl rfl rfl rfl rfl⟩, _, rfl⟩
                  · rcases (show hs11k = 0 ∨ hs11k = 1 ∨ hs11k = 2 by omega) with rfl | rfl | rfl
                    · refine zw_table_k 25 100 f101_75 hs11e (by decide +kernel) (by decide +kernel) (by decide +kernel) ?_
                      refine zw_aload_n 101 f101_100 rfl (zl1_ne rfl rfl (zl1_ne rfl rfl rfl)) ?_
                      refine zw_aload 103 f101_101 rfl zl1_eq ?_
                      refine zw_iload_n 104 f101_103 rfl (zl1_ne rfl rfl (zl1_ne rfl rfl rfl)) ?_
                      refine zw_virtual_i 107 0 0 [.ref 50, .int c] [(0, .ref 50), (1, .int c)] f101_104 rfl n101_289 k101_289_2 rfl (hb_50 _ _ _ _) (by decide +kernel) (Nat.le_of_ble_eq_true rfl) rfl rfl (by decide +kernel) (by decide +kernel) rfl (Nat.le_of_ble_eq_true rfl) rfl ?_
                      refine zw_aload_n 1 f8_0 rfl rfl ?_
                      refine zw_getfield 4 f8_1 rfl g8_7_2 (hb_50 _ _ _ _) rfl ?_
                      refine zw_bipush 41 6 f8_4 rfl (by decide +kernel) ?_
                      refine zw_virtual_v 9 0 0 [.ref 44, .int 41] [(0, .ref 44), (1, .int 41)] f8_6 rfl n8_13 k8_13_0 rfl (hb_44 _ _ _ _) (by decide +kernel) (Nat.le_of_ble_eq_true rfl) rfl rfl (by decide +kernel) (by decide +kernel) rfl (Nat.le_of_ble_eq_true rfl) rfl ?_
                      refine zw_aload_n 1 f2_0 rfl rfl ?_
                      refine zw_getI 0 4 f2_1 rfl g2_15_0 (hb_44 _ _ _ _) rfl rfl ?_
                      refine zw_bipush 50 6 f2_4 rfl (by decide +kernel) ?_
                      refine zw_ic_ge_f 9 29 f2_6 (by decide +kernel) rfl (by decide +kernel) ?_
                      refine zw_aload_n 10 f2_9 rfl rfl ?_
                      refine zw_getfield 13 f2_10 rfl g2_9_0 (hb_44 _ _ _ _) rfl ?_
                      refine zw_aload_n 14 f2_13 rfl rfl ?_
                      refine zw_getI 0 17 f2_14 rfl g2_15_0 (hb_44 _ _ _ _) rfl rfl ?_
                      refine zw_iload_n 18 f2_17 rfl rfl ?_
                      refine zw_ast 0 _ 19 f2_18 rfl (hb_45 _ _ _ _) (by decide +kernel) (by decide +kernel) (by decide +kernel) (ha_45 _ _ _ _ _) ?_
                      refine zw_aload_n 20 f2_19 rfl rfl ?_
                      refine zw_dup 21 f2_20 rfl rfl ?_
                      refine zw_getI 0 24 f2_21 rfl g2_15_0 (hb_44 _ _ _ _) rfl rfl ?_
                      refine zw_iconst 1 25 f2_24 rfl (by decide +kernel) ?_
                      refine zw_iadd 1 26 f2_25 rfl (by decide +kernel) ?_
                      refine zw_put _ 29 f2_26 rfl g2_15_0 (hb_44 _ _ _ _) rfl (Nat.le_of_ble_eq_true rfl) (by decide +kernel) (hi_44_4 _ _ _ _ _) ?_
                      refine zw_vreturn f2_29 r2 u2 ⟨rfl, ?_⟩
                      refine zw_aload_n 10 f8_9 rfl rfl ?_
                      refine zw_iload_n 11 f8_10 rfl rfl ?_
                      refine zw_aload_n 12 f8_11 rfl rfl ?_
                      refine zw_getfield 15 f8_12 rfl g8_7_2 (hb_50 _ _ _ _) rfl ?_
                      refine zw_getI (A 4 a.toNatClampNeg) 18 f8_15 rfl g8_27_0 (hb_44 _ _ _ _) rfl rfl ?_
                      refine zw_iadd (c + (A 4 a.toNatClampNeg)) 19 f8_18 rfl rfl ?_
                      refine zw_super_i 22 0 0 [.ref 50, .int (c + (A 4 a.toNatClampNeg))] [(0, .ref 50), (1, .int (c + (A 4 a.toNatClampNeg)))] f8_19 rfl k8_30_99 k8_30_98 (by decide +kernel) rfl (hb_50 _ _ _ _) (by decide +kernel) (Nat.le_of_ble_eq_true rfl) rfl rfl (by decide +kernel) (by decide +kernel) rfl (Nat.le_of_ble_eq_true rfl) rfl ?_
                      refine zw_aload_n 1 f37_0 rfl rfl ?_
                      refine zw_getfield 4 f37_1 rfl g37_7_2 (hb_50 _ _ _ _) rfl ?_
                      refine zw_bipush 10 6 f37_4 rfl (by decide +kernel) ?_
                      refine zw_virtual_v 9 0 0 [.ref 44, .int 10] [(0, .ref 44), (1, .int 10)] f37_6 rfl n37_13 k37_13_0 rfl (hb_44 _ _ _ _) (by decide +kernel) (Nat.le_of_ble_eq_true rfl) rfl rfl (by decide +kernel) (by decide +kernel) rfl (Nat.le_of_ble_eq_true rfl) rfl ?_
                      refine zw_aload_n 1 f2_0 rfl rfl ?_
                      refine zw_getI 1 4 f2_1 rfl g2_15_0 (hb_44 _ _ _ _) rfl rfl ?_
                      refine zw_bipush 50 6 f2_4 rfl (by decide +kernel) ?_
                      refine zw_ic_ge_f 9 29 f2_6 (by decide +kernel) rfl (by decide +kernel) ?_
                      refine zw_aload_n 10 f2_9 rfl rfl ?_
                      refine zw_getfield 13 f2_10 rfl g2_9_0 (hb_44 _ _ _ _) rfl ?_
                      refine zw_aload_n 14 f2_13 rfl rfl ?_
                      refine zw_getI 1 17 f2_14 rfl g2_15_0 (hb_44 _ _ _ _) rfl rfl ?_
                      refine zw_iload_n 18 f2_17 rfl rfl ?_
                      refine zw_ast 1 _ 19 f2_18 rfl (hb_45 _ _ _ _) (by decide +kernel) (by decide +kernel) (by decide +kernel) (ha_45 _ _ _ _ _) ?_
                      refine zw_aload_n 20 f2_19 rfl rfl ?_
                      refine zw_dup 21 f2_20 rfl rfl ?_
                      refine zw_getI 1 24 f2_21 rfl g2_15_0 (hb_44 _ _ _ _) rfl rfl ?_
                      refine zw_iconst 1 25 f2_24 rfl (by decide +kernel) ?_
                      refine zw_iadd 2 26 f2_25 rfl (by decide +kernel) ?_
                      refine zw_put _ 29 f2_26 rfl g2_15_0 (hb_44 _ _ _ _) rfl (Nat.le_of_ble_eq_true rfl) (by decide +kernel) (hi_44_4 _ _ _ _ _) ?_
                      refine zw_vreturn f2_29 r2 u2 ⟨rfl, ?_⟩
                      refine zw_iload_n 10 f37_9 rfl rfl ?_
                      refine zw_aload_n 11 f37_10 rfl rfl ?_
                      refine zw_getfield 14 f37_11 rfl g37_7_2 (hb_50 _ _ _ _) rfl ?_
                      refine zw_getI (A 3 a.toNatClampNeg) 17 f37_14 rfl g37_19_0 (hb_44 _ _ _ _) rfl rfl ?_
                      refine zw_iadd ((c + (A 4 a.toNatClampNeg)) + (A 3 a.toNatClampNeg)) 18 f37_17 rfl rfl ?_
                      refine zw_ireturn f37_18 r37 u37 ⟨_, rfl, ?_⟩
                      refine zw_ireturn f8_22 r8 u8 ⟨_, rfl, ?_⟩
                      refine zw_virtual_i 110 0 0 [.ref 0, .int ((c + (A 4 a.toNatClampNeg)) + (A 3 a.toNatClampNeg))] [(0, .ref 0), (1, .int ((c + (A 4 a.toNatClampNeg)) + (A 3 a.toNatClampNeg)))] f101_107 rfl n101_181 k101_181_11 rfl (hb_0 _ _ _ _) (by decide +kernel) (Nat.le_of_ble_eq_true rfl) rfl rfl (by decide +kernel) (by decide +kernel) rfl (Nat.le_of_ble_eq_true rfl) rfl ?_
                      refine zw_aload_n 1 f106_0 rfl rfl ?_
                      refine zw_iconst 0 2 f106_1 rfl (by decide +kernel) ?_
                      refine zw_put _ 5 f106_2 rfl g106_70_11 (hb_0 _ _ _ _) rfl (Nat.le_of_ble_eq_true rfl) (by decide +kernel) (hi_0_7 _ _ _ _ _) ?_
                      refine zw_iload_n 6 f106_5 rfl rfl ?_
                      refine zw_ireturn f106_6 r106 u106 ⟨_, rfl, ?_⟩
                      refine zw_ireturn f101_110 r101 u101 ?_
                      exact ⟨_, _, _, _, rfl, (KP.i rfl (KP.i rfl (KP.a rfl (KP.i rfl (KP.a rfl (KP.i rfl (KP.i rfl (KP.i rfl (KP.i rfl (KP.i rfl KP.rf)))))))))), ⟨⟨hI.1, hI.2.1, 2, by omega, rfl⟩, PE.of10 rfl rfl rfl rfl rfl rfl rfl rfl rfl rfl⟩, _, rfl⟩
                    · refine zw_table_k 36 111 f101_75 hs11e (by decide +kernel) (by decide +kernel) (by decide +kernel) ?_
                      refine zw_aload_n 112 f101_111 rfl (zl1_ne rfl rfl (zl1_ne rfl rfl rfl)) ?_
                      refine zw_aload 114 f101_112 rfl zl1_eq ?_
                      refine zw_iload_n 115 f101_114 rfl (zl1_ne rfl rfl (zl1_ne rfl rfl rfl)) ?_
                      refine zw_virtual_i 118 0 0 [.ref 50, .int c] [(0, .ref 50), (1, .int c)] f101_115 rfl n101_292 k101_292_2 rfl (hb_50 _ _ _ _) (by decide +kernel) (Nat.le_of_ble_eq_true rfl) rfl rfl (by decide +kernel) (by decide +kernel) rfl (Nat.le_of_ble_eq_true rfl) rfl ?_
                      refine zw_aload_n 1 f38_0 rfl rfl ?_
                      refine zw_getfield 4 f38_1 rfl g38_7_2 (hb_50 _ _ _ _) rfl ?_
                      refine zw_bipush 11 6 f38_4 rfl (by decide +kernel) ?_
                      refine zw_virtual_v 9 0 0 [.ref 44, .int 11] [(0, .ref 44), (1, .int 11)] f38_6 rfl n38_13 k38_13_0 rfl (hb_44 _ _ _ _) (by decide +kernel) (Nat.le_of_ble_eq_true rfl) rfl rfl (by decide +kernel) (by decide +kernel) rfl (Nat.le_of_ble_eq_true rfl) rfl ?_
                      refine zw_aload_n 1 f2_0 rfl rfl ?_
                      refine zw_getI 0 4 f2_1 rfl g2_15_0 (hb_44 _ _ _ _) rfl rfl ?_
                      refine zw_bipush 50 6 f2_4 rfl (by decide +kernel) ?_
                      refine zw_ic_ge_f 9 29 f2_6 (by decide +kernel) rfl (by decide +kernel) ?_
                      refine zw_aload_n 10 f2_9 rfl rfl ?_
                      refine zw_getfield 13 f2_10 rfl g2_9_0 (hb_44 _ _ _ _) rfl ?_
                      refine zw_aload_n 14 f2_13 rfl rfl ?_
                      refine zw_getI 0 17 f2_14 rfl g2_15_0 (hb_44 _ _ _ _) rfl rfl ?_
                      refine zw_iload_n 18 f2_17 rfl rfl ?_
                      refine zw_ast 0 _ 19 f2_18 rfl (hb_45 _ _ _ _) (by decide +kernel) (by decide +kernel) (by decide +kernel) (ha_45 _ _ _ _ _) ?_
                      refine zw_aload_n 20 f2_19 rfl rfl ?_
                      refine zw_dup 21 f2_20 rfl rfl ?_
                      refine zw_getI 0 24 f2_21 rfl g2_15_0 (hb_44 _ _ _ _) rfl rfl ?_
                      refine zw_iconst 1 25 f2_24 rfl (by decide +kernel) ?_
                      refine zw_iadd 1 26 f2_25 rfl (by decide +kernel) ?_
                      refine zw_put _ 29 f2_26 rfl g2_15_0 (hb_44 _ _ _ _) rfl (Nat.le_of_ble_eq_true rfl) (by decide +kernel) (hi_44_4 _ _ _ _ _) ?_
                      refine zw_vreturn f2_29 r2 u2 ⟨rfl, ?_⟩
                      refine zw_aload_n 10 f38_9 rfl rfl ?_
                      refine zw_iload_n 11 f38_10 rfl rfl ?_
                      refine zw_virtual_i 14 0 0 [.ref 50, .int c] [(0, .ref 50), (1, .int c)] f38_11 rfl n38_23 k38_23_2 rfl (hb_50 _ _ _ _) (by decide +kernel) (Nat.le_of_ble_eq_true rfl) rfl rfl (by decide +kernel) (by decide +kernel) rfl (Nat.le_of_ble_eq_true rfl) rfl ?_
                      refine zw_aload_n 1 f8_0 rfl rfl ?_
                      refine zw_getfield 4 f8_1 rfl g8_7_2 (hb_50 _ _ _ _) rfl ?_
                      refine zw_bipush 41 6 f8_4 rfl (by decide +kernel) ?_
                      refine zw_virtual_v 9 0 0 [.ref 44, .int 41] [(0, .ref 44), (1, .int 41)] f8_6 rfl n8_13 k8_13_0 rfl (hb_44 _ _ _ _) (by decide +kernel) (Nat.le_of_ble_eq_true rfl) rfl rfl (by decide +kernel) (by decide +kernel) rfl (Nat.le_of_ble_eq_true rfl) rfl ?_
                      refine zw_aload_n 1 f2_0 rfl rfl ?_
                      refine zw_getI 1 4 f2_1 rfl g2_15_0 (hb_44 _ _ _ _) rfl rfl ?_
                      refine zw_bipush 50 6 f2_4 rfl (by decide +kernel) ?_
                      refine zw_ic_ge_f 9 29 f2_6 (by decide +kernel) rfl (by decide +kernel) ?_
                      refine zw_aload_n 10 f2_9 rfl rfl ?_
                      refine zw_getfield 13 f2_10 rfl g2_9_0 (hb_44 _ _ _ _) rfl ?_
                      refine zw_aload_n 14 f2_13 rfl rfl ?_
                      refine zw_getI 1 17 f2_14 rfl g2_15_0 (hb_44 _ _ _ _) rfl rfl ?_
                      refine zw_iload_n 18 f2_17 rfl rfl ?_
                      refine zw_ast 1 _ 19 f2_18 rfl (hb_45 _ _ _ _) (by decide +kernel) (by decide +kernel) (by decide +kernel) (ha_45 _ _ _ _ _) ?_
                      refine zw_aload_n 20 f2_19 rfl rfl ?_
                      refine zw_dup 21 f2_20 rfl rfl ?_
                      refine zw_getI 1 24 f2_21 rfl g2_15_0 (hb_44 _ _ _ _) rfl rfl ?_
                      refine zw_iconst 1 25 f2_24 rfl (by decide +kernel) ?_
                      refine zw_iadd 2 26 f2_25 rfl (by decide +kernel) ?_
                      refine zw_put _ 29 f2_26 rfl g2_15_0 (hb_44 _ _ _ _) rfl (Nat.le_of_ble_eq_true rfl) (by decide +kernel) (hi_44_4 _ _ _ _ _) ?_
                      refine zw_vreturn f2_29 r2 u2 ⟨rfl, ?_⟩
                      refine zw_aload_n 10 f8_9 rfl rfl ?_
                      refine zw_iload_n 11 f8_10 rfl rfl ?_
                      refine zw_aload_n 12 f8_11 rfl rfl ?_
                      refine zw_getfield 15 f8_12 rfl g8_7_2 (hb_50 _ _ _ _) rfl ?_
                      refine zw_getI (A 4 a.toNatClampNeg) 18 f8_15 rfl g8_27_0 (hb_44 _ _ _ _) rfl rfl ?_
                      refine zw_iadd (c + (A 4 a.toNatClampNeg)) 19 f8_18 rfl rfl ?_
                      refine zw_super_i 22 0 0 [.ref 50, .int (c + (A 4 a.toNatClampNeg))] [(0, .ref 50), (1, .int (c + (A 4 a.toNatClampNeg)))] f8_19 rfl k8_30_99 k8_30_98 (by decide +kernel) rfl (hb_50 _ _ _ _) (by decide +kernel) (Nat.le_of_ble_eq_true rfl) rfl rfl (by decide +kernel) (by decide +kernel) rfl (Nat.le_of_ble_eq_true rfl) rfl ?_
                      refine zw_aload_n 1 f37_0 rfl rfl ?_
                      refine zw_getfield 4 f37_1 rfl g37_7_2 (hb_50 _ _ _ _) rfl ?_
                      refine zw_bipush 10 6 f37_4 rfl (by decide +kernel) ?_
                      refine zw_virtual_v 9 0 0 [.ref 44, .int 10] [(0, .ref 44), (1, .int 10)] f37_6 rfl n37_13 k37_13_0 rfl (hb_44 _ _ _ _) (by decide +kernel) (Nat.le_of_ble_eq_true rfl) rfl rfl (by decide +kernel) (by decide +kernel) rfl (Nat.le_of_ble_eq_true rfl) rfl ?_
                      refine zw_aload_n 1 f2_0 rfl rfl ?_
                      refine zw_getI 2 4 f2_1 rfl g2_15_0 (hb_44 _ _ _ _) rfl rfl ?_
                      refine zw_bipush 50 6 f2_4 rfl (by decide +kernel) ?_
                      refine zw_ic_ge_f 9 29 f2_6 (by decide +kernel) rfl (by decide +kernel) ?_
                      refine zw_aload_n 10 f2_9 rfl rfl ?_
                      refine zw_getfield 13 f2_10 rfl g2_9_0 (hb_44 _ _ _ _) rfl ?_
                      refine zw_aload_n 14 f2_13 rfl rfl ?_
                      refine zw_getI 2 17 f2_14 rfl g2_15_0 (hb_44 _ _ _ _) rfl rfl ?_
                      refine zw_iload_n 18 f2_17 rfl rfl ?_
                      refine zw_ast 2 _ 19 f2_18 rfl (hb_45 _ _ _ _) (by decide +kernel) (by decide +kernel) (by decide +kernel) (ha_45 _ _ _ _ _) ?_
                      refine zw_aload_n 20 f2_19 rfl rfl ?_
                      refine zw_dup 21 f2_20 rfl rfl ?_
                      refine zw_getI 2 24 f2_21 rfl g2_15_0 (hb_44 _ _ _ _) rfl rfl ?_
                      refine zw_iconst 1 25 f2_24 rfl (by decide +kernel) ?_
                      refine zw_iadd 3 26 f2_25 rfl (by decide +kernel) ?_
                      refine zw_put _ 29 f2_26 rfl g2_15_0 (hb_44 _ _ _ _) rfl (Nat.le_of_ble_eq_true rfl) (by decide +kernel) (hi_44_4 _ _ _ _ _) ?_
                      refine zw_vreturn f2_29 r2 u2 ⟨rfl, ?_⟩
                      refine zw_iload_n 10 f37_9 rfl rfl ?_
                      refine zw_aload_n 11 f37_10 rfl rfl ?_
                      refine zw_getfield 14 f37_11 rfl g37_7_2 (hb_50 _ _ _ _) rfl ?_
                      refine zw_getI (A 3 a.toNatClampNeg) 17 f37_14 rfl g37_19_0 (hb_44 _ _ _ _) rfl rfl ?_
                      refine zw_iadd ((c + (A 4 a.toNatClampNeg)) + (A 3 a.toNatClampNeg)) 18 f37_17 rfl rfl ?_
                      refine zw_ireturn f37_18 r37 u37 ⟨_, rfl, ?_⟩
                      refine zw_ireturn f8_22 r8 u8 ⟨_, rfl, ?_⟩
                      refine zw_iconst 3 15 f38_14 rfl (by decide +kernel) ?_
                      refine zw_imul (((c + (A 4 a.toNatClampNeg)) + (A 3 a.toNatClampNeg)) * 3) 16 f38_15 rfl rfl ?_
                      refine zw_ireturn f38_16 r38 u38 ⟨_, rfl, ?_⟩
                      refine zw_virtual_i 121 0 0 [.ref 0, .int (((c + (A 4 a.toNatClampNeg)) + (A 3 a.toNatClampNeg)) * 3)] [(0, .ref 0), (1, .int (((c + (A 4 a.toNatClampNeg)) + (A 3 a.toNatClampNeg)) * 3))] f101_118 rfl n101_181 k101_181_11 rfl (hb_0 _ _ _ _) (by decide +kernel) (Nat.le_of_ble_eq_true rfl) rfl rfl (by decide +kernel) (by decide +kernel) rfl (Nat.le_of_ble_eq_true rfl) rfl ?_
                      refine zw_aload_n 1 f106_0 rfl rfl ?_
                      refine zw_iconst 0 2 f106_1 rfl (by decide +kernel) ?_
                      refine zw_put _ 5 f106_2 rfl g106_70_11 (hb_0 _ _ _ _) rfl (Nat.le_of_ble_eq_true rfl) (by decide +kernel) (hi_0_7 _ _ _ _ _) ?_
                      refine zw_iload_n 6 f106_5 rfl rfl ?_
                      refine zw_ireturn f106_6 r106 u106 ⟨_, rfl, ?_⟩
                      refine zw_ireturn f101_121 r101 u101 ?_
                      exact ⟨_, _, _, _, rfl, (KP.i rfl (KP.i rfl (KP.a rfl (KP.i rfl (KP.a rfl (KP.i rfl (KP.a rfl (KP.i rfl (KP.i rfl (KP.i rfl (KP.i rfl (KP.i rfl KP.rf)))))))))))), ⟨⟨hI.1, hI.2.1, 3, by omega, rfl⟩, PE.of10 rfl rfl rfl rfl rfl rfl rfl rfl rfl rfl⟩, _, rfl⟩
                    · refine zw_table_k 47 122 f101_75 hs11e (by decide +kernel) (by decide +kernel) (by decide +kernel) ?_
                      refine zw_aload_n 123 f101_122 rfl (zl1_ne rfl rfl (zl1_ne rfl rfl rfl)) ?_
                      refine zw_aload 125 f101_123 rfl zl1_eq ?_
                      refine zw_iload_n 126 f101_125 rfl (zl1_ne rfl rfl (zl1_ne rfl rfl rfl)) ?_
                      refine zw_virtual_i 129 0 0 [.ref 50, .int c] [(0, .ref 50), (1, .int c)] f101_126 rfl n101_295 k101_295_2 rfl (hb_50 _ _ _ _) (by decide +kernel) (Nat.le_of_ble_eq_true rfl) rfl rfl (by decide +kernel) (by decide +kernel) rfl (Nat.le_of_ble_eq_true rfl) rfl ?_
                      refine zw_aload_n 1 f7_0 rfl rfl ?_
                      refine zw_getfield 4 f7_1 rfl g7_7_2 (hb_50 _ _ _ _) rfl ?_
                      refine zw_bipush 40 6 f7_4 rfl (by decide +kernel) ?_
                      refine zw_virtual_v 9 0 0 [.ref 44, .int 40] [(0, .ref 44), (1, .int 40)] f7_6 rfl n7_13 k7_13_0 rfl (hb_44 _ _ _ _) (by decide +kernel) (Nat.le_of_ble_eq_true rfl) rfl rfl (by decide +kernel) (by decide +kernel) rfl (Nat.le_of_ble_eq_true rfl) rfl ?_
                      refine zw_aload_n 1 f2_0 rfl rfl ?_
                      refine zw_getI 0 4 f2_1 rfl g2_15_0 (hb_44 _ _ _ _) rfl rfl ?_
                      refine zw_bipush 50 6 f2_4 rfl (by decide +kernel) ?_
                      refine zw_ic_ge_f 9 29 f2_6 (by decide +kernel) rfl (by decide +kernel) ?_
                      refine zw_aload_n 10 f2_9 rfl rfl ?_
                      refine zw_getfield 13 f2_10 rfl g2_9_0 (hb_44 _ _ _ _) rfl ?_
                      refine zw_aload_n 14 f2_13 rfl rfl ?_
                      refine zw_getI 0 17 f2_14 rfl g2_15_0 (hb_44 _ _ _ _) rfl rfl ?_
                      refine zw_iload_n 18 f2_17 rfl rfl ?_
                      refine zw_ast 0 _ 19 f2_18 rfl (hb_45 _ _ _ _) (by decide +kernel) (by decide +kernel) (by decide +kernel) (ha_45 _ _ _ _ _) ?_
                      refine zw_aload_n 20 f2_19 rfl rfl ?_
                      refine zw_dup 21 f2_20 rfl rfl ?_
                      refine zw_getI 0 24 f2_21 rfl g2_15_0 (hb_44 _ _ _ _) rfl rfl ?_
                      refine zw_iconst 1 25 f2_24 rfl (by decide +kernel) ?_
                      refine zw_iadd 1 26 f2_25 rfl (by decide +kernel) ?_
                      refine zw_put _ 29 f2_26 rfl g2_15_0 (hb_44 _ _ _ _) rfl (Nat.le_of_ble_eq_true rfl) (by decide +kernel) (hi_44_4 _ _ _ _ _) ?_
                      refine zw_vreturn f2_29 r2 u2 ⟨rfl, ?_⟩
                      refine zw_aload_n 10 f7_9 rfl rfl ?_
                      refine zw_iload_n 11 f7_10 rfl rfl ?_
                      refine zw_super_i 14 0 0 [.ref 50, .int c] [(0, .ref 50), (1, .int c)] f7_11 rfl k7_19_99 k7_19_98 (by decide +kernel) rfl (hb_50 _ _ _ _) (by decide +kernel) (Nat.le_of_ble_eq_true rfl) rfl rfl (by decide +kernel) (by decide +kernel) rfl (Nat.le_of_ble_eq_true rfl) rfl ?_
                      refine zw_aload_n 1 f39_0 rfl rfl ?_
                      refine zw_getfield 4 f39_1 rfl g39_7_2 (hb_50 _ _ _ _) rfl ?_
                      refine zw_bipush 12 6 f39_4 rfl (by decide +kernel) ?_
                      refine zw_virtual_v 9 0 0 [.ref 44, .int 12] [(0, .ref 44), (1, .int 12)] f39_6 rfl n39_13 k39_13_0 rfl (hb_44 _ _ _ _) (by decide +kernel) (Nat.le_of_ble_eq_true rfl) rfl rfl (by decide +kernel) (by decide +kernel) rfl (Nat.le_of_ble_eq_true rfl) rfl ?_
                      refine zw_aload_n 1 f2_0 rfl rfl ?_
                      refine zw_getI 1 4 f2_1 rfl g2_15_0 (hb_44 _ _ _ _) rfl rfl ?_
                      refine zw_bipush 50 6 f2_4 rfl (by decide +kernel) ?_
                      refine zw_ic_ge_f 9 29 f2_6 (by decide +kernel) rfl (by decide +kernel) ?_
                      refine zw_aload_n 10 f2_9 rfl rfl ?_
                      refine zw_getfield 13 f2_10 rfl g2_9_0 (hb_44 _ _ _ _) rfl ?_
                      refine zw_aload_n 14 f2_13 rfl rfl ?_
                      refine zw_getI 1 17 f2_14 rfl g2_15_0 (hb_44 _ _ _ _) rfl rfl ?_
                      refine zw_iload_n 18 f2_17 rfl rfl ?_
                      refine zw_ast 1 _ 19 f2_18 rfl (hb_45 _ _ _ _) (by decide +kernel) (by decide +kernel) (by decide +kernel) (ha_45 _ _ _ _ _) ?_
                      refine zw_aload_n 20 f2_19 rfl rfl ?_
                      refine zw_dup 21 f2_20 rfl rfl ?_
                      refine zw_getI 1 24 f2_21 rfl g2_15_0 (hb_44 _ _ _ _) rfl rfl ?_
                      refine zw_iconst 1 25 f2_24 rfl (by decide +kernel) ?_
                      refine zw_iadd 2 26 f2_25 rfl (by decide +kernel) ?_
                      refine zw_put _ 29 f2_26 rfl g2_15_0 (hb_44 _ _ _ _) rfl (Nat.le_of_ble_eq_true rfl) (by decide +kernel) (hi_44_4 _ _ _ _ _) ?_
                      refine zw_vreturn f2_29 r2 u2 ⟨rfl, ?_⟩
                      refine zw_iload_n 10 f39_9 rfl rfl ?_
                      refine zw_aload_n 11 f39_10 rfl rfl ?_
                      refine zw_getfield 14 f39_11 rfl g39_7_2 (hb_50 _ _ _ _) rfl ?_
                      refine zw_getI (A 3 a.toNatClampNeg) 17 f39_14 rfl g39_19_0 (hb_44 _ _ _ _) rfl rfl ?_
                      refine zw_ixor (c ^^^ (A 3 a.toNatClampNeg)) 18 f39_17 rfl rfl ?_
                      refine zw_ireturn f39_18 r39 u39 ⟨_, rfl, ?_⟩
                      refine zw_aload_n 15 f7_14 rfl rfl ?_
                      refine zw_getfield 18 f7_15 rfl g7_7_2 (hb_50 _ _ _ _) rfl ?_
                      refine zw_getI (A 5 a.toNatClampNeg) 21 f7_18 rfl g7_23_0 (hb_44 _ _ _ _) rfl rfl ?_
                      refine zw_iadd ((c ^^^ (A 3 a.toNatClampNeg)) + (A 5 a.toNatClampNeg)) 22 f7_21 rfl rfl ?_
                      refine zw_ireturn f7_22 r7 u7 ⟨_, rfl, ?_⟩
                      refine zw_virtual_i 132 0 0 [.ref 0, .int ((c ^^^ (A 3 a.toNatClampNeg)) + (A 5 a.toNatClampNeg))] [(0, .ref 0), (1, .int ((c ^^^ (A 3 a.toNatClampNeg)) + (A 5 a.toNatClampNeg)))] f101_129 rfl n101_181 k101_181_11 rfl (hb_0 _ _ _ _) (by decide +kernel) (Nat.le_of_ble_eq_true rfl) rfl rfl (by decide +kernel) (by decide +kernel) rfl (Nat.le_of_ble_eq_true rfl) rfl ?_
                      refine zw_aload_n 1 f106_0 rfl rfl ?_
                      refine zw_iconst 0 2 f106_1 rfl (by decide +kernel) ?_
                      refine zw_put _ 5 f106_2 rfl g106_70_11 (hb_0 _ _ _ _) rfl (Nat.le_of_ble_eq_true rfl) (by decide +kernel) (hi_0_7 _ _ _ _ _) ?_
                      refine zw_iload_n 6 f106_5 rfl rfl ?_
                      refine zw_ireturn f106_6 r106 u106 ⟨_, rfl, ?_⟩
                      refine zw_ireturn f101_132 r101 u101 ?_
                      exact ⟨_, _, _, _, rfl, (KP.i rfl (KP.i rfl (KP.a rfl (KP.i rfl (KP.a rfl (KP.i rfl (KP.i rfl (KP.i rfl (KP.i rfl (KP.i rfl KP.rf)))))))))), ⟨⟨hI.1, hI.2.1, 2, by omega, rfl⟩, PE.of10 rfl rfl rfl rfl rfl rfl rfl rfl rfl rfl⟩, _, rfl⟩
                · refine zw_aaload 4 42 f101_41 rfl (hb_46 _ _ _ _) (by rw [hk]; decide) (by rw [hk]; decide) (by decide) rfl ?_
                  refine zw_astore _ 44 f101_42 rfl (by decide +kernel) rfl ?_
                  refine zw_aload 46 f101_44 rfl zl1_eq ?_
                  refine zw_ifnonnull 55 f101_46 (by decide +kernel) ?_
                  refine zw_aload_n 56 f101_55 rfl (zl1_ne rfl rfl (zl1_ne rfl rfl rfl)) ?_
                  refine zw_getfield 59 f101_56 rfl g101_45_11 (hb_0 _ _ _ _) rfl ?_
                  refine zw_aload_n 60 f101_59 rfl (zl1_ne rfl rfl (zl1_ne rfl rfl rfl)) ?_
                  refine zw_getfield 63 f101_60 rfl g101_10_11 (hb_0 _ _ _ _) rfl ?_
                  refine zw_aload_n 64 f101_63 rfl (zl1_ne rfl rfl (zl1_ne rfl rfl rfl)) ?_
                  refine zw_getfield 67 f101_64 rfl g101_21_11 (hb_0 _ _ _ _) rfl ?_
                  refine zw_getfield 70 f101_67 rfl g101_134_10 (hb_11 _ _ _ _) rfl ?_
                  refine zw_iload_n 71 f101_70 rfl (zl1_ne rfl rfl (zl1_ne rfl rfl rfl)) ?_
                  refine zw_virtual_v 74 0 0 [.ref 44, .ref 1, .ref 12, .int a] [(0, .ref 44), (1, .ref 1), (2, .ref 12), (3, .int a)] f101_71 rfl n101_285 k101_285_0 rfl (hb_44 _ _ _ _) (by decide +kernel) (Nat.le_of_ble_eq_true rfl) rfl rfl (by decide +kernel) (by decide +kernel) rfl (Nat.le_of_ble_eq_true rfl) rfl ?_
                  refine zw_aload_n 1 f1_0 rfl rfl ?_
                  refine zw_iconst 0 2 f1_1 rfl (by decide +kernel) ?_
                  refine zw_put _ 5 f1_2 rfl g1_15_0 (hb_44 _ _ _ _) rfl (Nat.le_of_ble_eq_true rfl) (by decide +kernel) (hi_44_4 _ _ _ _ _) ?_
                  refine zw_aload_n 6 f1_5 rfl rfl ?_
                  refine zw_iload_n 7 f1_6 rfl rfl ?_
                  refine zw_virtual_i 10 0 0 [.ref 1, .int a] [(0, .ref 1), (1, .int a)] f1_7 rfl n1_19 k1_19_4 rfl (hb_1 _ _ _ _) (by decide +kernel) (Nat.le_of_ble_eq_true rfl) rfl rfl (by decide +kernel) (by decide +kernel) rfl (Nat.le_of_ble_eq_true rfl) rfl ?_
                  refine zw_iload_n 1 f13_0 rfl rfl ?_
                  refine zw_if_lt_f 4 22 f13_1 (by decide +kernel) rfl hc1 ?_
                  refine zw_iload_n 5 f13_4 rfl rfl ?_
                  refine zw_aload_n 6 f13_5 rfl rfl ?_
                  refine zw_getI (nI nv) 9 f13_6 rfl g13_39_4 (hb_1 _ _ _ _) rfl hI.1.1.1 ?_
                  refine zw_ic_ge_f 12 22 f13_9 (by decide +kernel) rfl hc2 ?_
                  refine zw_iload_n 13 f13_12 rfl rfl ?_
                  refine zw_bipush 8 15 f13_13 rfl (by decide +kernel) ?_
                  refine zw_ic_ge_f 18 22 f13_15 (by decide +kernel) rfl hc3 ?_
                  refine zw_iconst 1 19 f13_18 rfl (by decide +kernel) ?_
                  refine zw_goto 23 f13_19 (by decide +kernel) ?_
                  refine zw_zreturn f13_23 r13 u13 (by decide +kernel) ⟨_, rfl, ?_⟩
                  refine zw_if_eq_f 13 53 f1_10 (by decide +kernel) rfl (by decide +kernel) ?_
                  refine zw_aload_n 14 f1_13 rfl rfl ?_
                  refine zw_aload_n 15 f1_14 rfl rfl ?_
                  refine zw_getfield 18 f1_15 rfl g1_25_4 (hb_1 _ _ _ _) rfl ?_
                  refine zw_iload_n 19 f1_18 rfl rfl ?_
                  refine zw_iaload a.toNatClampNeg (A 3 a.toNatClampNeg) 20 f1_19 rfl (hb_3 _ _ _ _) rfl hc1 (zix (by decide) hc1 hc3) rfl ?_
                  refine zw_put _ 23 f1_20 rfl g1_28_0 (hb_44 _ _ _ _) rfl (Nat.le_of_ble_eq_true rfl) (by decide +kernel) (hi_44_0 _ _ _ _ _) ?_
                  refine zw_aload_n 24 f1_23 rfl rfl ?_
                  refine zw_aload_n 25 f1_24 rfl rfl ?_
                  refine zw_getfield 28 f1_25 rfl g1_31_4 (hb_1 _ _ _ _) rfl ?_
                  refine zw_iload_n 29 f1_28 rfl rfl ?_
                  refine zw_iaload a.toNatClampNeg (A 4 a.toNatClampNeg) 30 f1_29 rfl (hb_4 _ _ _ _) rfl hc1 (zix (by decide) hc1 hc3) rfl ?_
                  refine zw_put _ 33 f1_30 rfl g1_34_0 (hb_44 _ _ _ _) rfl (Nat.le_of_ble_eq_true rfl) (by decide +kernel) (hi_44_1 _ _ _ _ _) ?_
                  refine zw_aload_n 34 f1_33 rfl rfl ?_
                  refine zw_aload_n 35 f1_34 rfl rfl ?_
                  refine zw_getfield 38 f1_35 rfl g1_37_4 (hb_1 _ _ _ _) rfl ?_
                  refine zw_iload_n 39 f1_38 rfl rfl ?_
                  refine zw_iaload a.toNatClampNeg (A 5 a.toNatClampNeg) 40 f1_39 rfl (hb_5 _ _ _ _) rfl hc1 (zix (by decide) hc1 hc3) rfl ?_
                  refine zw_put _ 43 f1_40 rfl g1_40_0 (hb_44 _ _ _ _) rfl (Nat.le_of_ble_eq_true rfl) (by decide +kernel) (hi_44_2 _ _ _ _ _) ?_
                  refine zw_aload_n 44 f1_43 rfl rfl ?_
                  refine zw_aload_n 45 f1_44 rfl rfl ?_
                  refine zw_getfield 48 f1_45 rfl g1_43_9 (hb_12 _ _ _ _) rfl ?_
                  refine zw_iload_n 49 f1_48 rfl rfl ?_
                  refine zw_iaload a.toNatClampNeg (A 14 a.toNatClampNeg) 50 f1_49 rfl (hb_14 _ _ _ _) rfl hc1 (zix (by decide) hc1 hc3) rfl ?_
                  refine zw_put _ 53 f1_50 rfl g1_48_0 (hb_44 _ _ _ _) rfl (Nat.le_of_ble_eq_true rfl) (by decide +kernel) (hi_44_3 _ _ _ _ _) ?_
                  refine zw_vreturn f1_53 r1 u1 ⟨rfl, ?_⟩
                  refine zw_iload_n 75 f101_74 rfl (zl1_ne rfl rfl (zl1_ne rfl rfl rfl)) ?_
                  rcases zl_sw 2 (by decide) b with hs12 | ⟨hs12k, hs12l, hs12e⟩
                  · refine zw_table_o 133 f101_75 hs12 (by decide +kernel) ?_
                    refine zw_aload_n 134 f101_133 rfl (zl1_ne rfl rfl (zl1_ne rfl rfl rfl)) ?_
                    refine zw_aload 136 f101_134 rfl zl1_eq ?_
                    refine zw_iload_n 137 f101_136 rfl (zl1_ne rfl rfl (zl1_ne rfl rfl rfl)) ?_
                    refine zw_virtual_i 140 0 0 [.ref 51, .int c] [(0, .ref 51), (1, .int c)] f101_137 rfl n101_298 k101_298_1 rfl (hb_51 _ _ _ _) (by decide +kernel) (Nat.le_of_ble_eq_true rfl) rfl rfl (by decide +kernel) (by decide +kernel) rfl (Nat.le_of_ble_eq_true rfl) rfl ?_
                    refine zw_aload_n 1 f40_0 rfl rfl ?_
                    refine zw_getfield 4 f40_1 rfl g40_7_1 (hb_51 _ _ _ _) rfl ?_
                    refine zw_bipush 13 6 f40_4 rfl (by decide +kernel) ?_
                    refine zw_virtual_v 9 0 0 [.ref 44, .int 13] [(0, .ref 44), (1, .int 13)] f40_6 rfl n40_13 k40_13_0 rfl (hb_44 _ _ _ _) (by decide +kernel) (Nat.le_of_ble_eq_true rfl) rfl rfl (by decide +kernel) (by decide +kernel) rfl (Nat.le_of_ble_eq_true rfl) rfl ?_
                    refine zw_aload_n 1 f2_0 rfl rfl ?_
                    refine zw_getI 0 4 f2_1 rfl g2_15_0 (hb_44 _ _ _ _) rfl rfl ?_
                    refine zw_bipush 50 6 f2_4 rfl (by decide +kernel) ?_
                    refine zw_ic_ge_f 9 29 f2_6 (by decide +kernel) rfl (by decide +kernel) ?_
                    refine zw_aload_n 10 f2_9 rfl rfl ?_
                    refine zw_getfield 13 f2_10 rfl g2_9_0 (hb_44 _ _ _ _) rfl ?_
                    refine zw_aload_n 14 f2_13 rfl rfl ?_
                    refine zw_getI 0 17 f2_14 rfl g2_15_0 (hb_44 _ _ _ _) rfl rfl ?_
                    refine zw_iload_n 18 f2_17 rfl rfl ?_
                    refine zw_ast 0 _ 19 f2_18 rfl (hb_45 _ _ _ _) (by decide +kernel) (by decide +kernel) (by decide +kernel) (ha_45 _ _ _ _ _) ?_
                    refine zw_aload_n 20 f2_19 rfl rfl ?_
                    refine zw_dup 21 f2_20 rfl rfl ?_
                    refine zw_getI 0 24 f2_21 rfl g2_15_0 (hb_44 _ _ _ _) rfl rfl ?_
                    refine zw_iconst 1 25 f2_24 rfl (by decide +kernel) ?_
                    refine zw_iadd 1 26 f2_25 rfl (by decide +kernel) ?_
                    refine zw_put _ 29 f2_26 rfl g2_15_0 (hb_44 _ _ _ _) rfl (Nat.le_of_ble_eq_true rfl) (by decide +kernel) (hi_44_4 _ _ _ _ _) ?_
                    refine zw_vreturn f2_29 r2 u2 ⟨rfl, ?_⟩
                    refine zw_aload_n 10 f40_9 rfl rfl ?_
                    refine zw_iload_n 11 f40_10 rfl rfl ?_
                    refine zw_virtual_i 14 0 0 [.ref 51, .int c] [(0, .ref 51), (1, .int c)] f40_11 rfl n40_27 k40_27_1 rfl (hb_51 _ _ _ _) (by decide +kernel) (Nat.le_of_ble_eq_true rfl) rfl rfl (by decide +kernel) (by decide +kernel) rfl (Nat.le_of_ble_eq_true rfl) rfl ?_
                    refine zw_aload_n 1 f5_0 rfl rfl ?_
                    refine zw_getfield 4 f5_1 rfl g5_7_1 (hb_51 _ _ _ _) rfl ?_
                    refine zw_bipush 51 6 f5_4 rfl (by decide +kernel) ?_
                    refine zw_virtual_v 9 0 0 [.ref 44, .int 51] [(0, .ref 44), (1, .int 51)] f5_6 rfl n5_13 k5_13_0 rfl (hb_44 _ _ _ _) (by decide +kernel) (Nat.le_of_ble_eq_true rfl) rfl rfl (by decide +kernel) (by decide +kernel) rfl (Nat.le_of_ble_eq_true rfl) rfl ?_
                    refine zw_aload_n 1 f2_0 rfl rfl ?_
                    refine zw_getI 1 4 f2_1 rfl g2_15_0 (hb_44 _ _ _ _) rfl rfl ?_
                    refine zw_bipush 50 6 f2_4 rfl (by decide +kernel) ?_
                    refine zw_ic_ge_f 9 29 f2_6 (by decide +kernel) rfl (by decide +kernel) ?_
                    refine zw_aload_n 10 f2_9 rfl rfl ?_
                    refine zw_getfield 13 f2_10 rfl g2_9_0 (hb_44 _ _ _ _) rfl ?_
                    refine zw_aload_n 14 f2_13 rfl rfl ?_
                    refine zw_getI 1 17 f2_14 rfl g2_15_0 (hb_44 _ _ _ _) rfl rfl ?_
                    refine zw_iload_n 18 f2_17 rfl rfl ?_
                    refine zw_ast 1 _ 19 f2_18 rfl (hb_45 _ _ _ _) (by decide +kernel) (by decide +kernel) (by decide +kernel) (ha_45 _ _ _ _ _) ?_
                    refine zw_aload_n 20 f2_19 rfl rfl ?_
                    refine zw_dup 21 f2_20 rfl rfl ?_
                    refine zw_getI 1 24 f2_21 rfl g2_15_0 (hb_44 _ _ _ _) rfl rfl ?_
                    refine zw_iconst 1 25 f2_24 rfl (by decide +kernel) ?_
                    refine zw_iadd 2 26 f2_25 rfl (by decide +kernel) ?_
                    refine zw_put _ 29 f2_26 rfl g2_15_0 (hb_44 _ _ _ _) rfl (Nat.le_of_ble_eq_true rfl) (by decide +kernel) (hi_44_4 _ _ _ _ _) ?_
                    refine zw_vreturn f2_29 r2 u2 ⟨rfl, ?_⟩
                    refine zw_aload_n 10 f5_9 rfl rfl ?_
                    refine zw_iload_n 11 f5_10 rfl rfl ?_
                    refine zw_super_i 14 0 0 [.ref 51, .int c] [(0, .ref 51), (1, .int c)] f5_11 rfl k5_27_99 k5_27_98 (by decide +kernel) rfl (hb_51 _ _ _ _) (by decide +kernel) (Nat.le_of_ble_eq_true rfl) rfl rfl (by decide +kernel) (by decide +kernel) rfl (Nat.le_of_ble_eq_true rfl) rfl ?_
                    refine zw_aload_n 1 f38_0 rfl rfl ?_
                    refine zw_getfield 4 f38_1 rfl g38_7_1 (hb_51 _ _ _ _) rfl ?_
                    refine zw_bipush 11 6 f38_4 rfl (by decide +kernel) ?_
                    refine zw_virtual_v 9 0 0 [.ref 44, .int 11] [(0, .ref 44), (1, .int 11)] f38_6 rfl n38_13 k38_13_0 rfl (hb_44 _ _ _ _) (by decide +kernel) (Nat.le_of_ble_eq_true rfl) rfl rfl (by decide +kernel) (by decide +kernel) rfl (Nat.le_of_ble_eq_true rfl) rfl ?_
                    refine zw_aload_n 1 f2_0 rfl rfl ?_
                    refine zw_getI 2 4 f2_1 rfl g2_15_0 (hb_44 _ _ _ _) rfl rfl ?_
                    refine zw_bipush 50 6 f2_4 rfl (by decide +kernel) ?_
                    refine zw_ic_ge_f 9 29 f2_6 (by decide +kernel) rfl (by decide +kernel) ?_
                    refine zw_aload_n 10 f2_9 rfl rfl ?_
                    refine zw_getfield 13 f2_10 rfl g2_9_0 (hb_44 _ _ _ _) rfl ?_
                    refine zw_aload_n 14 f2_13 rfl rfl ?_
                    refine zw_getI 2 17 f2_14 rfl g2_15_0 (hb_44 _ _ _ _) rfl rfl ?_
                    refine zw_iload_n 18 f2_17 rfl rfl ?_
                    refine zw_ast 2 _ 19 f2_18 rfl (hb_45 _ _ _ _) (by decide +kernel) (by decide +kernel) (by decide +kernel) (ha_45 _ _ _ _ _) ?_
                    refine zw_aload_n 20 f2_19 rfl rfl ?_
                    refine zw_dup 21 f2_20 rfl rfl ?_
                    refine zw_getI 2 24 f2_21 rfl g2_15_0 (hb_44 _ _ _ _) rfl rfl ?_
                    refine zw_iconst 1 25 f2_24 rfl (by decide +kernel) ?_
                    refine zw_iadd 3 26 f2_25 rfl (by decide +kernel) ?_
                    refine zw_put _ 29 f2_26 rfl g2_15_0 (hb_44 _ _ _ _) rfl (Nat.le_of_ble_eq_true rfl) (by decide +kernel) (hi_44_4 _ _ _ _ _) ?_
                    refine zw_vreturn f2_29 r2 u2 ⟨rfl, ?_⟩
                    refine zw_aload_n 10 f38_9 rfl rfl ?_
                    refine zw_iload_n 11 f38_10 rfl rfl ?_
                    refine zw_virtual_i 14 0 0 [.ref 51, .int c] [(0, .ref 51), (1, .int c)] f38_11 rfl n38_23 k38_23_1 rfl (hb_51 _ _ _ _) (by decide +kernel) (Nat.le_of_ble_eq_true rfl) rfl rfl (by decide +kernel) (by decide +kernel) rfl (Nat.le_of_ble_eq_true rfl) rfl ?_
                    refine zw_aload_n 1 f8_0 rfl rfl ?_
                    refine zw_getfield 4 f8_1 rfl g8_7_1 (hb_51 _ _ _ _) rfl ?_
                    refine zw_bipush 41 6 f8_4 rfl (by decide +kernel) ?_
                    refine zw_virtual_v 9 0 0 [.ref 44, .int 41] [(0, .ref 44), (1, .int 41)] f8_6 rfl n8_13 k8_13_0 rfl (hb_44 _ _ _ _) (by decide +kernel) (Nat.le_of_ble_eq_true rfl) rfl rfl (by decide +kernel) (by decide +kernel) rfl (Nat.le_of_ble_eq_true rfl) rfl ?_
                    refine zw_aload_n 1 f2_0 rfl rfl ?_
                    refine zw_getI 3 4 f2_1 rfl g2_15_0 (hb_44 _ _ _ _) rfl rfl ?_
                    refine zw_bipush 50 6 f2_4 rfl (by decide +kernel) ?_
                    refine zw_ic_ge_f 9 29 f2_6 (by decide +kernel) rfl (by decide +kernel) ?_
                    refine zw_aload_n 10 f2_9 rfl rfl ?_
                    refine zw_getfield 13 f2_10 rfl g2_9_0 (hb_44 _ _ _ _) rfl ?_
                    refine zw_aload_n 14 f2_13 rfl rfl ?_
                    refine zw_getI 3 17 f2_14 rfl g2_15_0 (hb_44 _ _ _ _) rfl rfl ?_
                    refine zw_iload_n 18 f2_17 rfl rfl ?_
                    refine zw_ast 3 _ 19 f2_18 rfl (hb_45 _ _ _ _) (by decide +kernel) (by decide +kernel) (by decide +kernel) (ha_45 _ _ _ _ _) ?_
                    refine zw_aload_n 20 f2_19 rfl rfl ?_
                    refine zw_dup 21 f2_20 rfl rfl ?_
                    refine zw_getI 3 24 f2_21 rfl g2_15_0 (hb_44 _ _ _ _) rfl rfl ?_
                    refine zw_iconst 1 25 f2_24 rfl (by decide +kernel) ?_
                    refine zw_iadd 4 26 f2_25 rfl (by decide +kernel) ?_
                    refine zw_put _ 29 f2_26 rfl g2_15_0 (hb_44 _ _ _ _) rfl (Nat.le_of_ble_eq_true rfl) (by decide +kernel) (hi_44_4 _ _ _ _ _) ?_
                    refine zw_vreturn f2_29 r2 u2 ⟨rfl, ?_⟩
                    refine zw_aload_n 10 f8_9 rfl rfl ?_
                    refine zw_iload_n 11 f8_10 rfl rfl ?_
                    refine zw_aload_n 12 f8_11 rfl rfl ?_
                    refine zw_getfield 15 f8_12 rfl g8_7_1 (hb_51 _ _ _ _) rfl ?_
                    refine zw_getI (A 4 a.toNatClampNeg) 18 f8_15 rfl g8_27_0 (hb_44 _ _ _ _) rfl rfl ?_
                    refine zw_iadd (c + (A 4 a.toNatClampNeg)) 19 f8_18 rfl rfl ?_
                    refine zw_super_i 22 0 0 [.ref 51, .int (c + (A 4 a.toNatClampNeg))] [(0, .ref 51), (1, .int (c + (A 4 a.toNatClampNeg)))] f8_19 rfl k8_30_99 k8_30_98 (by decide +kernel) rfl (hb_51 _ _ _ _) (by decide +kernel) (Nat.le_of_ble_eq_true rfl) rfl rfl (by decide +kernel) (by decide +kernel) rfl (Nat.le_of_ble_eq_true rfl) rfl ?_
                    refine zw_aload_n 1 f37_0 rfl rfl ?_
                    refine zw_getfield 4 f37_1 rfl g37_7_1 (hb_51 _ _ _ _) rfl ?_
                    refine zw_bipush 10 6 f37_4 rfl (by decide +kernel) ?_
                    refine zw_virtual_v 9 0 0 [.ref 44, .int 10] [(0, .ref 44), (1, .int 10)] f37_6 rfl n37_13 k37_13_0 rfl (hb_44 _ _ _ _) (by decide +kernel) (Nat.le_of_ble_eq_true rfl) rfl rfl (by decide +kernel) (by decide +kernel) rfl (Nat.le_of_ble_eq_true rfl) rfl ?_
                    refine zw_aload_n 1 f2_0 rfl rfl ?_
                    refine zw_getI 4 4 f2_1 rfl g2_15_0 (hb_44 _ _ _ _) rfl rfl ?_
                    refine zw_bipush 50 6 f2_4 rfl (by decide +kernel) ?_
                    refine zw_ic_ge_f 9 29 f2_6 (by decide +kernel) rfl (by decide +kernel) ?_
                    refine zw_aload_n 10 f2_9 rfl rfl ?_
                    refine zw_getfield 13 f2_10 rfl g2_9_0 (hb_44 _ _ _ _) rfl ?_
                    refine zw_aload_n 14 f2_13 rfl rfl ?_
                    refine zw_getI 4 17 f2_14 rfl g2_15_0 (hb_44 _ _ _ _) rfl rfl ?_
                    refine zw_iload_n 18 f2_17 rfl rfl ?_
                    refine zw_ast 4 _ 19 f2_18 rfl (hb_45 _ _ _ _) (by decide +kernel) (by decide +kernel) (by decide +kernel) (ha_45 _ _ _ _ _) ?_
                    refine zw_aload_n 20 f2_19 rfl rfl ?_
                    refine zw_dup 21 f2_20 rfl rfl ?_
                    refine zw_getI 4 24 f2_21 rfl g2_15_0 (hb_44 _ _ _ _) rfl rfl ?_
                    refine zw_iconst 1 25 f2_24 rfl (by decide +kernel) ?_
                    refine zw_iadd 5 26 f2_25 rfl (by decide +kernel) ?_
                    refine zw_put _ 29 f2_26 rfl g2_15_0 (hb_44 _ _ _ _) rfl (Nat.le_of_ble_eq_true rfl) (by decide +kernel) (hi_44_4 _ _ _ _ _) ?_
                    refine zw_vreturn f2_29 r2 u2 ⟨rfl, ?_⟩
                    refine zw_iload_n 10 f37_9 rfl rfl ?_
                    refine zw_aload_n 11 f37_10 rfl rfl ?_
                    refine zw_getfield 14 f37_11 rfl g37_7_1 (hb_51 _ _ _ _) rfl ?_
                    refine zw_getI (A 3 a.toNatClampNeg) 17 f37_14 rfl g37_19_0 (hb_44 _ _ _ _) rfl rfl ?_
                    refine zw_iadd ((c + (A 4 a.toNatClampNeg)) + (A 3 a.toNatClampNeg)) 18 f37_17 rfl rfl ?_
                    refine zw_ireturn f37_18 r37 u37 ⟨_, rfl, ?_⟩
                    refine zw_ireturn f8_22 r8 u8 ⟨_, rfl, ?_⟩
                    refine zw_iconst 3 15 f38_14 rfl (by decide +kernel) ?_
                    refine zw_imul (((c + (A 4 a.toNatClampNeg)) + (A 3 a.toNatClampNeg)) * 3) 16 f38_15 rfl rfl ?_
                    refine zw_ireturn f38_16 r38 u38 ⟨_, rfl, ?_⟩
                    refine zw_aload_n 15 f5_14 rfl rfl ?_
                    refine zw_getfield 18 f5_15 rfl g5_7_1 (hb_51 _ _ _ _) rfl ?_
                    refine zw_getI (A 14 a.toNatClampNeg) 21 f5_18 rfl g5_23_0 (hb_44 _ _ _ _) rfl rfl ?_
                    refine zw_ixor ((((c + (A 4 a.toNatClampNeg)) + (A 3 a.toNatClampNeg)) * 3) ^^^ (A 14 a.toNatClampNeg)) 22 f5_21 rfl rfl ?_
                    refine zw_ireturn f5_22 r5 u5 ⟨_, rfl, ?_⟩
                    refine zw_aload_n 15 f40_14 rfl rfl ?_
                    refine zw_iload_n 16 f40_15 rfl rfl ?_
                    refine zw_virtual_i 19 0 0 [.ref 51, .int c] [(0, .ref 51), (1, .int c)] f40_16 rfl n40_30 k40_30_1 rfl (hb_51 _ _ _ _) (by decide +kernel) (Nat.le_of_ble_eq_true rfl) rfl rfl (by decide +kernel) (by decide +kernel) rfl (Nat.le_of_ble_eq_true rfl) rfl ?_
                    refine zw_aload_n 1 f4_0 rfl rfl ?_
                    refine zw_getfield 4 f4_1 rfl g4_7_1 (hb_51 _ _ _ _) rfl ?_
                    refine zw_bipush 50 6 f4_4 rfl (by decide +kernel) ?_
                    refine zw_virtual_v 9 0 0 [.ref 44, .int 50] [(0, .ref 44), (1, .int 50)] f4_6 rfl n4_13 k4_13_0 rfl (hb_44 _ _ _ _) (by decide +kernel) (Nat.le_of_ble_eq_true rfl) rfl rfl (by decide +kernel) (by decide +kernel) rfl (Nat.le_of_ble_eq_true rfl) rfl ?_
                    refine zw_aload_n 1 f2_0 rfl rfl ?_
                    refine zw_getI 5 4 f2_1 rfl g2_15_0 (hb_44 _ _ _ _) rfl rfl ?_
                    refine zw_bipush 50 6 f2_4 rfl (by decide +kernel) ?_
                    refine zw_ic_ge_f 9 29 f2_6 (by decide +kernel) rfl (by decide +kernel) ?_
                    refine zw_aload_n 10 f2_9 rfl rfl ?_
                    refine zw_getfield 13 f2_10 rfl g2_9_0 (hb_44 _ _ _ _) rfl ?_
                    refine zw_aload_n 14 f2_13 rfl rfl ?_
                    refine zw_getI 5 17 f2_14 rfl g2_15_0 (hb_44 _ _ _ _) rfl rfl ?_
                    refine zw_iload_n 18 f2_17 rfl rfl ?_
                    refine zw_ast 5 _ 19 f2_18 rfl (hb_45 _ _ _ _) (by decide +kernel) (by decide +kernel) (by decide +kernel) (ha_45 _ _ _ _ _) ?_
                    refine zw_aload_n 20 f2_19 rfl rfl ?_
                    refine zw_dup 21 f2_20 rfl rfl ?_
                    refine zw_getI 5 24 f2_21 rfl g2_15_0 (hb_44 _ _ _ _) rfl rfl ?_
                    refine zw_iconst 1 25 f2_24 rfl (by decide +kernel) ?_
                    refine zw_iadd 6 26 f2_25 rfl (by decide +kernel) ?_
                    refine zw_put _ 29 f2_26 rfl g2_15_0 (hb_44 _ _ _ _) rfl (Nat.le_of_ble_eq_true rfl) (by decide +kernel) (hi_44_4 _ _ _ _ _) ?_
                    refine zw_vreturn f2_29 r2 u2 ⟨rfl, ?_⟩
                    refine zw_aload_n 10 f4_9 rfl rfl ?_
                    refine zw_iload_n 11 f4_10 rfl rfl ?_
                    refine zw_super_i 14 0 0 [.ref 51, .int c] [(0, .ref 51), (1, .int c)] f4_11 rfl k4_19_99 k4_19_98 (by decide +kernel) rfl (hb_51 _ _ _ _) (by decide +kernel) (Nat.le_of_ble_eq_true rfl) rfl rfl (by decide +kernel) (by decide +kernel) rfl (Nat.le_of_ble_eq_true rfl) rfl ?_
                    refine zw_aload_n 1 f7_0 rfl rfl ?_
                    refine zw_getfield 4 f7_1 rfl g7_7_1 (hb_51 _ _ _ _) rfl ?_
                    refine zw_bipush 40 6 f7_4 rfl (by decide +kernel) ?_
                    refine zw_virtual_v 9 0 0 [.ref 44, .int 40] [(0, .ref 44), (1, .int 40)] f7_6 rfl n7_13 k7_13_0 rfl (hb_44 _ _ _ _) (by decide +kernel) (Nat.le_of_ble_eq_true rfl) rfl rfl (by decide +kernel) (by decide +kernel) rfl (Nat.le_of_ble_eq_true rfl) rfl ?_
                    refine zw_aload_n 1 f2_0 rfl rfl ?_
                    refine zw_getI 6 4 f2_1 rfl g2_15_0 (hb_44 _ _ _ _) rfl rfl ?_
                    refine zw_bipush 50 6 f2_4 rfl (by decide +kernel) ?_
                    refine zw_ic_ge_f 9 29 f2_6 (by decide +kernel) rfl (by decide +kernel) ?_
                    refine zw_aload_n 10 f2_9 rfl rfl ?_
                    refine zw_getfield 13 f2_10 rfl g2_9_0 (hb_44 _ _ _ _) rfl ?_
                    refine zw_aload_n 14 f2_13 rfl rfl ?_
                    refine zw_getI 6 17 f2_14 rfl g2_15_0 (hb_44 _ _ _ _) rfl rfl ?_
                    refine zw_iload_n 18 f2_17 rfl rfl ?_
                    refine zw_ast 6 _ 19 f2_18 rfl (hb_45 _ _ _ _) (by decide +kernel) (by decide +kernel) (by decide +kernel) (ha_45 _ _ _ _ _) ?_
                    refine zw_aload_n 20 f2_19 rfl rfl ?_
                    refine zw_dup 21 f2_20 rfl rfl ?_
                    refine zw_getI 6 24 f2_21 rfl g2_15_0 (hb_44 _ _ _ _) rfl rfl ?_
                    refine zw_iconst 1 25 f2_24 rfl (by decide +kernel) ?_
                    refine zw_iadd 7 26 f2_25 rfl (by decide +kernel) ?_
                    refine zw_put _ 29 f2_26 rfl g2_15_0 (hb_44 _ _ _ _) rfl (Nat.le_of_ble_eq_true rfl) (by decide +kernel) (hi_44_4 _ _ _ _ _) ?_
                    refine zw_vreturn f2_29 r2 u2 ⟨rfl, ?_⟩
                    refine zw_aload_n 10 f7_9 rfl rfl ?_
                    refine zw_iload_n 11 f7_10 rfl rfl ?_
                    refine zw_super_i 14 0 0 [.ref 51, .int c] [(0, .ref 51), (1, .int c)] f7_11 rfl k7_19_99 k7_19_98 (by decide +kernel) rfl (hb_51 _ _ _ _) (by decide +kernel) (Nat.le_of_ble_eq_true rfl) rfl rfl (by decide +kernel) (by decide +kernel) rfl (Nat.le_of_ble_eq_true rfl) rfl ?_
                    refine zw_aload_n 1 f39_0 rfl rfl ?_
                    refine zw_getfield 4 f39_1 rfl g39_7_1 (hb_51 _ _ _ _) rfl ?_
                    refine zw_bipush 12 6 f39_4 rfl (by decide +kernel) ?_
                    refine zw_virtual_v 9 0 0 [.ref 44, .int 12] [(0, .ref 44), (1, .int 12)] f39_6 rfl n39_13 k39_13_0 rfl (hb_44 _ _ _ _) (by decide +kernel) (Nat.le_of_ble_eq_true rfl) rfl rfl (by decide +kernel) (by decide +kernel) rfl (Nat.le_of_ble_eq_true rfl) rfl ?_
                    refine zw_aload_n 1 f2_0 rfl rfl ?_
                    refine zw_getI 7 4 f2_1 rfl g2_15_0 (hb_44 _ _ _ _) rfl rfl ?_
                    refine zw_bipush 50 6 f2_4 rfl (by decide +kernel) ?_
                    refine zw_ic_ge_f 9 29 f2_6 (by decide +kernel) rfl (by decide +kernel) ?_
                    refine zw_aload_n 10 f2_9 rfl rfl ?_
                    refine zw_getfield 13 f2_10 rfl g2_9_0 (hb_44 _ _ _ _) rfl ?_
                    refine zw_aload_n 14 f2_13 rfl rfl ?_
                    refine zw_getI 7 17 f2_14 rfl g2_15_0 (hb_44 _ _ _ _) rfl rfl ?_
                    refine zw_iload_n 18 f2_17 rfl rfl ?_
                    refine zw_ast 7 _ 19 f2_18 rfl (hb_45 _ _ _ _) (by decide +kernel) (by decide +kernel) (by decide +kernel) (ha_45 _ _ _ _ _) ?_
                    refine zw_aload_n 20 f2_19 rfl rfl ?_
                    refine zw_dup 21 f2_20 rfl rfl ?_
                    refine zw_getI 7 24 f2_21 rfl g2_15_0 (hb_44 _ _ _ _) rfl rfl ?_
                    refine zw_iconst 1 25 f2_24 rfl (by decide +kernel) ?_
                    refine zw_iadd 8 26 f2_25 rfl (by decide +kernel) ?_
                    refine zw_put _ 29 f2_26 rfl g2_15_0 (hb_44 _ _ _ _) rfl (Nat.le_of_ble_eq_true rfl) (by decide +kernel) (hi_44_4 _ _ _ _ _) ?_
                    refine zw_vreturn f2_29 r2 u2 ⟨rfl, ?_⟩
                    refine zw_iload_n 10 f39_9 rfl rfl ?_
                    refine zw_aload_n 11 f39_10 rfl rfl ?_
                    refine zw_getfield 14 f39_11 rfl g39_7_1 (hb_51 _ _ _ _) rfl ?_
                    refine zw_getI (A 3 a.toNatClampNeg) 17 f39_14 rfl g39_19_0 (hb_44 _ _ _ _) rfl rfl ?_
                    refine zw_ixor (c ^^^ (A 3 a.toNatClampNeg)) 18 f39_17 rfl rfl ?_
                    refine zw_ireturn f39_18 r39 u39 ⟨_, rfl, ?_⟩
                    refine zw_aload_n 15 f7_14 rfl rfl ?_
                    refine zw_getfield 18 f7_15 rfl g7_7_1 (hb_51 _ _ _ _) rfl ?_
                    refine zw_getI (A 5 a.toNatClampNeg) 21 f7_18 rfl g7_23_0 (hb_44 _ _ _ _) rfl rfl ?_
                    refine zw_iadd ((c ^^^ (A 3 a.toNatClampNeg)) + (A 5 a.toNatClampNeg)) 22 f7_21 rfl rfl ?_
                    refine zw_ireturn f7_22 r7 u7 ⟨_, rfl, ?_⟩
                    refine zw_aload_n 15 f4_14 rfl rfl ?_
                    refine zw_getfield 18 f4_15 rfl g4_7_1 (hb_51 _ _ _ _) rfl ?_
                    refine zw_getI (A 14 a.toNatClampNeg) 21 f4_18 rfl g4_23_0 (hb_44 _ _ _ _) rfl rfl ?_
                    refine zw_iadd (((c ^^^ (A 3 a.toNatClampNeg)) + (A 5 a.toNatClampNeg)) + (A 14 a.toNatClampNeg)) 22 f4_21 rfl rfl ?_
                    refine zw_ireturn f4_22 r4 u4 ⟨_, rfl, ?_⟩
                    refine zw_isub (((((c + (A 4 a.toNatClampNeg)) + (A 3 a.toNatClampNeg)) * 3) ^^^ (A 14 a.toNatClampNeg)) - (((c ^^^ (A 3 a.toNatClampNeg)) + (A 5 a.toNatClampNeg)) + (A 14 a.toNatClampNeg))) 20 f40_19 rfl rfl ?_
                    refine zw_ireturn f40_20 r40 u40 ⟨_, rfl, ?_⟩
                    refine zw_virtual_i 143 0 0 [.ref 0, .int (((((c + (A 4 a.toNatClampNeg)) + (A 3 a.toNatClampNeg)) * 3) ^^^ (A 14 a.toNatClampNeg)) - (((c ^^^ (A 3 a.toNatClampNeg)) + (A 5 a.toNatClampNeg)) + (A 14 a.toNatClampNeg)))] [(0, .ref 0), (1, .int (((((c + (A 4 a.toNatClampNeg)) + (A 3 a.toNatClampNeg)) * 3) ^^^ (A 14 a.toNatClampNeg)) - (((c ^^^ (A 3 a.toNatClampNeg)) + (A 5 a.toNatClampNeg)) + (A 14 a.toNatClampNeg))))] f101_140 rfl n101_181 k101_181_11 rfl (hb_0 _ _ _ _) (by decide +kernel) (Nat.le_of_ble_eq_true rfl) rfl rfl (by decide +kernel) (by decide +kernel) rfl (Nat.le_of_ble_eq_true rfl) rfl ?_
                    refine zw_aload_n 1 f106_0 rfl rfl ?_
                    refine zw_iconst 0 2 f106_1 rfl (by decide +kernel) ?_
                    refine zw_put _ 5 f106_2 rfl g106_70_11 (hb_0 _ _ _ _) rfl (Nat.le_of_ble_eq_true rfl) (by decide +kernel) (hi_0_7 _ _ _ _ _) ?_
                    refine zw_iload_n 6 f106_5 rfl rfl ?_
                    refine zw_ireturn f106_6 r106 u106 ⟨_, rfl, ?_⟩
                    refine zw_ireturn f101_143 r101 u101 ?_
                    exact ⟨_, _, _, _, rfl, (KP.i rfl (KP.i rfl (KP.a rfl (KP.i rfl (KP.a rfl (KP.i rfl (KP.a rfl (KP.i rfl (KP.a rfl (KP.i rfl (KP.a rfl (KP.i rfl (KP.a rfl (KP.i rfl (KP.a rfl (KP.i rfl (KP.a rfl (KP.i rfl (KP.i rfl (KP.i rfl (KP.i rfl (KP.i rfl KP.rf)))))))))))))))))))))), ⟨⟨hI.1, hI.2.1, 8, by omega, rfl⟩, PE.of10 rfl rfl rfl rfl rfl rfl rfl rfl rfl rfl⟩, _, rfl⟩
                  · rcases (show hs12k = 0 ∨ hs12k = 1 ∨ hs12k = 2 by omega) with rfl | rfl | rfl
                    · refine zw_table_k 25 100 f101_75 hs12e (by decide +kernel) (by decide +kernel) (by decide +kernel) ?_
                      refine zw_aload_n 101 f101_100 rfl (zl1_ne rfl rfl (zl1_ne rfl rfl rfl)) ?_
                      refine zw_aload 103 f101_101 rfl zl1_eq ?_
                      refine zw_iload_n 104 f101_103 rfl (zl1_ne rfl rfl (zl1_ne rfl rfl rfl)) ?_
                      refine zw_virtual_i 107 0 0 [.ref 51, .int c] [(0, .ref 51), (1, .int c)] f101_104 rfl n101_289 k101_289_1 rfl (hb_51 _ _ _ _) (by decide +kernel) (Nat.le_of_ble_eq_true rfl) rfl rfl (by decide +kernel) (by decide +kernel) rfl (Nat.le_of_ble_eq_true rfl) rfl ?_
                      refine zw_aload_n 1 f8_0 rfl rfl ?_
                      refine zw_getfield 4 f8_1 rfl g8_7_1 (hb_51 _ _ _ _) rfl ?_
                      refine zw_bipush 41 6 f8_4 rfl (by decide +kernel) ?_
                      refine zw_virtual_v 9 0 0 [.ref 44, .int 41] [(0, .ref 44), (1, .int 41)] f8_6 rfl n8_13 k8_13_0 rfl (hb_44 _ _ _ _) (by decide +kernel) (Nat.le_of_ble_eq_true rfl) rfl rfl (by decide +kernel) (by decide +kernel) rfl (Nat.le_of_ble_eq_true rfl) rfl ?_
                      refine zw_aload_n 1 f2_0 rfl rfl ?_
                      refine zw_getI 0 4 f2_1 rfl g2_15_0 (hb_44 _ _ _ _) rfl rfl ?_
                      refine zw_bipush 50 6 f2_4 rfl (by decide +kernel) ?_
                      refine zw_ic_ge_f 9 29 f2_6 (by decide +kernel) rfl (by decide +kernel) ?_
                      refine zw_aload_n 10 f2_9 rfl rfl ?_
                      refine zw_getfield 13 f2_10 rfl g2_9_0 (hb_44 _ _ _ _) rfl ?_
                      refine zw_aload_n 14 f2_13 rfl rfl ?_
                      refine zw_getI 0 17 f2_14 rfl g2_15_0 (hb_44 _ _ _ _) rfl rfl ?_
                      refine zw_iload_n 18 f2_17 rfl rfl ?_
                      refine zw_ast 0 _ 19 f2_18 rfl (hb_45 _ _ _ _) (by decide +kernel) (by decide +kernel) (by decide +kernel) (ha_45 _ _ _ _ _) ?_
                      refine zw_aload_n 20 f2_19 rfl rfl ?_
                      refine zw_dup 21 f2_20 rfl rfl ?_
                      refine zw_getI 0 24 f2_21 rfl g2_15_0 (hb_44 _ _ _ _) rfl rfl ?_
                      refine zw_iconst 1 25 f2_24 rfl (by decide +kernel) ?_
                      refine zw_iadd 1 26 f2_25 rfl (by decide +kernel) ?_
                      refine zw_put _ 29 f2_26 rfl g2_15_0 (hb_44 _ _ _ _) rfl (Nat.le_of_ble_eq_true rfl) (by decide +kernel) (hi_44_4 _ _ _ _ _) ?_
                      refine zw_vreturn f2_29 r2 u2 ⟨rfl, ?_⟩
                      refine zw_aload_n 10 f8_9 rfl rfl ?_
                      refine zw_iload_n 11 f8_10 rfl rfl ?_
                      refine zw_aload_n 12 f8_11 rfl rfl ?_
                      refine zw_getfield 15 f8_12 rfl g8_7_1 (hb_51 _ _ _ _) rfl ?_
                      refine zw_getI (A 4 a.toNatClampNeg) 18 f8_15 rfl g8_27_0 (hb_44 _ _ _ _) rfl rfl ?_
                      refine zw_iadd (c + (A 4 a.toNatClampNeg)) 19 f8_18 rfl rfl ?_
                      refine zw_super_i 22 0 0 [.ref 51, .int (c + (A 4 a.toNatClampNeg))] [(0, .ref 51), (1, .int (c + (A 4 a.toNatClampNeg)))] f8_19 rfl k8_30_99 k8_30_98 (by decide +kernel) rfl (hb_51 _ _ _ _) (by decide +kernel) (Nat.le_of_ble_eq_true rfl) rfl rfl (by decide +kernel) (by decide +kernel) rfl (Nat.le_of_ble_eq_true rfl) rfl ?_
                      refine zw_aload_n 1 f37_0 rfl rfl ?_
                      refine zw_getfield 4 f37_1 rfl g37_7_1 (hb_51 _ _ _ _) rfl ?_
                      refine zw_bipush 10 6 f37_4 rfl (by decide +kernel) ?_
                      refine zw_virtual_v 9 0 0 [.ref 44, .int 10] [(0, .ref 44), (1, .int 10)] f37_6 rfl n37_13 k37_13_0 rfl (hb_44 _ _ _ _) (by decide +kernel) (Nat.le_of_ble_eq_true rfl) rfl rfl (by decide +kernel) (by decide +kernel) rfl (Nat.le_of_ble_eq_true rfl) rfl ?_
                      refine zw_aload_n 1 f2_0 rfl rfl ?_
                      refine zw_getI 1 4 f2_1 rfl g2_15_0 (hb_44 _ _ _ _) rfl rfl ?_
                      refine zw_bipush 50 6 f2_4 rfl (by decide +kernel) ?_
                      refine zw_ic_ge_f 9 29 f2_6 (by decide +kernel) rfl (by decide +kernel) ?_
                      refine zw_aload_n 10 f2_9 rfl rfl ?_
                      refine zw_getfield 13 f2_10 rfl g2_9_0 (hb_44 _ _ _ _) rfl ?_
                      refine zw_aload_n 14 f2_13 rfl rfl ?_
                      refine zw_getI 1 17 f2_14 rfl g2_15_0 (hb_44 _ _ _ _) rfl rfl ?_
                      refine zw_iload_n 18 f2_17 rfl rfl ?_
                      refine zw_ast 1 _ 19 f2_18 rfl (hb_45 _ _ _ _) (by decide +kernel) (by decide +kernel) (by decide +kernel) (ha_45 _ _ _ _ _) ?_
                      refine zw_aload_n 20 f2_19 rfl rfl ?_
                      refine zw_dup 21 f2_20 rfl rfl ?_
                      refine zw_getI 1 24 f2_21 rfl g2_15_0 (hb_44 _ _ _ _) rfl rfl ?_
                      refine zw_iconst 1 25 f2_24 rfl (by decide +kernel) ?_
                      refine zw_iadd 2 26 f2_25 rfl (by decide +kernel) ?_
                      refine zw_put _ 29 f2_26 rfl g2_15_0 (hb_44 _ _ _ _) rfl (Nat.le_of_ble_eq_true rfl) (by decide +kernel) (hi_44_4 _ _ _ _ _) ?_
                      refine zw_vreturn f2_29 r2 u2 ⟨rfl, ?_⟩
                      refine zw_iload_n 10 f37_9 rfl rfl ?_
                      refine zw_aload_n 11 f37_10 rfl rfl ?_
                      refine zw_getfield 14 f37_11 rfl g37_7_1 (hb_51 _ _ _ _) rfl ?_
                      refine zw_getI (A 3 a.toNatClampNeg) 17 f37_14 rfl g37_19_0 (hb_44 _ _ _ _) rfl rfl ?_
                      refine zw_iadd ((c + (A 4 a.toNatClampNeg)) + (A 3 a.toNatClampNeg)) 18 f37_17 rfl rfl ?_
                      refine zw_ireturn f37_18 r37 u37 ⟨_, rfl, ?_⟩
                      refine zw_ireturn f8_22 r8 u8 ⟨_, rfl, ?_⟩
                      refine zw_virtual_i 110 0 0 [.ref 0, .int ((c + (A 4 a.toNatClampNeg)) + (A 3 a.toNatClampNeg))] [(0, .ref 0), (1, .int ((c + (A 4 a.toNatClampNeg)) + (A 3 a.toNatClampNeg)))] f101_107 rfl n101_181 k101_181_11 rfl (hb_0 _ _ _ _) (by decide +kernel) (Nat.le_of_ble_eq_true rfl) rfl rfl (by decide +kernel) (by decide +kernel) rfl (Nat.le_of_ble_eq_true rfl) rfl ?_
                      refine zw_aload_n 1 f106_0 rfl rfl ?_
                      refine zw_iconst 0 2 f106_1 rfl (by decide +kernel) ?_
                      refine zw_put _ 5 f106_2 rfl g106_70_11 (hb_0 _ _ _ _) rfl (Nat.le_of_ble_eq_true rfl) (by decide +kernel) (hi_0_7 _ _ _ _ _) ?_
                      refine zw_iload_n 6 f106_5 rfl rfl ?_
                      refine zw_ireturn f106_6 r106 u106 ⟨_, rfl, ?_⟩
                      refine zw_ireturn f101_110 r101 u101 ?_
                      exact ⟨_, _, _, _, rfl, (KP.i rfl (KP.i rfl (KP.a rfl (KP.i rfl (KP.a rfl (KP.i rfl (KP.i rfl (KP.i rfl (KP.i rfl (KP.i rfl KP.rf)))))))))), ⟨⟨hI.1, hI.2.1, 2, by omega, rfl⟩, PE.of10 rfl rfl rfl rfl rfl rfl rfl rfl rfl rfl⟩, _, rfl⟩
                    · refine zw_table_k 36 111 f101_75 hs12e (by decide +kernel) (by decide +kernel) (by decide +kernel) ?_
                      refine zw_aload_n 112 f101_111 rfl (zl1_ne rfl rfl (zl1_ne rfl rfl rfl)) ?_
                      refine zw_aload 114 f101_112 rfl zl1_eq ?_
                      refine zw_iload_n 115 f101_114 rfl (zl1_ne rfl rfl (zl1_ne rfl rfl rfl)) ?_
                      refine zw_virtual_i 118 0 0 [.ref 51, .int c] [(0, .ref 51), (1, .int c)] f101_115 rfl n101_292 k101_292_1 rfl (hb_51 _ _ _ _) (by decide +kernel) (Nat.le_of_ble_eq_true rfl) rfl rfl (by decide +kernel) (by decide +kernel) rfl (Nat.le_of_ble_eq_true rfl) rfl ?_
                      refine zw_aload_n 1 f5_0 rfl rfl ?_
                      refine zw_getfield 4 f5_1 rfl g5_7_1 (hb_51 _ _ _ _) rfl ?_
                      refine zw_bipush 51 6 f5_4 rfl (by decide +kernel) ?_
                      refine zw_virtual_v 9 0 0 [.ref 44, .int 51] [(0, .ref 44), (1, .int 51)] f5_6 rfl n5_13 k5_13_0 rfl (hb_44 _ _ _ _) (by decide +kernel) (Nat.le_of_ble_eq_true rfl) rfl rfl (by decide +kernel) (by decide +kernel) rfl (Nat.le_of_ble_eq_true rfl) rfl ?_
                      refine zw_aload_n 1 f2_0 rfl rfl ?_
                      refine zw_getI 0 4 f2_1 rfl g2_15_0 (hb_44 _ _ _ _) rfl rfl ?_
                      refine zw_bipush 50 6 f2_4 rfl (by decide +kernel) ?_
                      refine zw_ic_ge_f 9 29 f2_6 (by decide +kernel) rfl (by decide +kernel) ?_
                      refine zw_aload_n 10 f2_9 rfl rfl ?_
                      refine zw_getfield 13 f2_10 rfl g2_9_0 (hb_44 _ _ _ _) rfl ?_
                      refine zw_aload_n 14 f2_13 rfl rfl ?_
                      refine zw_getI 0 17 f2_14 rfl g2_15_0 (hb_44 _ _ _ _) rfl rfl ?_
                      refine zw_iload_n 18 f2_17 rfl rfl ?_
                      refine zw_ast 0 _ 19 f2_18 rfl (hb_45 _ _ _ _) (by decide +kernel) (by decide +kernel) (by decide +kernel) (ha_45 _ _ _ _ _) ?_
                      refine zw_aload_n 20 f2_19 rfl rfl ?_
                      refine zw_dup 21 f2_20 rfl rfl ?_
                      refine zw_getI 0 24 f2_21 rfl g2_15_0 (hb_44 _ _ _ _) rfl rfl ?_
                      refine zw_iconst 1 25 f2_24 rfl (by decide +kernel) ?_
                      refine zw_iadd 1 26 f2_25 rfl (by decide +kernel) ?_
                      refine zw_put _ 29 f2_26 rfl g2_15_0 (hb_44 _ _ _ _) rfl (Nat.le_of_ble_eq_true rfl) (by decide +kernel) (hi_44_4 _ _ _ _ _) ?_
                      refine zw_vreturn f2_29 r2 u2 ⟨rfl, ?_⟩
                      refine zw_aload_n 10 f5_9 rfl rfl ?_
                      refine zw_iload_n 11 f5_10 rfl rfl ?_
                      refine zw_super_i 14 0 0 [.ref 51, .int c] [(0, .ref 51), (1, .int c)] f5_11 rfl k5_27_99 k5_27_98 (by decide +kernel) rfl (hb_51 _ _ _ _) (by decide +kernel) (Nat.le_of_ble_eq_true rfl) rfl rfl (by decide +kernel) (by decide +kernel) rfl (Nat.le_of_ble_eq_true rfl) rfl ?_
                      refine zw_aload_n 1 f38_0 rfl rfl ?_
                      refine zw_getfield 4 f38_1 rfl g38_7_1 (hb_51 _ _ _ _) rfl ?_
                      refine zw_bipush 11 6 f38_4 rfl (by decide +kernel) ?_
                      refine zw_virtual_v 9 0 0 [.ref 44, .int 11] [(0, .ref 44), (1, .int 11)] f38_6 rfl n38_13 k38_13_0 rfl (hb_44 _ _ _ _) (by decide +kernel) (Nat.le_of_ble_eq_true rfl) rfl rfl (by decide +kernel) (by decide +kernel) rfl (Nat.le_of_ble_eq_true rfl) rfl ?_
                      refine zw_aload_n 1 f2_0 rfl rfl ?_
                      refine zw_getI 1 4 f2_1 rfl g2_15_0 (hb_44 _ _ _ _) rfl rfl ?_
                      refine zw_bipush 50 6 f2_4 rfl (by decide +kernel) ?_
                      refine zw_ic_ge_f 9 29 f2_6 (by decide +kernel) rfl (by decide +kernel) ?_
                      refine zw_aload_n 10 f2_9 rfl rfl ?_
                      refine zw_getfield 13 f2_10 rfl g2_9_0 (hb_44 _ _ _ _) rfl ?_
                      refine zw_aload_n 14 f2_13 rfl rfl ?_
                      refine zw_getI 1 17 f2_14 rfl g2_15_0 (hb_44 _ _ _ _) rfl rfl ?_
                      refine zw_iload_n 18 f2_17 rfl rfl ?_
                      refine zw_ast 1 _ 19 f2_18 rfl (hb_45 _ _ _ _) (by decide +kernel) (by decide +kernel) (by decide +kernel) (ha_45 _ _ _ _ _) ?_
                      refine zw_aload_n 20 f2_19 rfl rfl ?_
                      refine zw_dup 21 f2_20 rfl rfl ?_
                      refine zw_getI 1 24 f2_21 rfl g2_15_0 (hb_44 _ _ _ _) rfl rfl ?_
                      refine zw_iconst 1 25 f2_24 rfl (by decide +kernel) ?_
                      refine zw_iadd 2 26 f2_25 rfl (by decide +kernel) ?_
                      refine zw_put _ 29 f2_26 rfl g2_15_0 (hb_44 _ _ _ _) rfl (Nat.le_of_ble_eq_true rfl) (by decide +kernel) (hi_44_4 _ _ _ _ _) ?_
                      refine zw_vreturn f2_29 r2 u2 ⟨rfl, ?_⟩
                      refine zw_aload_n 10 f38_9 rfl rfl ?_
                      refine zw_iload_n 11 f38_10 rfl rfl ?_
                      refine zw_virtual_i 14 0 0 [.ref 51, .int c] [(0, .ref 51), (1, .int c)] f38_11 rfl n38_23 k38_23_1 rfl (hb_51 _ _ _ _) (by decide +kernel) (Nat.le_of_ble_eq_true rfl) rfl rfl (by decide +kernel) (by decide +kernel) rfl (Nat.le_of_ble_eq_true rfl) rfl ?_
                      refine zw_aload_n 1 f8_0 rfl rfl ?_
                      refine zw_getfield 4 f8_1 rfl g8_7_1 (hb_51 _ _ _ _) rfl ?_
                      refine zw_bipush 41 6 f8_4 rfl (by decide +kernel) ?_
                      refine zw_virtual_v 9 0 0 [.ref 44, .int 41] [(0, .ref 44), (1, .int 41)] f8_6 rfl n8_13 k8_13_0 rfl (hb_44 _ _ _ _) (by decide +kernel) (Nat.le_of_ble_eq_true rfl) rfl rfl (by decide +kernel) (by decide +kernel) rfl (Nat.le_of_ble_eq_true rfl) rfl ?_
                      refine zw_aload_n 1 f2_0 rfl rfl ?_
                      refine zw_getI 2 4 f2_1 rfl g2_15_0 (hb_44 _ _ _ _) rfl rfl ?_
                      refine zw_bipush 50 6 f2_4 rfl (by decide +kernel) ?_
                      refine zw_ic_ge_f 9 29 f2_6 (by decide +kernel) rfl (by decide +kernel) ?_
                      refine zw_aload_n 10 f2_9 rfl rfl ?_
                      refine zw_getfield 13 f2_10 rfl g2_9_0 (hb_44 _ _ _ _) rfl ?_
                      refine zw_aload_n 14 f2_13 rfl rfl ?_
                      refine zw_getI 2 17 f2_14 rfl g2_15_0 (hb_44 _ _ _ _) rfl rfl ?_
                      refine zw_iload_n 18 f2_17 rfl rfl ?_
                      refine zw_ast 2 _ 19 f2_18 rfl (hb_45 _ _ _ _) (by decide +kernel) (by decide +kernel) (by decide +kernel) (ha_45 _ _ _ _ _) ?_
                      refine zw_aload_n 20 f2_19 rfl rfl ?_
                      refine zw_dup 21 f2_20 rfl rfl ?_
                      refine zw_getI 2 24 f2_21 rfl g2_15_0 (hb_44 _ _ _ _) rfl rfl ?_
                      refine zw_iconst 1 25 f2_24 rfl (by decide +kernel) ?_
                      refine zw_iadd 3 26 f2_25 rfl (by decide +kernel) ?_
                      refine zw_put _ 29 f2_26 rfl g2_15_0 (hb_44 _ _ _ _) rfl (Nat.le_of_ble_eq_true rfl) (by decide +kernel) (hi_44_4 _ _ _ _ _) ?_
                      refine zw_vreturn f2_29 r2 u2 ⟨rfl, ?_⟩
                      refine zw_aload_n 10 f8_9 rfl rfl ?_
                      refine zw_iload_n 11 f8_10 rfl rfl ?_
                      refine zw_aload_n 12 f8_11 rfl rfl ?_
                      refine zw_getfield 15 f8_12 rfl g8_7_1 (hb_51 _ _ _ _) rfl ?_
                      refine zw_getI (A 4 a.toNatClampNeg) 18 f8_15 rfl g8_27_0 (hb_44 _ _ _ _) rfl rfl ?_
                      refine zw_iadd (c + (A 4 a.toNatClampNeg)) 19 f8_18 rfl rfl ?_
                      refine zw_super_i 22 0 0 [.ref 51, .int (c + (A 4 a.toNatClampNeg))] [(0, .ref 51), (1, .int (c + (A 4 a.toNatClampNeg)))] f8_19 rfl k8_30_99 k8_30_98 (by decide +kernel) rfl (hb_51 _ _ _ _) (by decide +kernel) (Nat.le_of_ble_eq_true rfl) rfl rfl (by decide +kernel) (by decide +kernel) rfl (Nat.le_of_ble_eq_true rfl) rfl ?_
                      refine zw_aload_n 1 f37_0 rfl rfl ?_
                      refine zw_getfield 4 f37_1 rfl g37_7_1 (hb_51 _ _ _ _) rfl ?_
                      refine zw_bipush 10 6 f37_4 rfl (by decide +kernel) ?_
                      refine zw_virtual_v 9 0 0 [.ref 44, .int 10] [(0, .ref 44), (1, .int 10)] f37_6 rfl n37_13 k37_13_0 rfl (hb_44 _ _ _ _) (by decide +kernel) (Nat.le_of_ble_eq_true rfl) rfl rfl (by decide +kernel) (by decide +kernel) rfl (Nat.le_of_ble_eq_true rfl) rfl ?_
                      refine zw_aload_n 1 f2_0 rfl rfl ?_
                      refine zw_getI 3 4 f2_1 rfl g2_15_0 (hb_44 _ _ _ _) rfl rfl ?_
                      refine zw_bipush 50 6 f2_4 rfl (by decide +kernel) ?_
                      refine zw_ic_ge_f 9 29 f2_6 (by decide +kernel) rfl (by decide +kernel) ?_
                      refine zw_aload_n 10 f2_9 rfl rfl ?_
                      refine zw_getfield 13 f2_10 rfl g2_9_0 (hb_44 _ _ _ _) rfl ?_
                      refine zw_aload_n 14 f2_13 rfl rfl ?_
                      refine zw_getI 3 17 f2_14 rfl g2_15_0 (hb_44 _ _ _ _) rfl rfl ?_
                      refine zw_iload_n 18 f2_17 rfl rfl ?_
                      refine zw_ast 3 _ 19 f2_18 rfl (hb_45 _ _ _ _) (by decide +kernel) (by decide +kernel) (by decide +kernel) (ha_45 _ _ _ _ _) ?_
                      refine zw_aload_n 20 f2_19 rfl rfl ?_
                      refine zw_dup 21 f2_20 rfl rfl ?_
                      refine zw_getI 3 24 f2_21 rfl g2_15_0 (hb_44 _ _ _ _) rfl rfl ?_
                      refine zw_iconst 1 25 f2_24 rfl (by decide +kernel) ?_
                      refine zw_iadd 4 26 f2_25 rfl (by decide +kernel) ?_
                      refine zw_put _ 29 f2_26 rfl g2_15_0 (hb_44 _ _ _ _) rfl (Nat.le_of_ble_eq_true rfl) (by decide +kernel) (hi_44_4 _ _ _ _ _) ?_
                      refine zw_vreturn f2_29 r2 u2 ⟨rfl, ?_⟩
                      refine zw_iload_n 10 f37_9 rfl rfl ?_
                      refine zw_aload_n 11 f37_10 rfl rfl ?_
                      refine zw_getfield 14 f37_11 rfl g37_7_1 (hb_51 _ _ _ _) rfl ?_
                      refine zw_getI (A 3 a.toNatClampNeg) 17 f37_14 rfl g37_19_0 (hb_44 _ _ _ _) rfl rfl ?_
                      refine zw_iadd ((c + (A 4 a.toNatClampNeg)) + (A 3 a.toNatClampNeg)) 18 f37_17 rfl rfl ?_
                      refine zw_ireturn f37_18 r37 u37 ⟨_, rfl, ?_⟩
                      refine zw_ireturn f8_22 r8 u8 ⟨_, rfl, ?_⟩
                      refine zw_iconst 3 15 f38_14 rfl (by decide +kernel) ?_
                      refine zw_imul (((c + (A 4 a.toNatClampNeg)) + (A 3 a.toNatClampNeg)) * 3) 16 f38_15 rfl rfl ?_
                      refine zw_ireturn f38_16 r38 u38 ⟨_, rfl, ?_⟩
                      refine zw_aload_n 15 f5_14 rfl rfl ?_
                      refine zw_getfield 18 f5_15 rfl g5_7_1 (hb_51 _ _ _ _) rfl ?_
                      refine zw_getI (A 14 a.toNatClampNeg) 21 f5_18 rfl g5_23_0 (hb_44 _ _ _ _) rfl rfl ?_
                      refine zw_ixor ((((c + (A 4 a.toNatClampNeg)) + (A 3 a.toNatClampNeg)) * 3) ^^^ (A 14 a.toNatClampNeg)) 22 f5_21 rfl rfl ?_
                      refine zw_ireturn f5_22 r5 u5 ⟨_, rfl, ?_⟩
                      refine zw_virtual_i 121 0 0 [.ref 0, .int ((((c + (A 4 a.toNatClampNeg)) + (A 3 a.toNatClampNeg)) * 3) ^^^ (A 14 a.toNatClampNeg))] [(0, .ref 0), (1, .int ((((c + (A 4 a.toNatClampNeg)) + (A 3 a.toNatClampNeg)) * 3) ^^^ (A 14 a.toNatClampNeg)))] f101_118 rfl n101_181 k101_181_11 rfl (hb_0 _ _ _ _) (by decide +kernel) (Nat.le_of_ble_eq_true rfl) rfl rfl (by decide +kernel) (by decide +kernel) rfl (Nat.le_of_ble_eq_true rfl) rfl ?_
                      refine zw_aload_n 1 f106_0 rfl rfl ?_
                      refine zw_iconst 0 2 f106_1 rfl (by decide +kernel) ?_
                      refine zw_put _ 5 f106_2 rfl g106_70_11 (hb_0 _ _ _ _) rfl (Nat.le_of_ble_eq_true rfl) (by decide +kernel) (hi_0_7 _ _ _ _ _) ?_
                      refine zw_iload_n 6 f106_5 rfl rfl ?_
                      refine zw_ireturn f106_6 r106 u106 ⟨_, rfl, ?_⟩
                      refine zw_ireturn f101_121 r101 u101 ?_
                      exact ⟨_, _, _, _, rfl, (KP.i rfl (KP.i rfl (KP.a rfl (KP.i rfl (KP.a rfl (KP.i rfl (KP.a rfl (KP.i rfl (KP.a rfl (KP.i rfl (KP.i rfl (KP.i rfl (KP.i rfl (KP.i rfl KP.rf)))))))))))))), ⟨⟨hI.1, hI.2.1, 4, by omega, rfl⟩, PE.of10 rfl rfl rfl rfl rfl rfl rfl rfl rfl rfl⟩, _, rfl⟩
                    · refine zw_table_k 47 122 f101_75 hs12e (by decide +kernel) (by decide +kernel) (by decide +kernel) ?_
                      refine zw_aload_n 123 f101_122 rfl (zl1_ne rfl rfl (zl1_ne rfl rfl rfl)) ?_
                      refine zw_aload 125 f101_123 rfl zl1_eq ?_
                      refine zw_iload_n 126 f101_125 rfl (zl1_ne rfl rfl (zl1_ne rfl rfl rfl)) ?_
                      refine zw_virtual_i 129 0 0 [.ref 51, .int c] [(0, .ref 51), (1, .int c)] f101_126 rfl n101_295 k101_295_1 rfl (hb_51 _ _ _ _) (by decide +kernel) (Nat.le_of_ble_eq_true rfl) rfl rfl (by decide +kernel) (by decide +kernel) rfl (Nat.le_of_ble_eq_true rfl) rfl ?_
                      refine zw_aload_n 1 f4_0 rfl rfl ?_
                      refine zw_getfield 4 f4_1 rfl g4_7_1 (hb_51 _ _ _ _) rfl ?_
                      refine zw_bipush 50 6 f4_4 rfl (by decide +kernel) ?_
                      refine zw_virtual_v 9 0 0 [.ref 44, .int 50] [(0, .ref 44), (1, .int 50)] f4_6 rfl n4_13 k4_13_0 rfl (hb_44 _ _ _ _) (by decide +kernel) (Nat.le_of_ble_eq_true rfl) rfl rfl (by decide +kernel) (by decide +kernel) rfl (Nat.le_of_ble_eq_true rfl) rfl ?_
                      refine zw_aload_n 1 f2_0 rfl rfl ?_
                      refine zw_getI 0 4 f2_1 rfl g2_15_0 (hb_44 _ _ _ _) rfl rfl ?_
                      refine zw_bipush 50 6 f2_4 rfl (by decide +kernel) ?_
                      refine zw_ic_ge_f 9 29 f2_6 (by decide +kernel) rfl (by decide +kernel) ?_
                      refine zw_aload_n 10 f2_9 rfl rfl ?_
                      refine zw_getfield 13 f2_10 rfl g2_9_0 (hb_44 _ _ _ _) rfl ?_
                      refine zw_aload_n 14 f2_13 rfl rfl ?_
                      refine zw_getI 0 17 f2_14 rfl g2_15_0 (hb_44 _ _ _ _) rfl rfl ?_
                      refine zw_iload_n 18 f2_17 rfl rfl ?_
                      refine zw_ast 0 _ 19 f2_18 rfl (hb_45 _ _ _ _) (by decide +kernel) (by decide +kernel) (by decide +kernel) (ha_45 _ _ _ _ _) ?_
                      refine zw_aload_n 20 f2_19 rfl rfl ?_
                      refine zw_dup 21 f2_20 rfl rfl ?_
                      refine zw_getI 0 24 f2_21 rfl g2_15_0 (hb_44 _ _ _ _) rfl rfl ?_
                      refine zw_iconst 1 25 f2_24 rfl (by decide +kernel) ?_
                      refine zw_iadd 1 26 f2_25 rfl (by decide +kernel) ?_
                      refine zw_put _ 29 f2_26 rfl g2_15_0 (hb_44 _ _ _ _) rfl (Nat.le_of_ble_eq_true rfl) (by decide +kernel) (hi_44_4 _ _ _ _ _) ?_
                      refine zw_vreturn f2_29 r2 u2 ⟨rfl, ?_⟩
                      refine zw_aload_n 10 f4_9 rfl rfl ?_
                      refine zw_iload_n 11 f4_10 rfl rfl ?_
                      refine zw_super_i 14 0 0 [.ref 51, .int c] [(0, .ref 51), (1, .int c)] f4_11 rfl k4_19_99 k4_19_98 (by decide +kernel) rfl (hb_51 _ _ _ _) (by decide +kernel) (Nat.le_of_ble_eq_true rfl) rfl rfl (by decide +kernel) (by decide +kernel) rfl (Nat.le_of_ble_eq_true rfl) rfl ?_
                      refine zw_aload_n 1 f7_0 rfl rfl ?_
                      refine zw_getfield 4 f7_1 rfl g7_7_1 (hb_51 _ _ _ _) rfl ?_
                      refine zw_bipush 40 6 f7_4 rfl (by decide +kernel) ?_
                      refine zw_virtual_v 9 0 0 [.ref 44, .int 40] [(0, .ref 44), (1, .int 40)] f7_6 rfl n7_13 k7_13_0 rfl (hb_44 _ _ _ _) (by decide +kernel) (Nat.le_of_ble_eq_true rfl) rfl rfl (by decide +kernel) (by decide +kernel) rfl (Nat.le_of_ble_eq_true rfl) rfl ?_
                      refine zw_aload_n 1 f2_0 rfl rfl ?_
                      refine zw_getI 1 4 f2_1 rfl g2_15_0 (hb_44 _ _ _ _) rfl rfl ?_
                      refine zw_bipush 50 6 f2_4 rfl (by decide +kernel) ?_
                      refine zw_ic_ge_f 9 29 f2_6 (by decide +kernel) rfl (by decide +kernel) ?_
                      refine zw_aload_n 10 f2_9 rfl rfl ?_
                      refine zw_getfield 13 f2_10 rfl g2_9_0 (hb_44 _ _ _ _) rfl ?_
                      refine zw_aload_n 14 f2_13 rfl rfl ?_
                      refine zw_getI 1 17 f2_14 rfl g2_15_0 (hb_44 _ _ _ _) rfl rfl ?_
                      refine zw_iload_n 18 f2_17 rfl rfl ?_
                      refine zw_ast 1 _ 19 f2_18 rfl (hb_45 _ _ _ _) (by decide +kernel) (by decide +kernel) (by decide +kernel) (ha_45 _ _ _ _ _) ?_
                      refine zw_aload_n 20 f2_19 rfl rfl ?_
                      refine zw_dup 21 f2_20 rfl rfl ?_
                      refine zw_getI 1 24 f2_21 rfl g2_15_0 (hb_44 _ _ _ _) rfl rfl ?_
                      refine zw_iconst 1 25 f2_24 rfl (by decide +kernel) ?_
                      refine zw_iadd 2 26 f2_25 rfl (by decide +kernel) ?_
                      refine zw_put _ 29 f2_26 rfl g2_15_0 (hb_44 _ _ _ _) rfl (Nat.le_of_ble_eq_true rfl) (by decide +kernel) (hi_44_4 _ _ _ _ _) ?_
                      refine zw_vreturn f2_29 r2 u2 ⟨rfl, ?_⟩
                      refine zw_aload_n 10 f7_9 rfl rfl ?_
                      refine zw_iload_n 11 f7_10 rfl rfl ?_
                      refine zw_super_i 14 0 0 [.ref 51, .int c] [(0, .ref 51), (1, .int c)] f7_11 rfl k7_19_99 k7_19_98 (by decide +kernel) rfl (hb_51 _ _ _ _) (by decide +kernel) (Nat.le_of_ble_eq_true rfl) rfl rfl (by decide +kernel) (by decide +kernel) rfl (Nat.le_of_ble_eq_true rfl) rfl ?_
                      refine zw_aload_n 1 f39_0 rfl rfl ?_
                      refine zw_getfield 4 f39_1 rfl g39_7_1 (hb_51 _ _ _ _) rfl ?_
                      refine zw_bipush 12 6 f39_4 rfl (by decide +kernel) ?_
                      refine zw_virtual_v 9 0 0 [.ref 44, .int 12] [(0, .ref 44), (1, .int 12)] f39_6 rfl n39_13 k39_13_0 rfl (hb_44 _ _ _ _) (by decide +kernel) (Nat.le_of_ble_eq_true rfl) rfl rfl (by decide +kernel) (by decide +kernel) rfl (Nat.le_of_ble_eq_true rfl) rfl ?_
                      refine zw_aload_n 1 f2_0 rfl rfl ?_
                      refine zw_getI 2 4 f2_1 rfl g2_15_0 (hb_44 _ _ _ _) rfl rfl ?_
                      refine zw_bipush 50 6 f2_4 rfl (by decide +kernel) ?_
                      refine zw_ic_ge_f 9 29 f2_6 (by decide +kernel) rfl (by decide +kernel) ?_
                      refine zw_aload_n 10 f2_9 rfl rfl ?_
                      refine zw_getfield 13 f2_10 rfl g2_9_0 (hb_44 _ _ _ _) rfl ?_
                      refine zw_aload_n 14 f2_13 rfl rfl ?_
                      refine zw_getI 2 17 f2_14 rfl g2_15_0 (hb_44 _ _ _ _) rfl rfl ?_
                      refine zw_iload_n 18 f2_17 rfl rfl ?_
                      refine zw_ast 2 _ 19 f2_18 rfl (hb_45 _ _ _ _) (by decide +kernel) (by decide +kernel) (by decide +kernel) (ha_45 _ _ _ _ _) ?_
                      refine zw_aload_n 20 f2_19 rfl rfl ?_
                      refine zw_dup 21 f2_20 rfl rfl ?_
                      refine zw_getI 2 24 f2_21 rfl g2_15_0 (hb_44 _ _ _ _) rfl rfl ?_
                      refine zw_iconst 1 25 f2_24 rfl (by decide +kernel) ?_
                      refine zw_iadd 3 26 f2_25 rfl (by decide +kernel) ?_
                      refine zw_put _ 29 f2_26 rfl g2_15_0 (hb_44 _ _ _ _) rfl (Nat.le_of_ble_eq_true rfl) (by decide +kernel) (hi_44_4 _ _ _ _ _) ?_
                      refine zw_vreturn f2_29 r2 u2 ⟨rfl, ?_⟩
                      refine zw_iload_n 10 f39_9 rfl rfl ?_
                      refine zw_aload_n 11 f39_10 rfl rfl ?_
                      refine zw_getfield 14 f39_11 rfl g39_7_1 (hb_51 _ _ _ _) rfl ?_
                      refine zw_getI (A 3 a.toNatClampNeg) 17 f39_14 rfl g39_19_0 (hb_44 _ _ _ _) rfl rfl ?_
                      refine zw_ixor (c ^^^ (A 3 a.toNatClampNeg)) 18 f39_17 rfl rfl ?_
                      refine zw_ireturn f39_18 r39 u39 ⟨_, rfl, ?_⟩
                      refine zw_aload_n 15 f7_14 rfl rfl ?_
                      refine zw_getfield 18 f7_15 rfl g7_7_1 (hb_51 _ _ _ _) rfl ?_
                      refine zw_getI (A 5 a.toNatClampNeg) 21 f7_18 rfl g7_23_0 (hb_44 _ _ _ _) rfl rfl ?_
                      refine zw_iadd ((c ^^^ (A 3 a.toNatClampNeg)) + (A 5 a.toNatClampNeg)) 22 f7_21 rfl rfl ?_
                      refine zw_ireturn f7_22 r7 u7 ⟨_, rfl, ?_⟩
                      refine zw_aload_n 15 f4_14 rfl rfl ?_
                      refine zw_getfield 18 f4_15 rfl g4_7_1 (hb_51 _ _ _ _) rfl ?_
                      refine zw_getI (A 14 a.toNatClampNeg) 21 f4_18 rfl g4_23_0 (hb_44 _ _ _ _) rfl rfl ?_
                      refine zw_iadd (((c ^^^ (A 3 a.toNatClampNeg)) + (A 5 a.toNatClampNeg)) + (A 14 a.toNatClampNeg)) 22 f4_21 rfl rfl ?_
                      refine zw_ireturn f4_22 r4 u4 ⟨_, rfl, ?_⟩
                      refine zw_virtual_i 132 0 0 [.ref 0, .int (((c ^^^ (A 3 a.toNatClampNeg)) + (A 5 a.toNatClampNeg)) + (A 14 a.toNatClampNeg))] [(0, .ref 0), (1, .int (((c ^^^ (A 3 a.toNatClampNeg)) + (A 5 a.toNatClampNeg)) + (A 14 a.toNatClampNeg)))] f101_129 rfl n101_181 k101_181_11 rfl (hb_0 _ _ _ _) (by decide +kernel) (Nat.le_of_ble_eq_true rfl) rfl rfl (by decide +kernel) (by decide +kernel) rfl (Nat.le_of_ble_eq_true rfl) rfl ?_
                      refine zw_aload_n 1 f106_0 rfl rfl ?_
                      refine zw_iconst 0 2 f106_1 rfl (by decide +kernel) ?_
                      refine zw_put _ 5 f106_2 rfl g106_70_11 (hb_0 _ _ _ _) rfl (Nat.le_of_ble_eq_true rfl) (by decide +kernel) (hi_0_7 _ _ _ _ _) ?_
                      refine zw_iload_n 6 f106_5 rfl rfl ?_
                      refine zw_ireturn f106_6 r106 u106 ⟨_, rfl, ?_⟩
                      refine zw_ireturn f101_132 r101 u101 ?_
                      exact ⟨_, _, _, _, rfl, (KP.i rfl (KP.i rfl (KP.a rfl (KP.i rfl (KP.a rfl (KP.i rfl (KP.a rfl (KP.i rfl (KP.i rfl (KP.i rfl (KP.i rfl (KP.i rfl KP.rf)))))))))))), ⟨⟨hI.1, hI.2.1, 3, by omega, rfl⟩, PE.of10 rfl rfl rfl rfl rfl rfl rfl rfl rfl rfl⟩, _, rfl⟩
set_option maxRecDepth 100000 in
set_option maxHeartbeats 0 in
theorem cm_forge (ro : UInt32 → Nat × (Nat → Int32)) (nv np cm : Nat) (I : Nat → Nat → Int32) (G : Nat → Nat → Int64) (A : Nat → Nat → Int32) (B : Nat → Nat → Int64) (hI : CV nv np cm I) (hcm : cm < 900000000) (hQ : qKd nv (cP A)) (hro : (ro 1).1 = 5 ∧ (ro 1).2 = zka) (a : Int32) (b : Int32) (c : Int32) : zWp ro 103 0 [(0, .ref 0), (1, .int a), (2, .int b), (3, .int c)] [] (hS I G A B) 0 0 (fun r h1 => ∃ I2 G2 A2 B2, h1 = hS I2 G2 A2 B2 ∧ KP pX I G A B I2 G2 A2 B2 ∧ cSt nv np cm (cP A) I2 A2 ∧ ∃ v : Int32, r = some (.int v)) := by
  have h8 := hI.1.1.2
  have h14 := hI.1.2.1.2
  obtain ⟨t, ht, et⟩ := hI.2.2
  refine zw_iload_n 1 f103_0 rfl rfl ?_
  refine zw_iconst 0 2 f103_1 rfl (by decide +kernel) ?_
  refine zw_bipush 6 4 f103_2 rfl (by decide +kernel) ?_
  refine zw_static_i 7 0 0 [.int a, .int 0, .int 6] [] [(0, .int a), (1, .int 0), (2, .int 6)] f103_4 rfl k103_74_99 rfl (by decide +kernel) (Nat.le_of_ble_eq_true rfl) (Nat.le_of_ble_eq_true rfl) rfl rfl (by decide +kernel) (by decide +kernel) rfl (Nat.le_of_ble_eq_true rfl) rfl ?_
  refine zw_iload_n 1 f112_0 rfl rfl ?_
  refine zw_iload_n 2 f112_1 rfl rfl ?_
  refine zw_ic_lt 5 14 f112_2 (by decide +kernel) rfl (fun hc1 => ?_) (fun hc1 => ?_)
  · refine zw_iconst 0 15 f112_14 rfl (by decide +kernel) ?_
    refine zw_zreturn f112_15 r112 u112 (by decide +kernel) ⟨_, rfl, ?_⟩
    refine zw_if_eq_t 32 f103_7 (by decide +kernel) (by decide +kernel) ?_
    refine zw_aload_n 33 f103_32 rfl rfl ?_
    refine zw_iconst 1 34 f103_33 rfl (by decide +kernel) ?_
    refine zw_virtual_i 37 0 0 [.ref 0, .int 1] [(0, .ref 0), (1, .int 1)] f103_34 rfl n103_78 k103_78_11 rfl (hb_0 _ _ _ _) (by decide +kernel) (Nat.le_of_ble_eq_true rfl) rfl rfl (by decide +kernel) (by decide +kernel) rfl (Nat.le_of_ble_eq_true rfl) rfl ?_
    refine zw_aload_n 1 f105_0 rfl rfl ?_
    refine zw_iload_n 2 f105_1 rfl rfl ?_
    refine zw_put _ 5 f105_2 rfl g105_70_11 (hb_0 _ _ _ _) rfl (Nat.le_of_ble_eq_true rfl) (by decide +kernel) (hi_0_7 _ _ _ _ _) ?_
    refine zw_iconst (-1) 6 f105_5 rfl (by decide +kernel) ?_
    refine zw_ireturn f105_6 r105 u105 ⟨_, rfl, ?_⟩
    refine zw_ireturn f103_37 r103 u103 ?_
    exact ⟨_, _, _, _, rfl, (KP.i rfl KP.rf), ⟨⟨hI.1, hI.2.1, t, by omega, et⟩, PE.of10 rfl rfl rfl rfl rfl rfl rfl rfl rfl rfl⟩, _, rfl⟩
  · refine zw_iload_n 6 f112_5 rfl rfl ?_
    refine zw_iload_n 7 f112_6 rfl rfl ?_
    refine zw_ic_gt 10 14 f112_7 (by decide +kernel) rfl (fun hc2 => ?_) (fun hc2 => ?_)
    · refine zw_iconst 0 15 f112_14 rfl (by decide +kernel) ?_
      refine zw_zreturn f112_15 r112 u112 (by decide +kernel) ⟨_, rfl, ?_⟩
      refine zw_if_eq_t 32 f103_7 (by decide +kernel) (by decide +kernel) ?_
      refine zw_aload_n 33 f103_32 rfl rfl ?_
      refine zw_iconst 1 34 f103_33 rfl (by decide +kernel) ?_
      refine zw_virtual_i 37 0 0 [.ref 0, .int 1] [(0, .ref 0), (1, .int 1)] f103_34 rfl n103_78 k103_78_11 rfl (hb_0 _ _ _ _) (by decide +kernel) (Nat.le_of_ble_eq_true rfl) rfl rfl (by decide +kernel) (by decide +kernel) rfl (Nat.le_of_ble_eq_true rfl) rfl ?_
      refine zw_aload_n 1 f105_0 rfl rfl ?_
      refine zw_iload_n 2 f105_1 rfl rfl ?_
      refine zw_put _ 5 f105_2 rfl g105_70_11 (hb_0 _ _ _ _) rfl (Nat.le_of_ble_eq_true rfl) (by decide +kernel) (hi_0_7 _ _ _ _ _) ?_
      refine zw_iconst (-1) 6 f105_5 rfl (by decide +kernel) ?_
      refine zw_ireturn f105_6 r105 u105 ⟨_, rfl, ?_⟩
      refine zw_ireturn f103_37 r103 u103 ?_
      exact ⟨_, _, _, _, rfl, (KP.i rfl KP.rf), ⟨⟨hI.1, hI.2.1, t, by omega, et⟩, PE.of10 rfl rfl rfl rfl rfl rfl rfl rfl rfl rfl⟩, _, rfl⟩
    · refine zw_iconst 1 11 f112_10 rfl (by decide +kernel) ?_
      refine zw_goto 15 f112_11 (by decide +kernel) ?_
      refine zw_zreturn f112_15 r112 u112 (by decide +kernel) ⟨_, rfl, ?_⟩
      refine zw_if_eq_f 10 32 f103_7 (by decide +kernel) rfl (by decide +kernel) ?_
      refine zw_iload_n 11 f103_10 rfl rfl ?_
      refine zw_bipush (-100) 13 f103_11 rfl (by decide +kernel) ?_
      refine zw_bipush 100 15 f103_13 rfl (by decide +kernel) ?_
      refine zw_static_i 18 0 0 [.int b, .int (-100), .int 100] [] [(0, .int b), (1, .int (-100)), (2, .int 100)] f103_15 rfl k103_74_99 rfl (by decide +kernel) (Nat.le_of_ble_eq_true rfl) (Nat.le_of_ble_eq_true rfl) rfl rfl (by decide +kernel) (by decide +kernel) rfl (Nat.le_of_ble_eq_true rfl) rfl ?_
      refine zw_iload_n 1 f112_0 rfl rfl ?_
      refine zw_iload_n 2 f112_1 rfl rfl ?_
      refine zw_ic_lt 5 14 f112_2 (by decide +kernel) rfl (fun hc3 => ?_) (fun hc3 => ?_)
      · refine zw_iconst 0 15 f112_14 rfl (by decide +kernel) ?_
        refine zw_zreturn f112_15 r112 u112 (by decide +kernel) ⟨_, rfl, ?_⟩
        refine zw_if_eq_t 32 f103_18 (by decide +kernel) (by decide +kernel) ?_
        refine zw_aload_n 33 f103_32 rfl rfl ?_
        refine zw_iconst 1 34 f103_33 rfl (by decide +kernel) ?_
        refine zw_virtual_i 37 0 0 [.ref 0, .int 1] [(0, .ref 0), (1, .int 1)] f103_34 rfl n103_78 k103_78_11 rfl (hb_0 _ _ _ _) (by decide +kernel) (Nat.le_of_ble_eq_true rfl) rfl rfl (by decide +kernel) (by decide +kernel) rfl (Nat.le_of_ble_eq_true rfl) rfl ?_
        refine zw_aload_n 1 f105_0 rfl rfl ?_
        refine zw_iload_n 2 f105_1 rfl rfl ?_
        refine zw_put _ 5 f105_2 rfl g105_70_11 (hb_0 _ _ _ _) rfl (Nat.le_of_ble_eq_true rfl) (by decide +kernel) (hi_0_7 _ _ _ _ _) ?_
        refine zw_iconst (-1) 6 f105_5 rfl (by decide +kernel) ?_
        refine zw_ireturn f105_6 r105 u105 ⟨_, rfl, ?_⟩
        refine zw_ireturn f103_37 r103 u103 ?_
        exact ⟨_, _, _, _, rfl, (KP.i rfl KP.rf), ⟨⟨hI.1, hI.2.1, t, by omega, et⟩, PE.of10 rfl rfl rfl rfl rfl rfl rfl rfl rfl rfl⟩, _, rfl⟩
      · refine zw_iload_n 6 f112_5 rfl rfl ?_
        refine zw_iload_n 7 f112_6 rfl rfl ?_
        refine zw_ic_gt 10 14 f112_7 (by decide +kernel) rfl (fun hc4 => ?_) (fun hc4 => ?_)
        · refine zw_iconst 0 15 f112_14 rfl (by decide +kernel) ?_
          refine zw_zreturn f112_15 r112 u112 (by decide +kernel) ⟨_, rfl, ?_⟩
          refine zw_if_eq_t 32 f103_18 (by decide +kernel) (by decide +kernel) ?_
          refine zw_aload_n 33 f103_32 rfl rfl ?_
          refine zw_iconst 1 34 f103_33 rfl (by decide +kernel) ?_
          refine zw_virtual_i 37 0 0 [.ref 0, .int 1] [(0, .ref 0), (1, .int 1)] f103_34 rfl n103_78 k103_78_11 rfl (hb_0 _ _ _ _) (by decide +kernel) (Nat.le_of_ble_eq_true rfl) rfl rfl (by decide +kernel) (by decide +kernel) rfl (Nat.le_of_ble_eq_true rfl) rfl ?_
          refine zw_aload_n 1 f105_0 rfl rfl ?_
          refine zw_iload_n 2 f105_1 rfl rfl ?_
          refine zw_put _ 5 f105_2 rfl g105_70_11 (hb_0 _ _ _ _) rfl (Nat.le_of_ble_eq_true rfl) (by decide +kernel) (hi_0_7 _ _ _ _ _) ?_
          refine zw_iconst (-1) 6 f105_5 rfl (by decide +kernel) ?_
          refine zw_ireturn f105_6 r105 u105 ⟨_, rfl, ?_⟩
          refine zw_ireturn f103_37 r103 u103 ?_
          exact ⟨_, _, _, _, rfl, (KP.i rfl KP.rf), ⟨⟨hI.1, hI.2.1, t, by omega, et⟩, PE.of10 rfl rfl rfl rfl rfl rfl rfl rfl rfl rfl⟩, _, rfl⟩
        · refine zw_iconst 1 11 f112_10 rfl (by decide +kernel) ?_
          refine zw_goto 15 f112_11 (by decide +kernel) ?_
          refine zw_zreturn f112_15 r112 u112 (by decide +kernel) ⟨_, rfl, ?_⟩
          refine zw_if_eq_f 21 32 f103_18 (by decide +kernel) rfl (by decide +kernel) ?_
          refine zw_iload_n 22 f103_21 rfl rfl ?_
          refine zw_bipush (-100) 24 f103_22 rfl (by decide +kernel) ?_
          refine zw_bipush 100 26 f103_24 rfl (by decide +kernel) ?_
          refine zw_static_i 29 0 0 [.int c, .int (-100), .int 100] [] [(0, .int c), (1, .int (-100)), (2, .int 100)] f103_26 rfl k103_74_99 rfl (by decide +kernel) (Nat.le_of_ble_eq_true rfl) (Nat.le_of_ble_eq_true rfl) rfl rfl (by decide +kernel) (by decide +kernel) rfl (Nat.le_of_ble_eq_true rfl) rfl ?_
          refine zw_iload_n 1 f112_0 rfl rfl ?_
          refine zw_iload_n 2 f112_1 rfl rfl ?_
          refine zw_ic_lt 5 14 f112_2 (by decide +kernel) rfl (fun hc5 => ?_) (fun hc5 => ?_)
          · refine zw_iconst 0 15 f112_14 rfl (by decide +kernel) ?_
            refine zw_zreturn f112_15 r112 u112 (by decide +kernel) ⟨_, rfl, ?_⟩
            refine zw_if_ne_f 32 38 f103_29 (by decide +kernel) rfl (by decide +kernel) ?_
            refine zw_aload_n 33 f103_32 rfl rfl ?_
            refine zw_iconst 1 34 f103_33 rfl (by decide +kernel) ?_
            refine zw_virtual_i 37 0 0 [.ref 0, .int 1] [(0, .ref 0), (1, .int 1)] f103_34 rfl n103_78 k103_78_11 rfl (hb_0 _ _ _ _) (by decide +kernel) (Nat.le_of_ble_eq_true rfl) rfl rfl (by decide +kernel) (by decide +kernel) rfl (Nat.le_of_ble_eq_true rfl) rfl ?_
            refine zw_aload_n 1 f105_0 rfl rfl ?_
            refine zw_iload_n 2 f105_1 rfl rfl ?_
            refine zw_put _ 5 f105_2 rfl g105_70_11 (hb_0 _ _ _ _) rfl (Nat.le_of_ble_eq_true rfl) (by decide +kernel) (hi_0_7 _ _ _ _ _) ?_
            refine zw_iconst (-1) 6 f105_5 rfl (by decide +kernel) ?_
            refine zw_ireturn f105_6 r105 u105 ⟨_, rfl, ?_⟩
            refine zw_ireturn f103_37 r103 u103 ?_
            exact ⟨_, _, _, _, rfl, (KP.i rfl KP.rf), ⟨⟨hI.1, hI.2.1, t, by omega, et⟩, PE.of10 rfl rfl rfl rfl rfl rfl rfl rfl rfl rfl⟩, _, rfl⟩
          · refine zw_iload_n 6 f112_5 rfl rfl ?_
            refine zw_iload_n 7 f112_6 rfl rfl ?_
            refine zw_ic_gt 10 14 f112_7 (by decide +kernel) rfl (fun hc6 => ?_) (fun hc6 => ?_)
            · refine zw_iconst 0 15 f112_14 rfl (by decide +kernel) ?_
              refine zw_zreturn f112_15 r112 u112 (by decide +kernel) ⟨_, rfl, ?_⟩
              refine zw_if_ne_f 32 38 f103_29 (by decide +kernel) rfl (by decide +kernel) ?_
              refine zw_aload_n 33 f103_32 rfl rfl ?_
              refine zw_iconst 1 34 f103_33 rfl (by decide +kernel) ?_
              refine zw_virtual_i 37 0 0 [.ref 0, .int 1] [(0, .ref 0), (1, .int 1)] f103_34 rfl n103_78 k103_78_11 rfl (hb_0 _ _ _ _) (by decide +kernel) (Nat.le_of_ble_eq_true rfl) rfl rfl (by decide +kernel) (by decide +kernel) rfl (Nat.le_of_ble_eq_true rfl) rfl ?_
              refine zw_aload_n 1 f105_0 rfl rfl ?_
              refine zw_iload_n 2 f105_1 rfl rfl ?_
              refine zw_put _ 5 f105_2 rfl g105_70_11 (hb_0 _ _ _ _) rfl (Nat.le_of_ble_eq_true rfl) (by decide +kernel) (hi_0_7 _ _ _ _ _) ?_
              refine zw_iconst (-1) 6 f105_5 rfl (by decide +kernel) ?_
              refine zw_ireturn f105_6 r105 u105 ⟨_, rfl, ?_⟩
              refine zw_ireturn f103_37 r103 u103 ?_
              exact ⟨_, _, _, _, rfl, (KP.i rfl KP.rf), ⟨⟨hI.1, hI.2.1, t, by omega, et⟩, PE.of10 rfl rfl rfl rfl rfl rfl rfl rfl rfl rfl⟩, _, rfl⟩
            · refine zw_iconst 1 11 f112_10 rfl (by decide +kernel) ?_
              refine zw_goto 15 f112_11 (by decide +kernel) ?_
              refine zw_zreturn f112_15 r112 u112 (by decide +kernel) ⟨_, rfl, ?_⟩
              refine zw_if_ne_t 38 f103_29 (by decide +kernel) (by decide +kernel) ?_
              refine zw_iload_n 39 f103_38 rfl rfl ?_
              rcases zl_sw 5 (by decide) a with hs7 | ⟨hs7k, hs7l, hs7e⟩
              · refine zw_table_o 186 f103_39 hs7 (by decide +kernel) ?_
                refine zw_iload_n 187 f103_186 rfl rfl ?_
                refine zw_iconst 2 188 f103_187 rfl (by decide +kernel) ?_
                refine zw_static_i 191 0 0 [.int b, .int 2] [] [(0, .int b), (1, .int 2)] f103_188 rfl k103_304_99 rfl (by decide +kernel) (Nat.le_of_ble_eq_true rfl) (Nat.le_of_ble_eq_true rfl) rfl rfl (by decide +kernel) (by decide +kernel) rfl (Nat.le_of_ble_eq_true rfl) rfl ?_
                refine zw_iload_n 1 f186_0 rfl rfl ?_
                refine zw_iload_n 2 f186_1 rfl rfl ?_
                refine zw_irem (b - b / 2 * 2) 3 f186_2 rfl (by decide +kernel) rfl ?_
                refine zw_istore_n _ 4 f186_3 rfl (by decide +kernel) rfl ?_
                refine zw_iload_n 5 f186_4 rfl (zl1_ne rfl rfl rfl) ?_
                refine zw_iload_n 6 f186_5 rfl (zl1_ne rfl rfl rfl) ?_
                refine zw_ixor (b ^^^ 2) 7 f186_6 rfl rfl ?_
                refine zw_if_ge 10 18 f186_7 (by decide +kernel) rfl (fun hc8 => ?_) (fun hc8 => ?_)
                · refine zw_iload_n 19 f186_18 rfl zl1_eq ?_
                  refine zw_ireturn f186_19 r186 u186 ⟨_, rfl, ?_⟩
                  refine zw_if_ne 194 203 f103_191 (by decide +kernel) rfl (fun hc9 => ?_) (fun hc9 => ?_)
                  · refine zw_aload_n 204 f103_203 rfl rfl ?_
                    refine zw_iconst 1 205 f103_204 rfl (by decide +kernel) ?_
                    refine zw_virtual_i 208 0 0 [.ref 0, .int 1] [(0, .ref 0), (1, .int 1)] f103_205 rfl n103_181 k103_181_11 rfl (hb_0 _ _ _ _) (by decide +kernel) (Nat.le_of_ble_eq_true rfl) rfl rfl (by decide +kernel) (by decide +kernel) rfl (Nat.le_of_ble_eq_true rfl) rfl ?_
                    refine zw_aload_n 1 f106_0 rfl rfl ?_
                    refine zw_iconst 0 2 f106_1 rfl (by decide +kernel) ?_
                    refine zw_put _ 5 f106_2 rfl g106_70_11 (hb_0 _ _ _ _) rfl (Nat.le_of_ble_eq_true rfl) (by decide +kernel) (hi_0_7 _ _ _ _ _) ?_
                    refine zw_iload_n 6 f106_5 rfl rfl ?_
                    refine zw_ireturn f106_6 r106 u106 ⟨_, rfl, ?_⟩
                    refine zw_ireturn f103_208 r103 u103 ?_
                    exact ⟨_, _, _, _, rfl, (KP.i rfl KP.rf), ⟨⟨hI.1, hI.2.1, t, by omega, et⟩, PE.of10 rfl rfl rfl rfl rfl rfl rfl rfl rfl rfl⟩, _, rfl⟩
                  · refine zw_aload_n 195 f103_194 rfl rfl ?_
                    refine zw_bipush 10 197 f103_195 rfl (by decide +kernel) ?_
                    refine zw_virtual_i 200 0 0 [.ref 0, .int 10] [(0, .ref 0), (1, .int 10)] f103_197 rfl n103_78 k103_78_11 rfl (hb_0 _ _ _ _) (by decide +kernel) (Nat.le_of_ble_eq_true rfl) rfl rfl (by decide +kernel) (by decide +kernel) rfl (Nat.le_of_ble_eq_true rfl) rfl ?_
                    refine zw_aload_n 1 f105_0 rfl rfl ?_
                    refine zw_iload_n 2 f105_1 rfl rfl ?_
                    refine zw_put _ 5 f105_2 rfl g105_70_11 (hb_0 _ _ _ _) rfl (Nat.le_of_ble_eq_true rfl) (by decide +kernel) (hi_0_7 _ _ _ _ _) ?_
                    refine zw_iconst (-1) 6 f105_5 rfl (by decide +kernel) ?_
                    refine zw_ireturn f105_6 r105 u105 ⟨_, rfl, ?_⟩
                    refine zw_goto 208 f103_200 (by decide +kernel) ?_
                    refine zw_ireturn f103_208 r103 u103 ?_
                    exact ⟨_, _, _, _, rfl, (KP.i rfl KP.rf), ⟨⟨hI.1, hI.2.1, t, by omega, et⟩, PE.of10 rfl rfl rfl rfl rfl rfl rfl rfl rfl rfl⟩, _, rfl⟩
                · refine zw_iload_n 11 f186_10 rfl zl1_eq ?_
                  refine zw_if_eq 14 18 f186_11 (by decide +kernel) rfl (fun hc10 => ?_) (fun hc10 => ?_)
                  · refine zw_iload_n 19 f186_18 rfl zl1_eq ?_
                    refine zw_ireturn f186_19 r186 u186 ⟨_, rfl, ?_⟩
                    refine zw_if_ne_f 194 203 f103_191 (by decide +kernel) rfl (fun q => q hc10) ?_
                    refine zw_aload_n 195 f103_194 rfl rfl ?_
                    refine zw_bipush 10 197 f103_195 rfl (by decide +kernel) ?_
                    refine zw_virtual_i 200 0 0 [.ref 0, .int 10] [(0, .ref 0), (1, .int 10)] f103_197 rfl n103_78 k103_78_11 rfl (hb_0 _ _ _ _) (by decide +kernel) (Nat.le_of_ble_eq_true rfl) rfl rfl (by decide +kernel) (by decide +kernel) rfl (Nat.le_of_ble_eq_true rfl) rfl ?_
                    refine zw_aload_n 1 f105_0 rfl rfl ?_
                    refine zw_iload_n 2 f105_1 rfl rfl ?_
                    refine zw_put _ 5 f105_2 rfl g105_70_11 (hb_0 _ _ _ _) rfl (Nat.le_of_ble_eq_true rfl) (by decide +kernel) (hi_0_7 _ _ _ _ _) ?_
                    refine zw_iconst (-1) 6 f105_5 rfl (by decide +kernel) ?_
                    refine zw_ireturn f105_6 r105 u105 ⟨_, rfl, ?_⟩
                    refine zw_goto 208 f103_200 (by decide +kernel) ?_
                    refine zw_ireturn f103_208 r103 u103 ?_
                    exact ⟨_, _, _, _, rfl, (KP.i rfl KP.rf), ⟨⟨hI.1, hI.2.1, t, by omega, et⟩, PE.of10 rfl rfl rfl rfl rfl rfl rfl rfl rfl rfl⟩, _, rfl⟩
                  · refine zw_iload_n 15 f186_14 rfl zl1_eq ?_
                    refine zw_iload_n 16 f186_15 rfl (zl1_ne rfl rfl rfl) ?_
                    refine zw_iadd ((b - b / 2 * 2) + 2) 17 f186_16 rfl rfl ?_
                    refine zw_ireturn f186_17 r186 u186 ⟨_, rfl, ?_⟩
                    refine zw_if_ne 194 203 f103_191 (by decide +kernel) rfl (fun hc11 => ?_) (fun hc11 => ?_)
                    · refine zw_aload_n 204 f103_203 rfl rfl ?_
                      refine zw_iconst 1 205 f103_204 rfl (by decide +kernel) ?_
                      refine zw_virtual_i 208 0 0 [.ref 0, .int 1] [(0, .ref 0), (1, .int 1)] f103_205 rfl n103_181 k103_181_11 rfl (hb_0 _ _ _ _) (by decide +kernel) (Nat.le_of_ble_eq_true rfl) rfl rfl (by decide +kernel) (by decide +kernel) rfl (Nat.le_of_ble_eq_true rfl) rfl ?_
                      refine zw_aload_n 1 f106_0 rfl rfl ?_
                      refine zw_iconst 0 2 f106_1 rfl (by decide +kernel) ?_
                      refine zw_put _ 5 f106_2 rfl g106_70_11 (hb_0 _ _ _ _) rfl (Nat.le_of_ble_eq_true rfl) (by decide +kernel) (hi_0_7 _ _ _ _ _) ?_
                      refine zw_iload_n 6 f106_5 rfl rfl ?_
                      refine zw_ireturn f106_6 r106 u106 ⟨_, rfl, ?_⟩
                      refine zw_ireturn f103_208 r103 u103 ?_
                      exact ⟨_, _, _, _, rfl, (KP.i rfl KP.rf), ⟨⟨hI.1, hI.2.1, t, by omega, et⟩, PE.of10 rfl rfl rfl rfl rfl rfl rfl rfl rfl rfl⟩, _, rfl⟩
                    · refine zw_aload_n 195 f103_194 rfl rfl ?_
                      refine zw_bipush 10 197 f103_195 rfl (by decide +kernel) ?_
                      refine zw_virtual_i 200 0 0 [.ref 0, .int 10] [(0, .ref 0), (1, .int 10)] f103_197 rfl n103_78 k103_78_11 rfl (hb_0 _ _ _ _) (by decide +kernel) (Nat.le_of_ble_eq_true rfl) rfl rfl (by decide +kernel) (by decide +kernel) rfl (Nat.le_of_ble_eq_true rfl) rfl ?_
                      refine zw_aload_n 1 f105_0 rfl rfl ?_
                      refine zw_iload_n 2 f105_1 rfl rfl ?_
                      refine zw_put _ 5 f105_2 rfl g105_70_11 (hb_0 _ _ _ _) rfl (Nat.le_of_ble_eq_true rfl) (by decide +kernel) (hi_0_7 _ _ _ _ _) ?_
                      refine zw_iconst (-1) 6 f105_5 rfl (by decide +kernel) ?_
                      refine zw_ireturn f105_6 r105 u105 ⟨_, rfl, ?_⟩
                      refine zw_goto 208 f103_200 (by decide +kernel) ?_
                      refine zw_ireturn f103_208 r103 u103 ?_
                      exact ⟨_, _, _, _, rfl, (KP.i rfl KP.rf), ⟨⟨hI.1, hI.2.1, t, by omega, et⟩, PE.of10 rfl rfl rfl rfl rfl rfl rfl rfl rfl rfl⟩, _, rfl⟩
              · rcases (show hs7k = 0 ∨ hs7k = 1 ∨ hs7k = 2 ∨ hs7k = 3 ∨ hs7k = 4 ∨ hs7k = 5 by omega) with rfl | rfl | rfl | rfl | rfl | rfl
                · refine zw_table_k 37 76 f103_39 hs7e (by decide +kernel) (by decide +kernel) (by decide +kernel) ?_
                  refine zw_aload_n 77 f103_76 rfl rfl ?_
                  refine zw_iload_n 78 f103_77 rfl rfl ?_
                  refine zw_bipush 8 80 f103_78 rfl (by decide +kernel) ?_
                  refine zw_static_i 83 0 0 [.int c, .int 8] [.ref 0] [(0, .int c), (1, .int 8)] f103_80 rfl k103_304_99 rfl (by decide +kernel) (Nat.le_of_ble_eq_true rfl) (Nat.le_of_ble_eq_true rfl) rfl rfl (by decide +kernel) (by decide +kernel) rfl (Nat.le_of_ble_eq_true rfl) rfl ?_
                  refine zw_iload_n 1 f186_0 rfl rfl ?_
                  refine zw_iload_n 2 f186_1 rfl rfl ?_
                  refine zw_irem (c - c / 8 * 8) 3 f186_2 rfl (by decide +kernel) rfl ?_
                  refine zw_istore_n _ 4 f186_3 rfl (by decide +kernel) rfl ?_
                  refine zw_iload_n 5 f186_4 rfl (zl1_ne rfl rfl rfl) ?_
                  refine zw_iload_n 6 f186_5 rfl (zl1_ne rfl rfl rfl) ?_
                  refine zw_ixor (c ^^^ 8) 7 f186_6 rfl rfl ?_
                  refine zw_if_ge 10 18 f186_7 (by decide +kernel) rfl (fun hc12 => ?_) (fun hc12 => ?_)
                  · refine zw_iload_n 19 f186_18 rfl zl1_eq ?_
                    refine zw_ireturn f186_19 r186 u186 ⟨_, rfl, ?_⟩
                    refine zw_iload_n 84 f103_83 rfl rfl ?_
                    refine zw_iconst 5 85 f103_84 rfl (by decide +kernel) ?_
                    refine zw_static_i 88 0 0 [.int b, .int 5] [.int (c - c / 8 * 8), .ref 0] [(0, .int b), (1, .int 5)] f103_85 rfl k103_304_99 rfl (by decide +kernel) (Nat.le_of_ble_eq_true rfl) (Nat.le_of_ble_eq_true rfl) rfl rfl (by decide +kernel) (by decide +kernel) rfl (Nat.le_of_ble_eq_true rfl) rfl ?_
                    refine zw_iload_n 1 f186_0 rfl rfl ?_
                    refine zw_iload_n 2 f186_1 rfl rfl ?_
                    refine zw_irem (b - b / 5 * 5) 3 f186_2 rfl (by decide +kernel) rfl ?_
                    refine zw_istore_n _ 4 f186_3 rfl (by decide +kernel) rfl ?_
                    refine zw_iload_n 5 f186_4 rfl (zl1_ne rfl rfl rfl) ?_
                    refine zw_iload_n 6 f186_5 rfl (zl1_ne rfl rfl rfl) ?_
                    refine zw_ixor (b ^^^ 5) 7 f186_6 rfl rfl ?_
                    refine zw_if_ge 10 18 f186_7 (by decide +kernel) rfl (fun hc13 => ?_) (fun hc13 => ?_)
                    · refine zw_iload_n 19 f186_18 rfl zl1_eq ?_
                      refine zw_ireturn f186_19 r186 u186 ⟨_, rfl, ?_⟩
                      refine zw_virtual_i 91 0 0 [.ref 0, .int (c - c / 8 * 8), .int (b - b / 5 * 5)] [(0, .ref 0), (1, .int (c - c / 8 * 8)), (2, .int (b - b / 5 * 5))] f103_88 rfl n103_309 k103_309_11 rfl (hb_0 _ _ _ _) (by decide +kernel) (Nat.le_of_ble_eq_true rfl) rfl rfl (by decide +kernel) (by decide +kernel) rfl (Nat.le_of_ble_eq_true rfl) rfl ?_
                      refine zw_aload_n 1 f109_0 rfl rfl ?_
                      refine zw_getfield 4 f109_1 rfl g109_10_11 (hb_0 _ _ _ _) rfl ?_
                      refine zw_iload_n 5 f109_4 rfl rfl ?_
                      refine zw_virtual_i 8 0 0 [.ref 1, .int (c - c / 8 * 8)] [(0, .ref 1), (1, .int (c - c / 8 * 8))] f109_5 rfl n109_89 k109_89_4 rfl (hb_1 _ _ _ _) (by decide +kernel) (Nat.le_of_ble_eq_true rfl) rfl rfl (by decide +kernel) (by decide +kernel) rfl (Nat.le_of_ble_eq_true rfl) rfl ?_
                      refine zw_iload_n 1 f13_0 rfl rfl ?_
                      refine zw_if_lt 4 22 f13_1 (by decide +kernel) rfl (fun hc14 => ?_) (fun hc14 => ?_)
                      · refine zw_iconst 0 23 f13_22 rfl (by decide +kernel) ?_
                        refine zw_zreturn f13_23 r13 u13 (by decide +kernel) ⟨_, rfl, ?_⟩
                        refine zw_if_ne_f 11 18 f109_8 (by decide +kernel) rfl (by decide +kernel) ?_
                        refine zw_aload_n 12 f109_11 rfl rfl ?_
                        refine zw_bipush 10 14 f109_12 rfl (by decide +kernel) ?_
                        refine zw_virtual_i 17 0 0 [.ref 0, .int 10] [(0, .ref 0), (1, .int 10)] f109_14 rfl n109_78 k109_78_11 rfl (hb_0 _ _ _ _) (by decide +kernel) (Nat.le_of_ble_eq_true rfl) rfl rfl (by decide +kernel) (by decide +kernel) rfl (Nat.le_of_ble_eq_true rfl) rfl ?_
                        refine zw_aload_n 1 f105_0 rfl rfl ?_
                        refine zw_iload_n 2 f105_1 rfl rfl ?_
                        refine zw_put _ 5 f105_2 rfl g105_70_11 (hb_0 _ _ _ _) rfl (Nat.le_of_ble_eq_true rfl) (by decide +kernel) (hi_0_7 _ _ _ _ _) ?_
                        refine zw_iconst (-1) 6 f105_5 rfl (by decide +kernel) ?_
                        refine zw_ireturn f105_6 r105 u105 ⟨_, rfl, ?_⟩
                        refine zw_ireturn f109_17 r109 u109 ⟨_, rfl, ?_⟩
                        refine zw_ireturn f103_91 r103 u103 ?_
                        exact ⟨_, _, _, _, rfl, (KP.i rfl KP.rf), ⟨⟨hI.1, hI.2.1, t, by omega, et⟩, PE.of10 rfl rfl rfl rfl rfl rfl rfl rfl rfl rfl⟩, _, rfl⟩
                      · refine zw_iload_n 5 f13_4 rfl rfl ?_
                        refine zw_aload_n 6 f13_5 rfl rfl ?_
                        refine zw_getI (nI nv) 9 f13_6 rfl g13_39_4 (hb_1 _ _ _ _) rfl hI.1.1.1 ?_
                        refine zw_ic_ge 12 22 f13_9 (by decide +kernel) rfl (fun hc15 => ?_) (fun hc15 => ?_)
                        · refine zw_iconst 0 23 f13_22 rfl (by decide +kernel) ?_
                          refine zw_zreturn f13_23 r13 u13 (by decide +kernel) ⟨_, rfl, ?_⟩
                          refine zw_if_ne_f 11 18 f109_8 (by decide +kernel) rfl (by decide +kernel) ?_
                          refine zw_aload_n 12 f109_11 rfl rfl ?_
                          refine zw_bipush 10 14 f109_12 rfl (by decide +kernel) ?_
                          refine zw_virtual_i 17 0 0 [.ref 0, .int 10] [(0, .ref 0), (1, .int 10)] f109_14 rfl n109_78 k109_78_11 rfl (hb_0 _ _ _ _) (by decide +kernel) (Nat.le_of_ble_eq_true rfl) rfl rfl (by decide +kernel) (by decide +kernel) rfl (Nat.le_of_ble_eq_true rfl) rfl ?_
                          refine zw_aload_n 1 f105_0 rfl rfl ?_
                          refine zw_iload_n 2 f105_1 rfl rfl ?_
                          refine zw_put _ 5 f105_2 rfl g105_70_11 (hb_0 _ _ _ _) rfl (Nat.le_of_ble_eq_true rfl) (by decide +kernel) (hi_0_7 _ _ _ _ _) ?_
                          refine zw_iconst (-1) 6 f105_5 rfl (by decide +kernel) ?_
                          refine zw_ireturn f105_6 r105 u105 ⟨_, rfl, ?_⟩
                          refine zw_ireturn f109_17 r109 u109 ⟨_, rfl, ?_⟩
                          refine zw_ireturn f103_91 r103 u103 ?_
                          exact ⟨_, _, _, _, rfl, (KP.i rfl KP.rf), ⟨⟨hI.1, hI.2.1, t, by omega, et⟩, PE.of10 rfl rfl rfl rfl rfl rfl rfl rfl rfl rfl⟩, _, rfl⟩
                        · refine zw_iload_n 13 f13_12 rfl rfl ?_
                          refine zw_bipush 8 15 f13_13 rfl (by decide +kernel) ?_
                          refine zw_ic_ge 18 22 f13_15 (by decide +kernel) rfl (fun hc16 => ?_) (fun hc16 => ?_)
                          · refine zw_iconst 0 23 f13_22 rfl (by decide +kernel) ?_
                            refine zw_zreturn f13_23 r13 u13 (by decide +kernel) ⟨_, rfl, ?_⟩
                            refine zw_if_ne_f 11 18 f109_8 (by decide +kernel) rfl (by decide +kernel) ?_
                            refine zw_aload_n 12 f109_11 rfl rfl ?_
                            refine zw_bipush 10 14 f109_12 rfl (by decide +kernel) ?_
                            refine zw_virtual_i 17 0 0 [.ref 0, .int 10] [(0, .ref 0), (1, .int 10)] f109_14 rfl n109_78 k109_78_11 rfl (hb_0 _ _ _ _) (by decide +kernel) (Nat.le_of_ble_eq_true rfl) rfl rfl (by decide +kernel) (by decide +kernel) rfl (Nat.le_of_ble_eq_true rfl) rfl ?_
                            refine zw_aload_n 1 f105_0 rfl rfl ?_
                            refine zw_iload_n 2 f105_1 rfl rfl ?_
                            refine zw_put _ 5 f105_2 rfl g105_70_11 (hb_0 _ _ _ _) rfl (Nat.le_of_ble_eq_true rfl) (by decide +kernel) (hi_0_7 _ _ _ _ _) ?_
                            refine zw_iconst (-1) 6 f105_5 rfl (by decide +kernel) ?_
                            refine zw_ireturn f105_6 r105 u105 ⟨_, rfl, ?_⟩
                            refine zw_ireturn f109_17 r109 u109 ⟨_, rfl, ?_⟩
                            refine zw_ireturn f103_91 r103 u103 ?_
                            exact ⟨_, _, _, _, rfl, (KP.i rfl KP.rf), ⟨⟨hI.1, hI.2.1, t, by omega, et⟩, PE.of10 rfl rfl rfl rfl rfl rfl rfl rfl rfl rfl⟩, _, rfl⟩
                          · refine zw_iconst 1 19 f13_18 rfl (by decide +kernel) ?_
                            refine zw_goto 23 f13_19 (by decide +kernel) ?_
                            refine zw_zreturn f13_23 r13 u13 (by decide +kernel) ⟨_, rfl, ?_⟩
                            refine zw_if_ne_t 18 f109_8 (by decide +kernel) (by decide +kernel) ?_
                            refine zw_aload_n 19 f109_18 rfl rfl ?_
                            refine zw_getfield 22 f109_19 rfl g109_10_11 (hb_0 _ _ _ _) rfl ?_
                            refine zw_iload_n 23 f109_22 rfl rfl ?_
                            refine zw_virtual_i 26 0 0 [.ref 1, .int (c - c / 8 * 8)] [(0, .ref 1), (1, .int (c - c / 8 * 8))] f109_23 rfl n109_112 k109_112_4 rfl (hb_1 _ _ _ _) (by decide +kernel) (Nat.le_of_ble_eq_true rfl) rfl rfl (by decide +kernel) (by decide +kernel) rfl (Nat.le_of_ble_eq_true rfl) rfl ?_
                            refine zw_iload_n 1 f15_0 rfl rfl ?_
                            refine zw_if_lt_f 4 27 f15_1 (by decide +kernel) rfl hc14 ?_
                            refine zw_iload_n 5 f15_4 rfl rfl ?_
                            refine zw_aload_n 6 f15_5 rfl rfl ?_
                            refine zw_getI (nI nv) 9 f15_6 rfl g15_39_4 (hb_1 _ _ _ _) rfl hI.1.1.1 ?_
                            refine zw_ic_ge_f 12 27 f15_9 (by decide +kernel) rfl hc15 ?_
                            refine zw_iload_n 13 f15_12 rfl rfl ?_
                            refine zw_bipush 8 15 f15_13 rfl (by decide +kernel) ?_
                            refine zw_ic_ge_f 18 27 f15_15 (by decide +kernel) rfl hc16 ?_
                            refine zw_aload_n 19 f15_18 rfl rfl ?_
                            refine zw_getfield 22 f15_19 rfl g15_9_4 (hb_1 _ _ _ _) rfl ?_
                            refine zw_iload_n 23 f15_22 rfl rfl ?_
                            refine zw_iaload (c - c / 8 * 8).toNatClampNeg (A 2 (c - c / 8 * 8).toNatClampNeg) 24 f15_23 rfl (hb_2 _ _ _ _) rfl hc14 (zix (by decide) hc14 hc16) rfl ?_
                            refine zw_goto 28 f15_24 (by decide +kernel) ?_
                            refine zw_ireturn f15_28 r15 u15 ⟨_, rfl, ?_⟩
                            refine zw_istore_n _ 27 f109_26 rfl (by decide +kernel) rfl ?_
                            refine zw_iload_n 28 f109_27 rfl zl1_eq ?_
                            refine zw_iload_n 29 f109_28 rfl (zl1_ne rfl rfl rfl) ?_
                            refine zw_static_i 32 0 0 [.int (A 2 (c - c / 8 * 8).toNatClampNeg), .int (b - b / 5 * 5)] [] [(0, .int (A 2 (c - c / 8 * 8).toNatClampNeg)), (1, .int (b - b / 5 * 5))] f109_29 rfl k109_327_99 rfl (by decide +kernel) (Nat.le_of_ble_eq_true rfl) (Nat.le_of_ble_eq_true rfl) rfl rfl (by decide +kernel) (by decide +kernel) rfl (Nat.le_of_ble_eq_true rfl) rfl ?_
                            refine zw_iload_n 1 f114_0 rfl rfl ?_
                            refine zw_istore_n _ 2 f114_1 rfl (by decide +kernel) rfl ?_
                            refine zw_iconst 0 3 f114_2 rfl (by decide +kernel) ?_
                            refine zw_istore_n _ 4 f114_3 rfl (by decide +kernel) rfl ?_
                            refine zw_iload_n 5 f114_4 rfl zl1_eq ?_
                            refine zw_iconst 5 6 f114_5 rfl (by decide +kernel) ?_
                            refine zw_ic_ge_f 9 37 f114_6 (by decide +kernel) rfl (by decide +kernel) ?_
                            refine zw_iload_n 10 f114_9 rfl (zl1_ne rfl rfl zl1_eq) ?_
                            refine zw_iconst 0 11 f114_10 rfl (by decide +kernel) ?_
                            refine zw_iconst 4 12 f114_11 rfl (by decide +kernel) ?_
                            refine zw_static_i 15 0 0 [.int (A 2 (c - c / 8 * 8).toNatClampNeg), .int 0, .int 4] [] [(0, .int (A 2 (c - c / 8 * 8).toNatClampNeg)), (1, .int 0), (2, .int 4)] f114_12 rfl k114_74_99 rfl (by decide +kernel) (Nat.le_of_ble_eq_true rfl) (Nat.le_of_ble_eq_true rfl) rfl rfl (by decide +kernel) (by decide +kernel) rfl (Nat.le_of_ble_eq_true rfl) rfl ?_
                            refine zw_iload_n 1 f112_0 rfl rfl ?_
                            refine zw_iload_n 2 f112_1 rfl rfl ?_
                            refine zw_ic_lt 5 14 f112_2 (by decide +kernel) rfl (fun hc17 => ?_) (fun hc17 => ?_)
                            · refine zw_iconst 0 15 f112_14 rfl (by decide +kernel) ?_
                              refine zw_zreturn f112_15 r112 u112 (by decide +kernel) ⟨_, rfl, ?_⟩
                              refine zw_if_eq_t 37 f114_15 (by decide +kernel) (by decide +kernel) ?_
                              refine zw_iconst 0 38 f114_37 rfl (by decide +kernel) ?_
                              refine zw_zreturn f114_38 r114 u114 (by decide +kernel) ⟨_, rfl, ?_⟩
                              refine zw_if_eq_t 43 f109_32 (by decide +kernel) (by decide +kernel) ?_
                              refine zw_aload_n 44 f109_43 rfl (zl1_ne rfl rfl rfl) ?_
                              refine zw_bipush 11 46 f109_44 rfl (by decide +kernel) ?_
                              refine zw_virtual_i 49 0 0 [.ref 0, .int 11] [(0, .ref 0), (1, .int 11)] f109_46 rfl n109_78 k109_78_11 rfl (hb_0 _ _ _ _) (by decide +kernel) (Nat.le_of_ble_eq_true rfl) rfl rfl (by decide +kernel) (by decide +kernel) rfl (Nat.le_of_ble_eq_true rfl) rfl ?_
                              refine zw_aload_n 1 f105_0 rfl rfl ?_
                              refine zw_iload_n 2 f105_1 rfl rfl ?_
                              refine zw_put _ 5 f105_2 rfl g105_70_11 (hb_0 _ _ _ _) rfl (Nat.le_of_ble_eq_true rfl) (by decide +kernel) (hi_0_7 _ _ _ _ _) ?_
                              refine zw_iconst (-1) 6 f105_5 rfl (by decide +kernel) ?_
                              refine zw_ireturn f105_6 r105 u105 ⟨_, rfl, ?_⟩
                              refine zw_ireturn f109_49 r109 u109 ⟨_, rfl, ?_⟩
                              refine zw_ireturn f103_91 r103 u103 ?_
                              exact ⟨_, _, _, _, rfl, (KP.i rfl KP.rf), ⟨⟨hI.1, hI.2.1, t, by omega, et⟩, PE.of10 rfl rfl rfl rfl rfl rfl rfl rfl rfl rfl⟩, _, rfl⟩
                            · refine zw_iload_n 6 f112_5 rfl rfl ?_
                              refine zw_iload_n 7 f112_6 rfl rfl ?_
                              refine zw_ic_gt 10 14 f112_7 (by decide +kernel) rfl (fun hc18 => ?_) (fun hc18 => ?_)
                              · refine zw_iconst 0 15 f112_14 rfl (by decide +kernel) ?_
                                refine zw_zreturn f112_15 r112 u112 (by decide +kernel) ⟨_, rfl, ?_⟩
                                refine zw_if_eq_t 37 f114_15 (by decide +kernel) (by decide +kernel) ?_
                                refine zw_iconst 0 38 f114_37 rfl (by decide +kernel) ?_
                                refine zw_zreturn f114_38 r114 u114 (by decide +kernel) ⟨_, rfl, ?_⟩
                                refine zw_if_eq_t 43 f109_32 (by decide +kernel) (by decide +kernel) ?_
                                refine zw_aload_n 44 f109_43 rfl (zl1_ne rfl rfl rfl) ?_
                                refine zw_bipush 11 46 f109_44 rfl (by decide +kernel) ?_
                                refine zw_virtual_i 49 0 0 [.ref 0, .int 11] [(0, .ref 0), (1, .int 11)] f109_46 rfl n109_78 k109_78_11 rfl (hb_0 _ _ _ _) (by decide +kernel) (Nat.le_of_ble_eq_true rfl) rfl rfl (by decide +kernel) (by decide +kernel) rfl (Nat.le_of_ble_eq_true rfl) rfl ?_
                                refine zw_aload_n 1 f105_0 rfl rfl ?_
                                refine zw_iload_n 2 f105_1 rfl rfl ?_
                                refine zw_put _ 5 f105_2 rfl g105_70_11 (hb_0 _ _ _ _) rfl (Nat.le_of_ble_eq_true rfl) (by decide +kernel) (hi_0_7 _ _ _ _ _) ?_
                                refine zw_iconst (-1) 6 f105_5 rfl (by decide +kernel) ?_
                                refine zw_ireturn f105_6 r105 u105 ⟨_, rfl, ?_⟩
                                refine zw_ireturn f109_49 r109 u109 ⟨_, rfl, ?_⟩
                                refine zw_ireturn f103_91 r103 u103 ?_
                                exact ⟨_, _, _, _, rfl, (KP.i rfl KP.rf), ⟨⟨hI.1, hI.2.1, t, by omega, et⟩, PE.of10 rfl rfl rfl rfl rfl rfl rfl rfl rfl rfl⟩, _, rfl⟩
                              · refine zw_iconst 1 11 f112_10 rfl (by decide +kernel) ?_
                                refine zw_goto 15 f112_11 (by decide +kernel) ?_
                                refine zw_zreturn f112_15 r112 u112 (by decide +kernel) ⟨_, rfl, ?_⟩
                                refine zw_if_eq_f 18 37 f114_15 (by decide +kernel) rfl (by decide +kernel) ?_
                                refine zw_iload_n 19 f114_18 rfl (zl1_ne rfl rfl zl1_eq) ?_
                                refine zw_iload_n 20 f114_19 rfl (zl1_ne rfl rfl (zl1_ne rfl rfl rfl)) ?_
                                refine zw_ic_ne 23 25 f114_20 (by decide +kernel) rfl (fun hc19 => ?_) (fun hc19 => ?_)
                                · refine zw_getstatic 28 f114_25 rfl (by decide +kernel) ?_
                                  refine zw_iload_n 29 f114_28 rfl (zl1_ne rfl rfl zl1_eq) ?_
                                  refine zw_iaload_f (A 2 (c - c / 8 * 8).toNatClampNeg).toNatClampNeg 5 (zka (A 2 (c - c / 8 * 8).toNatClampNeg).toNatClampNeg) 30 f114_29 rfl hro.1 rfl hc17 (zix (by decide) hc17 (n45 hc18)) (congrFun hro.2 _) ?_
                                  refine zw_istore_n _ 31 f114_30 rfl (by decide +kernel) rfl ?_
                                  refine zw_iinc 1 _ 34 f114_31 rfl (zl1_ne rfl rfl zl1_eq) (by decide +kernel) (by decide +kernel) rfl ?_
                                  refine zw_goto 4 f114_34 (by decide +kernel) ?_
                                  refine zw_iload_n 5 f114_4 rfl zl1_eq ?_
                                  refine zw_iconst 5 6 f114_5 rfl (by decide +kernel) ?_
                                  refine zw_ic_ge_f 9 37 f114_6 (by decide +kernel) rfl (by decide +kernel) ?_
                                  refine zw_iload_n 10 f114_9 rfl (zl1_ne rfl rfl zl1_eq) ?_
                                  refine zw_iconst 0 11 f114_10 rfl (by decide +kernel) ?_
                                  refine zw_iconst 4 12 f114_11 rfl (by decide +kernel) ?_
                                  refine zw_static_i 15 0 0 [.int (zka (A 2 (c - c / 8 * 8).toNatClampNeg).toNatClampNeg), .int 0, .int 4] [] [(0, .int (zka (A 2 (c - c / 8 * 8).toNatClampNeg).toNatClampNeg)), (1, .int 0), (2, .int 4)] f114_12 rfl k114_74_99 rfl (by decide +kernel) (Nat.le_of_ble_eq_true rfl) (Nat.le_of_ble_eq_true rfl) rfl rfl (by decide +kernel) (by decide +kernel) rfl (Nat.le_of_ble_eq_true rfl) rfl ?_
                                  refine zw_iload_n 1 f112_0 rfl rfl ?_
                                  refine zw_iload_n 2 f112_1 rfl rfl ?_
                                  refine zw_ic_lt 5 14 f112_2 (by decide +kernel) rfl (fun hc20 => ?_) (fun hc20 => ?_)
                                  · refine zw_iconst 0 15 f112_14 rfl (by decide +kernel) ?_
                                    refine zw_zreturn f112_15 r112 u112 (by decide +kernel) ⟨_, rfl, ?_⟩
                                    refine zw_if_eq_t 37 f114_15 (by decide +kernel) (by decide +kernel) ?_
                                    refine zw_iconst 0 38 f114_37 rfl (by decide +kernel) ?_
                                    refine zw_zreturn f114_38 r114 u114 (by decide +kernel) ⟨_, rfl, ?_⟩
                                    refine zw_if_eq_t 43 f109_32 (by decide +kernel) (by decide +kernel) ?_
                                    refine zw_aload_n 44 f109_43 rfl (zl1_ne rfl rfl rfl) ?_
                                    refine zw_bipush 11 46 f109_44 rfl (by decide +kernel) ?_
                                    refine zw_virtual_i 49 0 0 [.ref 0, .int 11] [(0, .ref 0), (1, .int 11)] f109_46 rfl n109_78 k109_78_11 rfl (hb_0 _ _ _ _) (by decide +kernel) (Nat.le_of_ble_eq_true rfl) rfl rfl (by decide +kernel) (by decide +kernel) rfl (Nat.le_of_ble_eq_true rfl) rfl ?_
                                    refine zw_aload_n 1 f105_0 rfl rfl ?_
                                    refine zw_iload_n 2 f105_1 rfl rfl ?_
                                    refine zw_put _ 5 f105_2 rfl g105_70_11 (hb_0 _ _ _ _) rfl (Nat.le_of_ble_eq_true rfl) (by decide +kernel) (hi_0_7 _ _ _ _ _) ?_
                                    refine zw_iconst (-1) 6 f105_5 rfl (by decide +kernel) ?_
                                    refine zw_ireturn f105_6 r105 u105 ⟨_, rfl, ?_⟩
                                    refine zw_ireturn f109_49 r109 u109 ⟨_, rfl, ?_⟩
                                    refine zw_ireturn f103_91 r103 u103 ?_
                                    exact ⟨_, _, _, _, rfl, (KP.i rfl KP.rf), ⟨⟨hI.1, hI.2.1, t, by omega, et⟩, PE.of10 rfl rfl rfl rfl rfl rfl rfl rfl rfl rfl⟩, _, rfl⟩
                                  · refine zw_iload_n 6 f112_5 rfl rfl ?_
                                    refine zw_iload_n 7 f112_6 rfl rfl ?_
                                    refine zw_ic_gt 10 14 f112_7 (by decide +kernel) rfl (fun hc21 => ?_) (fun hc21 => ?_)
                                    · refine zw_iconst 0 15 f112_14 rfl (by decide +kernel) ?_
                                      refine zw_zreturn f112_15 r112 u112 (by decide +kernel) ⟨_, rfl, ?_⟩
                                      refine zw_if_eq_t 37 f114_15 (by decide +kernel) (by decide +kernel) ?_
                                      refine zw_iconst 0 38 f114_37 rfl (by decide +kernel) ?_
                                      refine zw_zreturn f114_38 r114 u114 (by decide +kernel) ⟨_, rfl, ?_⟩
                                      refine zw_if_eq_t 43 f109_32 (by decide +kernel) (by decide +kernel) ?_
                                      refine zw_aload_n 44 f109_43 rfl (zl1_ne rfl rfl rfl) ?_
                                      refine zw_bipush 11 46 f109_44 rfl (by decide +kernel) ?_
                                      refine zw_virtual_i 49 0 0 [.ref 0, .int 11] [(0, .ref 0), (1, .int 11)] f109_46 rfl n109_78 k109_78_11 rfl (hb_0 _ _ _ _) (by decide +kernel) (Nat.le_of_ble_eq_true rfl) rfl rfl (by decide +kernel) (by decide +kernel) rfl (Nat.le_of_ble_eq_true rfl) rfl ?_
                                      refine zw_aload_n 1 f105_0 rfl rfl ?_
                                      refine zw_iload_n 2 f105_1 rfl rfl ?_
                                      refine zw_put _ 5 f105_2 rfl g105_70_11 (hb_0 _ _ _ _) rfl (Nat.le_of_ble_eq_true rfl) (by decide +kernel) (hi_0_7 _ _ _ _ _) ?_
                                      refine zw_iconst (-1) 6 f105_5 rfl (by decide +kernel) ?_
                                      refine zw_ireturn f105_6 r105 u105 ⟨_, rfl, ?_⟩
                                      refine zw_ireturn f109_49 r109 u109 ⟨_, rfl, ?_⟩
                                      refine zw_ireturn f103_91 r103 u103 ?_
                                      exact ⟨_, _, _, _, rfl, (KP.i rfl KP.rf), ⟨⟨hI.1, hI.2.1, t, by omega, et⟩, PE.of10 rfl rfl rfl rfl rfl rfl rfl rfl rfl rfl⟩, _, rfl⟩
                                    · refine zw_iconst 1 11 f112_10 rfl (by decide +kernel) ?_
                                      refine zw_goto 15 f112_11 (by decide +kernel) ?_
                                      refine zw_zreturn f112_15 r112 u112 (by decide +kernel) ⟨_, rfl, ?_⟩
                                      refine zw_if_eq_f 18 37 f114_15 (by decide +kernel) rfl (by decide +kernel) ?_
                                      refine zw_iload_n 19 f114_18 rfl (zl1_ne rfl rfl zl1_eq) ?_
                                      refine zw_iload_n 20 f114_19 rfl (zl1_ne rfl rfl (zl1_ne rfl rfl (zl1_ne rfl rfl (zl1_ne rfl rfl rfl)))) ?_
                                      refine zw_ic_ne 23 25 f114_20 (by decide +kernel) rfl (fun hc22 => ?_) (fun hc22 => ?_)
                                      · refine zw_getstatic 28 f114_25 rfl (by decide +kernel) ?_
                                        refine zw_iload_n 29 f114_28 rfl (zl1_ne rfl rfl zl1_eq) ?_
                                        refine zw_iaload_f (zka (A 2 (c - c / 8 * 8).toNatClampNeg).toNatClampNeg).toNatClampNeg 5 (zka (zka (A 2 (c - c / 8 * 8).toNatClampNeg).toNatClampNeg).toNatClampNeg) 30 f114_29 rfl hro.1 rfl hc20 (zix (by decide) hc20 (n45 hc21)) (congrFun hro.2 _) ?_
                                        refine zw_istore_n _ 31 f114_30 rfl (by decide +kernel) rfl ?_
                                        refine zw_iinc 2 _ 34 f114_31 rfl (zl1_ne rfl rfl zl1_eq) (by decide +kernel) (by decide +kernel) rfl ?_
                                        refine zw_goto 4 f114_34 (by decide +kernel) ?_
                                        refine zw_iload_n 5 f114_4 rfl zl1_eq ?_
                                        refine zw_iconst 5 6 f114_5 rfl (by decide +kernel) ?_
                                        refine zw_ic_ge_f 9 37 f114_6 (by decide +kernel) rfl (by decide +kernel) ?_
                                        refine zw_iload_n 10 f114_9 rfl (zl1_ne rfl rfl zl1_eq) ?_
                                        refine zw_iconst 0 11 f114_10 rfl (by decide +kernel) ?_
                                        refine zw_iconst 4 12 f114_11 rfl (by decide +kernel) ?_
                                        refine zw_static_i 15 0 0 [.int (zka (zka (A 2 (c - c / 8 * 8).toNatClampNeg).toNatClampNeg).toNatClampNeg), .int 0, .int 4] [] [(0, .int (zka (zka (A 2 (c - c / 8 * 8).toNatClampNeg).toNatClampNeg).toNatClampNeg)), (1, .int 0), (2, .int 4)] f114_12 rfl k114_74_99 rfl (by decide +kernel) (Nat.le_of_ble_eq_true rfl) (Nat.le_of_ble_eq_true rfl) rfl rfl (by decide +kernel) (by decide +kernel) rfl (Nat.le_of_ble_eq_true rfl) rfl ?_
                                        refine zw_iload_n 1 f112_0 rfl rfl ?_
                                        refine zw_iload_n 2 f112_1 rfl rfl ?_
                                        refine zw_ic_lt 5 14 f112_2 (by decide +kernel) rfl (fun hc23 => ?_) (fun hc23 => ?_)
                                        · refine zw_iconst 0 15 f112_14 rfl (by decide +kernel) ?_
                                          refine zw_zreturn f112_15 r112 u112 (by decide +kernel) ⟨_, rfl, ?_⟩
                                          refine zw_if_eq_t 37 f114_15 (by decide +kernel) (by decide +kernel) ?_
                                          refine zw_iconst 0 38 f114_37 rfl (by decide +kernel) ?_
                                          refine zw_zreturn f114_38 r114 u114 (by decide +kernel) ⟨_, rfl, ?_⟩
                                          refine zw_if_eq_t 43 f109_32 (by decide +kernel) (by decide +kernel) ?_
                                          refine zw_aload_n 44 f109_43 rfl (zl1_ne rfl rfl rfl) ?_
                                          refine zw_bipush 11 46 f109_44 rfl (by decide +kernel) ?_
                                          refine zw_virtual_i 49 0 0 [.ref 0, .int 11] [(0, .ref 0), (1, .int 11)] f109_46 rfl n109_78 k109_78_11 rfl (hb_0 _ _ _ _) (by decide +kernel) (Nat.le_of_ble_eq_true rfl) rfl rfl (by decide +kernel) (by decide +kernel) rfl (Nat.le_of_ble_eq_true rfl) rfl ?_
                                          refine zw_aload_n 1 f105_0 rfl rfl ?_
                                          refine zw_iload_n 2 f105_1 rfl rfl ?_
                                          refine zw_put _ 5 f105_2 rfl g105_70_11 (hb_0 _ _ _ _) rfl (Nat.le_of_ble_eq_true rfl) (by decide +kernel) (hi_0_7 _ _ _ _ _) ?_
                                          refine zw_iconst (-1) 6 f105_5 rfl (by decide +kernel) ?_
                                          refine zw_ireturn f105_6 r105 u105 ⟨_, rfl, ?_⟩
                                          refine zw_ireturn f109_49 r109 u109 ⟨_, rfl, ?_⟩
                                          refine zw_ireturn f103_91 r103 u103 ?_
                                          exact ⟨_, _, _, _, rfl, (KP.i rfl KP.rf), ⟨⟨hI.1, hI.2.1, t, by omega, et⟩, PE.of10 rfl rfl rfl rfl rfl rfl rfl rfl rfl rfl⟩, _, rfl⟩
                                        · refine zw_iload_n 6 f112_5 rfl rfl ?_
                                          refine zw_iload_n 7 f112_6 rfl rfl ?_
                                          refine zw_ic_gt 10 14 f112_7 (by decide +kernel) rfl (fun hc24 => ?_) (fun hc24 => ?_)
                                          · refine zw_iconst 0 15 f112_14 rfl (by decide +kernel) ?_
                                            refine zw_zreturn f112_15 r112 u112 (by decide +kernel) ⟨_, rfl, ?_⟩
                                            refine zw_if_eq_t 37 f114_15 (by decide +kernel) (by decide +kernel) ?_
                                            refine zw_iconst 0 38 f114_37 rfl (by decide +kernel) ?_
                                            refine zw_zreturn f114_38 r114 u114 (by decide +kernel) ⟨_, rfl, ?_⟩
                                            refine zw_if_eq_t 43 f109_32 (by decide +kernel) (by decide +kernel) ?_
                                            refine zw_aload_n 44 f109_43 rfl (zl1_ne rfl rfl rfl) ?_
                                            refine zw_bipush 11 46 f109_44 rfl (by decide +kernel) ?_
                                            refine zw_virtual_i 49 0 0 [.ref 0, .int 11] [(0, .ref 0), (1, .int 11)] f109_46 rfl n109_78 k109_78_11 rfl (hb_0 _ _ _ _) (by decide +kernel) (Nat.le_of_ble_eq_true rfl) rfl rfl (by decide +kernel) (by decide +kernel) rfl (Nat.le_of_ble_eq_true rfl) rfl ?_
                                            refine zw_aload_n 1 f105_0 rfl rfl ?_
                                            refine zw_iload_n 2 f105_1 rfl rfl ?_
                                            refine zw_put _ 5 f105_2 rfl g105_70_11 (hb_0 _ _ _ _) rfl (Nat.le_of_ble_eq_true rfl) (by decide +kernel) (hi_0_7 _ _ _ _ _) ?_
                                            refine zw_iconst (-1) 6 f105_5 rfl (by decide +kernel) ?_
                                            refine zw_ireturn f105_6 r105 u105 ⟨_, rfl, ?_⟩
                                            refine zw_ireturn f109_49 r109 u109 ⟨_, rfl, ?_⟩
                                            refine zw_ireturn f103_91 r103 u103 ?_
                                            exact ⟨_, _, _, _, rfl, (KP.i rfl KP.rf), ⟨⟨hI.1, hI.2.1, t, by omega, et⟩, PE.of10 rfl rfl rfl rfl rfl rfl rfl rfl rfl rfl⟩, _, rfl⟩
                                          · refine zw_iconst 1 11 f112_10 rfl (by decide +kernel) ?_
                                            refine zw_goto 15 f112_11 (by decide +kernel) ?_
                                            refine zw_zreturn f112_15 r112 u112 (by decide +kernel) ⟨_, rfl, ?_⟩
                                            refine zw_if_eq_f 18 37 f114_15 (by decide +kernel) rfl (by decide +kernel) ?_
                                            refine zw_iload_n 19 f114_18 rfl (zl1_ne rfl rfl zl1_eq) ?_
                                            refine zw_iload_n 20 f114_19 rfl (zl1_ne rfl rfl (zl1_ne rfl rfl (zl1_ne rfl rfl (zl1_ne rfl rfl (zl1_ne rfl rfl (zl1_ne rfl rfl rfl)))))) ?_
                                            refine zw_ic_ne 23 25 f114_20 (by decide +kernel) rfl (fun hc25 => ?_) (fun hc25 => ?_)
                                            · refine zw_getstatic 28 f114_25 rfl (by decide +kernel) ?_
                                              refine zw_iload_n 29 f114_28 rfl (zl1_ne rfl rfl zl1_eq) ?_
                                              refine zw_iaload_f (zka (zka (A 2 (c - c / 8 * 8).toNatClampNeg).toNatClampNeg).toNatClampNeg).toNatClampNeg 5 (zka (zka (zka (A 2 (c - c / 8 * 8).toNatClampNeg).toNatClampNeg).toNatClampNeg).toNatClampNeg) 30 f114_29 rfl hro.1 rfl hc23 (zix (by decide) hc23 (n45 hc24)) (congrFun hro.2 _) ?_
                                              refine zw_istore_n _ 31 f114_30 rfl (by decide +kernel) rfl ?_
                                              refine zw_iinc 3 _ 34 f114_31 rfl (zl1_ne rfl rfl zl1_eq) (by decide +kernel) (by decide +kernel) rfl ?_
                                              refine zw_goto 4 f114_34 (by decide +kernel) ?_
                                              refine zw_iload_n 5 f114_4 rfl zl1_eq ?_
                                              refine zw_iconst 5 6 f114_5 rfl (by decide +kernel) ?_
                                              refine zw_ic_ge_f 9 37 f114_6 (by decide +kernel) rfl (by decide +kernel) ?_
                                              refine zw_iload_n 10 f114_9 rfl (zl1_ne rfl rfl zl1_eq) ?_
                                              refine zw_iconst 0 11 f114_10 rfl (by decide +kernel) ?_
                                              refine zw_iconst 4 12 f114_11 rfl (by decide +kernel) ?_
                                              refine zw_static_i 15 0 0 [.int (zka (zka (zka (A 2 (c - c / 8 * 8).toNatClampNeg).toNatClampNeg).toNatClampNeg).toNatClampNeg), .int 0, .int 4] [] [(0, .int (zka (zka (zka (A 2 (c - c / 8 * 8).toNatClampNeg).toNatClampNeg).toNatClampNeg).toNatClampNeg)), (1, .int 0), (2, .int 4)] f114_12 rfl k114_74_99 rfl (by decide +kernel) (Nat.le_of_ble_eq_true rfl) (Nat.le_of_ble_eq_true rfl) rfl rfl (by decide +kernel) (by decide +kernel) rfl (Nat.le_of_ble_eq_true rfl) rfl ?_
                                              refine zw_iload_n 1 f112_0 rfl rfl ?_
                                              refine zw_iload_n 2 f112_1 rfl rfl ?_
                                              refine zw_ic_lt 5 14 f112_2 (by decide +kernel) rfl (fun hc26 => ?_) (fun hc26 => ?_)
                                              · refine zw_iconst 0 15 f112_14 rfl (by decide +kernel) ?_
                                                refine zw_zreturn f112_15 r112 u112 (by decide +kernel) ⟨_, rfl, ?_⟩
                                                refine zw_if_eq_t 37 f114_15 (by decide +kernel) (by decide +kernel) ?_
                                                refine zw_iconst 0 38 f114_37 rfl (by decide +kernel) ?_
                                                refine zw_zreturn f114_38 r114 u114 (by decide +kernel) ⟨_, rfl, ?_⟩
                                                refine zw_if_eq_t 43 f109_32 (by decide +kernel) (by decide +kernel) ?_
                                                refine zw_aload_n 44 f109_43 rfl (zl1_ne rfl rfl rfl) ?_
                                                refine zw_bipush 11 46 f109_44 rfl (by decide +kernel) ?_
                                                refine zw_virtual_i 49 0 0 [.ref 0, .int 11] [(0, .ref 0), (1, .int 11)] f109_46 rfl n109_78 k109_78_11 rfl (hb_0 _ _ _ _) (by decide +kernel) (Nat.le_of_ble_eq_true rfl) rfl rfl (by decide +kernel) (by decide +kernel) rfl (Nat.le_of_ble_eq_true rfl) rfl ?_
                                                refine zw_aload_n 1 f105_0 rfl rfl ?_
                                                refine zw_iload_n 2 f105_1 rfl rfl ?_
                                                refine zw_put _ 5 f105_2 rfl g105_70_11 (hb_0 _ _ _ _) rfl (Nat.le_of_ble_eq_true rfl) (by decide +kernel) (hi_0_7 _ _ _ _ _) ?_
                                                refine zw_iconst (-1) 6 f105_5 rfl (by decide +kernel) ?_
                                                refine zw_ireturn f105_6 r105 u105 ⟨_, rfl, ?_⟩
                                                refine zw_ireturn f109_49 r109 u109 ⟨_, rfl, ?_⟩
                                                refine zw_ireturn f103_91 r103 u103 ?_
                                                exact ⟨_, _, _, _, rfl, (KP.i rfl KP.rf), ⟨⟨hI.1, hI.2.1, t, by omega, et⟩, PE.of10 rfl rfl rfl rfl rfl rfl rfl rfl rfl rfl⟩, _, rfl⟩
                                              · refine zw_iload_n 6 f112_5 rfl rfl ?_
                                                refine zw_iload_n 7 f112_6 rfl rfl ?_
                                                refine zw_ic_gt 10 14 f112_7 (by decide +kernel) rfl (fun hc27 => ?_) (fun hc27 => ?_)
                                                · refine zw_iconst 0 15 f112_14 rfl (by decide +kernel) ?_
                                                  refine zw_zreturn f112_15 r112 u112 (by decide +kernel) ⟨_, rfl, ?_⟩
                                                  refine zw_if_eq_t 37 f114_15 (by decide +kernel) (by decide +kernel) ?_
                                                  refine zw_iconst 0 38 f114_37 rfl (by decide +kernel) ?_
                                                  refine zw_zreturn f114_38 r114 u114 (by decide +kernel) ⟨_, rfl, ?_⟩
                                                  refine zw_if_eq_t 43 f109_32 (by decide +kernel) (by decide +kernel) ?_
                                                  refine zw_aload_n 44 f109_43 rfl (zl1_ne rfl rfl rfl) ?_
                                                  refine zw_bipush 11 46 f109_44 rfl (by decide +kernel) ?_
                                                  refine zw_virtual_i 49 0 0 [.ref 0, .int 11] [(0, .ref 0), (1, .int 11)] f109_46 rfl n109_78 k109_78_11 rfl (hb_0 _ _ _ _) (by decide +kernel) (Nat.le_of_ble_eq_true rfl) rfl rfl (by decide +kernel) (by decide +kernel) rfl (Nat.le_of_ble_eq_true rfl) rfl ?_
                                                  refine zw_aload_n 1 f105_0 rfl rfl ?_
                                                  refine zw_iload_n 2 f105_1 rfl rfl ?_
                                                  refine zw_put _ 5 f105_2 rfl g105_70_11 (hb_0 _ _ _ _) rfl (Nat.le_of_ble_eq_true rfl) (by decide +kernel) (hi_0_7 _ _ _ _ _) ?_
                                                  refine zw_iconst (-1) 6 f105_5 rfl (by decide +kernel) ?_
                                                  refine zw_ireturn f105_6 r105 u105 ⟨_, rfl, ?_⟩
                                                  refine zw_ireturn f109_49 r109 u109 ⟨_, rfl, ?_⟩
                                                  refine zw_ireturn f103_91 r103 u103 ?_
                                                  exact ⟨_, _, _, _, rfl, (KP.i rfl KP.rf), ⟨⟨hI.1, hI.2.1, t, by omega, et⟩, PE.of10 rfl rfl rfl rfl rfl rfl rfl rfl rfl rfl⟩, _, rfl⟩
                                                · refine zw_iconst 1 11 f112_10 rfl (by decide +kernel) ?_
                                                  refine zw_goto 15 f112_11 (by decide +kernel) ?_
                                                  refine zw_zreturn f112_15 r112 u112 (by decide +kernel) ⟨_, rfl, ?_⟩
                                                  refine zw_if_eq_f 18 37 f114_15 (by decide +kernel) rfl (by decide +kernel) ?_
                                                  refine zw_iload_n 19 f114_18 rfl (zl1_ne rfl rfl zl1_eq) ?_
                                                  refine zw_iload_n 20 f114_19 rfl (zl1_ne rfl rfl (zl1_ne rfl rfl (zl1_ne rfl rfl (zl1_ne rfl rfl (zl1_ne rfl rfl (zl1_ne rfl rfl (zl1_ne rfl rfl (zl1_ne rfl rfl rfl)))))))) ?_
                                                  refine zw_ic_ne 23 25 f114_20 (by decide +kernel) rfl (fun hc28 => ?_) (fun hc28 => ?_)
                                                  · refine zw_getstatic 28 f114_25 rfl (by decide +kernel) ?_
                                                    refine zw_iload_n 29 f114_28 rfl (zl1_ne rfl rfl zl1_eq) ?_
                                                    refine zw_iaload_f (zka (zka (zka (A 2 (c - c / 8 * 8).toNatClampNeg).toNatClampNeg).toNatClampNeg).toNatClampNeg).toNatClampNeg 5 (zka (zka (zka (zka (A 2 (c - c / 8 * 8).toNatClampNeg).toNatClampNeg).toNatClampNeg).toNatClampNeg).toNatClampNeg) 30 f114_29 rfl hro.1 rfl hc26 (zix (by decide) hc26 (n45 hc27)) (congrFun hro.2 _) ?_
                                                    refine zw_istore_n _ 31 f114_30 rfl (by decide +kernel) rfl ?_
                                                    refine zw_iinc 4 _ 34 f114_31 rfl (zl1_ne rfl rfl zl1_eq) (by decide +kernel) (by decide +kernel) rfl ?_
                                                    refine zw_goto 4 f114_34 (by decide +kernel) ?_
                                                    refine zw_iload_n 5 f114_4 rfl zl1_eq ?_
                                                    refine zw_iconst 5 6 f114_5 rfl (by decide +kernel) ?_
                                                    refine zw_ic_ge_f 9 37 f114_6 (by decide +kernel) rfl (by decide +kernel) ?_
                                                    refine zw_iload_n 10 f114_9 rfl (zl1_ne rfl rfl zl1_eq) ?_
                                                    refine zw_iconst 0 11 f114_10 rfl (by decide +kernel) ?_
                                                    refine zw_iconst 4 12 f114_11 rfl (by decide +kernel) ?_
                                                    refine zw_static_i 15 0 0 [.int (zka (zka (zka (zka (A 2 (c - c / 8 * 8).toNatClampNeg).toNatClampNeg).toNatClampNeg).toNatClampNeg).toNatClampNeg), .int 0, .int 4] [] [(0, .int (zka (zka (zka (zka (A 2 (c - c / 8 * 8).toNatClampNeg).toNatClampNeg).toNatClampNeg).toNatClampNeg).toNatClampNeg)), (1, .int 0), (2, .int 4)] f114_12 rfl k114_74_99 rfl (by decide +kernel) (Nat.le_of_ble_eq_true rfl) (Nat.le_of_ble_eq_true rfl) rfl rfl (by decide +kernel) (by decide +kernel) rfl (Nat.le_of_ble_eq_true rfl) rfl ?_
                                                    refine zw_iload_n 1 f112_0 rfl rfl ?_
                                                    refine zw_iload_n 2 f112_1 rfl rfl ?_
                                                    refine zw_ic_lt 5 14 f112_2 (by decide +kernel) rfl (fun hc29 => ?_) (fun hc29 => ?_)
                                                    · refine zw_iconst 0 15 f112_14 rfl (by decide +kernel) ?_
                                                      refine zw_zreturn f112_15 r112 u112 (by decide +kernel) ⟨_, rfl, ?_⟩
                                                      refine zw_if_eq_t 37 f114_15 (by decide +kernel) (by decide +kernel) ?_
                                                      refine zw_iconst 0 38 f114_37 rfl (by decide +kernel) ?_
                                                      refine zw_zreturn f114_38 r114 u114 (by decide +kernel) ⟨_, rfl, ?_⟩
                                                      refine zw_if_eq_t 43 f109_32 (by decide +kernel) (by decide +kernel) ?_
                                                      refine zw_aload_n 44 f109_43 rfl (zl1_ne rfl rfl rfl) ?_
                                                      refine zw_bipush 11 46 f109_44 rfl (by decide +kernel) ?_
                                                      refine zw_virtual_i 49 0 0 [.ref 0, .int 11] [(0, .ref 0), (1, .int 11)] f109_46 rfl n109_78 k109_78_11 rfl (hb_0 _ _ _ _) (by decide +kernel) (Nat.le_of_ble_eq_true rfl) rfl rfl (by decide +kernel) (by decide +kernel) rfl (Nat.le_of_ble_eq_true rfl) rfl ?_
                                                      refine zw_aload_n 1 f105_0 rfl rfl ?_
                                                      refine zw_iload_n 2 f105_1 rfl rfl ?_
                                                      refine zw_put _ 5 f105_2 rfl g105_70_11 (hb_0 _ _ _ _) rfl (Nat.le_of_ble_eq_true rfl) (by decide +kernel) (hi_0_7 _ _ _ _ _) ?_
                                                      refine zw_iconst (-1) 6 f105_5 rfl (by decide +kernel) ?_
                                                      refine zw_ireturn f105_6 r105 u105 ⟨_, rfl, ?_⟩
                                                      refine zw_ireturn f109_49 r109 u109 ⟨_, rfl, ?_⟩
                                                      refine zw_ireturn f103_91 r103 u103 ?_
                                                      exact ⟨_, _, _, _, rfl, (KP.i rfl KP.rf), ⟨⟨hI.1, hI.2.1, t, by omega, et⟩, PE.of10 rfl rfl rfl rfl rfl rfl rfl rfl rfl rfl⟩, _, rfl⟩
                                                    · refine zw_iload_n 6 f112_5 rfl rfl ?_
                                                      refine zw_iload_n 7 f112_6 rfl rfl ?_
                                                      refine zw_ic_gt 10 14 f112_7 (by decide +kernel) rfl (fun hc30 => ?_) (fun hc30 => ?_)
                                                      · refine zw_iconst 0 15 f112_14 rfl (by decide +kernel) ?_
                                                        refine zw_zreturn f112_15 r112 u112 (by decide +kernel) ⟨_, rfl, ?_⟩
                                                        refine zw_if_eq_t 37 f114_15 (by decide +kernel) (by decide +kernel) ?_
                                                        refine zw_iconst 0 38 f114_37 rfl (by decide +kernel) ?_
                                                        refine zw_zreturn f114_38 r114 u114 (by decide +kernel) ⟨_, rfl, ?_⟩
                                                        refine zw_if_eq_t 43 f109_32 (by decide +kernel) (by decide +kernel) ?_
                                                        refine zw_aload_n 44 f109_43 rfl (zl1_ne rfl rfl rfl) ?_
                                                        refine zw_bipush 11 46 f109_44 rfl (by decide +kernel) ?_
                                                        refine zw_virtual_i 49 0 0 [.ref 0, .int 11] [(0, .ref 0), (1, .int 11)] f109_46 rfl n109_78 k109_78_11 rfl (hb_0 _ _ _ _) (by decide +kernel) (Nat.le_of_ble_eq_true rfl) rfl rfl (by decide +kernel) (by decide +kernel) rfl (Nat.le_of_ble_eq_true rfl) rfl ?_
                                                        refine zw_aload_n 1 f105_0 rfl rfl ?_
                                                        refine zw_iload_n 2 f105_1 rfl rfl ?_
                                                        refine zw_put _ 5 f105_2 rfl g105_70_11 (hb_0 _ _ _ _) rfl (Nat.le_of_ble_eq_true rfl) (by decide +kernel) (hi_0_7 _ _ _ _ _) ?_
                                                        refine zw_iconst (-1) 6 f105_5 rfl (by decide +kernel) ?_
                                                        refine zw_ireturn f105_6 r105 u105 ⟨_, rfl, ?_⟩
                                                        refine zw_ireturn f109_49 r109 u109 ⟨_, rfl, ?_⟩
                                                        refine zw_ireturn f103_91 r103 u103 ?_
                                                        exact ⟨_, _, _, _, rfl, (KP.i rfl KP.rf), ⟨⟨hI.1, hI.2.1, t, by omega, et⟩, PE.of10 rfl rfl rfl rfl rfl rfl rfl rfl rfl rfl⟩, _, rfl⟩
                                                      · refine zw_iconst 1 11 f112_10 rfl (by decide +kernel) ?_
                                                        refine zw_goto 15 f112_11 (by decide +kernel) ?_
                                                        refine zw_zreturn f112_15 r112 u112 (by decide +kernel) ⟨_, rfl, ?_⟩
                                                        refine zw_if_eq_f 18 37 f114_15 (by decide +kernel) rfl (by decide +kernel) ?_
                                                        refine zw_iload_n 19 f114_18 rfl (zl1_ne rfl rfl zl1_eq) ?_
                                                        refine zw_iload_n 20 f114_19 rfl (zl1_ne rfl rfl (zl1_ne rfl rfl (zl1_ne rfl rfl (zl1_ne rfl rfl (zl1_ne rfl rfl (zl1_ne rfl rfl (zl1_ne rfl rfl (zl1_ne rfl rfl (zl1_ne rfl rfl (zl1_ne rfl rfl rfl)))))))))) ?_
                                                        refine zw_ic_ne 23 25 f114_20 (by decide +kernel) rfl (fun hc31 => ?_) (fun hc31 => ?_)
                                                        · refine zw_getstatic 28 f114_25 rfl (by decide +kernel) ?_
                                                          refine zw_iload_n 29 f114_28 rfl (zl1_ne rfl rfl zl1_eq) ?_
                                                          refine zw_iaload_f (zka (zka (zka (zka (A 2 (c - c / 8 * 8).toNatClampNeg).toNatClampNeg).toNatClampNeg).toNatClampNeg).toNatClampNeg).toNatClampNeg 5 (zka (zka (zka (zka (zka (A 2 (c - c / 8 * 8).toNatClampNeg).toNatClampNeg).toNatClampNeg).toNatClampNeg).toNatClampNeg).toNatClampNeg) 30 f114_29 rfl hro.1 rfl hc29 (zix (by decide) hc29 (n45 hc30)) (congrFun hro.2 _) ?_
                                                          refine zw_istore_n _ 31 f114_30 rfl (by decide +kernel) rfl ?_
                                                          refine zw_iinc 5 _ 34 f114_31 rfl (zl1_ne rfl rfl zl1_eq) (by decide +kernel) (by decide +kernel) rfl ?_
                                                          refine zw_goto 4 f114_34 (by decide +kernel) ?_
                                                          refine zw_iload_n 5 f114_4 rfl zl1_eq ?_
                                                          refine zw_iconst 5 6 f114_5 rfl (by decide +kernel) ?_
                                                          refine zw_ic_ge_t 37 f114_6 (by decide +kernel) (by decide +kernel) ?_
                                                          refine zw_iconst 0 38 f114_37 rfl (by decide +kernel) ?_
                                                          refine zw_zreturn f114_38 r114 u114 (by decide +kernel) ⟨_, rfl, ?_⟩
                                                          refine zw_if_eq_t 43 f109_32 (by decide +kernel) (by decide +kernel) ?_
                                                          refine zw_aload_n 44 f109_43 rfl (zl1_ne rfl rfl rfl) ?_
                                                          refine zw_bipush 11 46 f109_44 rfl (by decide +kernel) ?_
                                                          refine zw_virtual_i 49 0 0 [.ref 0, .int 11] [(0, .ref 0), (1, .int 11)] f109_46 rfl n109_78 k109_78_11 rfl (hb_0 _ _ _ _) (by decide +kernel) (Nat.le_of_ble_eq_true rfl) rfl rfl (by decide +kernel) (by decide +kernel) rfl (Nat.le_of_ble_eq_true rfl) rfl ?_
                                                          refine zw_aload_n 1 f105_0 rfl rfl ?_
                                                          refine zw_iload_n 2 f105_1 rfl rfl ?_
                                                          refine zw_put _ 5 f105_2 rfl g105_70_11 (hb_0 _ _ _ _) rfl (Nat.le_of_ble_eq_true rfl) (by decide +kernel) (hi_0_7 _ _ _ _ _) ?_
                                                          refine zw_iconst (-1) 6 f105_5 rfl (by decide +kernel) ?_
                                                          refine zw_ireturn f105_6 r105 u105 ⟨_, rfl, ?_⟩
                                                          refine zw_ireturn f109_49 r109 u109 ⟨_, rfl, ?_⟩
                                                          refine zw_ireturn f103_91 r103 u103 ?_
                                                          exact ⟨_, _, _, _, rfl, (KP.i rfl KP.rf), ⟨⟨hI.1, hI.2.1, t, by omega, et⟩, PE.of10 rfl rfl rfl rfl rfl rfl rfl rfl rfl rfl⟩, _, rfl⟩
                                                        · refine zw_iconst 1 24 f114_23 rfl (by decide +kernel) ?_
                                                          refine zw_zreturn f114_24 r114 u114 (by decide +kernel) ⟨_, rfl, ?_⟩
                                                          refine zw_if_eq_f 35 43 f109_32 (by decide +kernel) rfl (by decide +kernel) ?_
                                                          refine zw_aload_n 36 f109_35 rfl (zl1_ne rfl rfl rfl) ?_
                                                          refine zw_iload_n 37 f109_36 rfl zl1_eq ?_
                                                          refine zw_virtual_i 40 0 0 [.ref 0, .int (A 2 (c - c / 8 * 8).toNatClampNeg)] [(0, .ref 0), (1, .int (A 2 (c - c / 8 * 8).toNatClampNeg))] f109_37 rfl n109_181 k109_181_11 rfl (hb_0 _ _ _ _) (by decide +kernel) (Nat.le_of_ble_eq_true rfl) rfl rfl (by decide +kernel) (by decide +kernel) rfl (Nat.le_of_ble_eq_true rfl) rfl ?_
                                                          refine zw_aload_n 1 f106_0 rfl rfl ?_
                                                          refine zw_iconst 0 2 f106_1 rfl (by decide +kernel) ?_
                                                          refine zw_put _ 5 f106_2 rfl g106_70_11 (hb_0 _ _ _ _) rfl (Nat.le_of_ble_eq_true rfl) (by decide +kernel) (hi_0_7 _ _ _ _ _) ?_
                                                          refine zw_iload_n 6 f106_5 rfl rfl ?_
                                                          refine zw_ireturn f106_6 r106 u106 ⟨_, rfl, ?_⟩
                                                          refine zw_goto 49 f109_40 (by decide +kernel) ?_
                                                          refine zw_ireturn f109_49 r109 u109 ⟨_, rfl, ?_⟩
                                                          refine zw_ireturn f103_91 r103 u103 ?_
                                                          exact ⟨_, _, _, _, rfl, (KP.i rfl KP.rf), ⟨⟨hI.1, hI.2.1, t, by omega, et⟩, PE.of10 rfl rfl rfl rfl rfl rfl rfl rfl rfl rfl⟩, _, rfl⟩
                                                  · refine zw_iconst 1 24 f114_23 rfl (by decide +kernel) ?_
                                                    refine zw_zreturn f114_24 r114 u114 (by decide +kernel) ⟨_, rfl, ?_⟩
                                                    refine zw_if_eq_f 35 43 f109_32 (by decide +kernel) rfl (by decide +kernel) ?_
                                                    refine zw_aload_n 36 f109_35 rfl (zl1_ne rfl rfl rfl) ?_
                                                    refine zw_iload_n 37 f109_36 rfl zl1_eq ?_
                                                    refine zw_virtual_i 40 0 0 [.ref 0, .int (A 2 (c - c / 8 * 8).toNatClampNeg)] [(0, .ref 0), (1, .int (A 2 (c - c / 8 * 8).toNatClampNeg))] f109_37 rfl n109_181 k109_181_11 rfl (hb_0 _ _ _ _) (by decide +kernel) (Nat.le_of_ble_eq_true rfl) rfl rfl (by decide +kernel) (by decide +kernel) rfl (Nat.le_of_ble_eq_true rfl) rfl ?_
                                                    refine zw_aload_n 1 f106_0 rfl rfl ?_
                                                    refine zw_iconst 0 2 f106_1 rfl (by decide +kernel) ?_
                                                    refine zw_put _ 5 f106_2 rfl g106_70_11 (hb_0 _ _ _ _) rfl (Nat.le_of_ble_eq_true rfl) (by decide +kernel) (hi_0_7 _ _ _ _ _) ?_
                                                    refine zw_iload_n 6 f106_5 rfl rfl ?_
                                                    refine zw_ireturn f106_6 r106 u106 ⟨_, rfl, ?_⟩
                                                    refine zw_goto 49 f109_40 (by decide +kernel) ?_
                                                    refine zw_ireturn f109_49 r109 u109 ⟨_, rfl, ?_⟩
                                                    refine zw_ireturn f103_91 r103 u103 ?_
                                                    exact ⟨_, _, _, _, rfl, (KP.i rfl KP.rf), ⟨⟨hI.1, hI.2.1, t, by omega, et⟩, PE.of10 rfl rfl rfl rfl rfl rfl rfl rfl rfl rfl⟩, _, rfl⟩
                                            · refine zw_iconst 1 24 f114_23 rfl (by decide +kernel) ?_
                                              refine zw_zreturn f114_24 r114 u114 (by decide +kernel) ⟨_, rfl, ?_⟩
                                              refine zw_if_eq_f 35 43 f109_32 (by decide +kernel) rfl (by decide +kernel) ?_
                                              refine zw_aload_n 36 f109_35 rfl (zl1_ne rfl rfl rfl) ?_
                                              refine zw_iload_n 37 f109_36 rfl zl1_eq ?_
                                              refine zw_virtual_i 40 0 0 [.ref 0, .int (A 2 (c - c / 8 * 8).toNatClampNeg)] [(0, .ref 0), (1, .int (A 2 (c - c / 8 * 8).toNatClampNeg))] f109_37 rfl n109_181 k109_181_11 rfl (hb_0 _ _ _ _) (by decide +kernel) (Nat.le_of_ble_eq_true rfl) rfl rfl (by decide +kernel) (by decide +kernel) rfl (Nat.le_of_ble_eq_true rfl) rfl ?_
                                              refine zw_aload_n 1 f106_0 rfl rfl ?_
                                              refine zw_iconst 0 2 f106_1 rfl (by decide +kernel) ?_
                                              refine zw_put _ 5 f106_2 rfl g106_70_11 (hb_0 _ _ _ _) rfl (Nat.le_of_ble_eq_true rfl) (by decide +kernel) (hi_0_7 _ _ _ _ _) ?_
                                              refine zw_iload_n 6 f106_5 rfl rfl ?_
                                              refine zw_ireturn f106_6 r106 u106 ⟨_, rfl, ?_⟩
                                              refine zw_goto 49 f109_40 (by decide +kernel) ?_
                                              refine zw_ireturn f109_49 r109 u109 ⟨_, rfl, ?_⟩
                                              refine zw_ireturn f103_91 r103 u103 ?_
                                              exact ⟨_, _, _, _, rfl, (KP.i rfl KP.rf), ⟨⟨hI.1, hI.2.1, t, by omega, et⟩, PE.of10 rfl rfl rfl rfl rfl rfl rfl rfl rfl rfl⟩, _, rfl⟩
                                      · refine zw_iconst 1 24 f114_23 rfl (by decide +kernel) ?_
                                        refine zw_zreturn f114_24 r114 u114 (by decide +kernel) ⟨_, rfl, ?_⟩
                                        refine zw_if_eq_f 35 43 f109_32 (by decide +kernel) rfl (by decide +kernel) ?_
                                        refine zw_aload_n 36 f109_35 rfl (zl1_ne rfl rfl rfl) ?_
                                        refine zw_iload_n 37 f109_36 rfl zl1_eq ?_
                                        refine zw_virtual_i 40 0 0 [.ref 0, .int (A 2 (c - c / 8 * 8).toNatClampNeg)] [(0, .ref 0), (1, .int (A 2 (c - c / 8 * 8).toNatClampNeg))] f109_37 rfl n109_181 k109_181_11 rfl (hb_0 _ _ _ _) (by decide +kernel) (Nat.le_of_ble_eq_true rfl) rfl rfl (by decide +kernel) (by decide +kernel) rfl (Nat.le_of_ble_eq_true rfl) rfl ?_
                                        refine zw_aload_n 1 f106_0 rfl rfl ?_
                                        refine zw_iconst 0 2 f106_1 rfl (by decide +kernel) ?_
                                        refine zw_put _ 5 f106_2 rfl g106_70_11 (hb_0 _ _ _ _) rfl (Nat.le_of_ble_eq_true rfl) (by decide +kernel) (hi_0_7 _ _ _ _ _) ?_
                                        refine zw_iload_n 6 f106_5 rfl rfl ?_
                                        refine zw_ireturn f106_6 r106 u106 ⟨_, rfl, ?_⟩
                                        refine zw_goto 49 f109_40 (by decide +kernel) ?_
                                        refine zw_ireturn f109_49 r109 u109 ⟨_, rfl, ?_⟩
                                        refine zw_ireturn f103_91 r103 u103 ?_
                                        exact ⟨_, _, _, _, rfl, (KP.i rfl KP.rf), ⟨⟨hI.1, hI.2.1, t, by omega, et⟩, PE.of10 rfl rfl rfl rfl rfl rfl rfl rfl rfl rfl⟩, _, rfl⟩
                                · refine zw_iconst 1 24 f114_23 rfl (by decide +kernel) ?_
                                  refine zw_zreturn f114_24 r114 u114 (by decide +kernel) ⟨_, rfl, ?_⟩
                                  refine zw_if_eq_f 35 43 f109_32 (by decide +kernel) rfl (by decide +kernel) ?_
                                  refine zw_aload_n 36 f109_35 rfl (zl1_ne rfl rfl rfl) ?_
                                  refine zw_iload_n 37 f109_36 rfl zl1_eq ?_
                                  refine zw_virtual_i 40 0 0 [.ref 0, .int (A 2 (c - c / 8 * 8).toNatClampNeg)] [(0, .ref 0), (1, .int (A 2 (c - c / 8 * 8).toNatClampNeg))] f109_37 rfl n109_181 k109_181_11 rfl (hb_0 _ _ _ _) (by decide +kernel) (Nat.le_of_ble_eq_true rfl) rfl rfl (by decide +kernel) (by decide +kernel) rfl (Nat.le_of_ble_eq_true rfl) rfl ?_
                                  refine zw_aload_n 1 f106_0 rfl rfl ?_
                                  refine zw_iconst 0 2 f106_1 rfl (by decide +kernel) ?_
                                  refine zw_put _ 5 f106_2 rfl g106_70_11 (hb_0 _ _ _ _) rfl (Nat.le_of_ble_eq_true rfl) (by decide +kernel) (hi_0_7 _ _ _ _ _) ?_
                                  refine zw_iload_n 6 f106_5 rfl rfl ?_
                                  refine zw_ireturn f106_6 r106 u106 ⟨_, rfl, ?_⟩
                                  refine zw_goto 49 f109_40 (by decide +kernel) ?_
                                  refine zw_ireturn f109_49 r109 u109 ⟨_, rfl, ?_⟩
                                  refine zw_ireturn f103_91 r103 u103 ?_
                                  exact ⟨_, _, _, _, rfl, (KP.i rfl KP.rf), ⟨⟨hI.1, hI.2.1, t, by omega, et⟩, PE.of10 rfl rfl rfl rfl rfl rfl rfl rfl rfl rfl⟩, _, rfl⟩
                    · refine zw_iload_n 11 f186_10 rfl zl1_eq ?_
                      refine zw_if_eq 14 18 f186_11 (by decide +kernel) rfl (fun hc32 => ?_) (fun hc32 => ?_)
                      · refine zw_iload_n 19 f186_18 rfl zl1_eq ?_
                        refine zw_ireturn f186_19 r186 u186 ⟨_, rfl, ?_⟩
                        refine zw_virtual_i 91 0 0 [.ref 0, .int (c - c / 8 * 8), .int (b - b / 5 * 5)] [(0, .ref 0), (1, .int (c - c / 8 * 8)), (2, .int (b - b / 5 * 5))] f103_88 rfl n103_309 k103_309_11 rfl (hb_0 _ _ _ _) (by decide +kernel) (Nat.le_of_ble_eq_true rfl) rfl rfl (by decide +kernel) (by decide +kernel) rfl (Nat.le_of_ble_eq_true rfl) rfl ?_
                        refine zw_aload_n 1 f109_0 rfl rfl ?_
                        refine zw_getfield 4 f109_1 rfl g109_10_11 (hb_0 _ _ _ _) rfl ?_
                        refine zw_iload_n 5 f109_4 rfl rfl ?_
                        refine zw_virtual_i 8 0 0 [.ref 1, .int (c - c / 8 * 8)] [(0, .ref 1), (1, .int (c - c / 8 * 8))] f109_5 rfl n109_89 k109_89_4 rfl (hb_1 _ _ _ _) (by decide +kernel) (Nat.le_of_ble_eq_true rfl) rfl rfl (by decide +kernel) (by decide +kernel) rfl (Nat.le_of_ble_eq_true rfl) rfl ?_
                        refine zw_iload_n 1 f13_0 rfl rfl ?_
                        refine zw_if_lt 4 22 f13_1 (by decide +kernel) rfl (fun hc33 => ?_) (fun hc33 => ?_)
                        · refine zw_iconst 0 23 f13_22 rfl (by decide +kernel) ?_
                          refine zw_zreturn f13_23 r13 u13 (by decide +kernel) ⟨_, rfl, ?_⟩
                          refine zw_if_ne_f 11 18 f109_8 (by decide +kernel) rfl (by decide +kernel) ?_
                          refine zw_aload_n 12 f109_11 rfl rfl ?_
                          refine zw_bipush 10 14 f109_12 rfl (by decide +kernel) ?_
                          refine zw_virtual_i 17 0 0 [.ref 0, .int 10] [(0, .ref 0), (1, .int 10)] f109_14 rfl n109_78 k109_78_11 rfl (hb_0 _ _ _ _) (by decide +kernel) (Nat.le_of_ble_eq_true rfl) rfl rfl (by decide +kernel) (by decide +kernel) rfl (Nat.le_of_ble_eq_true rfl) rfl ?_
                          refine zw_aload_n 1 f105_0 rfl rfl ?_
                          refine zw_iload_n 2 f105_1 rfl rfl ?_
                          refine zw_put _ 5 f105_2 rfl g105_70_11 (hb_0 _ _ _ _) rfl (Nat.le_of_ble_eq_true rfl) (by decide +kernel) (hi_0_7 _ _ _ _ _) ?_
                          refine zw_iconst (-1) 6 f105_5 rfl (by decide +kernel) ?_
                          refine zw_ireturn f105_6 r105 u105 ⟨_, rfl, ?_⟩
                          refine zw_ireturn f109_17 r109 u109 ⟨_, rfl, ?_⟩
                          refine zw_ireturn f103_91 r103 u103 ?_
                          exact ⟨_, _, _, _, rfl, (KP.i rfl KP.rf), ⟨⟨hI.1, hI.2.1, t, by omega, et⟩, PE.of10 rfl rfl rfl rfl rfl rfl rfl rfl rfl rfl⟩, _, rfl⟩
                        · refine zw_iload_n 5 f13_4 rfl rfl ?_
                          refine zw_aload_n 6 f13_5 rfl rfl ?_
                          refine zw_getI (nI nv) 9 f13_6 rfl g13_39_4 (hb_1 _ _ _ _) rfl hI.1.1.1 ?_
                          refine zw_ic_ge 12 22 f13_9 (by decide +kernel) rfl (fun hc34 => ?_) (fun hc34 => ?_)
                          · refine zw_iconst 0 23 f13_22 rfl (by decide +kernel) ?_
                            refine zw_zreturn f13_23 r13 u13 (by decide +kernel) ⟨_, rfl, ?_⟩
                            refine zw_if_ne_f 11 18 f109_8 (by decide +kernel) rfl (by decide +kernel) ?_
                            refine zw_aload_n 12 f109_11 rfl rfl ?_
                            refine zw_bipush 10 14 f109_12 rfl (by decide +kernel) ?_
                            refine zw_virtual_i 17 0 0 [.ref 0, .int 10] [(0, .ref 0), (1, .int 10)] f109_14 rfl n109_78 k109_78_11 rfl (hb_0 _ _ _ _) (by decide +kernel) (Nat.le_of_ble_eq_true rfl) rfl rfl (by decide +kernel) (by decide +kernel) rfl (Nat.le_of_ble_eq_true rfl) rfl ?_
                            refine zw_aload_n 1 f105_0 rfl rfl ?_
                            refine zw_iload_n 2 f105_1 rfl rfl ?_
                            refine zw_put _ 5 f105_2 rfl g105_70_11 (hb_0 _ _ _ _) rfl (Nat.le_of_ble_eq_true rfl) (by decide +kernel) (hi_0_7 _ _ _ _ _) ?_
                            refine zw_iconst (-1) 6 f105_5 rfl (by decide +kernel) ?_
                            refine zw_ireturn f105_6 r105 u105 ⟨_, rfl, ?_⟩
                            refine zw_ireturn f109_17 r109 u109 ⟨_, rfl, ?_⟩
                            refine zw_ireturn f103_91 r103 u103 ?_
                            exact ⟨_, _, _, _, rfl, (KP.i rfl KP.rf), ⟨⟨hI.1, hI.2.1, t, by omega, et⟩, PE.of10 rfl rfl rfl rfl rfl rfl rfl rfl rfl rfl⟩, _, rfl⟩
                          · refine zw_iload_n 13 f13_12 rfl rfl ?_
                            refine zw_bipush 8 15 f13_13 rfl (by decide +kernel) ?_
                            refine zw_ic_ge 18 22 f13_15 (by decide +kernel) rfl (fun hc35 => ?_) (fun hc35 => ?_)
                            · refine zw_iconst 0 23 f13_22 rfl (by decide +kernel) ?_
                              refine zw_zreturn f13_23 r13 u13 (by decide +kernel) ⟨_, rfl, ?_⟩
                              refine zw_if_ne_f 11 18 f109_8 (by decide +kernel) rfl (by decide +kernel) ?_
                              refine zw_aload_n 12 f109_11 rfl rfl ?_
                              refine zw_bipush 10 14 f109_12 rfl (by decide +kernel) ?_
                              refine zw_virtual_i 17 0 0 [.ref 0, .int 10] [(0, .ref 0), (1, .int 10)] f109_14 rfl n109_78 k109_78_11 rfl (hb_0 _ _ _ _) (by decide +kernel) (Nat.le_of_ble_eq_true rfl) rfl rfl (by decide +kernel) (by decide +kernel) rfl (Nat.le_of_ble_eq_true rfl) rfl ?_
                              refine zw_aload_n 1 f105_0 rfl rfl ?_
                              refine zw_iload_n 2 f105_1 rfl rfl ?_
                              refine zw_put _ 5 f105_2 rfl g105_70_11 (hb_0 _ _ _ _) rfl (Nat.le_of_ble_eq_true rfl) (by decide +kernel) (hi_0_7 _ _ _ _ _) ?_
                              refine zw_iconst (-1) 6 f105_5 rfl (by decide +kernel) ?_
                              refine zw_ireturn f105_6 r105 u105 ⟨_, rfl, ?_⟩
                              refine zw_ireturn f109_17 r109 u109 ⟨_, rfl, ?_⟩
                              refine zw_ireturn f103_91 r103 u103 ?_
                              exact ⟨_, _, _, _, rfl, (KP.i rfl KP.rf), ⟨⟨hI.1, hI.2.1, t, by omega, et⟩, PE.of10 rfl rfl rfl rfl rfl rfl rfl rfl rfl rfl⟩, _, rfl⟩
                            · refine zw_iconst 1 19 f13_18 rfl (by decide +kernel) ?_
                              refine zw_goto 23 f13_19 (by decide +kernel) ?_
                              refine zw_zreturn f13_23 r13 u13 (by decide +kernel) ⟨_, rfl, ?_⟩
                              refine zw_if_ne_t 18 f109_8 (by decide +kernel) (by decide +kernel) ?_
                              refine zw_aload_n 19 f109_18 rfl rfl ?_
                              refine zw_getfield 22 f109_19 rfl g109_10_11 (hb_0 _ _ _ _) rfl ?_
                              refine zw_iload_n 23 f109_22 rfl rfl ?_
                              refine zw_virtual_i 26 0 0 [.ref 1, .int (c - c / 8 * 8)] [(0, .ref 1), (1, .int (c - c / 8 * 8))] f109_23 rfl n109_112 k109_112_4 rfl (hb_1 _ _ _ _) (by decide +kernel) (Nat.le_of_ble_eq_true rfl) rfl rfl (by decide +kernel) (by decide +kernel) rfl (Nat.le_of_ble_eq_true rfl) rfl ?_
                              refine zw_iload_n 1 f15_0 rfl rfl ?_
                              refine zw_if_lt_f 4 27 f15_1 (by decide +kernel) rfl hc33 ?_
                              refine zw_iload_n 5 f15_4 rfl rfl ?_
                              refine zw_aload_n 6 f15_5 rfl rfl ?_
                              refine zw_getI (nI nv) 9 f15_6 rfl g15_39_4 (hb_1 _ _ _ _) rfl hI.1.1.1 ?_
                              refine zw_ic_ge_f 12 27 f15_9 (by decide +kernel) rfl hc34 ?_
                              refine zw_iload_n 13 f15_12 rfl rfl ?_
                              refine zw_bipush 8 15 f15_13 rfl (by decide +kernel) ?_
                              refine zw_ic_ge_f 18 27 f15_15 (by decide +kernel) rfl hc35 ?_
                              refine zw_aload_n 19 f15_18 rfl rfl ?_
                              refine zw_getfield 22 f15_19 rfl g15_9_4 (hb_1 _ _ _ _) rfl ?_
                              refine zw_iload_n 23 f15_22 rfl rfl ?_
                              refine zw_iaload (c - c / 8 * 8).toNatClampNeg (A 2 (c - c / 8 * 8).toNatClampNeg) 24 f15_23 rfl (hb_2 _ _ _ _) rfl hc33 (zix (by decide) hc33 hc35) rfl ?_
                              refine zw_goto 28 f15_24 (by decide +kernel) ?_
                              refine zw_ireturn f15_28 r15 u15 ⟨_, rfl, ?_⟩
                              refine zw_istore_n _ 27 f109_26 rfl (by decide +kernel) rfl ?_
                              refine zw_iload_n 28 f109_27 rfl zl1_eq ?_
                              refine zw_iload_n 29 f109_28 rfl (zl1_ne rfl rfl rfl) ?_
                              refine zw_static_i 32 0 0 [.int (A 2 (c - c / 8 * 8).toNatClampNeg), .int (b - b / 5 * 5)] [] [(0, .int (A 2 (c - c / 8 * 8).toNatClampNeg)), (1, .int (b - b / 5 * 5))] f109_29 rfl k109_327_99 rfl (by decide +kernel) (Nat.le_of_ble_eq_true rfl) (Nat.le_of_ble_eq_true rfl) rfl rfl (by decide +kernel) (by decide +kernel) rfl (Nat.le_of_ble_eq_true rfl) rfl ?_
                              refine zw_iload_n 1 f114_0 rfl rfl ?_
                              refine zw_istore_n _ 2 f114_1 rfl (by decide +kernel) rfl ?_
                              refine zw_iconst 0 3 f114_2 rfl (by decide +kernel) ?_
                              refine zw_istore_n _ 4 f114_3 rfl (by decide +kernel) rfl ?_
                              refine zw_iload_n 5 f114_4 rfl zl1_eq ?_
                              refine zw_iconst 5 6 f114_5 rfl (by decide +kernel) ?_
                              refine zw_ic_ge_f 9 37 f114_6 (by decide +kernel) rfl (by decide +kernel) ?_
                              refine zw_iload_n 10 f114_9 rfl (zl1_ne rfl rfl zl1_eq) ?_
                              refine zw_iconst 0 11 f114_10 rfl (by decide +kernel) ?_
                              refine zw_iconst 4 12 f114_11 rfl (by decide +kernel) ?_
                              refine zw_static_i 15 0 0 [.int (A 2 (c - c / 8 * 8).toNatClampNeg), .int 0, .int 4] [] [(0, .int (A 2 (c - c / 8 * 8).toNatClampNeg)), (1, .int 0), (2, .int 4)] f114_12 rfl k114_74_99 rfl (by decide +kernel) (Nat.le_of_ble_eq_true rfl) (Nat.le_of_ble_eq_true rfl) rfl rfl (by decide +kernel) (by decide +kernel) rfl (Nat.le_of_ble_eq_true rfl) rfl ?_
                              refine zw_iload_n 1 f112_0 rfl rfl ?_
                              refine zw_iload_n 2 f112_1 rfl rfl ?_
                              refine zw_ic_lt 5 14 f112_2 (by decide +kernel) rfl (fun hc36 => ?_) (fun hc36 => ?_)
                              · refine zw_iconst 0 15 f112_14 rfl (by decide +kernel) ?_
                                refine zw_zreturn f112_15 r112 u112 (by decide +kernel) ⟨_, rfl, ?_⟩
                                refine zw_if_eq_t 37 f114_15 (by decide +kernel) (by decide +kernel) ?_
                                refine zw_iconst 0 38 f114_37 rfl (by decide +kernel) ?_
                                refine zw_zreturn f114_38 r114 u114 (by decide +kernel) ⟨_, rfl, ?_⟩
                                refine zw_if_eq_t 43 f109_32 (by decide +kernel) (by decide +kernel) ?_
                                refine zw_aload_n 44 f109_43 rfl (zl1_ne rfl rfl rfl) ?_
                                refine zw_bipush 11 46 f109_44 rfl (by decide +kernel) ?_
                                refine zw_virtual_i 49 0 0 [.ref 0, .int 11] [(0, .ref 0), (1, .int 11)] f109_46 rfl n109_78 k109_78_11 rfl (hb_0 _ _ _ _) (by decide +kernel) (Nat.le_of_ble_eq_true rfl) rfl rfl (by decide +kernel) (by decide +kernel) rfl (Nat.le_of_ble_eq_true rfl) rfl ?_
                                refine zw_aload_n 1 f105_0 rfl rfl ?_
                                refine zw_iload_n 2 f105_1 rfl rfl ?_
                                refine zw_put _ 5 f105_2 rfl g105_70_11 (hb_0 _ _ _ _) rfl (Nat.le_of_ble_eq_true rfl) (by decide +kernel) (hi_0_7 _ _ _ _ _) ?_
                                refine zw_iconst (-1) 6 f105_5 rfl (by decide +kernel) ?_
                                refine zw_ireturn f105_6 r105 u105 ⟨_, rfl, ?_⟩
                                refine zw_ireturn f109_49 r109 u109 ⟨_, rfl, ?_⟩
                                refine zw_ireturn f103_91 r103 u103 ?_
                                exact ⟨_, _, _, _, rfl, (KP.i rfl KP.rf), ⟨⟨hI.1, hI.2.1, t, by omega, et⟩, PE.of10 rfl rfl rfl rfl rfl rfl rfl rfl rfl rfl⟩, _, rfl⟩
                              · refine zw_iload_n 6 f112_5 rfl rfl ?_
                                refine zw_iload_n 7 f112_6 rfl rfl ?_
                                refine zw_ic_gt 10 14 f112_7 (by decide +kernel) rfl (fun hc37 => ?_) (fun hc37 => ?_)
                                · refine zw_iconst 0 15 f112_14 rfl (by decide +kernel) ?_
                                  refine zw_zreturn f112_15 r112 u112 (by decide +kernel) ⟨_, rfl, ?_⟩
                                  refine zw_if_eq_t 37 f114_15 (by decide +kernel) (by decide +kernel) ?_
                                  refine zw_iconst 0 38 f114_37 rfl (by decide +kernel) ?_
                                  refine zw_zreturn f114_38 r114 u114 (by decide +kernel) ⟨_, rfl, ?_⟩
                                  refine zw_if_eq_t 43 f109_32 (by decide +kernel) (by decide +kernel) ?_
                                  refine zw_aload_n 44 f109_43 rfl (zl1_ne rfl rfl rfl) ?_
                                  refine zw_bipush 11 46 f109_44 rfl (by decide +kernel) ?_
                                  refine zw_virtual_i 49 0 0 [.ref 0, .int 11] [(0, .ref 0), (1, .int 11)] f109_46 rfl n109_78 k109_78_11 rfl (hb_0 _ _ _ _) (by decide +kernel) (Nat.le_of_ble_eq_true rfl) rfl rfl (by decide +kernel) (by decide +kernel) rfl (Nat.le_of_ble_eq_true rfl) rfl ?_
                                  refine zw_aload_n 1 f105_0 rfl rfl ?_
                                  refine zw_iload_n 2 f105_1 rfl rfl ?_
                                  refine zw_put _ 5 f105_2 rfl g105_70_11 (hb_0 _ _ _ _) rfl (Nat.le_of_ble_eq_true rfl) (by decide +kernel) (hi_0_7 _ _ _ _ _) ?_
                                  refine zw_iconst (-1) 6 f105_5 rfl (by decide +kernel) ?_
                                  refine zw_ireturn f105_6 r105 u105 ⟨_, rfl, ?_⟩
                                  refine zw_ireturn f109_49 r109 u109 ⟨_, rfl, ?_⟩
                                  refine zw_ireturn f103_91 r103 u103 ?_
                                  exact ⟨_, _, _, _, rfl, (KP.i rfl KP.rf), ⟨⟨hI.1, hI.2.1, t, by omega, et⟩, PE.of10 rfl rfl rfl rfl rfl rfl rfl rfl rfl rfl⟩, _, rfl⟩
                                · refine zw_iconst 1 11 f112_10 rfl (by decide +kernel) ?_
                                  refine zw_goto 15 f112_11 (by decide +kernel) ?_
                                  refine zw_zreturn f112_15 r112 u112 (by decide +kernel) ⟨_, rfl, ?_⟩
                                  refine zw_if_eq_f 18 37 f114_15 (by decide +kernel) rfl (by decide +kernel) ?_
                                  refine zw_iload_n 19 f114_18 rfl (zl1_ne rfl rfl zl1_eq) ?_
                                  refine zw_iload_n 20 f114_19 rfl (zl1_ne rfl rfl (zl1_ne rfl rfl rfl)) ?_
                                  refine zw_ic_ne 23 25 f114_20 (by decide +kernel) rfl (fun hc38 => ?_) (fun hc38 => ?_)
                                  · refine zw_getstatic 28 f114_25 rfl (by decide +kernel) ?_
                                    refine zw_iload_n 29 f114_28 rfl (zl1_ne rfl rfl zl1_eq) ?_
                                    refine zw_iaload_f (A 2 (c - c / 8 * 8).toNatClampNeg).toNatClampNeg 5 (zka (A 2 (c - c / 8 * 8).toNatClampNeg).toNatClampNeg) 30 f114_29 rfl hro.1 rfl hc36 (zix (by decide) hc36 (n45 hc37)) (congrFun hro.2 _) ?_
                                    refine zw_istore_n _ 31 f114_30 rfl (by decide +kernel) rfl ?_
                                    refine zw_iinc 1 _ 34 f114_31 rfl (zl1_ne rfl rfl zl1_eq) (by decide +kernel) (by decide +kernel) rfl ?_
                                    refine zw_goto 4 f114_34 (by decide +kernel) ?_
                                    refine zw_iload_n 5 f114_4 rfl zl1_eq ?_
                                    refine zw_iconst 5 6 f114_5 rfl (by decide +kernel) ?_
                                    refine zw_ic_ge_f 9 37 f114_6 (by decide +kernel) rfl (by decide +kernel) ?_
                                    refine zw_iload_n 10 f114_9 rfl (zl1_ne rfl rfl zl1_eq) ?_
                                    refine zw_iconst 0 11 f114_10 rfl (by decide +kernel) ?_
                                    refine zw_iconst 4 12 f114_11 rfl (by decide +kernel) ?_
                                    refine zw_static_i 15 0 0 [.int (zka (A 2 (c - c / 8 * 8).toNatClampNeg).toNatClampNeg), .int 0, .int 4] [] [(0, .int (zka (A 2 (c - c / 8 * 8).toNatClampNeg).toNatClampNeg)), (1, .int 0), (2, .int 4)] f114_12 rfl k114_74_99 rfl (by decide +kernel) (Nat.le_of_ble_eq_true rfl) (Nat.le_of_ble_eq_true rfl) rfl rfl (by decide +kernel) (by decide +kernel) rfl (Nat.le_of_ble_eq_true rfl) rfl ?_
                                    refine zw_iload_n 1 f112_0 rfl rfl ?_
                                    refine zw_iload_n 2 f112_1 rfl rfl ?_
                                    refine zw_ic_lt 5 14 f112_2 (by decide +kernel) rfl (fun hc39 => ?_) (fun hc39 => ?_)
                                    · refine zw_iconst 0 15 f112_14 rfl (by decide +kernel) ?_
                                      refine zw_zreturn f112_15 r112 u112 (by decide +kernel) ⟨_, rfl, ?_⟩
                                      refine zw_if_eq_t 37 f114_15 (by decide +kernel) (by decide +kernel) ?_
                                      refine zw_iconst 0 38 f114_37 rfl (by decide +kernel) ?_
                                      refine zw_zreturn f114_38 r114 u114 (by decide +kernel) ⟨_, rfl, ?_⟩
                                      refine zw_if_eq_t 43 f109_32 (by decide +kernel) (by decide +kernel) ?_
                                      refine zw_aload_n 44 f109_43 rfl (zl1_ne rfl rfl rfl) ?_
                                      refine zw_bipush 11 46 f109_44 rfl (by decide +kernel) ?_
                                      refine zw_virtual_i 49 0 0 [.ref 0, .int 11] [(0, .ref 0), (1, .int 11)] f109_46 rfl n109_78 k109_78_11 rfl (hb_0 _ _ _ _) (by decide +kernel) (Nat.le_of_ble_eq_true rfl) rfl rfl (by decide +kernel) (by decide +kernel) rfl (Nat.le_of_ble_eq_true rfl) rfl ?_
                                      refine zw_aload_n 1 f105_0 rfl rfl ?_
                                      refine zw_iload_n 2 f105_1 rfl rfl ?_
                                      refine zw_put _ 5 f105_2 rfl g105_70_11 (hb_0 _ _ _ _) rfl (Nat.le_of_ble_eq_true rfl) (by decide +kernel) (hi_0_7 _ _ _ _ _) ?_
                                      refine zw_iconst (-1) 6 f105_5 rfl (by decide +kernel) ?_
                                      refine zw_ireturn f105_6 r105 u105 ⟨_, rfl, ?_⟩
                                      refine zw_ireturn f109_49 r109 u109 ⟨_, rfl, ?_⟩
                                      refine zw_ireturn f103_91 r103 u103 ?_
                                      exact ⟨_, _, _, _, rfl, (KP.i rfl KP.rf), ⟨⟨hI.1, hI.2.1, t, by omega, et⟩, PE.of10 rfl rfl rfl rfl rfl rfl rfl rfl rfl rfl⟩, _, rfl⟩
                                    · refine zw_iload_n 6 f112_5 rfl rfl ?_
                                      refine zw_iload_n 7 f112_6 rfl rfl ?_
                                      refine zw_ic_gt 10 14 f112_7 (by decide +kernel) rfl (fun hc40 => ?_) (fun hc40 => ?_)
                                      · refine zw_iconst 0 15 f112_14 rfl (by decide +kernel) ?_
                                        refine zw_zreturn f112_15 r112 u112 (by decide +kernel) ⟨_, rfl, ?_⟩
                                        refine zw_if_eq_t 37 f114_15 (by decide +kernel) (by decide +kernel) ?_
                                        refine zw_iconst 0 38 f114_37 rfl (by decide +kernel) ?_
                                        refine zw_zreturn f114_38 r114 u114 (by decide +kernel) ⟨_, rfl, ?_⟩
                                        refine zw_if_eq_t 43 f109_32 (by decide +kernel) (by decide +kernel) ?_
                                        refine zw_aload_n 44 f109_43 rfl (zl1_ne rfl rfl rfl) ?_
                                        refine zw_bipush 11 46 f109_44 rfl (by decide +kernel) ?_
                                        refine zw_virtual_i 49 0 0 [.ref 0, .int 11] [(0, .ref 0), (1, .int 11)] f109_46 rfl n109_78 k109_78_11 rfl (hb_0 _ _ _ _) (by decide +kernel) (Nat.le_of_ble_eq_true rfl) rfl rfl (by decide +kernel) (by decide +kernel) rfl (Nat.le_of_ble_eq_true rfl) rfl ?_
                                        refine zw_aload_n 1 f105_0 rfl rfl ?_
                                        refine zw_iload_n 2 f105_1 rfl rfl ?_
                                        refine zw_put _ 5 f105_2 rfl g105_70_11 (hb_0 _ _ _ _) rfl (Nat.le_of_ble_eq_true rfl) (by decide +kernel) (hi_0_7 _ _ _ _ _) ?_
                                        refine zw_iconst (-1) 6 f105_5 rfl (by decide +kernel) ?_
                                        refine zw_ireturn f105_6 r105 u105 ⟨_, rfl, ?_⟩
                                        refine zw_ireturn f109_49 r109 u109 ⟨_, rfl, ?_⟩
                                        refine zw_ireturn f103_91 r103 u103 ?_
                                        exact ⟨_, _, _, _, rfl, (KP.i rfl KP.rf), ⟨⟨hI.1, hI.2.1, t, by omega, et⟩, PE.of10 rfl rfl rfl rfl rfl rfl rfl rfl rfl rfl⟩, _, rfl⟩
                                      · refine zw_iconst 1 11 f112_10 rfl (by decide +kernel) ?_
                                        refine zw_goto 15 f112_11 (by decide +kernel) ?_
                                        refine zw_zreturn f112_15 r112 u112 (by decide +kernel) ⟨_, rfl, ?_⟩
                                        refine zw_if_eq_f 18 37 f114_15 (by decide +kernel) rfl (by decide +kernel) ?_
                                        refine zw_iload_n 19 f114_18 rfl (zl1_ne rfl rfl zl1_eq) ?_
                                        refine zw_iload_n 20 f114_19 rfl (zl1_ne rfl rfl (zl1_ne rfl rfl (zl1_ne rfl rfl (zl1_ne rfl rfl rfl)))) ?_
                                        refine zw_ic_ne 23 25 f114_20 (by decide +kernel) rfl (fun hc41 => ?_) (fun hc41 => ?_)
                                        · refine zw_getstatic 28 f114_25 rfl (by decide +kernel) ?_
                                          refine zw_iload_n 29 f114_28 rfl (zl1_ne rfl rfl zl1_eq) ?_
                                          refine zw_iaload_f (zka (A 2 (c - c / 8 * 8).toNatClampNeg).toNatClampNeg).toNatClampNeg 5 (zka (zka (A 2 (c - c / 8 * 8).toNatClampNeg).toNatClampNeg).toNatClampNeg) 30 f114_29 rfl hro.1 rfl hc39 (zix (by decide) hc39 (n45 hc40)) (congrFun hro.2 _) ?_
                                          refine zw_istore_n _ 31 f114_30 rfl (by decide +kernel) rfl ?_
                                          refine zw_iinc 2 _ 34 f114_31 rfl (zl1_ne rfl rfl zl1_eq) (by decide +kernel) (by decide +kernel) rfl ?_
                                          refine zw_goto 4 f114_34 (by decide +kernel) ?_
                                          refine zw_iload_n 5 f114_4 rfl zl1_eq ?_
                                          refine zw_iconst 5 6 f114_5 rfl (by decide +kernel) ?_
                                          refine zw_ic_ge_f 9 37 f114_6 (by decide +kernel) rfl (by decide +kernel) ?_
                                          refine zw_iload_n 10 f114_9 rfl (zl1_ne rfl rfl zl1_eq) ?_
                                          refine zw_iconst 0 11 f114_10 rfl (by decide +kernel) ?_
                                          refine zw_iconst 4 12 f114_11 rfl (by decide +kernel) ?_
                                          refine zw_static_i 15 0 0 [.int (zka (zka (A 2 (c - c / 8 * 8).toNatClampNeg).toNatClampNeg).toNatClampNeg), .int 0, .int 4] [] [(0, .int (zka (zka (A 2 (c - c / 8 * 8).toNatClampNeg).toNatClampNeg).toNatClampNeg)), (1, .int 0), (2, .int 4)] f114_12 rfl k114_74_99 rfl (by decide +kernel) (Nat.le_of_ble_eq_true rfl) (Nat.le_of_ble_eq_true rfl) rfl rfl (by decide +kernel) (by decide +kernel) rfl (Nat.le_of_ble_eq_true rfl) rfl ?_
                                          refine zw_iload_n 1 f112_0 rfl rfl ?_
                                          refine zw_iload_n 2 f112_1 rfl rfl ?_
                                          refine zw_ic_lt 5 14 f112_2 (by decide +kernel) rfl (fun hc42 => ?_) (fun hc42 => ?_)
                                          · refine zw_iconst 0 15 f112_14 rfl (by decide +kernel) ?_
                                            refine zw_zreturn f112_15 r112 u112 (by decide +kernel) ⟨_, rfl, ?_⟩
                                            refine zw_if_eq_t 37 f114_15 (by decide +kernel) (by decide +kernel) ?_
                                            refine zw_iconst 0 38 f114_37 rfl (by decide +kernel) ?_
                                            refine zw_zreturn f114_38 r114 u114 (by decide +kernel) ⟨_, rfl, ?_⟩
                                            refine zw_if_eq_t 43 f109_32 (by decide +kernel) (by decide +kernel) ?_
                                            refine zw_aload_n 44 f109_43 rfl (zl1_ne rfl rfl rfl) ?_
                                            refine zw_bipush 11 46 f109_44 rfl (by decide +kernel) ?_
                                            refine zw_virtual_i 49 0 0 [.ref 0, .int 11] [(0, .ref 0), (1, .int 11)] f109_46 rfl n109_78 k109_78_11 rfl (hb_0 _ _ _ _) (by decide +kernel) (Nat.le_of_ble_eq_true rfl) rfl rfl (by decide +kernel) (by decide +kernel) rfl (Nat.le_of_ble_eq_true rfl) rfl ?_
                                            refine zw_aload_n 1 f105_0 rfl rfl ?_
                                            refine zw_iload_n 2 f105_1 rfl rfl ?_
                                            refine zw_put _ 5 f105_2 rfl g105_70_11 (hb_0 _ _ _ _) rfl (Nat.le_of_ble_eq_true rfl) (by decide +kernel) (hi_0_7 _ _ _ _ _) ?_
                                            refine zw_iconst (-1) 6 f105_5 rfl (by decide +kernel) ?_
                                            refine zw_ireturn f105_6 r105 u105 ⟨_, rfl, ?_⟩
                                            refine zw_ireturn f109_49 r109 u109 ⟨_, rfl, ?_⟩
                                            refine zw_ireturn f103_91 r103 u103 ?_
                                            exact ⟨_, _, _, _, rfl, (KP.i rfl KP.rf), ⟨⟨hI.1, hI.2.1, t, by omega, et⟩, PE.of10 rfl rfl rfl rfl rfl rfl rfl rfl rfl rfl⟩, _, rfl⟩
                                          · refine zw_iload_n 6 f112_5 rfl rfl ?_
                                            refine zw_iload_n 7 f112_6 rfl rfl ?_
                                            refine zw_ic_gt 10 14 f112_7 (by decide +kernel) rfl (fun hc43 => ?_) (fun hc43 => ?_)
                                            · refine zw_iconst 0 15 f112_14 rfl (by decide +kernel) ?_
                                              refine zw_zreturn f112_15 r112 u112 (by decide +kernel) ⟨_, rfl, ?_⟩
                                              refine zw_if_eq_t 37 f114_15 (by decide +kernel) (by decide +kernel) ?_
                                              refine zw_iconst 0 38 f114_37 rfl (by decide +kernel) ?_
                                              refine zw_zreturn f114_38 r114 u114 (by decide +kernel) ⟨_, rfl, ?_⟩
                                              refine zw_if_eq_t 43 f109_32 (by decide +kernel) (by decide +kernel) ?_
                                              refine zw_aload_n 44 f109_43 rfl (zl1_ne rfl rfl rfl) ?_
                                              refine zw_bipush 11 46 f109_44 rfl (by decide +kernel) ?_
                                              refine zw_virtual_i 49 0 0 [.ref 0, .int 11] [(0, .ref 0), (1, .int 11)] f109_46 rfl n109_78 k109_78_11 rfl (hb_0 _ _ _ _) (by decide +kernel) (Nat.le_of_ble_eq_true rfl) rfl rfl (by decide +kernel) (by decide +kernel) rfl (Nat.le_of_ble_eq_true rfl) rfl ?_
                                              refine zw_aload_n 1 f105_0 rfl rfl ?_
                                              refine zw_iload_n 2 f105_1 rfl rfl ?_
                                              refine zw_put _ 5 f105_2 rfl g105_70_11 (hb_0 _ _ _ _) rfl (Nat.le_of_ble_eq_true rfl) (by decide +kernel) (hi_0_7 _ _ _ _ _) ?_
                                              refine zw_iconst (-1) 6 f105_5 rfl (by decide +kernel) ?_
                                              refine zw_ireturn f105_6 r105 u105 ⟨_, rfl, ?_⟩
                                              refine zw_ireturn f109_49 r109 u109 ⟨_, rfl, ?_⟩
                                              refine zw_ireturn f103_91 r103 u103 ?_
                                              exact ⟨_, _, _, _, rfl, (KP.i rfl KP.rf), ⟨⟨hI.1, hI.2.1, t, by omega, et⟩, PE.of10 rfl rfl rfl rfl rfl rfl rfl rfl rfl rfl⟩, _, rfl⟩
                                            · refine zw_iconst 1 11 f112_10 rfl (by decide +kernel) ?_
                                              refine zw_goto 15 f112_11 (by decide +kernel) ?_
                                              refine zw_zreturn f112_15 r112 u112 (by decide +kernel) ⟨_, rfl, ?_⟩
                                              refine zw_if_eq_f 18 37 f114_15 (by decide +kernel) rfl (by decide +kernel) ?_
                                              refine zw_iload_n 19 f114_18 rfl (zl1_ne rfl rfl zl1_eq) ?_
                                              refine zw_iload_n 20 f114_19 rfl (zl1_ne rfl rfl (zl1_ne rfl rfl (zl1_ne rfl rfl (zl1_ne rfl rfl (zl1_ne rfl rfl (zl1_ne rfl rfl rfl)))))) ?_
                                              refine zw_ic_ne 23 25 f114_20 (by decide +kernel) rfl (fun hc44 => ?_) (fun hc44 => ?_)
                                              · refine zw_getstatic 28 f114_25 rfl (by decide +kernel) ?_
                                                refine zw_iload_n 29 f114_28 rfl (zl1_ne rfl rfl zl1_eq) ?_
                                                refine zw_iaload_f (zka (zka (A 2 (c - c / 8 * 8).toNatClampNeg).toNatClampNeg).toNatClampNeg).toNatClampNeg 5 (zka (zka (zka (A 2 (c - c / 8 * 8).toNatClampNeg).toNatClampNeg).toNatClampNeg).toNatClampNeg) 30 f114_29 rfl hro.1 rfl hc42 (zix (by decide) hc42 (n45 hc43)) (congrFun hro.2 _) ?_
                                                refine zw_istore_n _ 31 f114_30 rfl (by decide +kernel) rfl ?_
                                                refine zw_iinc 3 _ 34 f114_31 rfl (zl1_ne rfl rfl zl1_eq) (by decide +kernel) (by decide +kernel) rfl ?_
                                                refine zw_goto 4 f114_34 (by decide +kernel) ?_
                                                refine zw_iload_n 5 f114_4 rfl zl1_eq ?_
                                                refine zw_iconst 5 6 f114_5 rfl (by decide +kernel) ?_
                                                refine zw_ic_ge_f 9 37 f114_6 (by decide +kernel) rfl (by decide +kernel) ?_
                                                refine zw_iload_n 10 f114_9 rfl (zl1_ne rfl rfl zl1_eq) ?_
                                                refine zw_iconst 0 11 f114_10 rfl (by decide +kernel) ?_
                                                refine zw_iconst 4 12 f114_11 rfl (by decide +kernel) ?_
                                                refine zw_static_i 15 0 0 [.int (zka (zka (zka (A 2 (c - c / 8 * 8).toNatClampNeg).toNatClampNeg).toNatClampNeg).toNatClampNeg), .int 0, .int 4] [] [(0, .int (zka (zka (zka (A 2 (c - c / 8 * 8).toNatClampNeg).toNatClampNeg).toNatClampNeg).toNatClampNeg)), (1, .int 0), (2, .int 4)] f114_12 rfl k114_74_99 rfl (by decide +kernel) (Nat.le_of_ble_eq_true rfl) (Nat.le_of_ble_eq_true rfl) rfl rfl (by decide +kernel) (by decide +kernel) rfl (Nat.le_of_ble_eq_true rfl) rfl ?_
                                                refine zw_iload_n 1 f112_0 rfl rfl ?_
                                                refine zw_iload_n 2 f112_1 rfl rfl ?_
                                                refine zw_ic_lt 5 14 f112_2 (by decide +kernel) rfl (fun hc45 => ?_) (fun hc45 => ?_)
                                                · refine zw_iconst 0 15 f112_14 rfl (by decide +kernel) ?_
                                                  refine zw_zreturn f112_15 r112 u112 (by decide +kernel) ⟨_, rfl, ?_⟩
                                                  refine zw_if_eq_t 37 f114_15 (by decide +kernel) (by decide +kernel) ?_
                                                  refine zw_iconst 0 38 f114_37 rfl (by decide +kernel) ?_
                                                  refine zw_zreturn f114_38 r114 u114 (by decide +kernel) ⟨_, rfl, ?_⟩
                                                  refine zw_if_eq_t 43 f109_32 (by decide +kernel) (by decide +kernel) ?_
                                                  refine zw_aload_n 44 f109_43 rfl (zl1_ne rfl rfl rfl) ?_
                                                  refine zw_bipush 11 46 f109_44 rfl (by decide +kernel) ?_
                                                  refine zw_virtual_i 49 0 0 [.ref 0, .int 11] [(0, .ref 0), (1, .int 11)] f109_46 rfl n109_78 k109_78_11 rfl (hb_0 _ _ _ _) (by decide +kernel) (Nat.le_of_ble_eq_true rfl) rfl rfl (by decide +kernel) (by decide +kernel) rfl (Nat.le_of_ble_eq_true rfl) rfl ?_
                                                  refine zw_aload_n 1 f105_0 rfl rfl ?_
                                                  refine zw_iload_n 2 f105_1 rfl rfl ?_
                                                  refine zw_put _ 5 f105_2 rfl g105_70_11 (hb_0 _ _ _ _) rfl (Nat.le_of_ble_eq_true rfl) (by decide +kernel) (hi_0_7 _ _ _ _ _) ?_
                                                  refine zw_iconst (-1) 6 f105_5 rfl (by decide +kernel) ?_
                                                  refine zw_ireturn f105_6 r105 u105 ⟨_, rfl, ?_⟩
                                                  refine zw_ireturn f109_49 r109 u109 ⟨_, rfl, ?_⟩
                                                  refine zw_ireturn f103_91 r103 u103 ?_
                                                  exact ⟨_, _, _, _, rfl, (KP.i rfl KP.rf), ⟨⟨hI.1, hI.2.1, t, by omega, et⟩, PE.of10 rfl rfl rfl rfl rfl rfl rfl rfl rfl rfl⟩, _, rfl⟩
                                                · refine zw_iload_n 6 f112_5 rfl rfl ?_
                                                  refine zw_iload_n 7 f112_6 rfl rfl ?_
                                                  refine zw_ic_gt 10 14 f112_7 (by decide +kernel) rfl (fun hc46 => ?_) (fun hc46 => ?_)
                                                  · refine zw_iconst 0 15 f112_14 rfl (by decide +kernel) ?_
                                                    refine zw_zreturn f112_15 r112 u112 (by decide +kernel) ⟨_, rfl, ?_⟩
                                                    refine zw_if_eq_t 37 f114_15 (by decide +kernel) (by decide +kernel) ?_
                                                    refine zw_iconst 0 38 f114_37 rfl (by decide +kernel) ?_
                                                    refine zw_zreturn f114_38 r114 u114 (by decide +kernel) ⟨_, rfl, ?_⟩
                                                    refine zw_if_eq_t 43 f109_32 (by decide +kernel) (by decide +kernel) ?_
                                                    refine zw_aload_n 44 f109_43 rfl (zl1_ne rfl rfl rfl) ?_
                                                    refine zw_bipush 11 46 f109_44 rfl (by decide +kernel) ?_
                                                    refine zw_virtual_i 49 0 0 [.ref 0, .int 11] [(0, .ref 0), (1, .int 11)] f109_46 rfl n109_78 k109_78_11 rfl (hb_0 _ _ _ _) (by decide +kernel) (Nat.le_of_ble_eq_true rfl) rfl rfl (by decide +kernel) (by decide +kernel) rfl (Nat.le_of_ble_eq_true rfl) rfl ?_
                                                    refine zw_aload_n 1 f105_0 rfl rfl ?_
                                                    refine zw_iload_n 2 f105_1 rfl rfl ?_
                                                    refine zw_put _ 5 f105_2 rfl g105_70_11 (hb_0 _ _ _ _) rfl (Nat.le_of_ble_eq_true rfl) (by decide +kernel) (hi_0_7 _ _ _ _ _) ?_
                                                    refine zw_iconst (-1) 6 f105_5 rfl (by decide +kernel) ?_
                                                    refine zw_ireturn f105_6 r105 u105 ⟨_, rfl, ?_⟩
                                                    refine zw_ireturn f109_49 r109 u109 ⟨_, rfl, ?_⟩
                                                    refine zw_ireturn f103_91 r103 u103 ?_
                                                    exact ⟨_, _, _, _, rfl, (KP.i rfl KP.rf), ⟨⟨hI.1, hI.2.1, t, by omega, et⟩, PE.of10 rfl rfl rfl rfl rfl rfl rfl rfl rfl rfl⟩, _, rfl⟩
                                                  · refine zw_iconst 1 11 f112_10 rfl (by decide +kernel) ?_
                                                    refine zw_goto 15 f112_11 (by decide +kernel) ?_
                                                    refine zw_zreturn f112_15 r112 u112 (by decide +kernel) ⟨_, rfl, ?_⟩
                                                    refine zw_if_eq_f 18 37 f114_15 (by decide +kernel) rfl (by decide +kernel) ?_
                                                    refine zw_iload_n 19 f114_18 rfl (zl1_ne rfl rfl zl1_eq) ?_
                                                    refine zw_iload_n 20 f114_19 rfl (zl1_ne rfl rfl (zl1_ne rfl rfl (zl1_ne rfl rfl (zl1_ne rfl rfl (zl1_ne rfl rfl (zl1_ne rfl rfl (zl1_ne rfl rfl (zl1_ne rfl rfl rfl)))))))) ?_
                                                    refine zw_ic_ne 23 25 f114_20 (by decide +kernel) rfl (fun hc47 => ?_) (fun hc47 => ?_)
                                                    · refine zw_getstatic 28 f114_25 rfl (by decide +kernel) ?_
                                                      refine zw_iload_n 29 f114_28 rfl (zl1_ne rfl rfl zl1_eq) ?_
                                                      refine zw_iaload_f (zka (zka (zka (A 2 (c - c / 8 * 8).toNatClampNeg).toNatClampNeg).toNatClampNeg).toNatClampNeg).toNatClampNeg 5 (zka (zka (zka (zka (A 2 (c - c / 8 * 8).toNatClampNeg).toNatClampNeg).toNatClampNeg).toNatClampNeg).toNatClampNeg) 30 f114_29 rfl hro.1 rfl hc45 (zix (by decide) hc45 (n45 hc46)) (congrFun hro.2 _) ?_
                                                      refine zw_istore_n _ 31 f114_30 rfl (by decide +kernel) rfl ?_
                                                      refine zw_iinc 4 _ 34 f114_31 rfl (zl1_ne rfl rfl zl1_eq) (by decide +kernel) (by decide +kernel) rfl ?_
                                                      refine zw_goto 4 f114_34 (by decide +kernel) ?_
                                                      refine zw_iload_n 5 f114_4 rfl zl1_eq ?_
                                                      refine zw_iconst 5 6 f114_5 rfl (by decide +kernel) ?_
                                                      refine zw_ic_ge_f 9 37 f114_6 (by decide +kernel) rfl (by decide +kernel) ?_
                                                      refine zw_iload_n 10 f114_9 rfl (zl1_ne rfl rfl zl1_eq) ?_
                                                      refine zw_iconst 0 11 f114_10 rfl (by decide +kernel) ?_
                                                      refine zw_iconst 4 12 f114_11 rfl (by decide +kernel) ?_
                                                      refine zw_static_i 15 0 0 [.int (zka (zka (zka (zka (A 2 (c - c / 8 * 8).toNatClampNeg).toNatClampNeg).toNatClampNeg).toNatClampNeg).toNatClampNeg), .int 0, .int 4] [] [(0, .int (zka (zka (zka (zka (A 2 (c - c / 8 * 8).toNatClampNeg).toNatClampNeg).toNatClampNeg).toNatClampNeg).toNatClampNeg)), (1, .int 0), (2, .int 4)] f114_12 rfl k114_74_99 rfl (by decide +kernel) (Nat.le_of_ble_eq_true rfl) (Nat.le_of_ble_eq_true rfl) rfl rfl (by decide +kernel) (by decide +kernel) rfl (Nat.le_of_ble_eq_true rfl) rfl ?_
                                                      refine zw_iload_n 1 f112_0 rfl rfl ?_
                                                      refine zw_iload_n 2 f112_1 rfl rfl ?_
                                                      refine zw_ic_lt 5 14 f112_2 (by decide +kernel) rfl (fun hc48 => ?_) (fun hc48 => ?_)
                                                      · refine zw_iconst 0 15 f112_14 rfl (by decide +kernel) ?_
                                                        refine zw_zreturn f112_15 r112 u112 (by decide +kernel) ⟨_, rfl, ?_⟩
                                                        refine zw_if_eq_t 37 f114_15 (by decide +kernel) (by decide +kernel) ?_
                                                        refine zw_iconst 0 38 f114_37 rfl (by decide +kernel) ?_
                                                        refine zw_zreturn f114_38 r114 u114 (by decide +kernel) ⟨_, rfl, ?_⟩
                                                        refine zw_if_eq_t 43 f109_32 (by decide +kernel) (by decide +kernel) ?_
                                                        refine zw_aload_n 44 f109_43 rfl (zl1_ne rfl rfl rfl) ?_
                                                        refine zw_bipush 11 46 f109_44 rfl (by decide +kernel) ?_
                                                        refine zw_virtual_i 49 0 0 [.ref 0, .int 11] [(0, .ref 0), (1, .int 11)] f109_46 rfl n109_78 k109_78_11 rfl (hb_0 _ _ _ _) (by decide +kernel) (Nat.le_of_ble_eq_true rfl) rfl rfl (by decide +kernel) (by decide +kernel) rfl (Nat.le_of_ble_eq_true rfl) rfl ?_
                                                        refine zw_aload_n 1 f105_0 rfl rfl ?_
                                                        refine zw_iload_n 2 f105_1 rfl rfl ?_
                                                        refine zw_put _ 5 f105_2 rfl g105_70_11 (hb_0 _ _ _ _) rfl (Nat.le_of_ble_eq_true rfl) (by decide +kernel) (hi_0_7 _ _ _ _ _) ?_
                                                        refine zw_iconst (-1) 6 f105_5 rfl (by decide +kernel) ?_
                                                        refine zw_ireturn f105_6 r105 u105 ⟨_, rfl, ?_⟩
                                                        refine zw_ireturn f109_49 r109 u109 ⟨_, rfl, ?_⟩
                                                        refine zw_ireturn f103_91 r103 u103 ?_
                                                        exact ⟨_, _, _, _, rfl, (KP.i rfl KP.rf), ⟨⟨hI.1, hI.2.1, t, by omega, et⟩, PE.of10 rfl rfl rfl rfl rfl rfl rfl rfl rfl rfl⟩, _, rfl⟩
                                                      · refine zw_iload_n 6 f112_5 rfl rfl ?_
                                                        refine zw_iload_n 7 f112_6 rfl rfl ?_
                                                        refine zw_ic_gt 10 14 f112_7 (by decide +kernel) rfl (fun hc49 => ?_) (fun hc49 => ?_)
                                                        · refine zw_iconst 0 15 f112_14 rfl (by decide +kernel) ?_
                                                          refine zw_zreturn f112_15 r112 u112 (by decide +kernel) ⟨_, rfl, ?_⟩
                                                          refine zw_if_eq_t 37 f114_15 (by decide +kernel) (by decide +kernel) ?_
                                                          refine zw_iconst 0 38 f114_37 rfl (by decide +kernel) ?_
                                                          refine zw_zreturn f114_38 r114 u114 (by decide +kernel) ⟨_, rfl, ?_⟩
                                                          refine zw_if_eq_t 43 f109_32 (by decide +kernel) (by decide +kernel) ?_
                                                          refine zw_aload_n 44 f109_43 rfl (zl1_ne rfl rfl rfl) ?_
                                                          refine zw_bipush 11 46 f109_44 rfl (by decide +kernel) ?_
                                                          refine zw_virtual_i 49 0 0 [.ref 0, .int 11] [(0, .ref 0), (1, .int 11)] f109_46 rfl n109_78 k109_78_11 rfl (hb_0 _ _ _ _) (by decide +kernel) (Nat.le_of_ble_eq_true rfl) rfl rfl (by decide +kernel) (by decide +kernel) rfl (Nat.le_of_ble_eq_true rfl) rfl ?_
                                                          refine zw_aload_n 1 f105_0 rfl rfl ?_
                                                          refine zw_iload_n 2 f105_1 rfl rfl ?_
                                                          refine zw_put _ 5 f105_2 rfl g105_70_11 (hb_0 _ _ _ _) rfl (Nat.le_of_ble_eq_true rfl) (by decide +kernel) (hi_0_7 _ _ _ _ _) ?_
                                                          refine zw_iconst (-1) 6 f105_5 rfl (by decide +kernel) ?_
                                                          refine zw_ireturn f105_6 r105 u105 ⟨_, rfl, ?_⟩
                                                          refine zw_ireturn f109_49 r109 u109 ⟨_, rfl, ?_⟩
                                                          refine zw_ireturn f103_91 r103 u103 ?_
                                                          exact ⟨_, _, _, _, rfl, (KP.i rfl KP.rf), ⟨⟨hI.1, hI.2.1, t, by omega, et⟩, PE.of10 rfl rfl rfl rfl rfl rfl rfl rfl rfl rfl⟩, _, rfl⟩
                                                        · refine zw_iconst 1 11 f112_10 rfl (by decide +kernel) ?_
                                                          refine zw_goto 15 f112_11 (by decide +kernel) ?_
                                                          refine zw_zreturn f112_15 r112 u112 (by decide +kernel) ⟨_, rfl, ?_⟩
                                                          refine zw_if_eq_f 18 37 f114_15 (by decide +kernel) rfl (by decide +kernel) ?_
                                                          refine zw_iload_n 19 f114_18 rfl (zl1_ne rfl rfl zl1_eq) ?_
                                                          refine zw_iload_n 20 f114_19 rfl (zl1_ne rfl rfl (zl1_ne rfl rfl (zl1_ne rfl rfl (zl1_ne rfl rfl (zl1_ne rfl rfl (zl1_ne rfl rfl (zl1_ne rfl rfl (zl1_ne rfl rfl (zl1_ne rfl rfl (zl1_ne rfl rfl rfl)))))))))) ?_
                                                          refine zw_ic_ne 23 25 f114_20 (by decide +kernel) rfl (fun hc50 => ?_) (fun hc50 => ?_)
                                                          · refine zw_getstatic 28 f114_25 rfl (by decide +kernel) ?_
                                                            refine zw_iload_n 29 f114_28 rfl (zl1_ne rfl rfl zl1_eq) ?_
                                                            refine zw_iaload_f (zka (zka (zka (zka (A 2 (c - c / 8 * 8).toNatClampNeg).toNatClampNeg).toNatClampNeg).toNatClampNeg).toNatClampNeg).toNatClampNeg 5 (zka (zka (zka (zka (zka (A 2 (c - c / 8 * 8).toNatClampNeg).toNatClampNeg).toNatClampNeg).toNatClampNeg).toNatClampNeg).toNatClampNeg) 30 f114_29 rfl hro.1 rfl hc48 (zix (by decide) hc48 (n45 hc49)) (congrFun hro.2 _) ?_
                                                            refine zw_istore_n _ 31 f114_30 rfl (by decide +kernel) rfl ?_
                                                            refine zw_iinc 5 _ 34 f114_31 rfl (zl1_ne rfl rfl zl1_eq) (by decide +kernel) (by decide +kernel) rfl ?_
                                                            refine zw_goto 4 f114_34 (by decide +kernel) ?_
                                                            refine zw_iload_n 5 f114_4 rfl zl1_eq ?_
                                                            refine zw_iconst 5 6 f114_5 rfl (by decide +kernel) ?_
                                                            refine zw_ic_ge_t 37 f114_6 (by decide +kernel) (by decide +kernel) ?_
                                                            refine zw_iconst 0 38 f114_37 rfl (by decide +kernel) ?_
                                                            refine zw_zreturn f114_38 r114 u114 (by decide +kernel) ⟨_, rfl, ?_⟩
                                                            refine zw_if_eq_t 43 f109_32 (by decide +kernel) (by decide +kernel) ?_
                                                            refine zw_aload_n 44 f109_43 rfl (zl1_ne rfl rfl rfl) ?_
                                                            refine zw_bipush 11 46 f109_44 rfl (by decide +kernel) ?_
                                                            refine zw_virtual_i 49 0 0 [.ref 0, .int 11] [(0, .ref 0), (1, .int 11)] f109_46 rfl n109_78 k109_78_11 rfl (hb_0 _ _ _ _) (by decide +kernel) (Nat.le_of_ble_eq_true rfl) rfl rfl (by decide +kernel) (by decide +kernel) rfl (Nat.le_of_ble_eq_true rfl) rfl ?_
                                                            refine zw_aload_n 1 f105_0 rfl rfl ?_
                                                            refine zw_iload_n 2 f105_1 rfl rfl ?_
                                                            refine zw_put _ 5 f105_2 rfl g105_70_11 (hb_0 _ _ _ _) rfl (Nat.le_of_ble_eq_true rfl) (by decide +kernel) (hi_0_7 _ _ _ _ _) ?_
                                                            refine zw_iconst (-1) 6 f105_5 rfl (by decide +kernel) ?_
                                                            refine zw_ireturn f105_6 r105 u105 ⟨_, rfl, ?_⟩
                                                            refine zw_ireturn f109_49 r109 u109 ⟨_, rfl, ?_⟩
                                                            refine zw_ireturn f103_91 r103 u103 ?_
                                                            exact ⟨_, _, _, _, rfl, (KP.i rfl KP.rf), ⟨⟨hI.1, hI.2.1, t, by omega, et⟩, PE.of10 rfl rfl rfl rfl rfl rfl rfl rfl rfl rfl⟩, _, rfl⟩
                                                          · refine zw_iconst 1 24 f114_23 rfl (by decide +kernel) ?_
                                                            refine zw_zreturn f114_24 r114 u114 (by decide +kernel) ⟨_, rfl, ?_⟩
                                                            refine zw_if_eq_f 35 43 f109_32 (by decide +kernel) rfl (by decide +kernel) ?_
                                                            refine zw_aload_n 36 f109_35 rfl (zl1_ne rfl rfl rfl) ?_
                                                            refine zw_iload_n 37 f109_36 rfl zl1_eq ?_
                                                            refine zw_virtual_i 40 0 0 [.ref 0, .int (A 2 (c - c / 8 * 8).toNatClampNeg)] [(0, .ref 0), (1, .int (A 2 (c - c / 8 * 8).toNatClampNeg))] f109_37 rfl n109_181 k109_181_11 rfl (hb_0 _ _ _ _) (by decide +kernel) (Nat.le_of_ble_eq_true rfl) rfl rfl (by decide +kernel) (by decide +kernel) rfl (Nat.le_of_ble_eq_true rfl) rfl ?_
                                                            refine zw_aload_n 1 f106_0 rfl rfl ?_
                                                            refine zw_iconst 0 2 f106_1 rfl (by decide +kernel) ?_
                                                            refine zw_put _ 5 f106_2 rfl g106_70_11 (hb_0 _ _ _ _) rfl (Nat.le_of_ble_eq_true rfl) (by decide +kernel) (hi_0_7 _ _ _ _ _) ?_
                                                            refine zw_iload_n 6 f106_5 rfl rfl ?_
                                                            refine zw_ireturn f106_6 r106 u106 ⟨_, rfl, ?_⟩
                                                            refine zw_goto 49 f109_40 (by decide +kernel) ?_
                                                            refine zw_ireturn f109_49 r109 u109 ⟨_, rfl, ?_⟩
                                                            refine zw_ireturn f103_91 r103 u103 ?_
                                                            exact ⟨_, _, _, _, rfl, (KP.i rfl KP.rf), ⟨⟨hI.1, hI.2.1, t, by omega, et⟩, PE.of10 rfl rfl rfl rfl rfl rfl rfl rfl rfl rfl⟩, _, rfl⟩
                                                    · refine zw_iconst 1 24 f114_23 rfl (by decide +kernel) ?_
                                                      refine zw_zreturn f114_24 r114 u114 (by decide +kernel) ⟨_, rfl, ?_⟩
                                                      refine zw_if_eq_f 35 43 f109_32 (by decide +kernel) rfl (by decide +kernel) ?_
                                                      refine zw_aload_n 36 f109_35 rfl (zl1_ne rfl rfl rfl) ?_
                                                      refine zw_iload_n 37 f109_36 rfl zl1_eq ?_
                                                      refine zw_virtual_i 40 0 0 [.ref 0, .int (A 2 (c - c / 8 * 8).toNatClampNeg)] [(0, .ref 0), (1, .int (A 2 (c - c / 8 * 8).toNatClampNeg))] f109_37 rfl n109_181 k109_181_11 rfl (hb_0 _ _ _ _) (by decide +kernel) (Nat.le_of_ble_eq_true rfl) rfl rfl (by decide +kernel) (by decide +kernel) rfl (Nat.le_of_ble_eq_true rfl) rfl ?_
                                                      refine zw_aload_n 1 f106_0 rfl rfl ?_
                                                      refine zw_iconst 0 2 f106_1 rfl (by decide +kernel) ?_
                                                      refine zw_put _ 5 f106_2 rfl g106_70_11 (hb_0 _ _ _ _) rfl (Nat.le_of_ble_eq_true rfl) (by decide +kernel) (hi_0_7 _ _ _ _ _) ?_
                                                      refine zw_iload_n 6 f106_5 rfl rfl ?_
                                                      refine zw_ireturn f106_6 r106 u106 ⟨_, rfl, ?_⟩
                                                      refine zw_goto 49 f109_40 (by decide +kernel) ?_
                                                      refine zw_ireturn f109_49 r109 u109 ⟨_, rfl, ?_⟩
                                                      refine zw_ireturn f103_91 r103 u103 ?_
                                                      exact ⟨_, _, _, _, rfl, (KP.i rfl KP.rf), ⟨⟨hI.1, hI.2.1, t, by omega, et⟩, PE.of10 rfl rfl rfl rfl rfl rfl rfl rfl rfl rfl⟩, _, rfl⟩
                                              · refine zw_iconst 1 24 f114_23 rfl (by decide +kernel) ?_
                                                refine zw_zreturn f114_24 r114 u114 (by decide +kernel) ⟨_, rfl, ?_⟩
                                                refine zw_if_eq_f 35 43 f109_32 (by decide +kernel) rfl (by decide +kernel) ?_
                                                refine zw_aload_n 36 f109_35 rfl (zl1_ne rfl rfl rfl) ?_
                                                refine zw_iload_n 37 f109_36 rfl zl1_eq ?_
                                                refine zw_virtual_i 40 0 0 [.ref 0, .int (A 2 (c - c / 8 * 8).toNatClampNeg)] [(0, .ref 0), (1, .int (A 2 (c - c / 8 * 8).toNatClampNeg))] f109_37 rfl n109_181 k109_181_11 rfl (hb_0 _ _ _ _) (by decide +kernel) (Nat.le_of_ble_eq_true rfl) rfl rfl (by decide +kernel) (by decide +kernel) rfl (Nat.le_of_ble_eq_true rfl) rfl ?_
                                                refine zw_aload_n 1 f106_0 rfl rfl ?_
                                                refine zw_iconst 0 2 f106_1 rfl (by decide +kernel) ?_
                                                refine zw_put _ 5 f106_2 rfl g106_70_11 (hb_0 _ _ _ _) rfl (Nat.le_of_ble_eq_true rfl) (by decide +kernel) (hi_0_7 _ _ _ _ _) ?_
                                                refine zw_iload_n 6 f106_5 rfl rfl ?_
                                                refine zw_ireturn f106_6 r106 u106 ⟨_, rfl, ?_⟩
                                                refine zw_goto 49 f109_40 (by decide +kernel) ?_
                                                refine zw_ireturn f109_49 r109 u109 ⟨_, rfl, ?_⟩
                                                refine zw_ireturn f103_91 r103 u103 ?_
                                                exact ⟨_, _, _, _, rfl, (KP.i rfl KP.rf), ⟨⟨hI.1, hI.2.1, t, by omega, et⟩, PE.of10 rfl rfl rfl rfl rfl rfl rfl rfl rfl rfl⟩, _, rfl⟩
                                        · refine zw_iconst 1 24 f114_23 rfl (by decide +kernel) ?_
                                          refine zw_zreturn f114_24 r114 u114 (by decide +kernel) ⟨_, rfl, ?_⟩
                                          refine zw_if_eq_f 35 43 f109_32 (by decide +kernel) rfl (by decide +kernel) ?_
                                          refine zw_aload_n 36 f109_35 rfl (zl1_ne rfl rfl rfl) ?_
                                          refine zw_iload_n 37 f109_36 rfl zl1_eq ?_
                                          refine zw_virtual_i 40 0 0 [.ref 0, .int (A 2 (c - c / 8 * 8).toNatClampNeg)] [(0, .ref 0), (1, .int (A 2 (c - c / 8 * 8).toNatClampNeg))] f109_37 rfl n109_181 k109_181_11 rfl (hb_0 _ _ _ _) (by decide +kernel) (Nat.le_of_ble_eq_true rfl) rfl rfl (by decide +kernel) (by decide +kernel) rfl (Nat.le_of_ble_eq_true rfl) rfl ?_
                                          refine zw_aload_n 1 f106_0 rfl rfl ?_
                                          refine zw_iconst 0 2 f106_1 rfl (by decide +kernel) ?_
                                          refine zw_put _ 5 f106_2 rfl g106_70_11 (hb_0 _ _ _ _) rfl (Nat.le_of_ble_eq_true rfl) (by decide +kernel) (hi_0_7 _ _ _ _ _) ?_
                                          refine zw_iload_n 6 f106_5 rfl rfl ?_
                                          refine zw_ireturn f106_6 r106 u106 ⟨_, rfl, ?_⟩
                                          refine zw_goto 49 f109_40 (by decide +kernel) ?_
                                          refine zw_ireturn f109_49 r109 u109 ⟨_, rfl, ?_⟩
                                          refine zw_ireturn f103_91 r103 u103 ?_
                                          exact ⟨_, _, _, _, rfl, (KP.i rfl KP.rf), ⟨⟨hI.1, hI.2.1, t, by omega, et⟩, PE.of10 rfl rfl rfl rfl rfl rfl rfl rfl rfl rfl⟩, _, rfl⟩
                                  · refine zw_iconst 1 24 f114_23 rfl (by decide +kernel) ?_
                                    refine zw_zreturn f114_24 r114 u114 (by decide +kernel) ⟨_, rfl, ?_⟩
                                    refine zw_if_eq_f 35 43 f109_32 (by decide +kernel) rfl (by decide +kernel) ?_
                                    refine zw_aload_n 36 f109_35 rfl (zl1_ne rfl rfl rfl) ?_
                                    refine zw_iload_n 37 f109_36 rfl zl1_eq ?_
                                    refine zw_virtual_i 40 0 0 [.ref 0, .int (A 2 (c - c / 8 * 8).toNatClampNeg)] [(0, .ref 0), (1, .int (A 2 (c - c / 8 * 8).toNatClampNeg))] f109_37 rfl n109_181 k109_181_11 rfl (hb_0 _ _ _ _) (by decide +kernel) (Nat.le_of_ble_eq_true rfl) rfl rfl (by decide +kernel) (by decide +kernel) rfl (Nat.le_of_ble_eq_true rfl) rfl ?_
                                    refine zw_aload_n 1 f106_0 rfl rfl ?_
                                    refine zw_iconst 0 2 f106_1 rfl (by decide +kernel) ?_
                                    refine zw_put _ 5 f106_2 rfl g106_70_11 (hb_0 _ _ _ _) rfl (Nat.le_of_ble_eq_true rfl) (by decide +kernel) (hi_0_7 _ _ _ _ _) ?_
                                    refine zw_iload_n 6 f106_5 rfl rfl ?_
                                    refine zw_ireturn f106_6 r106 u106 ⟨_, rfl, ?_⟩
                                    refine zw_goto 49 f109_40 (by decide +kernel) ?_
                                    refine zw_ireturn f109_49 r109 u109 ⟨_, rfl, ?_⟩
                                    refine zw_ireturn f103_91 r103 u103 ?_
                                    exact ⟨_, _, _, _, rfl, (KP.i rfl KP.rf), ⟨⟨hI.1, hI.2.1, t, by omega, et⟩, PE.of10 rfl rfl rfl rfl rfl rfl rfl rfl rfl rfl⟩, _, rfl⟩
                      · refine zw_iload_n 15 f186_14 rfl zl1_eq ?_
                        refine zw_iload_n 16 f186_15 rfl (zl1_ne rfl rfl rfl) ?_
                        refine zw_iadd ((b - b / 5 * 5) + 5) 17 f186_16 rfl rfl ?_
                        refine zw_ireturn f186_17 r186 u186 ⟨_, rfl, ?_⟩
                        refine zw_virtual_i 91 0 0 [.ref 0, .int (c - c / 8 * 8), .int ((b - b / 5 * 5) + 5)] [(0, .ref 0), (1, .int (c - c / 8 * 8)), (2, .int ((b - b / 5 * 5) + 5))] f103_88 rfl n103_309 k103_309_11 rfl (hb_0 _ _ _ _) (by decide +kernel) (Nat.le_of_ble_eq_true rfl) rfl rfl (by decide +kernel) (by decide +kernel) rfl (Nat.le_of_ble_eq_true rfl) rfl ?_
                        refine zw_aload_n 1 f109_0 rfl rfl ?_
                        refine zw_getfield 4 f109_1 rfl g109_10_11 (hb_0 _ _ _ _) rfl ?_
                        refine zw_iload_n 5 f109_4 rfl rfl ?_
                        refine zw_virtual_i 8 0 0 [.ref 1, .int (c - c / 8 * 8)] [(0, .ref 1), (1, .int (c - c / 8 * 8))] f109_5 rfl n109_89 k109_89_4 rfl (hb_1 _ _ _ _) (by decide +kernel) (Nat.le_of_ble_eq_true rfl) rfl rfl (by decide +kernel) (by decide +kernel) rfl (Nat.le_of_ble_eq_true rfl) rfl ?_
                        refine zw_iload_n 1 f13_0 rfl rfl ?_
                        refine zw_if_lt 4 22 f13_1 (by decide +kernel) rfl (fun hc51 => ?_) (fun hc51 => ?_)
                        · refine zw_iconst 0 23 f13_22 rfl (by decide +kernel) ?_
                          refine zw_zreturn f13_23 r13 u13 (by decide +kernel) ⟨_, rfl, ?_⟩
                          refine zw_if_ne_f 11 18 f109_8 (by decide +kernel) rfl (by decide +kernel) ?_
                          refine zw_aload_n 12 f109_11 rfl rfl ?_
                          refine zw_bipush 10 14 f109_12 rfl (by decide +kernel) ?_
                          refine zw_virtual_i 17 0 0 [.ref 0, .int 10] [(0, .ref 0), (1, .int 10)] f109_14 rfl n109_78 k109_78_11 rfl (hb_0 _ _ _ _) (by decide +kernel) (Nat.le_of_ble_eq_true rfl) rfl rfl (by decide +kernel) (by decide +kernel) rfl (Nat.le_of_ble_eq_true rfl) rfl ?_
                          refine zw_aload_n 1 f105_0 rfl rfl ?_
                          refine zw_iload_n 2 f105_1 rfl rfl ?_
                          refine zw_put _ 5 f105_2 rfl g105_70_11 (hb_0 _ _ _ _) rfl (Nat.le_of_ble_eq_true rfl) (by decide +kernel) (hi_0_7 _ _ _ _ _) ?_
                          refine zw_iconst (-1) 6 f105_5 rfl (by decide +kernel) ?_
                          refine zw_ireturn f105_6 r105 u105 ⟨_, rfl, ?_⟩
                          refine zw_ireturn f109_17 r109 u109 ⟨_, rfl, ?_⟩
                          refine zw_ireturn f103_91 r103 u103 ?_
                          exact ⟨_, _, _, _, rfl, (KP.i rfl KP.rf), ⟨⟨hI.1, hI.2.1, t, by omega, et⟩, PE.of10 rfl rfl rfl rfl rfl rfl rfl rfl rfl rfl⟩, _, rfl⟩
                        · refine zw_iload_n 5 f13_4 rfl rfl ?_
                          refine zw_aload_n 6 f13_5 rfl rfl ?_
                          refine zw_getI (nI nv) 9 f13_6 rfl g13_39_4 (hb_1 _ _ _ _) rfl hI.1.1.1 ?_
                          refine zw_ic_ge 12 22 f13_9 (by decide +kernel) rfl (fun hc52 => ?_) (fun hc52 => ?_)
                          · refine zw_iconst 0 23 f13_22 rfl (by decide +kernel) ?_
                            refine zw_zreturn f13_23 r13 u13 (by decide +kernel) ⟨_, rfl, ?_⟩
                            refine zw_if_ne_f 11 18 f109_8 (by decide +kernel) rfl (by decide +kernel) ?_
                            refine zw_aload_n 12 f109_11 rfl rfl ?_
                            refine zw_bipush 10 14 f109_12 rfl (by decide +kernel) ?_
                            refine zw_virtual_i 17 0 0 [.ref 0, .int 10] [(0, .ref 0), (1, .int 10)] f109_14 rfl n109_78 k109_78_11 rfl (hb_0 _ _ _ _) (by decide +kernel) (Nat.le_of_ble_eq_true rfl) rfl rfl (by decide +kernel) (by decide +kernel) rfl (Nat.le_of_ble_eq_true rfl) rfl ?_
                            refine zw_aload_n 1 f105_0 rfl rfl ?_
                            refine zw_iload_n 2 f105_1 rfl rfl ?_
                            refine zw_put _ 5 f105_2 rfl g105_70_11 (hb_0 _ _ _ _) rfl (Nat.le_of_ble_eq_true rfl) (by decide +kernel) (hi_0_7 _ _ _ _ _) ?_
                            refine zw_iconst (-1) 6 f105_5 rfl (by decide +kernel) ?_
                            refine zw_ireturn f105_6 r105 u105 ⟨_, rfl, ?_⟩
                            refine zw_ireturn f109_17 r109 u109 ⟨_, rfl, ?_⟩
                            refine zw_ireturn f103_91 r103 u103 ?_
                            exact ⟨_, _, _, _, rfl, (KP.i rfl KP.rf), ⟨⟨hI.1, hI.2.1, t, by omega, et⟩, PE.of10 rfl rfl rfl rfl rfl rfl rfl rfl rfl rfl⟩, _, rfl⟩
                          · refine zw_iload_n 13 f13_12 rfl rfl ?_
                            refine zw_bipush 8 15 f13_13 rfl (by decide +kernel) ?_
                            refine zw_ic_ge 18 22 f13_15 (by decide +kernel) rfl (fun hc53 => ?_) (fun hc53 => ?_)
                            · refine zw_iconst 0 23 f13_22 rfl (by decide +kernel) ?_
                              refine zw_zreturn f13_23 r13 u13 (by decide +kernel) ⟨_, rfl, ?_⟩
                              refine zw_if_ne_f 11 18 f109_8 (by decide +kernel) rfl (by decide +kernel) ?_
                              refine zw_aload_n 12 f109_11 rfl rfl ?_
                              refine zw_bipush 10 14 f109_12 rfl (by decide +kernel) ?_
                              refine zw_virtual_i 17 0 0 [.ref 0, .int 10] [(0, .ref 0), (1, .int 10)] f109_14 rfl n109_78 k109_78_11 rfl (hb_0 _ _ _ _) (by decide +kernel) (Nat.le_of_ble_eq_true rfl) rfl rfl (by decide +kernel) (by decide +kernel) rfl (Nat.le_of_ble_eq_true rfl) rfl ?_
                              refine zw_aload_n 1 f105_0 rfl rfl ?_
                              refine zw_iload_n 2 f105_1 rfl rfl ?_
                              refine zw_put _ 5 f105_2 rfl g105_70_11 (hb_0 _ _ _ _) rfl (Nat.le_of_ble_eq_true rfl) (by decide +kernel) (hi_0_7 _ _ _ _ _) ?_
                              refine zw_iconst (-1) 6 f105_5 rfl (by decide +kernel) ?_
                              refine zw_ireturn f105_6 r105 u105 ⟨_, rfl, ?_⟩
                              refine zw_ireturn f109_17 r109 u109 ⟨_, rfl, ?_⟩
                              refine zw_ireturn f103_91 r103 u103 ?_
                              exact ⟨_, _, _, _, rfl, (KP.i rfl KP.rf), ⟨⟨hI.1, hI.2.1, t, by omega, et⟩, PE.of10 rfl rfl rfl rfl rfl rfl rfl rfl rfl rfl⟩, _, rfl⟩
                            · refine zw_iconst 1 19 f13_18 rfl (by decide +kernel) ?_
                              refine zw_goto 23 f13_19 (by decide +kernel) ?_
                              refine zw_zreturn f13_23 r13 u13 (by decide +kernel) ⟨_, rfl, ?_⟩
                              refine zw_if_ne_t 18 f109_8 (by decide +kernel) (by decide +kernel) ?_
                              refine zw_aload_n 19 f109_18 rfl rfl ?_
                              refine zw_getfield 22 f109_19 rfl g109_10_11 (hb_0 _ _ _ _) rfl ?_
                              refine zw_iload_n 23 f109_22 rfl rfl ?_
                              refine zw_virtual_i 26 0 0 [.ref 1, .int (c - c / 8 * 8)] [(0, .ref 1), (1, .int (c - c / 8 * 8))] f109_23 rfl n109_112 k109_112_4 rfl (hb_1 _ _ _ _) (by decide +kernel) (Nat.le_of_ble_eq_true rfl) rfl rfl (by decide +kernel) (by decide +kernel) rfl (Nat.le_of_ble_eq_true rfl) rfl ?_
                              refine zw_iload_n 1 f15_0 rfl rfl ?_
                              refine zw_if_lt_f 4 27 f15_1 (by decide +kernel) rfl hc51 ?_
                              refine zw_iload_n 5 f15_4 rfl rfl ?_
                              refine zw_aload_n 6 f15_5 rfl rfl ?_
                              refine zw_getI (nI nv) 9 f15_6 rfl g15_39_4 (hb_1 _ _ _ _) rfl hI.1.1.1 ?_
                              refine zw_ic_ge_f 12 27 f15_9 (by decide +kernel) rfl hc52 ?_
                              refine zw_iload_n 13 f15_12 rfl rfl ?_
                              refine zw_bipush 8 15 f15_13 rfl (by decide +kernel) ?_
                              refine zw_ic_ge_f 18 27 f15_15 (by decide +kernel) rfl hc53 ?_
                              refine zw_aload_n 19 f15_18 rfl rfl ?_
                              refine zw_getfield 22 f15_19 rfl g15_9_4 (hb_1 _ _ _ _) rfl ?_
                              refine zw_iload_n 23 f15_22 rfl rfl ?_
                              refine zw_iaload (c - c / 8 * 8).toNatClampNeg (A 2 (c - c / 8 * 8).toNatClampNeg) 24 f15_23 rfl (hb_2 _ _ _ _) rfl hc51 (zix (by decide) hc51 hc53) rfl ?_
                              refine zw_goto 28 f15_24 (by decide +kernel) ?_
                              refine zw_ireturn f15_28 r15 u15 ⟨_, rfl, ?_⟩
                              refine zw_istore_n _ 27 f109_26 rfl (by decide +kernel) rfl ?_
                              refine zw_iload_n 28 f109_27 rfl zl1_eq ?_
                              refine zw_iload_n 29 f109_28 rfl (zl1_ne rfl rfl rfl) ?_
                              refine zw_static_i 32 0 0 [.int (A 2 (c - c / 8 * 8).toNatClampNeg), .int ((b - b / 5 * 5) + 5)] [] [(0, .int (A 2 (c - c / 8 * 8).toNatClampNeg)), (1, .int ((b - b / 5 * 5) + 5))] f109_29 rfl k109_327_99 rfl (by decide +kernel) (Nat.le_of_ble_eq_true rfl) (Nat.le_of_ble_eq_true rfl) rfl rfl (by decide +kernel) (by decide +kernel) rfl (Nat.le_of_ble_eq_true rfl) rfl ?_
                              refine zw_iload_n 1 f114_0 rfl rfl ?_
                              refine zw_istore_n _ 2 f114_1 rfl (by decide +kernel) rfl ?_
                              refine zw_iconst 0 3 f114_2 rfl (by decide +kernel) ?_
                              refine zw_istore_n _ 4 f114_3 rfl (by decide +kernel) rfl ?_
                              refine zw_iload_n 5 f114_4 rfl zl1_eq ?_
                              refine zw_iconst 5 6 f114_5 rfl (by decide +kernel) ?_
                              refine zw_ic_ge_f 9 37 f114_6 (by decide +kernel) rfl (by decide +kernel) ?_
                              refine zw_iload_n 10 f114_9 rfl (zl1_ne rfl rfl zl1_eq) ?_
                              refine zw_iconst 0 11 f114_10 rfl (by decide +kernel) ?_
                              refine zw_iconst 4 12 f114_11 rfl (by decide +kernel) ?_
                              refine zw_static_i 15 0 0 [.int (A 2 (c - c / 8 * 8).toNatClampNeg), .int 0, .int 4] [] [(0, .int (A 2 (c - c / 8 * 8).toNatClampNeg)), (1, .int 0), (2, .int 4)] f114_12 rfl k114_74_99 rfl (by decide +kernel) (Nat.le_of_ble_eq_true rfl) (Nat.le_of_ble_eq_true rfl) rfl rfl (by decide +kernel) (by decide +kernel) rfl (Nat.le_of_ble_eq_true rfl) rfl ?_
                              refine zw_iload_n 1 f112_0 rfl rfl ?_
                              refine zw_iload_n 2 f112_1 rfl rfl ?_
                              refine zw_ic_lt 5 14 f112_2 (by decide +kernel) rfl (fun hc54 => ?_) (fun hc54 => ?_)
                              · refine zw_iconst 0 15 f112_14 rfl (by decide +kernel) ?_
                                refine zw_zreturn f112_15 r112 u112 (by decide +kernel) ⟨_, rfl, ?_⟩
                                refine zw_if_eq_t 37 f114_15 (by decide +kernel) (by decide +kernel) ?_
                                refine zw_iconst 0 38 f114_37 rfl (by decide +kernel) ?_
                                refine zw_zreturn f114_38 r114 u114 (by decide +kernel) ⟨_, rfl, ?_⟩
                                refine zw_if_eq_t 43 f109_32 (by decide +kernel) (by decide +kernel) ?_
                                refine zw_aload_n 44 f109_43 rfl (zl1_ne rfl rfl rfl) ?_
                                refine zw_bipush 11 46 f109_44 rfl (by decide +kernel) ?_
                                refine zw_virtual_i 49 0 0 [.ref 0, .int 11] [(0, .ref 0), (1, .int 11)] f109_46 rfl n109_78 k109_78_11 rfl (hb_0 _ _ _ _) (by decide +kernel) (Nat.le_of_ble_eq_true rfl) rfl rfl (by decide +kernel) (by decide +kernel) rfl (Nat.le_of_ble_eq_true rfl) rfl ?_
                                refine zw_aload_n 1 f105_0 rfl rfl ?_
                                refine zw_iload_n 2 f105_1 rfl rfl ?_
                                refine zw_put _ 5 f105_2 rfl g105_70_11 (hb_0 _ _ _ _) rfl (Nat.le_of_ble_eq_true rfl) (by decide +kernel) (hi_0_7 _ _ _ _ _) ?_
                                refine zw_iconst (-1) 6 f105_5 rfl (by decide +kernel) ?_
                                refine zw_ireturn f105_6 r105 u105 ⟨_, rfl, ?_⟩
                                refine zw_ireturn f109_49 r109 u109 ⟨_, rfl, ?_⟩
                                refine zw_ireturn f103_91 r103 u103 ?_
                                exact ⟨_, _, _, _, rfl, (KP.i rfl KP.rf), ⟨⟨hI.1, hI.2.1, t, by omega, et⟩, PE.of10 rfl rfl rfl rfl rfl rfl rfl rfl rfl rfl⟩, _, rfl⟩
                              · refine zw_iload_n 6 f112_5 rfl rfl ?_
                                refine zw_iload_n 7 f112_6 rfl rfl ?_
                                refine zw_ic_gt 10 14 f112_7 (by decide +kernel) rfl (fun hc55 => ?_) (fun hc55 => ?_)
                                · refine zw_iconst 0 15 f112_14 rfl (by decide +kernel) ?_
                                  refine zw_zreturn f112_15 r112 u112 (by decide +kernel) ⟨_, rfl, ?_⟩
                                  refine zw_if_eq_t 37 f114_15 (by decide +kernel) (by decide +kernel) ?_
                                  refine zw_iconst 0 38 f114_37 rfl (by decide +kernel) ?_
                                  refine zw_zreturn f114_38 r114 u114 (by decide +kernel) ⟨_, rfl, ?_⟩
                                  refine zw_if_eq_t 43 f109_32 (by decide +kernel) (by decide +kernel) ?_
                                  refine zw_aload_n 44 f109_43 rfl (zl1_ne rfl rfl rfl) ?_
                                  refine zw_bipush 11 46 f109_44 rfl (by decide +kernel) ?_
                                  refine zw_virtual_i 49 0 0 [.ref 0, .int 11] [(0, .ref 0), (1, .int 11)] f109_46 rfl n109_78 k109_78_11 rfl (hb_0 _ _ _ _) (by decide +kernel) (Nat.le_of_ble_eq_true rfl) rfl rfl (by decide +kernel) (by decide +kernel) rfl (Nat.le_of_ble_eq_true rfl) rfl ?_
                                  refine zw_aload_n 1 f105_0 rfl rfl ?_
                                  refine zw_iload_n 2 f105_1 rfl rfl ?_
                                  refine zw_put _ 5 f105_2 rfl g105_70_11 (hb_0 _ _ _ _) rfl (Nat.le_of_ble_eq_true rfl) (by decide +kernel) (hi_0_7 _ _ _ _ _) ?_
                                  refine zw_iconst (-1) 6 f105_5 rfl (by decide +kernel) ?_
                                  refine zw_ireturn f105_6 r105 u105 ⟨_, rfl, ?_⟩
                                  refine zw_ireturn f109_49 r109 u109 ⟨_, rfl, ?_⟩
                                  refine zw_ireturn f103_91 r103 u103 ?_
                                  exact ⟨_, _, _, _, rfl, (KP.i rfl KP.rf), ⟨⟨hI.1, hI.2.1, t, by omega, et⟩, PE.of10 rfl rfl rfl rfl rfl rfl rfl rfl rfl rfl⟩, _, rfl⟩
                                · refine zw_iconst 1 11 f112_10 rfl (by decide +kernel) ?_
                                  refine zw_goto 15 f112_11 (by decide +kernel) ?_
                                  refine zw_zreturn f112_15 r112 u112 (by decide +kernel) ⟨_, rfl, ?_⟩
                                  refine zw_if_eq_f 18 37 f114_15 (by decide +kernel) rfl (by decide +kernel) ?_
                                  refine zw_iload_n 19 f114_18 rfl (zl1_ne rfl rfl zl1_eq) ?_
                                  refine zw_iload_n 20 f114_19 rfl (zl1_ne rfl rfl (zl1_ne rfl rfl rfl)) ?_
                                  refine zw_ic_ne 23 25 f114_20 (by decide +kernel) rfl (fun hc56 => ?_) (fun hc56 => ?_)
                                  · refine zw_getstatic 28 f114_25 rfl (by decide +kernel) ?_
                                    refine zw_iload_n 29 f114_28 rfl (zl1_ne rfl rfl zl1_eq) ?_
                                    refine zw_iaload_f (A 2 (c - c / 8 * 8).toNatClampNeg).toNatClampNeg 5 (zka (A 2 (c - c / 8 * 8).toNatClampNeg).toNatClampNeg) 30 f114_29 rfl hro.1 rfl hc54 (zix (by decide) hc54 (n45 hc55)) (congrFun hro.2 _) ?_
                                    refine zw_istore_n _ 31 f114_30 rfl (by decide +kernel) rfl ?_
                                    refine zw_iinc 1 _ 34 f114_31 rfl (zl1_ne rfl rfl zl1_eq) (by decide +kernel) (by decide +kernel) rfl ?_
                                    refine zw_goto 4 f114_34 (by decide +kernel) ?_
                                    refine zw_iload_n 5 f114_4 rfl zl1_eq ?_
                                    refine zw_iconst 5 6 f114_5 rfl (by decide +kernel) ?_
                                    refine zw_ic_ge_f 9 37 f114_6 (by decide +kernel) rfl (by decide +kernel) ?_
                                    refine zw_iload_n 10 f114_9 rfl (zl1_ne rfl rfl zl1_eq) ?_
                                    refine zw_iconst 0 11 f114_10 rfl (by decide +kernel) ?_
                                    refine zw_iconst 4 12 f114_11 rfl (by decide +kernel) ?_
                                    refine zw_static_i 15 0 0 [.int (zka (A 2 (c - c / 8 * 8).toNatClampNeg).toNatClampNeg), .int 0, .int 4] [] [(0, .int (zka (A 2 (c - c / 8 * 8).toNatClampNeg).toNatClampNeg)), (1, .int 0), (2, .int 4)] f114_12 rfl k114_74_99 rfl (by decide +kernel) (Nat.le_of_ble_eq_true rfl) (Nat.le_of_ble_eq_true rfl) rfl rfl (by decide +kernel) (by decide +kernel) rfl (Nat.le_of_ble_eq_true rfl) rfl ?_
                                    refine zw_iload_n 1 f112_0 rfl rfl ?_
                                    refine zw_iload_n 2 f112_1 rfl rfl ?_
                                    refine zw_ic_lt 5 14 f112_2 (by decide +kernel) rfl (fun hc57 => ?_) (fun hc57 => ?_)
                                    · refine zw_iconst 0 15 f112_14 rfl (by decide +kernel) ?_
                                      refine zw_zreturn f112_15 r112 u112 (by decide +kernel) ⟨_, rfl, ?_⟩
                                      refine zw_if_eq_t 37 f114_15 (by decide +kernel) (by decide +kernel) ?_
                                      refine zw_iconst 0 38 f114_37 rfl (by decide +kernel) ?_
                                      refine zw_zreturn f114_38 r114 u114 (by decide +kernel) ⟨_, rfl, ?_⟩
                                      refine zw_if_eq_t 43 f109_32 (by decide +kernel) (by decide +kernel) ?_
                                      refine zw_aload_n 44 f109_43 rfl (zl1_ne rfl rfl rfl) ?_
                                      refine zw_bipush 11 46 f109_44 rfl (by decide +kernel) ?_
                                      refine zw_virtual_i 49 0 0 [.ref 0, .int 11] [(0, .ref 0), (1, .int 11)] f109_46 rfl n109_78 k109_78_11 rfl (hb_0 _ _ _ _) (by decide +kernel) (Nat.le_of_ble_eq_true rfl) rfl rfl (by decide +kernel) (by decide +kernel) rfl (Nat.le_of_ble_eq_true rfl) rfl ?_
                                      refine zw_aload_n 1 f105_0 rfl rfl ?_
                                      refine zw_iload_n 2 f105_1 rfl rfl ?_
                                      refine zw_put _ 5 f105_2 rfl g105_70_11 (hb_0 _ _ _ _) rfl (Nat.le_of_ble_eq_true rfl) (by decide +kernel) (hi_0_7 _ _ _ _ _) ?_
                                      refine zw_iconst (-1) 6 f105_5 rfl (by decide +kernel) ?_
                                      refine zw_ireturn f105_6 r105 u105 ⟨_, rfl, ?_⟩
                                      refine zw_ireturn f109_49 r109 u109 ⟨_, rfl, ?_⟩
                                      refine zw_ireturn f103_91 r103 u103 ?_
                                      exact ⟨_, _, _, _, rfl, (KP.i rfl KP.rf), ⟨⟨hI.1, hI.2.1, t, by omega, et⟩, PE.of10 rfl rfl rfl rfl rfl rfl rfl rfl rfl rfl⟩, _, rfl⟩
                                    · refine zw_iload_n 6 f112_5 rfl rfl ?_
                                      refine zw_iload_n 7 f112_6 rfl rfl ?_
                                      refine zw_ic_gt 10 14 f112_7 (by decide +kernel) rfl (fun hc58 => ?_) (fun hc58 => ?_)
                                      · refine zw_iconst 0 15 f112_14 rfl (by decide +kernel) ?_
                                        refine zw_zreturn f112_15 r112 u112 (by decide +kernel) ⟨_, rfl, ?_⟩
                                        refine zw_if_eq_t 37 f114_15 (by decide +kernel) (by decide +kernel) ?_
                                        refine zw_iconst 0 38 f114_37 rfl (by decide +kernel) ?_
                                        refine zw_zreturn f114_38 r114 u114 (by decide +kernel) ⟨_, rfl, ?_⟩
                                        refine zw_if_eq_t 43 f109_32 (by decide +kernel) (by decide +kernel) ?_
                                        refine zw_aload_n 44 f109_43 rfl (zl1_ne rfl rfl rfl) ?_
                                        refine zw_bipush 11 46 f109_44 rfl (by decide +kernel) ?_
                                        refine zw_virtual_i 49 0 0 [.ref 0, .int 11] [(0, .ref 0), (1, .int 11)] f109_46 rfl n109_78 k109_78_11 rfl (hb_0 _ _ _ _) (by decide +kernel) (Nat.le_of_ble_eq_true rfl) rfl rfl (by decide +kernel) (by decide +kernel) rfl (Nat.le_of_ble_eq_true rfl) rfl ?_
                                        refine zw_aload_n 1 f105_0 rfl rfl ?_
                                        refine zw_iload_n 2 f105_1 rfl rfl ?_
                                        refine zw_put _ 5 f105_2 rfl g105_70_11 (hb_0 _ _ _ _) rfl (Nat.le_of_ble_eq_true rfl) (by decide +kernel) (hi_0_7 _ _ _ _ _) ?_
                                        refine zw_iconst (-1) 6 f105_5 rfl (by decide +kernel) ?_
                                        refine zw_ireturn f105_6 r105 u105 ⟨_, rfl, ?_⟩
                                        refine zw_ireturn f109_49 r109 u109 ⟨_, rfl, ?_⟩
                                        refine zw_ireturn f103_91 r103 u103 ?_
                                        exact ⟨_, _, _, _, rfl, (KP.i rfl KP.rf), ⟨⟨hI.1, hI.2.1, t, by omega, et⟩, PE.of10 rfl rfl rfl rfl rfl rfl rfl rfl rfl rfl⟩, _, rfl⟩
                                      · refine zw_iconst 1 11 f112_10 rfl (by decide +kernel) ?_
                                        refine zw_goto 15 f112_11 (by decide +kernel) ?_
                                        refine zw_zreturn f112_15 r112 u112 (by decide +kernel) ⟨_, rfl, ?_⟩
                                        refine zw_if_eq_f 18 37 f114_15 (by decide +kernel) rfl (by decide +kernel) ?_
                                        refine zw_iload_n 19 f114_18 rfl (zl1_ne rfl rfl zl1_eq) ?_
                                        refine zw_iload_n 20 f114_19 rfl (zl1_ne rfl rfl (zl1_ne rfl rfl (zl1_ne rfl rfl (zl1_ne rfl rfl rfl)))) ?_
                                        refine zw_ic_ne 23 25 f114_20 (by decide +kernel) rfl (fun hc59 => ?_) (fun hc59 => ?_)
                                        · refine zw_getstatic 28 f114_25 rfl (by decide +kernel) ?_
                                          refine zw_iload_n 29 f114_28 rfl (zl1_ne rfl rfl zl1_eq) ?_
                                          refine zw_iaload_f (zka (A 2 (c - c / 8 * 8).toNatClampNeg).toNatClampNeg).toNatClampNeg 5 (zka (zka (A 2 (c - c / 8 * 8).toNatClampNeg).toNatClampNeg).toNatClampNeg) 30 f114_29 rfl hro.1 rfl hc57 (zix (by decide) hc57 (n45 hc58)) (congrFun hro.2 _) ?_
                                          refine zw_istore_n _ 31 f114_30 rfl (by decide +kernel) rfl ?_
                                          refine zw_iinc 2 _ 34 f114_31 rfl (zl1_ne rfl rfl zl1_eq) (by decide +kernel) (by decide +kernel) rfl ?_
                                          refine zw_goto 4 f114_34 (by decide +kernel) ?_
                                          refine zw_iload_n 5 f114_4 rfl zl1_eq ?_
                                          refine zw_iconst 5 6 f114_5 rfl (by decide +kernel) ?_
                                          refine zw_ic_ge_f 9 37 f114_6 (by decide +kernel) rfl (by decide +kernel) ?_
                                          refine zw_iload_n 10 f114_9 rfl (zl1_ne rfl rfl zl1_eq) ?_
                                          refine zw_iconst 0 11 f114_10 rfl (by decide +kernel) ?_
                                          refine zw_iconst 4 12 f114_11 rfl (by decide +kernel) ?_
                                          refine zw_static_i 15 0 0 [.int (zka (zka (A 2 (c - c / 8 * 8).toNatClampNeg).toNatClampNeg).toNatClampNeg), .int 0, .int 4] [] [(0, .int (zka (zka (A 2 (c - c / 8 * 8).toNatClampNeg).toNatClampNeg).toNatClampNeg)), (1, .int 0), (2, .int 4)] f114_12 rfl k114_74_99 rfl (by decide +kernel) (Nat.le_of_ble_eq_true rfl) (Nat.le_of_ble_eq_true rfl) rfl rfl (by decide +kernel) (by decide +kernel) rfl (Nat.le_of_ble_eq_true rfl) rfl ?_
                                          refine zw_iload_n 1 f112_0 rfl rfl ?_
                                          refine zw_iload_n 2 f112_1 rfl rfl ?_
                                          refine zw_ic_lt 5 14 f112_2 (by decide +kernel) rfl (fun hc60 => ?_) (fun hc60 => ?_)
                                          · refine zw_iconst 0 15 f112_14 rfl (by decide +kernel) ?_
                                            refine zw_zreturn f112_15 r112 u112 (by decide +kernel) ⟨_, rfl, ?_⟩
                                            refine zw_if_eq_t 37 f114_15 (by decide +kernel) (by decide +kernel) ?_
                                            refine zw_iconst 0 38 f114_37 rfl (by decide +kernel) ?_
                                            refine zw_zreturn f114_38 r114 u114 (by decide +kernel) ⟨_, rfl, ?_⟩
                                            refine zw_if_eq_t 43 f109_32 (by decide +kernel) (by decide +kernel) ?_
                                            refine zw_aload_n 44 f109_43 rfl (zl1_ne rfl rfl rfl) ?_
                                            refine zw_bipush 11 46 f109_44 rfl (by decide +kernel) ?_
                                            refine zw_virtual_i 49 0 0 [.ref 0, .int 11] [(0, .ref 0), (1, .int 11)] f109_46 rfl n109_78 k109_78_11 rfl (hb_0 _ _ _ _) (by decide +kernel) (Nat.le_of_ble_eq_true rfl) rfl rfl (by decide +kernel) (by decide +kernel) rfl (Nat.le_of_ble_eq_true rfl) rfl ?_
                                            refine zw_aload_n 1 f105_0 rfl rfl ?_
                                            refine zw_iload_n 2 f105_1 rfl rfl ?_
                                            refine zw_put _ 5 f105_2 rfl g105_70_11 (hb_0 _ _ _ _) rfl (Nat.le_of_ble_eq_true rfl) (by decide +kernel) (hi_0_7 _ _ _ _ _) ?_
                                            refine zw_iconst (-1) 6 f105_5 rfl (by decide +kernel) ?_
                                            refine zw_ireturn f105_6 r105 u105 ⟨_, rfl, ?_⟩
                                            refine zw_ireturn f109_49 r109 u109 ⟨_, rfl, ?_⟩
                                            refine zw_ireturn f103_91 r103 u103 ?_
                                            exact ⟨_, _, _, _, rfl, (KP.i rfl KP.rf), ⟨⟨hI.1, hI.2.1, t, by omega, et⟩, PE.of10 rfl rfl rfl rfl rfl rfl rfl rfl rfl rfl⟩, _, rfl⟩
                                          · refine zw_iload_n 6 f112_5 rfl rfl ?_
                                            refine zw_iload_n 7 f112_6 rfl rfl ?_
                                            refine zw_ic_gt 10 14 f112_7 (by decide +kernel) rfl (fun hc61 => ?_) (fun hc61 => ?_)
                                            · refine zw_iconst 0 15 f112_14 rfl (by decide +kernel) ?_
                                              refine zw_zreturn f112_15 r112 u112 (by decide +kernel) ⟨_, rfl, ?_⟩
                                              refine zw_if_eq_t 37 f114_15 (by decide +kernel) (by decide +kernel) ?_
                                              refine zw_iconst 0 38 f114_37 rfl (by decide +kernel) ?_
                                              refine zw_zreturn f114_38 r114 u114 (by decide +kernel) ⟨_, rfl, ?_⟩
                                              refine zw_if_eq_t 43 f109_32 (by decide +kernel) (by decide +kernel) ?_
                                              refine zw_aload_n 44 f109_43 rfl (zl1_ne rfl rfl rfl) ?_
                                              refine zw_bipush 11 46 f109_44 rfl (by decide +kernel) ?_
                                              refine zw_virtual_i 49 0 0 [.ref 0, .int 11] [(0, .ref 0), (1, .int 11)] f109_46 rfl n109_78 k109_78_11 rfl (hb_0 _ _ _ _) (by decide +kernel) (Nat.le_of_ble_eq_true rfl) rfl rfl (by decide +kernel) (by decide +kernel) rfl (Nat.le_of_ble_eq_true rfl) rfl ?_
                                              refine zw_aload_n 1 f105_0 rfl rfl ?_
                                              refine zw_iload_n 2 f105_1 rfl rfl ?_
                                              refine zw_put _ 5 f105_2 rfl g105_70_11 (hb_0 _ _ _ _) rfl (Nat.le_of_ble_eq_true rfl) (by decide +kernel) (hi_0_7 _ _ _ _ _) ?_
                                              refine zw_iconst (-1) 6 f105_5 rfl (by decide +kernel) ?_
                                              refine zw_ireturn f105_6 r105 u105 ⟨_, rfl, ?_⟩
                                              refine zw_ireturn f109_49 r109 u109 ⟨_, rfl, ?_⟩
                                              refine zw_ireturn f103_91 r103 u103 ?_
                                              exact ⟨_, _, _, _, rfl, (KP.i rfl KP.rf), ⟨⟨hI.1, hI.2.1, t, by omega, et⟩, PE.of10 rfl rfl rfl rfl rfl rfl rfl rfl rfl rfl⟩, _, rfl⟩
                                            · refine zw_iconst 1 11 f112_10 rfl (by decide +kernel) ?_
                                              refine zw_goto 15 f112_11 (by decide +kernel) ?_
                                              refine zw_zreturn f112_15 r112 u112 (by decide +kernel) ⟨_, rfl, ?_⟩
                                              refine zw_if_eq_f 18 37 f114_15 (by decide +kernel) rfl (by decide +kernel) ?_
                                              refine zw_iload_n 19 f114_18 rfl (zl1_ne rfl rfl zl1_eq) ?_
                                              refine zw_iload_n 20 f114_19 rfl (zl1_ne rfl rfl (zl1_ne rfl rfl (zl1_ne rfl rfl (zl1_ne rfl rfl (zl1_ne rfl rfl (zl1_ne rfl rfl rfl)))))) ?_
                                              refine zw_ic_ne 23 25 f114_20 (by decide +kernel) rfl (fun hc62 => ?_) (fun hc62 => ?_)
                                              · refine zw_getstatic 28 f114_25 rfl (by decide +kernel) ?_
                                                refine zw_iload_n 29 f114_28 rfl (zl1_ne rfl rfl zl1_eq) ?_
                                                refine zw_iaload_f (zka (zka (A 2 (c - c / 8 * 8).toNatClampNeg).toNatClampNeg).toNatClampNeg).toNatClampNeg 5 (zka (zka (zka (A 2 (c - c / 8 * 8).toNatClampNeg).toNatClampNeg).toNatClampNeg).toNatClampNeg) 30 f114_29 rfl hro.1 rfl hc60 (zix (by decide) hc60 (n45 hc61)) (congrFun hro.2 _) ?_
                                                refine zw_istore_n _ 31 f114_30 rfl (by decide +kernel) rfl ?_
                                                refine zw_iinc 3 _ 34 f114_31 rfl (zl1_ne rfl rfl zl1_eq) (by decide +kernel) (by decide +kernel) rfl ?_
                                                refine zw_goto 4 f114_34 (by decide +kernel) ?_
                                                refine zw_iload_n 5 f114_4 rfl zl1_eq ?_
                                                refine zw_iconst 5 6 f114_5 rfl (by decide +kernel) ?_
                                                refine zw_ic_ge_f 9 37 f114_6 (by decide +kernel) rfl (by decide +kernel) ?_
                                                refine zw_iload_n 10 f114_9 rfl (zl1_ne rfl rfl zl1_eq) ?_
                                                refine zw_iconst 0 11 f114_10 rfl (by decide +kernel) ?_
                                                refine zw_iconst 4 12 f114_11 rfl (by decide +kernel) ?_
                                                refine zw_static_i 15 0 0 [.int (zka (zka (zka (A 2 (c - c / 8 * 8).toNatClampNeg).toNatClampNeg).toNatClampNeg).toNatClampNeg), .int 0, .int 4] [] [(0, .int (zka (zka (zka (A 2 (c - c / 8 * 8).toNatClampNeg).toNatClampNeg).toNatClampNeg).toNatClampNeg)), (1, .int 0), (2, .int 4)] f114_12 rfl k114_74_99 rfl (by decide +kernel) (Nat.le_of_ble_eq_true rfl) (Nat.le_of_ble_eq_true rfl) rfl rfl (by decide +kernel) (by decide +kernel) rfl (Nat.le_of_ble_eq_true rfl) rfl ?_
                                                refine zw_iload_n 1 f112_0 rfl rfl ?_
                                                refine zw_iload_n 2 f112_1 rfl rfl ?_
                                                refine zw_ic_lt 5 14 f112_2 (by decide +kernel) rfl (fun hc63 => ?_) (fun hc63 => ?_)
                                                · refine zw_iconst 0 15 f112_14 rfl (by decide +kernel) ?_
                                                  refine zw_zreturn f112_15 r112 u112 (by decide +kernel) ⟨_, rfl, ?_⟩
                                                  refine zw_if_eq_t 37 f114_15 (by decide +kernel) (by decide +kernel) ?_
                                                  refine zw_iconst 0 38 f114_37 rfl (by decide +kernel) ?_
                                                  refine zw_zreturn f114_38 r114 u114 (by decide +kernel) ⟨_, rfl, ?_⟩
                                                  refine zw_if_eq_t 43 f109_32 (by decide +kernel) (by decide +kernel) ?_
                                                  refine zw_aload_n 44 f109_43 rfl (zl1_ne rfl rfl rfl) ?_
                                                  refine zw_bipush 11 46 f109_44 rfl (by decide +kernel) ?_
                                                  refine zw_virtual_i 49 0 0 [.ref 0, .int 11] [(0, .ref 0), (1, .int 11)] f109_46 rfl n109_78 k109_78_11 rfl (hb_0 _ _ _ _) (by decide +kernel) (Nat.le_of_ble_eq_true rfl) rfl rfl (by decide +kernel) (by decide +kernel) rfl (Nat.le_of_ble_eq_true rfl) rfl ?_
                                                  refine zw_aload_n 1 f105_0 rfl rfl ?_
                                                  refine zw_iload_n 2 f105_1 rfl rfl ?_
                                                  refine zw_put _ 5 f105_2 rfl g105_70_11 (hb_0 _ _ _ _) rfl (Nat.le_of_ble_eq_true rfl) (by decide +kernel) (hi_0_7 _ _ _ _ _) ?_
                                                  refine zw_iconst (-1) 6 f105_5 rfl (by decide +kernel) ?_
                                                  refine zw_ireturn f105_6 r105 u105 ⟨_, rfl, ?_⟩
                                                  refine zw_ireturn f109_49 r109 u109 ⟨_, rfl, ?_⟩
                                                  refine zw_ireturn f103_91 r103 u103 ?_
                                                  exact ⟨_, _, _, _, rfl, (KP.i rfl KP.rf), ⟨⟨hI.1, hI.2.1, t, by omega, et⟩, PE.of10 rfl rfl rfl rfl rfl rfl rfl rfl rfl rfl⟩, _, rfl⟩
                                                · refine zw_iload_n 6 f112_5 rfl rfl ?_
                                                  refine zw_iload_n 7 f112_6 rfl rfl ?_
                                                  refine zw_ic_gt 10 14 f112_7 (by decide +kernel) rfl (fun hc64 => ?_) (fun hc64 => ?_)
                                                  · refine zw_iconst 0 15 f112_14 rfl (by decide +kernel) ?_
                                                    refine zw_zreturn f112_15 r112 u112 (by decide +kernel) ⟨_, rfl, ?_⟩
                                                    refine zw_if_eq_t 37 f114_15 (by decide +kernel) (by decide +kernel) ?_
                                                    refine zw_iconst 0 38 f114_37 rfl (by decide +kernel) ?_
                                                    refine zw_zreturn f114_38 r114 u114 (by decide +kernel) ⟨_, rfl, ?_⟩
                                                    refine zw_if_eq_t 43 f109_32 (by decide +kernel) (by decide +kernel) ?_
                                                    refine zw_aload_n 44 f109_43 rfl (zl1_ne rfl rfl rfl) ?_
                                                    refine zw_bipush 11 46 f109_44 rfl (by decide +kernel) ?_
                                                    refine zw_virtual_i 49 0 0 [.ref 0, .int 11] [(0, .ref 0), (1, .int 11)] f109_46 rfl n109_78 k109_78_11 rfl (hb_0 _ _ _ _) (by decide +kernel) (Nat.le_of_ble_eq_true rfl) rfl rfl (by decide +kernel) (by decide +kernel) rfl (Nat.le_of_ble_eq_true rfl) rfl ?_
                                                    refine zw_aload_n 1 f105_0 rfl rfl ?_
                                                    refine zw_iload_n 2 f105_1 rfl rfl ?_
                                                    refine zw_put _ 5 f105_2 rfl g105_70_11 (hb_0 _ _ _ _) rfl (Nat.le_of_ble_eq_true rfl) (by decide +kernel) (hi_0_7 _ _ _ _ _) ?_
                                                    refine zw_iconst (-1) 6 f105_5 rfl (by decide +kernel) ?_
                                                    refine zw_ireturn f105_6 r105 u105 ⟨_, rfl, ?_⟩
                                                    refine zw_ireturn f109_49 r109 u109 ⟨_, rfl, ?_⟩
                                                    refine zw_ireturn f103_91 r103 u103 ?_
                                                    exact ⟨_, _, _, _, rfl, (KP.i rfl KP.rf), ⟨⟨hI.1, hI.2.1, t, by omega, et⟩, PE.of10 rfl rfl rfl rfl rfl rfl rfl rfl rfl rfl⟩, _, rfl⟩
                                                  · refine zw_iconst 1 11 f112_10 rfl (by decide +kernel) ?_
                                                    refine zw_goto 15 f112_11 (by decide +kernel) ?_
                                                    refine zw_zreturn f112_15 r112 u112 (by decide +kernel) ⟨_, rfl, ?_⟩
                                                    refine zw_if_eq_f 18 37 f114_15 (by decide +kernel) rfl (by decide +kernel) ?_
                                                    refine zw_iload_n 19 f114_18 rfl (zl1_ne rfl rfl zl1_eq) ?_
                                                    refine zw_iload_n 20 f114_19 rfl (zl1_ne rfl rfl (zl1_ne rfl rfl (zl1_ne rfl rfl (zl1_ne rfl rfl (zl1_ne rfl rfl (zl1_ne rfl rfl (zl1_ne rfl rfl (zl1_ne rfl rfl rfl)))))))) ?_
                                                    refine zw_ic_ne 23 25 f114_20 (by decide +kernel) rfl (fun hc65 => ?_) (fun hc65 => ?_)
                                                    · refine zw_getstatic 28 f114_25 rfl (by decide +kernel) ?_
                                                      refine zw_iload_n 29 f114_28 rfl (zl1_ne rfl rfl zl1_eq) ?_
                                                      refine zw_iaload_f (zka (zka (zka (A 2 (c - c / 8 * 8).toNatClampNeg).toNatClampNeg).toNatClampNeg).toNatClampNeg).toNatClampNeg 5 (zka (zka (zka (zka (A 2 (c - c / 8 * 8).toNatClampNeg).toNatClampNeg).toNatClampNeg).toNatClampNeg).toNatClampNeg) 30 f114_29 rfl hro.1 rfl hc63 (zix (by decide) hc63 (n45 hc64)) (congrFun hro.2 _) ?_
                                                      refine zw_istore_n _ 31 f114_30 rfl (by decide +kernel) rfl ?_
                                                      refine zw_iinc 4 _ 34 f114_31 rfl (zl1_ne rfl rfl zl1_eq) (by decide +kernel) (by decide +kernel) rfl ?_
                                                      refine zw_goto 4 f114_34 (by decide +kernel) ?_
                                                      refine zw_iload_n 5 f114_4 rfl zl1_eq ?_
                                                      refine zw_iconst 5 6 f114_5 rfl (by decide +kernel) ?_
                                                      refine zw_ic_ge_f 9 37 f114_6 (by decide +kernel) rfl (by decide +kernel) ?_
                                                      refine zw_iload_n 10 f114_9 rfl (zl1_ne rfl rfl zl1_eq) ?_
                                                      refine zw_iconst 0 11 f114_10 rfl (by decide +kernel) ?_
                                                      refine zw_iconst 4 12 f114_11 rfl (by decide +kernel) ?_
                                                      refine zw_static_i 15 0 0 [.int (zka (zka (zka (zka (A 2 (c - c / 8 * 8).toNatClampNeg).toNatClampNeg).toNatClampNeg).toNatClampNeg).toNatClampNeg), .int 0, .int 4] [] [(0, .int (zka (zka (zka (zka (A 2 (c - c / 8 * 8).toNatClampNeg).toNatClampNeg).toNatClampNeg).toNatClampNeg).toNatClampNeg)), (1, .int 0), (2, .int 4)] f114_12 rfl k114_74_99 rfl (by decide +kernel) (Nat.le_of_ble_eq_true rfl) (Nat.le_of_ble_eq_true rfl) rfl rfl (by decide +kernel) (by decide +kernel) rfl (Nat.le_of_ble_eq_true rfl) rfl ?_
                                                      refine zw_iload_n 1 f112_0 rfl rfl ?_
                                                      refine zw_iload_n 2 f112_1 rfl rfl ?_
                                                      refine zw_ic_lt 5 14 f112_2 (by decide +kernel) rfl (fun hc66 => ?_) (fun hc66 => ?_)
                                                      · refine zw_iconst 0 15 f112_14 rfl (by decide +kernel) ?_
                                                        refine zw_zreturn f112_15 r112 u112 (by decide +kernel) ⟨_, rfl, ?_⟩
                                                        refine zw_if_eq_t 37 f114_15 (by decide +kernel) (by decide +kernel) ?_
                                                        refine zw_iconst 0 38 f114_37 rfl (by decide +kernel) ?_
                                                        refine zw_zreturn f114_38 r114 u114 (by decide +kernel) ⟨_, rfl, ?_⟩
                                                        refine zw_if_eq_t 43 f109_32 (by decide +kernel) (by decide +kernel) ?_
                                                        refine zw_aload_n 44 f109_43 rfl (zl1_ne rfl rfl rfl) ?_
                                                        refine zw_bipush 11 46 f109_44 rfl (by decide +kernel) ?_
                                                        refine zw_virtual_i 49 0 0 [.ref 0, .int 11] [(0, .ref 0), (1, .int 11)] f109_46 rfl n109_78 k109_78_11 rfl (hb_0 _ _ _ _) (by decide +kernel) (Nat.le_of_ble_eq_true rfl) rfl rfl (by decide +kernel) (by decide +kernel) rfl (Nat.le_of_ble_eq_true rfl) rfl ?_
                                                        refine zw_aload_n 1 f105_0 rfl rfl ?_
                                                        refine zw_iload_n 2 f105_1 rfl rfl ?_
                                                        refine zw_put _ 5 f105_2 rfl g105_70_11 (hb_0 _ _ _ _) rfl (Nat.le_of_ble_eq_true rfl) (by decide +kernel) (hi_0_7 _ _ _ _ _) ?_
                                                        refine zw_iconst (-1) 6 f105_5 rfl (by decide +kernel) ?_
                                                        refine zw_ireturn f105_6 r105 u105 ⟨_, rfl, ?_⟩
                                                        refine zw_ireturn f109_49 r109 u109 ⟨_, rfl, ?_⟩
                                                        refine zw_ireturn f103_91 r103 u103 ?_
                                                        exact ⟨_, _, _, _, rfl, (KP.i rfl KP.rf), ⟨⟨hI.1, hI.2.1, t, by omega, et⟩, PE.of10 rfl rfl rfl rfl rfl rfl rfl rfl rfl rfl⟩, _, rfl⟩
                                                      · refine zw_iload_n 6 f112_5 rfl rfl ?_
                                                        refine zw_iload_n 7 f112_6 rfl rfl ?_
                                                        refine zw_ic_gt 10 14 f112_7 (by decide +kernel) rfl (fun hc67 => ?_) (fun hc67 => ?_)
                                                        · refine zw_iconst 0 15 f112_14 rfl (by decide +kernel) ?_
                                                          refine zw_zreturn f112_15 r112 u112 (by decide +kernel) ⟨_, rfl, ?_⟩
                                                          refine zw_if_eq_t 37 f114_15 (by decide +kernel) (by decide +kernel) ?_
                                                          refine zw_iconst 0 38 f114_37 rfl (by decide +kernel) ?_
                                                          refine zw_zreturn f114_38 r114 u114 (by decide +kernel) ⟨_, rfl, ?_⟩
                                                          refine zw_if_eq_t 43 f109_32 (by decide +kernel) (by decide +kernel) ?_
                                                          refine zw_aload_n 44 f109_43 rfl (zl1_ne rfl rfl rfl) ?_
                                                          refine zw_bipush 11 46 f109_44 rfl (by decide +kernel) ?_
                                                          refine zw_virtual_i 49 0 0 [.ref 0, .int 11] [(0, .ref 0), (1, .int 11)] f109_46 rfl n109_78 k109_78_11 rfl (hb_0 _ _ _ _) (by decide +kernel) (Nat.le_of_ble_eq_true rfl) rfl rfl (by decide +kernel) (by decide +kernel) rfl (Nat.le_of_ble_eq_true rfl) rfl ?_
                                                          refine zw_aload_n 1 f105_0 rfl rfl ?_
                                                          refine zw_iload_n 2 f105_1 rfl rfl ?_
                                                          refine zw_put _ 5 f105_2 rfl g105_70_11 (hb_0 _ _ _ _) rfl (Nat.le_of_ble_eq_true rfl) (by decide +kernel) (hi_0_7 _ _ _ _ _) ?_
                                                          refine zw_iconst (-1) 6 f105_5 rfl (by decide +kernel) ?_
                                                          refine zw_ireturn f105_6 r105 u105 ⟨_, rfl, ?_⟩
                                                          refine zw_ireturn f109_49 r109 u109 ⟨_, rfl, ?_⟩
                                                          refine zw_ireturn f103_91 r103 u103 ?_
                                                          exact ⟨_, _, _, _, rfl, (KP.i rfl KP.rf), ⟨⟨hI.1, hI.2.1, t, by omega, et⟩, PE.of10 rfl rfl rfl rfl rfl rfl rfl rfl rfl rfl⟩, _, rfl⟩
                                                        · refine zw_iconst 1 11 f112_10 rfl (by decide +kernel) ?_
                                                          refine zw_goto 15 f112_11 (by decide +kernel) ?_
                                                          refine zw_zreturn f112_15 r112 u112 (by decide +kernel) ⟨_, rfl, ?_⟩
                                                          refine zw_if_eq_f 18 37 f114_15 (by decide +kernel) rfl (by decide +kernel) ?_
                                                          refine zw_iload_n 19 f114_18 rfl (zl1_ne rfl rfl zl1_eq) ?_
                                                          refine zw_iload_n 20 f114_19 rfl (zl1_ne rfl rfl (zl1_ne rfl rfl (zl1_ne rfl rfl (zl1_ne rfl rfl (zl1_ne rfl rfl (zl1_ne rfl rfl (zl1_ne rfl rfl (zl1_ne rfl rfl (zl1_ne rfl rfl (zl1_ne rfl rfl rfl)))))))))) ?_
                                                          refine zw_ic_ne 23 25 f114_20 (by decide +kernel) rfl (fun hc68 => ?_) (fun hc68 => ?_)
                                                          · refine zw_getstatic 28 f114_25 rfl (by decide +kernel) ?_
                                                            refine zw_iload_n 29 f114_28 rfl (zl1_ne rfl rfl zl1_eq) ?_
                                                            refine zw_iaload_f (zka (zka (zka (zka (A 2 (c - c / 8 * 8).toNatClampNeg).toNatClampNeg).toNatClampNeg).toNatClampNeg).toNatClampNeg).toNatClampNeg 5 (zka (zka (zka (zka (zka (A 2 (c - c / 8 * 8).toNatClampNeg).toNatClampNeg).toNatClampNeg).toNatClampNeg).toNatClampNeg).toNatClampNeg) 30 f114_29 rfl hro.1 rfl hc66 (zix (by decide) hc66 (n45 hc67)) (congrFun hro.2 _) ?_
                                                            refine zw_istore_n _ 31 f114_30 rfl (by decide +kernel) rfl ?_
                                                            refine zw_iinc 5 _ 34 f114_31 rfl (zl1_ne rfl rfl zl1_eq) (by decide +kernel) (by decide +kernel) rfl ?_
                                                            refine zw_goto 4 f114_34 (by decide +kernel) ?_
                                                            refine zw_iload_n 5 f114_4 rfl zl1_eq ?_
                                                            refine zw_iconst 5 6 f114_5 rfl (by decide +kernel) ?_
                                                            refine zw_ic_ge_t 37 f114_6 (by decide +kernel) (by decide +kernel) ?_
                                                            refine zw_iconst 0 38 f114_37 rfl (by decide +kernel) ?_
                                                            refine zw_zreturn f114_38 r114 u114 (by decide +kernel) ⟨_, rfl, ?_⟩
                                                            refine zw_if_eq_t 43 f109_32 (by decide +kernel) (by decide +kernel) ?_
                                                            refine zw_aload_n 44 f109_43 rfl (zl1_ne rfl rfl rfl) ?_
                                                            refine zw_bipush 11 46 f109_44 rfl (by decide +kernel) ?_
                                                            refine zw_virtual_i 49 0 0 [.ref 0, .int 11] [(0, .ref 0), (1, .int 11)] f109_46 rfl n109_78 k109_78_11 rfl (hb_0 _ _ _ _) (by decide +kernel) (Nat.le_of_ble_eq_true rfl) rfl rfl (by decide +kernel) (by decide +kernel) rfl (Nat.le_of_ble_eq_true rfl) rfl ?_
                                                            refine zw_aload_n 1 f105_0 rfl rfl ?_
                                                            refine zw_iload_n 2 f105_1 rfl rfl ?_
                                                            refine zw_put _ 5 f105_2 rfl g105_70_11 (hb_0 _ _ _ _) rfl (Nat.le_of_ble_eq_true rfl) (by decide +kernel) (hi_0_7 _ _ _ _ _) ?_
                                                            refine zw_iconst (-1) 6 f105_5 rfl (by decide +kernel) ?_
                                                            refine zw_ireturn f105_6 r105 u105 ⟨_, rfl, ?_⟩
                                                            refine zw_ireturn f109_49 r109 u109 ⟨_, rfl, ?_⟩
                                                            refine zw_ireturn f103_91 r103 u103 ?_
                                                            exact ⟨_, _, _, _, rfl, (KP.i rfl KP.rf), ⟨⟨hI.1, hI.2.1, t, by omega, et⟩, PE.of10 rfl rfl rfl rfl rfl rfl rfl rfl rfl rfl⟩, _, rfl⟩
                                                          · refine zw_iconst 1 24 f114_23 rfl (by decide +kernel) ?_
                                                            refine zw_zreturn f114_24 r114 u114 (by decide +kernel) ⟨_, rfl, ?_⟩
                                                            refine zw_if_eq_f 35 43 f109_32 (by decide +kernel) rfl (by decide +kernel) ?_
                                                            refine zw_aload_n 36 f109_35 rfl (zl1_ne rfl rfl rfl) ?_
                                                            refine zw_iload_n 37 f109_36 rfl zl1_eq ?_
                                                            refine zw_virtual_i 40 0 0 [.ref 0, .int (A 2 (c - c / 8 * 8).toNatClampNeg)] [(0, .ref 0), (1, .int (A 2 (c - c / 8 * 8).toNatClampNeg))] f109_37 rfl n109_181 k109_181_11 rfl (hb_0 _ _ _ _) (by decide +kernel) (Nat.le_of_ble_eq_true rfl) rfl rfl (by decide +kernel) (by decide +kernel) rfl (Nat.le_of_ble_eq_true rfl) rfl ?_
                                                            refine zw_aload_n 1 f106_0 rfl rfl ?_
                                                            refine zw_iconst 0 2 f106_1 rfl (by decide +kernel) ?_
                                                            refine zw_put _ 5 f106_2 rfl g106_70_11 (hb_0 _ _ _ _) rfl (Nat.le_of_ble_eq_true rfl) (by decide +kernel) (hi_0_7 _ _ _ _ _) ?_
                                                            refine zw_iload_n 6 f106_5 rfl rfl ?_
                                                            refine zw_ireturn f106_6 r106 u106 ⟨_, rfl, ?_⟩
                                                            refine zw_goto 49 f109_40 (by decide +kernel) ?_
                                                            refine zw_ireturn f109_49 r109 u109 ⟨_, rfl, ?_⟩
                                                            refine zw_ireturn f103_91 r103 u103 ?_
                                                            exact ⟨_, _, _, _, rfl, (KP.i rfl KP.rf), ⟨⟨hI.1, hI.2.1, t, by omega, et⟩, PE.of10 rfl rfl rfl rfl rfl rfl rfl rfl rfl rfl⟩, _, rfl⟩
                                                    · refine zw_iconst 1 24 f114_23 rfl (by decide +kernel) ?_
                                                      refine zw_zreturn f114_24 r114 u114 (by decide +kernel) ⟨_, rfl, ?_⟩
                                                      refine zw_if_eq_f 35 43 f109_32 (by decide +kernel) rfl (by decide +kernel) ?_
                                                      refine zw_aload_n 36 f109_35 rfl (zl1_ne rfl rfl rfl) ?_
                                                      refine zw_iload_n 37 f109_36 rfl zl1_eq ?_
                                                      refine zw_virtual_i 40 0 0 [.ref 0, .int (A 2 (c - c / 8 * 8).toNatClampNeg)] [(0, .ref 0), (1, .int (A 2 (c - c / 8 * 8).toNatClampNeg))] f109_37 rfl n109_181 k109_181_11 rfl (hb_0 _ _ _ _) (by decide +kernel) (Nat.le_of_ble_eq_true rfl) rfl rfl (by decide +kernel) (by decide +kernel) rfl (Nat.le_of_ble_eq_true rfl) rfl ?_
                                                      refine zw_aload_n 1 f106_0 rfl rfl ?_
                                                      refine zw_iconst 0 2 f106_1 rfl (by decide +kernel) ?_
                                                      refine zw_put _ 5 f106_2 rfl g106_70_11 (hb_0 _ _ _ _) rfl (Nat.le_of_ble_eq_true rfl) (by decide +kernel) (hi_0_7 _ _ _ _ _) ?_
                                                      refine zw_iload_n 6 f106_5 rfl rfl ?_
                                                      refine zw_ireturn f106_6 r106 u106 ⟨_, rfl, ?_⟩
                                                      refine zw_goto 49 f109_40 (by decide +kernel) ?_
                                                      refine zw_ireturn f109_49 r109 u109 ⟨_, rfl, ?_⟩
                                                      refine zw_ireturn f103_91 r103 u103 ?_
                                                      exact ⟨_, _, _, _, rfl, (KP.i rfl KP.rf), ⟨⟨hI.1, hI.2.1, t, by omega, et⟩, PE.of10 rfl rfl rfl rfl rfl rfl rfl rfl rfl rfl⟩, _, rfl⟩
                                              · refine zw_iconst 1 24 f114_23 rfl (by decide +kernel) ?_
                                                refine zw_zreturn f114_24 r114 u114 (by decide +kernel) ⟨_, rfl, ?_⟩
                                                refine zw_if_eq_f 35 43 f109_32 (by decide +kernel) rfl (by decide +kernel) ?_
                                                refine zw_aload_n 36 f109_35 rfl (zl1_ne rfl rfl rfl) ?_
                                                refine zw_iload_n 37 f109_36 rfl zl1_eq ?_
                                                refine zw_virtual_i 40 0 0 [.ref 0, .int (A 2 (c - c / 8 * 8).toNatClampNeg)] [(0, .ref 0), (1, .int (A 2 (c - c / 8 * 8).toNatClampNeg))] f109_37 rfl n109_181 k109_181_11 rfl (hb_0 _ _ _ _) (by decide +kernel) (Nat.le_of_ble_eq_true rfl) rfl rfl (by decide +kernel) (by decide +kernel) rfl (Nat.le_of_ble_eq_true rfl) rfl ?_
                                                refine zw_aload_n 1 f106_0 rfl rfl ?_
                                                refine zw_iconst 0 2 f106_1 rfl (by decide +kernel) ?_
                                                refine zw_put _ 5 f106_2 rfl g106_70_11 (hb_0 _ _ _ _) rfl (Nat.le_of_ble_eq_true rfl) (by decide +kernel) (hi_0_7 _ _ _ _ _) ?_
                                                refine zw_iload_n 6 f106_5 rfl rfl ?_
                                                refine zw_ireturn f106_6 r106 u106 ⟨_, rfl, ?_⟩
                                                refine zw_goto 49 f109_40 (by decide +kernel) ?_
                                                refine zw_ireturn f109_49 r109 u109 ⟨_, rfl, ?_⟩
                                                refine zw_ireturn f103_91 r103 u103 ?_
                                                exact ⟨_, _, _, _, rfl, (KP.i rfl KP.rf), ⟨⟨hI.1, hI.2.1, t, by omega, et⟩, PE.of10 rfl rfl rfl rfl rfl rfl rfl rfl rfl rfl⟩, _, rfl⟩
                                        · refine zw_iconst 1 24 f114_23 rfl (by decide +kernel) ?_
                                          refine zw_zreturn f114_24 r114 u114 (by decide +kernel) ⟨_, rfl, ?_⟩
                                          refine zw_if_eq_f 35 43 f109_32 (by decide +kernel) rfl (by decide +kernel) ?_
                                          refine zw_aload_n 36 f109_35 rfl (zl1_ne rfl rfl rfl) ?_
                                          refine zw_iload_n 37 f109_36 rfl zl1_eq ?_
                                          refine zw_virtual_i 40 0 0 [.ref 0, .int (A 2 (c - c / 8 * 8).toNatClampNeg)] [(0, .ref 0), (1, .int (A 2 (c - c / 8 * 8).toNatClampNeg))] f109_37 rfl n109_181 k109_181_11 rfl (hb_0 _ _ _ _) (by decide +kernel) (Nat.le_of_ble_eq_true rfl) rfl rfl (by decide +kernel) (by decide +kernel) rfl (Nat.le_of_ble_eq_true rfl) rfl ?_
                                          refine zw_aload_n 1 f106_0 rfl rfl ?_
                                          refine zw_iconst 0 2 f106_1 rfl (by decide +kernel) ?_
                                          refine zw_put _ 5 f106_2 rfl g106_70_11 (hb_0 _ _ _ _) rfl (Nat.le_of_ble_eq_true rfl) (by decide +kernel) (hi_0_7 _ _ _ _ _) ?_
                                          refine zw_iload_n 6 f106_5 rfl rfl ?_
                                          refine zw_ireturn f106_6 r106 u106 ⟨_, rfl, ?_⟩
                                          refine zw_goto 49 f109_40 (by decide +kernel) ?_
                                          refine zw_ireturn f109_49 r109 u109 ⟨_, rfl, ?_⟩
                                          refine zw_ireturn f103_91 r103 u103 ?_
                                          exact ⟨_, _, _, _, rfl, (KP.i rfl KP.rf), ⟨⟨hI.1, hI.2.1, t, by omega, et⟩, PE.of10 rfl rfl rfl rfl rfl rfl rfl rfl rfl rfl⟩, _, rfl⟩
                                  · refine zw_iconst 1 24 f114_23 rfl (by decide +kernel) ?_
                                    refine zw_zreturn f114_24 r114 u114 (by decide +kernel) ⟨_, rfl, ?_⟩
                                    refine zw_if_eq_f 35 43 f109_32 (by decide +kernel) rfl (by decide +kernel) ?_
                                    refine zw_aload_n 36 f109_35 rfl (zl1_ne rfl rfl rfl) ?_
                                    refine zw_iload_n 37 f109_36 rfl zl1_eq ?_
                                    refine zw_virtual_i 40 0 0 [.ref 0, .int (A 2 (c - c / 8 * 8).toNatClampNeg)] [(0, .ref 0), (1, .int (A 2 (c - c / 8 * 8).toNatClampNeg))] f109_37 rfl n109_181 k109_181_11 rfl (hb_0 _ _ _ _) (by decide +kernel) (Nat.le_of_ble_eq_true rfl) rfl rfl (by decide +kernel) (by decide +kernel) rfl (Nat.le_of_ble_eq_true rfl) rfl ?_
                                    refine zw_aload_n 1 f106_0 rfl rfl ?_
                                    refine zw_iconst 0 2 f106_1 rfl (by decide +kernel) ?_
                                    refine zw_put _ 5 f106_2 rfl g106_70_11 (hb_0 _ _ _ _) rfl (Nat.le_of_ble_eq_true rfl) (by decide +kernel) (hi_0_7 _ _ _ _ _) ?_
                                    refine zw_iload_n 6 f106_5 rfl rfl ?_
                                    refine zw_ireturn f106_6 r106 u106 ⟨_, rfl, ?_⟩
                                    refine zw_goto 49 f109_40 (by decide +kernel) ?_
                                    refine zw_ireturn f109_49 r109 u109 ⟨_, rfl, ?_⟩
                                    refine zw_ireturn f103_91 r103 u103 ?_
                                    exact ⟨_, _, _, _, rfl, (KP.i rfl KP.rf), ⟨⟨hI.1, hI.2.1, t, by omega, et⟩, PE.of10 rfl rfl rfl rfl rfl rfl rfl rfl rfl rfl⟩, _, rfl⟩
                  · refine zw_iload_n 11 f186_10 rfl zl1_eq ?_
                    refine zw_if_eq 14 18 f186_11 (by decide +kernel) rfl (fun hc69 => ?_) (fun hc69 => ?_)
                    · refine zw_iload_n 19 f186_18 rfl zl1_eq ?_
                      refine zw_ireturn f186_19 r186 u186 ⟨_, rfl, ?_⟩
                      refine zw_iload_n 84 f103_83 rfl rfl ?_
                      refine zw_iconst 5 85 f103_84 rfl (by decide +kernel) ?_
                      refine zw_static_i 88 0 0 [.int b, .int 5] [.int (c - c / 8 * 8), .ref 0] [(0, .int b), (1, .int 5)] f103_85 rfl k103_304_99 rfl (by decide +kernel) (Nat.le_of_ble_eq_true rfl) (Nat.le_of_ble_eq_true rfl) rfl rfl (by decide +kernel) (by decide +kernel) rfl (Nat.le_of_ble_eq_true rfl) rfl ?_
                      refine zw_iload_n 1 f186_0 rfl rfl ?_
                      refine zw_iload_n 2 f186_1 rfl rfl ?_
                      refine zw_irem (b - b / 5 * 5) 3 f186_2 rfl (by decide +kernel) rfl ?_
                      refine zw_istore_n _ 4 f186_3 rfl (by decide +kernel) rfl ?_
                      refine zw_iload_n 5 f186_4 rfl (zl1_ne rfl rfl rfl) ?_
                      refine zw_iload_n 6 f186_5 rfl (zl1_ne rfl rfl rfl) ?_
                      refine zw_ixor (b ^^^ 5) 7 f186_6 rfl rfl ?_
                      refine zw_if_ge 10 18 f186_7 (by decide +kernel) rfl (fun hc70 => ?_) (fun hc70 => ?_)
                      · refine zw_iload_n 19 f186_18 rfl zl1_eq ?_
                        refine zw_ireturn f186_19 r186 u186 ⟨_, rfl, ?_⟩
                        refine zw_virtual_i 91 0 0 [.ref 0, .int (c - c / 8 * 8), .int (b - b / 5 * 5)] [(0, .ref 0), (1, .int (c - c / 8 * 8)), (2, .int (b - b / 5 * 5))] f103_88 rfl n103_309 k103_309_11 rfl (hb_0 _ _ _ _) (by decide +kernel) (Nat.le_of_ble_eq_true rfl) rfl rfl (by decide +kernel) (by decide +kernel) rfl (Nat.le_of_ble_eq_true rfl) rfl ?_
                        refine zw_aload_n 1 f109_0 rfl rfl ?_
                        refine zw_getfield 4 f109_1 rfl g109_10_11 (hb_0 _ _ _ _) rfl ?_
                        refine zw_iload_n 5 f109_4 rfl rfl ?_
                        refine zw_virtual_i 8 0 0 [.ref 1, .int (c - c / 8 * 8)] [(0, .ref 1), (1, .int (c - c / 8 * 8))] f109_5 rfl n109_89 k109_89_4 rfl (hb_1 _ _ _ _) (by decide +kernel) (Nat.le_of_ble_eq_true rfl) rfl rfl (by decide +kernel) (by decide +kernel) rfl (Nat.le_of_ble_eq_true rfl) rfl ?_
                        refine zw_iload_n 1 f13_0 rfl rfl ?_
                        refine zw_if_lt 4 22 f13_1 (by decide +kernel) rfl (fun hc71 => ?_) (fun hc71 => ?_)
                        · refine zw_iconst 0 23 f13_22 rfl (by decide +kernel) ?_
                          refine zw_zreturn f13_23 r13 u13 (by decide +kernel) ⟨_, rfl, ?_⟩
                          refine zw_if_ne_f 11 18 f109_8 (by decide +kernel) rfl (by decide +kernel) ?_
                          refine zw_aload_n 12 f109_11 rfl rfl ?_
                          refine zw_bipush 10 14 f109_12 rfl (by decide +kernel) ?_
                          refine zw_virtual_i 17 0 0 [.ref 0, .int 10] [(0, .ref 0), (1, .int 10)] f109_14 rfl n109_78 k109_78_11 rfl (hb_0 _ _ _ _) (by decide +kernel) (Nat.le_of_ble_eq_true rfl) rfl rfl (by decide +kernel) (by decide +kernel) rfl (Nat.le_of_ble_eq_true rfl) rfl ?_
                          refine zw_aload_n 1 f105_0 rfl rfl ?_
                          refine zw_iload_n 2 f105_1 rfl rfl ?_
                          refine zw_put _ 5 f105_2 rfl g105_70_11 (hb_0 _ _ _ _) rfl (Nat.le_of_ble_eq_true rfl) (by decide +kernel) (hi_0_7 _ _ _ _ _) ?_
                          refine zw_iconst (-1) 6 f105_5 rfl (by decide +kernel) ?_
                          refine zw_ireturn f105_6 r105 u105 ⟨_, rfl, ?_⟩
                          refine zw_ireturn f109_17 r109 u109 ⟨_, rfl, ?_⟩
                          refine zw_ireturn f103_91 r103 u103 ?_
                          exact ⟨_, _, _, _, rfl, (KP.i rfl KP.rf), ⟨⟨hI.1, hI.2.1, t, by omega, et⟩, PE.of10 rfl rfl rfl rfl rfl rfl rfl rfl rfl rfl⟩, _, rfl⟩
                        · refine zw_iload_n 5 f13_4 rfl rfl ?_
                          refine zw_aload_n 6 f13_5 rfl rfl ?_
                          refine zw_getI (nI nv) 9 f13_6 rfl g13_39_4 (hb_1 _ _ _ _) rfl hI.1.1.1 ?_
                          refine zw_ic_ge 12 22 f13_9 (by decide +kernel) rfl (fun hc72 => ?_) (fun hc72 => ?_)
                          · refine zw_iconst 0 23 f13_22 rfl (by decide +kernel) ?_
                            refine zw_zreturn f13_23 r13 u13 (by decide +kernel) ⟨_, rfl, ?_⟩
                            refine zw_if_ne_f 11 18 f109_8 (by decide +kernel) rfl (by decide +kernel) ?_
                            refine zw_aload_n 12 f109_11 rfl rfl ?_
                            refine zw_bipush 10 14 f109_12 rfl (by decide +kernel) ?_
                            refine zw_virtual_i 17 0 0 [.ref 0, .int 10] [(0, .ref 0), (1, .int 10)] f109_14 rfl n109_78 k109_78_11 rfl (hb_0 _ _ _ _) (by decide +kernel) (Nat.le_of_ble_eq_true rfl) rfl rfl (by decide +kernel) (by decide +kernel) rfl (Nat.le_of_ble_eq_true rfl) rfl ?_
                            refine zw_aload_n 1 f105_0 rfl rfl ?_
                            refine zw_iload_n 2 f105_1 rfl rfl ?_
                            refine zw_put _ 5 f105_2 rfl g105_70_11 (hb_0 _ _ _ _) rfl (Nat.le_of_ble_eq_true rfl) (by decide +kernel) (hi_0_7 _ _ _ _ _) ?_
                            refine zw_iconst (-1) 6 f105_5 rfl (by decide +kernel) ?_
                            refine zw_ireturn f105_6 r105 u105 ⟨_, rfl, ?_⟩
                            refine zw_ireturn f109_17 r109 u109 ⟨_, rfl, ?_⟩
                            refine zw_ireturn f103_91 r103 u103 ?_
                            exact ⟨_, _, _, _, rfl, (KP.i rfl KP.rf), ⟨⟨hI.1, hI.2.1, t, by omega, et⟩, PE.of10 rfl rfl rfl rfl rfl rfl rfl rfl rfl rfl⟩, _, rfl⟩
                          · refine zw_iload_n 13 f13_12 rfl rfl ?_
                            refine zw_bipush 8 15 f13_13 rfl (by decide +kernel) ?_
                            refine zw_ic_ge 18 22 f13_15 (by decide +kernel) rfl (fun hc73 => ?_) (fun hc73 => ?_)
                            · refine zw_iconst 0 23 f13_22 rfl (by decide +kernel) ?_
                              refine zw_zreturn f13_23 r13 u13 (by decide +kernel) ⟨_, rfl, ?_⟩
                              refine zw_if_ne_f 11 18 f109_8 (by decide +kernel) rfl (by decide +kernel) ?_
                              refine zw_aload_n 12 f109_11 rfl rfl ?_
                              refine zw_bipush 10 14 f109_12 rfl (by decide +kernel) ?_
                              refine zw_virtual_i 17 0 0 [.ref 0, .int 10] [(0, .ref 0), (1, .int 10)] f109_14 rfl n109_78 k109_78_11 rfl (hb_0 _ _ _ _) (by decide +kernel) (Nat.le_of_ble_eq_true rfl) rfl rfl (by decide +kernel) (by decide +kernel) rfl (Nat.le_of_ble_eq_true rfl) rfl ?_
                              refine zw_aload_n 1 f105_0 rfl rfl ?_
                              refine zw_iload_n 2 f105_1 rfl rfl ?_
                              refine zw_put _ 5 f105_2 rfl g105_70_11 (hb_0 _ _ _ _) rfl (Nat.le_of_ble_eq_true rfl) (by decide +kernel) (hi_0_7 _ _ _ _ _) ?_
                              refine zw_iconst (-1) 6 f105_5 rfl (by decide +kernel) ?_
                              refine zw_ireturn f105_6 r105 u105 ⟨_, rfl, ?_⟩
                              refine zw_ireturn f109_17 r109 u109 ⟨_, rfl, ?_⟩
                              refine zw_ireturn f103_91 r103 u103 ?_
                              exact ⟨_, _, _, _, rfl, (KP.i rfl KP.rf), ⟨⟨hI.1, hI.2.1, t, by omega, et⟩, PE.of10 rfl rfl rfl rfl rfl rfl rfl rfl rfl rfl⟩, _, rfl⟩
                            · refine zw_iconst 1 19 f13_18 rfl (by decide +kernel) ?_
                              refine zw_goto 23 f13_19 (by decide +kernel) ?_
                              refine zw_zreturn f13_23 r13 u13 (by decide +kernel) ⟨_, rfl, ?_⟩
                              refine zw_if_ne_t 18 f109_8 (by decide +kernel) (by decide +kernel) ?_
                              refine zw_aload_n 19 f109_18 rfl rfl ?_
                              refine zw_getfield 22 f109_19 rfl g109_10_11 (hb_0 _ _ _ _) rfl ?_
                              refine zw_iload_n 23 f109_22 rfl rfl ?_
                              refine zw_virtual_i 26 0 0 [.ref 1, .int (c - c / 8 * 8)] [(0, .ref 1), (1, .int (c - c / 8 * 8))] f109_23 rfl n109_112 k109_112_4 rfl (hb_1 _ _ _ _) (by decide +kernel) (Nat.le_of_ble_eq_true rfl) rfl rfl (by decide +kernel) (by decide +kernel) rfl (Nat.le_of_ble_eq_true rfl) rfl ?_
                              refine zw_iload_n 1 f15_0 rfl rfl ?_
                              refine zw_if_lt_f 4 27 f15_1 (by decide +kernel) rfl hc71 ?_
                              refine zw_iload_n 5 f15_4 rfl rfl ?_
                              refine zw_aload_n 6 f15_5 rfl rfl ?_
                              refine zw_getI (nI nv) 9 f15_6 rfl g15_39_4 (hb_1 _ _ _ _) rfl hI.1.1.1 ?_
                              refine zw_ic_ge_f 12 27 f15_9 (by decide +kernel) rfl hc72 ?_
                              refine zw_iload_n 13 f15_12 rfl rfl ?_
                              refine zw_bipush 8 15 f15_13 rfl (by decide +kernel) ?_
                              refine zw_ic_ge_f 18 27 f15_15 (by decide +kernel) rfl hc73 ?_
                              refine zw_aload_n 19 f15_18 rfl rfl ?_
                              refine zw_getfield 22 f15_19 rfl g15_9_4 (hb_1 _ _ _ _) rfl ?_
                              refine zw_iload_n 23 f15_22 rfl rfl ?_
                              refine zw_iaload (c - c / 8 * 8).toNatClampNeg (A 2 (c - c / 8 * 8).toNatClampNeg) 24 f15_23 rfl (hb_2 _ _ _ _) rfl hc71 (zix (by decide) hc71 hc73) rfl ?_
                              refine zw_goto 28 f15_24 (by decide +kernel) ?_
                              refine zw_ireturn f15_28 r15 u15 ⟨_, rfl, ?_⟩
                              refine zw_istore_n _ 27 f109_26 rfl (by decide +kernel) rfl ?_
                              refine zw_iload_n 28 f109_27 rfl zl1_eq ?_
                              refine zw_iload_n 29 f109_28 rfl (zl1_ne rfl rfl rfl) ?_
                              refine zw_static_i 32 0 0 [.int (A 2 (c - c / 8 * 8).toNatClampNeg), .int (b - b / 5 * 5)] [] [(0, .int (A 2 (c - c / 8 * 8).toNatClampNeg)), (1, .int (b - b / 5 * 5))] f109_29 rfl k109_327_99 rfl (by decide +kernel) (Nat.le_of_ble_eq_true rfl) (Nat.le_of_ble_eq_true rfl) rfl rfl (by decide +kernel) (by decide +kernel) rfl (Nat.le_of_ble_eq_true rfl) rfl ?_
                              refine zw_iload_n 1 f114_0 rfl rfl ?_
                              refine zw_istore_n _ 2 f114_1 rfl (by decide +kernel) rfl ?_
                              refine zw_iconst 0 3 f114_2 rfl (by decide +kernel) ?_
                              refine zw_istore_n _ 4 f114_3 rfl (by decide +kernel) rfl ?_
                              refine zw_iload_n 5 f114_4 rfl zl1_eq ?_
                              refine zw_iconst 5 6 f114_5 rfl (by decide +kernel) ?_
                              refine zw_ic_ge_f 9 37 f114_6 (by decide +kernel) rfl (by decide +kernel) ?_
                              refine zw_iload_n 10 f114_9 rfl (zl1_ne rfl rfl zl1_eq) ?_
                              refine zw_iconst 0 11 f114_10 rfl (by decide +kernel) ?_
                              refine zw_iconst 4 12 f114_11 rfl (by decide +kernel) ?_
                              refine zw_static_i 15 0 0 [.int (A 2 (c - c / 8 * 8).toNatClampNeg), .int 0, .int 4] [] [(0, .int (A 2 (c - c / 8 * 8).toNatClampNeg)), (1, .int 0), (2, .int 4)] f114_12 rfl k114_74_99 rfl (by decide +kernel) (Nat.le_of_ble_eq_true rfl) (Nat.le_of_ble_eq_true rfl) rfl rfl (by decide +kernel) (by decide +kernel) rfl (Nat.le_of_ble_eq_true rfl) rfl ?_
                              refine zw_iload_n 1 f112_0 rfl rfl ?_
                              refine zw_iload_n 2 f112_1 rfl rfl ?_
                              refine zw_ic_lt 5 14 f112_2 (by decide +kernel) rfl (fun hc74 => ?_) (fun hc74 => ?_)
                              · refine zw_iconst 0 15 f112_14 rfl (by decide +kernel) ?_
                                refine zw_zreturn f112_15 r112 u112 (by decide +kernel) ⟨_, rfl, ?_⟩
                                refine zw_if_eq_t 37 f114_15 (by decide +kernel) (by decide +kernel) ?_
                                refine zw_iconst 0 38 f114_37 rfl (by decide +kernel) ?_
                                refine zw_zreturn f114_38 r114 u114 (by decide +kernel) ⟨_, rfl, ?_⟩
                                refine zw_if_eq_t 43 f109_32 (by decide +kernel) (by decide +kernel) ?_
                                refine zw_aload_n 44 f109_43 rfl (zl1_ne rfl rfl rfl) ?_
                                refine zw_bipush 11 46 f109_44 rfl (by decide +kernel) ?_
                                refine zw_virtual_i 49 0 0 [.ref 0, .int 11] [(0, .ref 0), (1, .int 11)] f109_46 rfl n109_78 k109_78_11 rfl (hb_0 _ _ _ _) (by decide +kernel) (Nat.le_of_ble_eq_true rfl) rfl rfl (by decide +kernel) (by decide +kernel) rfl (Nat.le_of_ble_eq_true rfl) rfl ?_
                                refine zw_aload_n 1 f105_0 rfl rfl ?_
                                refine zw_iload_n 2 f105_1 rfl rfl ?_
                                refine zw_put _ 5 f105_2 rfl g105_70_11 (hb_0 _ _ _ _) rfl (Nat.le_of_ble_eq_true rfl) (by decide +kernel) (hi_0_7 _ _ _ _ _) ?_
                                refine zw_iconst (-1) 6 f105_5 rfl (by decide +kernel) ?_
                                refine zw_ireturn f105_6 r105 u105 ⟨_, rfl, ?_⟩
                                refine zw_ireturn f109_49 r109 u109 ⟨_, rfl, ?_⟩
                                refine zw_ireturn f103_91 r103 u103 ?_
                                exact ⟨_, _, _, _, rfl, (KP.i rfl KP.rf), ⟨⟨hI.1, hI.2.1, t, by omega, et⟩, PE.of10 rfl rfl rfl rfl rfl rfl rfl rfl rfl rfl⟩, _, rfl⟩
                              · refine zw_iload_n 6 f112_5 rfl rfl ?_
                                refine zw_iload_n 7 f112_6 rfl rfl ?_
                                refine zw_ic_gt 10 14 f112_7 (by decide +kernel) rfl (fun hc75 => ?_) (fun hc75 => ?_)
                                · refine zw_iconst 0 15 f112_14 rfl (by decide +kernel) ?_
                                  refine zw_zreturn f112_15 r112 u112 (by decide +kernel) ⟨_, rfl, ?_⟩
                                  refine zw_if_eq_t 37 f114_15 (by decide +kernel) (by decide +kernel) ?_
                                  refine zw_iconst 0 38 f114_37 rfl (by decide +kernel) ?_
                                  refine zw_zreturn f114_38 r114 u114 (by decide +kernel) ⟨_, rfl, ?_⟩
                                  refine zw_if_eq_t 43 f109_32 (by decide +kernel) (by decide +kernel) ?_
                                  refine zw_aload_n 44 f109_43 rfl (zl1_ne rfl rfl rfl) ?_
                                  refine zw_bipush 11 46 f109_44 rfl (by decide +kernel) ?_
                                  refine zw_virtual_i 49 0 0 [.ref 0, .int 11] [(0, .ref 0), (1, .int 11)] f109_46 rfl n109_78 k109_78_11 rfl (hb_0 _ _ _ _) (by decide +kernel) (Nat.le_of_ble_eq_true rfl) rfl rfl (by decide +kernel) (by decide +kernel) rfl (Nat.le_of_ble_eq_true rfl) rfl ?_
                                  refine zw_aload_n 1 f105_0 rfl rfl ?_
                                  refine zw_iload_n 2 f105_1 rfl rfl ?_
                                  refine zw_put _ 5 f105_2 rfl g105_70_11 (hb_0 _ _ _ _) rfl (Nat.le_of_ble_eq_true rfl) (by decide +kernel) (hi_0_7 _ _ _ _ _) ?_
                                  refine zw_iconst (-1) 6 f105_5 rfl (by decide +kernel) ?_
                                  refine zw_ireturn f105_6 r105 u105 ⟨_, rfl, ?_⟩
                                  refine zw_ireturn f109_49 r109 u109 ⟨_, rfl, ?_⟩
                                  refine zw_ireturn f103_91 r103 u103 ?_
                                  exact ⟨_, _, _, _, rfl, (KP.i rfl KP.rf), ⟨⟨hI.1, hI.2.1, t, by omega, et⟩, PE.of10 rfl rfl rfl rfl rfl rfl rfl rfl rfl rfl⟩, _, rfl⟩
                                · refine zw_iconst 1 11 f112_10 rfl (by decide +kernel) ?_
                                  refine zw_goto 15 f112_11 (by decide +kernel) ?_
                                  refine zw_zreturn f112_15 r112 u112 (by decide +kernel) ⟨_, rfl, ?_⟩
                                  refine zw_if_eq_f 18 37 f114_15 (by decide +kernel) rfl (by decide +kernel) ?_
                                  refine zw_iload_n 19 f114_18 rfl (zl1_ne rfl rfl zl1_eq) ?_
                                  refine zw_iload_n 20 f114_19 rfl (zl1_ne rfl rfl (zl1_ne rfl rfl rfl)) ?_
                                  refine zw_ic_ne 23 25 f114_20 (by decide +kernel) rfl (fun hc76 => ?_) (fun hc76 => ?_)
                                  · refine zw_getstatic 28 f114_25 rfl (by decide +kernel) ?_
                                    refine zw_iload_n 29 f114_28 rfl (zl1_ne rfl rfl zl1_eq) ?_
                                    refine zw_iaload_f (A 2 (c - c / 8 * 8).toNatClampNeg).toNatClampNeg 5 (zka (A 2 (c - c / 8 * 8).toNatClampNeg).toNatClampNeg) 30 f114_29 rfl hro.1 rfl hc74 (zix (by decide) hc74 (n45 hc75)) (congrFun hro.2 _) ?_
                                    refine zw_istore_n _ 31 f114_30 rfl (by decide +kernel) rfl ?_
                                    refine zw_iinc 1 _ 34 f114_31 rfl (zl1_ne rfl rfl zl1_eq) (by decide +kernel) (by decide +kernel) rfl ?_
                                    refine zw_goto 4 f114_34 (by decide +kernel) ?_
                                    refine zw_iload_n 5 f114_4 rfl zl1_eq ?_
                                    refine zw_iconst 5 6 f114_5 rfl (by decide +kernel) ?_
                                    refine zw_ic_ge_f 9 37 f114_6 (by decide +kernel) rfl (by decide +kernel) ?_
                                    refine zw_iload_n 10 f114_9 rfl (zl1_ne rfl rfl zl1_eq) ?_
                                    refine zw_iconst 0 11 f114_10 rfl (by decide +kernel) ?_
                                    refine zw_iconst 4 12 f114_11 rfl (by decide +kernel) ?_
                                    refine zw_static_i 15 0 0 [.int (zka (A 2 (c - c / 8 * 8).toNatClampNeg).toNatClampNeg), .int 0, .int 4] [] [(0, .int (zka (A 2 (c - c / 8 * 8).toNatClampNeg).toNatClampNeg)), (1, .int 0), (2, .int 4)] f114_12 rfl k114_74_99 rfl (by decide +kernel) (Nat.le_of_ble_eq_true rfl) (Nat.le_of_ble_eq_true rfl) rfl rfl (by decide +kernel) (by decide +kernel) rfl (Nat.le_of_ble_eq_true rfl) rfl ?_
                                    refine zw_iload_n 1 f112_0 rfl rfl ?_
                                    refine zw_iload_n 2 f112_1 rfl rfl ?_
                                    refine zw_ic_lt 5 14 f112_2 (by decide +kernel) rfl (fun hc77 => ?_) (fun hc77 => ?_)
                                    · refine zw_iconst 0 15 f112_14 rfl (by decide +kernel) ?_
                                      refine zw_zreturn f112_15 r112 u112 (by decide +kernel) ⟨_, rfl, ?_⟩
                                      refine zw_if_eq_t 37 f114_15 (by decide +kernel) (by decide +kernel) ?_
                                      refine zw_iconst 0 38 f114_37 rfl (by decide +kernel) ?_
                                      refine zw_zreturn f114_38 r114 u114 (by decide +kernel) ⟨_, rfl, ?_⟩
                                      refine zw_if_eq_t 43 f109_32 (by decide +kernel) (by decide +kernel) ?_
                                      refine zw_aload_n 44 f109_43 rfl (zl1_ne rfl rfl rfl) ?_
                                      refine zw_bipush 11 46 f109_44 rfl (by decide +kernel) ?_
                                      refine zw_virtual_i 49 0 0 [.ref 0, .int 11] [(0, .ref 0), (1, .int 11)] f109_46 rfl n109_78 k109_78_11 rfl (hb_0 _ _ _ _) (by decide +kernel) (Nat.le_of_ble_eq_true rfl) rfl rfl (by decide +kernel) (by decide +kernel) rfl (Nat.le_of_ble_eq_true rfl) rfl ?_
                                      refine zw_aload_n 1 f105_0 rfl rfl ?_
                                      refine zw_iload_n 2 f105_1 rfl rfl ?_
                                      refine zw_put _ 5 f105_2 rfl g105_70_11 (hb_0 _ _ _ _) rfl (Nat.le_of_ble_eq_true rfl) (by decide +kernel) (hi_0_7 _ _ _ _ _) ?_
                                      refine zw_iconst (-1) 6 f105_5 rfl (by decide +kernel) ?_
                                      refine zw_ireturn f105_6 r105 u105 ⟨_, rfl, ?_⟩
                                      refine zw_ireturn f109_49 r109 u109 ⟨_, rfl, ?_⟩
                                      refine zw_ireturn f103_91 r103 u103 ?_
                                      exact ⟨_, _, _, _, rfl, (KP.i rfl KP.rf), ⟨⟨hI.1, hI.2.1, t, by omega, et⟩, PE.of10 rfl rfl rfl rfl rfl rfl rfl rfl rfl rfl⟩, _, rfl⟩
                                    · refine zw_iload_n 6 f112_5 rfl rfl ?_
                                      refine zw_iload_n 7 f112_6 rfl rfl ?_
                                      refine zw_ic_gt 10 14 f112_7 (by decide +kernel) rfl (fun hc78 => ?_) (fun hc78 => ?_)
                                      · refine zw_iconst 0 15 f112_14 rfl (by decide +kernel) ?_
                                        refine zw_zreturn f112_15 r112 u112 (by decide +kernel) ⟨_, rfl, ?_⟩
                                        refine zw_if_eq_t 37 f114_15 (by decide +kernel) (by decide +kernel) ?_
                                        refine zw_iconst 0 38 f114_37 rfl (by decide +kernel) ?_
                                        refine zw_zreturn f114_38 r114 u114 (by decide +kernel) ⟨_, rfl, ?_⟩
                                        refine zw_if_eq_t 43 f109_32 (by decide +kernel) (by decide +kernel) ?_
                                        refine zw_aload_n 44 f109_43 rfl (zl1_ne rfl rfl rfl) ?_
                                        refine zw_bipush 11 46 f109_44 rfl (by decide +kernel) ?_
                                        refine zw_virtual_i 49 0 0 [.ref 0, .int 11] [(0, .ref 0), (1, .int 11)] f109_46 rfl n109_78 k109_78_11 rfl (hb_0 _ _ _ _) (by decide +kernel) (Nat.le_of_ble_eq_true rfl) rfl rfl (by decide +kernel) (by decide +kernel) rfl (Nat.le_of_ble_eq_true rfl) rfl ?_
                                        refine zw_aload_n 1 f105_0 rfl rfl ?_
                                        refine zw_iload_n 2 f105_1 rfl rfl ?_
                                        refine zw_put _ 5 f105_2 rfl g105_70_11 (hb_0 _ _ _ _) rfl (Nat.le_of_ble_eq_true rfl) (by decide +kernel) (hi_0_7 _ _ _ _ _) ?_
                                        refine zw_iconst (-1) 6 f105_5 rfl (by decide +kernel) ?_
                                        refine zw_ireturn f105_6 r105 u105 ⟨_, rfl, ?_⟩
                                        refine zw_ireturn f109_49 r109 u109 ⟨_, rfl, ?_⟩
                                        refine zw_ireturn f103_91 r103 u103 ?_
                                        exact ⟨_, _, _, _, rfl, (KP.i rfl KP.rf), ⟨⟨hI.1, hI.2.1, t, by omega, et⟩, PE.of10 rfl rfl rfl rfl rfl rfl rfl rfl rfl rfl⟩, _, rfl⟩
                                      · refine zw_iconst 1 11 f112_10 rfl (by decide +kernel) ?_
                                        refine zw_goto 15 f112_11 (by decide +kernel) ?_
                                        refine zw_zreturn f112_15 r112 u112 (by decide +kernel) ⟨_, rfl, ?_⟩
                                        refine zw_if_eq_f 18 37 f114_15 (by decide +kernel) rfl (by decide +kernel) ?_
                                        refine zw_iload_n 19 f114_18 rfl (zl1_ne rfl rfl zl1_eq) ?_
                                        refine zw_iload_n 20 f114_19 rfl (zl1_ne rfl rfl (zl1_ne rfl rfl (zl1_ne rfl rfl (zl1_ne rfl rfl rfl)))) ?_
                                        refine zw_ic_ne 23 25 f114_20 (by decide +kernel) rfl (fun hc79 => ?_) (fun hc79 => ?_)
                                        · refine zw_getstatic 28 f114_25 rfl (by decide +kernel) ?_
                                          refine zw_iload_n 29 f114_28 rfl (zl1_ne rfl rfl zl1_eq) ?_
                                          refine zw_iaload_f (zka (A 2 (c - c / 8 * 8).toNatClampNeg).toNatClampNeg).toNatClampNeg 5 (zka (zka (A 2 (c - c / 8 * 8).toNatClampNeg).toNatClampNeg).toNatClampNeg) 30 f114_29 rfl hro.1 rfl hc77 (zix (by decide) hc77 (n45 hc78)) (congrFun hro.2 _) ?_
                                          refine zw_istore_n _ 31 f114_30 rfl (by decide +kernel) rfl ?_
                                          refine zw_iinc 2 _ 34 f114_31 rfl (zl1_ne rfl rfl zl1_eq) (by decide +kernel) (by decide +kernel) rfl ?_
                                          refine zw_goto 4 f114_34 (by decide +kernel) ?_
                                          refine zw_iload_n 5 f114_4 rfl zl1_eq ?_
                                          refine zw_iconst 5 6 f114_5 rfl (by decide +kernel) ?_
                                          refine zw_ic_ge_f 9 37 f114_6 (by decide +kernel) rfl (by decide +kernel) ?_
                                          refine zw_iload_n 10 f114_9 rfl (zl1_ne rfl rfl zl1_eq) ?_
                                          refine zw_iconst 0 11 f114_10 rfl (by decide +kernel) ?_
                                          refine zw_iconst 4 12 f114_11 rfl (by decide +kernel) ?_
                                          refine zw_static_i 15 0 0 [.int (zka (zka (A 2 (c - c / 8 * 8).toNatClampNeg).toNatClampNeg).toNatClampNeg), .int 0, .int 4] [] [(0, .int (zka (zka (A 2 (c - c / 8 * 8).toNatClampNeg).toNatClampNeg).toNatClampNeg)), (1, .int 0), (2, .int 4)] f114_12 rfl k114_74_99 rfl (by decide +kernel) (Nat.le_of_ble_eq_true rfl) (Nat.le_of_ble_eq_true rfl) rfl rfl (by decide +kernel) (by decide +kernel) rfl (Nat.le_of_ble_eq_true rfl) rfl ?_
                                          refine zw_iload_n 1 f112_0 rfl rfl ?_
                                          refine zw_iload_n 2 f112_1 rfl rfl ?_
                                          refine zw_ic_lt 5 14 f112_2 (by decide +kernel) rfl (fun hc80 => ?_) (fun hc80 => ?_)
                                          · refine zw_iconst 0 15 f112_14 rfl (by decide +kernel) ?_
                                            refine zw_zreturn f112_15 r112 u112 (by decide +kernel) ⟨_, rfl, ?_⟩
                                            refine zw_if_eq_t 37 f114_15 (by decide +kernel) (by decide +kernel) ?_
                                            refine zw_iconst 0 38 f114_37 rfl (by decide +kernel) ?_
                                            refine zw_zreturn f114_38 r114 u114 (by decide +kernel) ⟨_, rfl, ?_⟩
                                            refine zw_if_eq_t 43 f109_32 (by decide +kernel) (by decide +kernel) ?_
                                            refine zw_aload_n 44 f109_43 rfl (zl1_ne rfl rfl rfl) ?_
                                            refine zw_bipush 11 46 f109_44 rfl (by decide +kernel) ?_
                                            refine zw_virtual_i 49 0 0 [.ref 0, .int 11] [(0, .ref 0), (1, .int 11)] f109_46 rfl n109_78 k109_78_11 rfl (hb_0 _ _ _ _) (by decide +kernel) (Nat.le_of_ble_eq_true rfl) rfl rfl (by decide +kernel) (by decide +kernel) rfl (Nat.le_of_ble_eq_true rfl) rfl ?_
                                            refine zw_aload_n 1 f105_0 rfl rfl ?_
                                            refine zw_iload_n 2 f105_1 rfl rfl ?_
                                            refine zw_put _ 5 f105_2 rfl g105_70_11 (hb_0 _ _ _ _) rfl (Nat.le_of_ble_eq_true rfl) (by decide +kernel) (hi_0_7 _ _ _ _ _) ?_
                                            refine zw_iconst (-1) 6 f105_5 rfl (by decide +kernel) ?_
                                            refine zw_ireturn f105_6 r105 u105 ⟨_, rfl, ?_⟩
                                            refine zw_ireturn f109_49 r109 u109 ⟨_, rfl, ?_⟩
                                            refine zw_ireturn f103_91 r103 u103 ?_
                                            exact ⟨_, _, _, _, rfl, (KP.i rfl KP.rf), ⟨⟨hI.1, hI.2.1, t, by omega, et⟩, PE.of10 rfl rfl rfl rfl rfl rfl rfl rfl rfl rfl⟩, _, rfl⟩
                                          · refine zw_iload_n 6 f112_5 rfl rfl ?_
                                            refine zw_iload_n 7 f112_6 rfl rfl ?_
                                            refine zw_ic_gt 10 14 f112_7 (by decide +kernel) rfl (fun hc81 => ?_) (fun hc81 => ?_)
                                            · refine zw_iconst 0 15 f112_14 rfl (by decide +kernel) ?_
                                              refine zw_zreturn f112_15 r112 u112 (by decide +kernel) ⟨_, rfl, ?_⟩
                                              refine zw_if_eq_t 37 f114_15 (by decide +kernel) (by decide +kernel) ?_
                                              refine zw_iconst 0 38 f114_37 rfl (by decide +kernel) ?_
                                              refine zw_zreturn f114_38 r114 u114 (by decide +kernel) ⟨_, rfl, ?_⟩
                                              refine zw_if_eq_t 43 f109_32 (by decide +kernel) (by decide +kernel) ?_
                                              refine zw_aload_n 44 f109_43 rfl (zl1_ne rfl rfl rfl) ?_
                                              refine zw_bipush 11 46 f109_44 rfl (by decide +kernel) ?_
                                              refine zw_virtual_i 49 0 0 [.ref 0, .int 11] [(0, .ref 0), (1, .int 11)] f109_46 rfl n109_78 k109_78_11 rfl (hb_0 _ _ _ _) (by decide +kernel) (Nat.le_of_ble_eq_true rfl) rfl rfl (by decide +kernel) (by decide +kernel) rfl (Nat.le_of_ble_eq_true rfl) rfl ?_
                                              refine zw_aload_n 1 f105_0 rfl rfl ?_
                                              refine zw_iload_n 2 f105_1 rfl rfl ?_
                                              refine zw_put _ 5 f105_2 rfl g105_70_11 (hb_0 _ _ _ _) rfl (Nat.le_of_ble_eq_true rfl) (by decide +kernel) (hi_0_7 _ _ _ _ _) ?_
                                              refine zw_iconst (-1) 6 f105_5 rfl (by decide +kernel) ?_
                                              refine zw_ireturn f105_6 r105 u105 ⟨_, rfl, ?_⟩
                                              refine zw_ireturn f109_49 r109 u109 ⟨_, rfl, ?_⟩
                                              refine zw_ireturn f103_91 r103 u103 ?_
                                              exact ⟨_, _, _, _, rfl, (KP.i rfl KP.rf), ⟨⟨hI.1, hI.2.1, t, by omega, et⟩, PE.of10 rfl rfl rfl rfl rfl rfl rfl rfl rfl rfl⟩, _, rfl⟩
                                            · refine zw_iconst 1 11 f112_10 rfl (by decide +kernel) ?_
                                              refine zw_goto 15 f112_11 (by decide +kernel) ?_
                                              refine zw_zreturn f112_15 r112 u112 (by decide +kernel) ⟨_, rfl, ?_⟩
                                              refine zw_if_eq_f 18 37 f114_15 (by decide +kernel) rfl (by decide +kernel) ?_
                                              refine zw_iload_n 19 f114_18 rfl (zl1_ne rfl rfl zl1_eq) ?_
                                              refine zw_iload_n 20 f114_19 rfl (zl1_ne rfl rfl (zl1_ne rfl rfl (zl1_ne rfl rfl (zl1_ne rfl rfl (zl1_ne rfl rfl (zl1_ne rfl rfl rfl)))))) ?_
                                              refine zw_ic_ne 23 25 f114_20 (by decide +kernel) rfl (fun hc82 => ?_) (fun hc82 => ?_)
                                              · refine zw_getstatic 28 f114_25 rfl (by decide +kernel) ?_
                                                refine zw_iload_n 29 f114_28 rfl (zl1_ne rfl rfl zl1_eq) ?_
                                                refine zw_iaload_f (zka (zka (A 2 (c - c / 8 * 8).toNatClampNeg).toNatClampNeg).toNatClampNeg).toNatClampNeg 5 (zka (zka (zka (A 2 (c - c / 8 * 8).toNatClampNeg).toNatClampNeg).toNatClampNeg).toNatClampNeg) 30 f114_29 rfl hro.1 rfl hc80 (zix (by decide) hc80 (n45 hc81)) (congrFun hro.2 _) ?_
                                                refine zw_istore_n _ 31 f114_30 rfl (by decide +kernel) rfl ?_
                                                refine zw_iinc 3 _ 34 f114_31 rfl (zl1_ne rfl rfl zl1_eq) (by decide +kernel) (by decide +kernel) rfl ?_
                                                refine zw_goto 4 f114_34 (by decide +kernel) ?_
                                                refine zw_iload_n 5 f114_4 rfl zl1_eq ?_
                                                refine zw_iconst 5 6 f114_5 rfl (by decide +kernel) ?_
                                                refine zw_ic_ge_f 9 37 f114_6 (by decide +kernel) rfl (by decide +kernel) ?_
                                                refine zw_iload_n 10 f114_9 rfl (zl1_ne rfl rfl zl1_eq) ?_
                                                refine zw_iconst 0 11 f114_10 rfl (by decide +kernel) ?_
                                                refine zw_iconst 4 12 f114_11 rfl (by decide +kernel) ?_
                                                refine zw_static_i 15 0 0 [.int (zka (zka (zka (A 2 (c - c / 8 * 8).toNatClampNeg).toNatClampNeg).toNatClampNeg).toNatClampNeg), .int 0, .int 4] [] [(0, .int (zka (zka (zka (A 2 (c - c / 8 * 8).toNatClampNeg).toNatClampNeg).toNatClampNeg).toNatClampNeg)), (1, .int 0), (2, .int 4)] f114_12 rfl k114_74_99 rfl (by decide +kernel) (Nat.le_of_ble_eq_true rfl) (Nat.le_of_ble_eq_true rfl) rfl rfl (by decide +kernel) (by decide +kernel) rfl (Nat.le_of_ble_eq_true rfl) rfl ?_
                                                refine zw_iload_n 1 f112_0 rfl rfl ?_
                                                refine zw_iload_n 2 f112_1 rfl rfl ?_
                                                refine zw_ic_lt 5 14 f112_2 (by decide +kernel) rfl (fun hc83 => ?_) (fun hc83 => ?_)
                                                · refine zw_iconst 0 15 f112_14 rfl (by decide +kernel) ?_
                                                  refine zw_zreturn f112_15 r112 u112 (by decide +kernel) ⟨_, rfl, ?_⟩
                                                  refine zw_if_eq_t 37 f114_15 (by decide +kernel) (by decide +kernel) ?_
                                                  refine zw_iconst 0 38 f114_37 rfl (by decide +kernel) ?_
                                                  refine zw_zreturn f114_38 r114 u114 (by decide +kernel) ⟨_, rfl, ?_⟩
                                                  refine zw_if_eq_t 43 f109_32 (by decide +kernel) (by decide +kernel) ?_
                                                  refine zw_aload_n 44 f109_43 rfl (zl1_ne rfl rfl rfl) ?_
                                                  refine zw_bipush 11 46 f109_44 rfl (by decide +kernel) ?_
                                                  refine zw_virtual_i 49 0 0 [.ref 0, .int 11] [(0, .ref 0), (1, .int 11)] f109_46 rfl n109_78 k109_78_11 rfl (hb_0 _ _ _ _) (by decide +kernel) (Nat.le_of_ble_eq_true rfl) rfl rfl (by decide +kernel) (by decide +kernel) rfl (Nat.le_of_ble_eq_true rfl) rfl ?_
                                                  refine zw_aload_n 1 f105_0 rfl rfl ?_
                                                  refine zw_iload_n 2 f105_1 rfl rfl ?_
                                                  refine zw_put _ 5 f105_2 rfl g105_70_11 (hb_0 _ _ _ _) rfl (Nat.le_of_ble_eq_true rfl) (by decide +kernel) (hi_0_7 _ _ _ _ _) ?_
                                                  refine zw_iconst (-1) 6 f105_5 rfl (by decide +kernel) ?_
                                                  refine zw_ireturn f105_6 r105 u105 ⟨_, rfl, ?_⟩
                                                  refine zw_ireturn f109_49 r109 u109 ⟨_, rfl, ?_⟩
                                                  refine zw_ireturn f103_91 r103 u103 ?_
                                                  exact ⟨_, _, _, _, rfl, (KP.i rfl KP.rf), ⟨⟨hI.1, hI.2.1, t, by omega, et⟩, PE.of10 rfl rfl rfl rfl rfl rfl rfl rfl rfl rfl⟩, _, rfl⟩
                                                · refine zw_iload_n 6 f112_5 rfl rfl ?_
                                                  refine zw_iload_n 7 f112_6 rfl rfl ?_
                                                  refine zw_ic_gt 10 14 f112_7 (by decide +kernel) rfl (fun hc84 => ?_) (fun hc84 => ?_)
                                                  · refine zw_iconst 0 15 f112_14 rfl (by decide +kernel) ?_
                                                    refine zw_zreturn f112_15 r112 u112 (by decide +kernel) ⟨_, rfl, ?_⟩
                                                    refine zw_if_eq_t 37 f114_15 (by decide +kernel) (by decide +kernel) ?_
                                                    refine zw_iconst 0 38 f114_37 rfl (by decide +kernel) ?_
                                                    refine zw_zreturn f114_38 r114 u114 (by decide +kernel) ⟨_, rfl, ?_⟩
                                                    refine zw_if_eq_t 43 f109_32 (by decide +kernel) (by decide +kernel) ?_
                                                    refine zw_aload_n 44 f109_43 rfl (zl1_ne rfl rfl rfl) ?_
                                                    refine zw_bipush 11 46 f109_44 rfl (by decide +kernel) ?_
                                                    refine zw_virtual_i 49 0 0 [.ref 0, .int 11] [(0, .ref 0), (1, .int 11)] f109_46 rfl n109_78 k109_78_11 rfl (hb_0 _ _ _ _) (by decide +kernel) (Nat.le_of_ble_eq_true rfl) rfl rfl (by decide +kernel) (by decide +kernel) rfl (Nat.le_of_ble_eq_true rfl) rfl ?_
                                                    refine zw_aload_n 1 f105_0 rfl rfl ?_
                                                    refine zw_iload_n 2 f105_1 rfl rfl ?_
                                                    refine zw_put _ 5 f105_2 rfl g105_70_11 (hb_0 _ _ _ _) rfl (Nat.le_of_ble_eq_true rfl) (by decide +kernel) (hi_0_7 _ _ _ _ _) ?_
                                                    refine zw_iconst (-1) 6 f105_5 rfl (by decide +kernel) ?_
                                                    refine zw_ireturn f105_6 r105 u105 ⟨_, rfl, ?_⟩
                                                    refine zw_ireturn f109_49 r109 u109 ⟨_, rfl, ?_⟩
                                                    refine zw_ireturn f103_91 r103 u103 ?_
                                                    exact ⟨_, _, _, _, rfl, (KP.i rfl KP.rf), ⟨⟨hI.1, hI.2.1, t, by omega, et⟩, PE.of10 rfl rfl rfl rfl rfl rfl rfl rfl rfl rfl⟩, _, rfl⟩
                                                  · refine zw_iconst 1 11 f112_10 rfl (by decide +kernel) ?_
                                                    refine zw_goto 15 f112_11 (by decide +kernel) ?_
                                                    refine zw_zreturn f112_15 r112 u112 (by decide +kernel) ⟨_, rfl, ?_⟩
                                                    refine zw_if_eq_f 18 37 f114_15 (by decide +kernel) rfl (by decide +kernel) ?_
                                                    refine zw_iload_n 19 f114_18 rfl (zl1_ne rfl rfl zl1_eq) ?_
                                                    refine zw_iload_n 20 f114_19 rfl (zl1_ne rfl rfl (zl1_ne rfl rfl (zl1_ne rfl rfl (zl1_ne rfl rfl (zl1_ne rfl rfl (zl1_ne rfl rfl (zl1_ne rfl rfl (zl1_ne rfl rfl rfl)))))))) ?_
                                                    refine zw_ic_ne 23 25 f114_20 (by decide +kernel) rfl (fun hc85 => ?_) (fun hc85 => ?_)
                                                    · refine zw_getstatic 28 f114_25 rfl (by decide +kernel) ?_
                                                      refine zw_iload_n 29 f114_28 rfl (zl1_ne rfl rfl zl1_eq) ?_
                                                      refine zw_iaload_f (zka (zka (zka (A 2 (c - c / 8 * 8).toNatClampNeg).toNatClampNeg).toNatClampNeg).toNatClampNeg).toNatClampNeg 5 (zka (zka (zka (zka (A 2 (c - c / 8 * 8).toNatClampNeg).toNatClampNeg).toNatClampNeg).toNatClampNeg).toNatClampNeg) 30 f114_29 rfl hro.1 rfl hc83 (zix (by decide) hc83 (n45 hc84)) (congrFun hro.2 _) ?_
                                                      refine zw_istore_n _ 31 f114_30 rfl (by decide +kernel) rfl ?_
                                                      refine zw_iinc 4 _ 34 f114_31 rfl (zl1_ne rfl rfl zl1_eq) (by decide +kernel) (by decide +kernel) rfl ?_
                                                      refine zw_goto 4 f114_34 (by decide +kernel) ?_
                                                      refine zw_iload_n 5 f114_4 rfl zl1_eq ?_
                                                      refine zw_iconst 5 6 f114_5 rfl (by decide +kernel) ?_
                                                      refine zw_ic_ge_f 9 37 f114_6 (by decide +kernel) rfl (by decide +kernel) ?_
                                                      refine zw_iload_n 10 f114_9 rfl (zl1_ne rfl rfl zl1_eq) ?_
                                                      refine zw_iconst 0 11 f114_10 rfl (by decide +kernel) ?_
                                                      refine zw_iconst 4 12 f114_11 rfl (by decide +kernel) ?_
                                                      refine zw_static_i 15 0 0 [.int (zka (zka (zka (zka (A 2 (c - c / 8 * 8).toNatClampNeg).toNatClampNeg).toNatClampNeg).toNatClampNeg).toNatClampNeg), .int 0, .int 4] [] [(0, .int (zka (zka (zka (zka (A 2 (c - c / 8 * 8).toNatClampNeg).toNatClampNeg).toNatClampNeg).toNatClampNeg).toNatClampNeg)), (1, .int 0), (2, .int 4)] f114_12 rfl k114_74_99 rfl (by decide +kernel) (Nat.le_of_ble_eq_true rfl) (Nat.le_of_ble_eq_true rfl) rfl rfl (by decide +kernel) (by decide +kernel) rfl (Nat.le_of_ble_eq_true rfl) rfl ?_
                                                      refine zw_iload_n 1 f112_0 rfl rfl ?_
                                                      refine zw_iload_n 2 f112_1 rfl rfl ?_
                                                      refine zw_ic_lt 5 14 f112_2 (by decide +kernel) rfl (fun hc86 => ?_) (fun hc86 => ?_)
                                                      · refine zw_iconst 0 15 f112_14 rfl (by decide +kernel) ?_
                                                        refine zw_zreturn f112_15 r112 u112 (by decide +kernel) ⟨_, rfl, ?_⟩
                                                        refine zw_if_eq_t 37 f114_15 (by decide +kernel) (by decide +kernel) ?_
                                                        refine zw_iconst 0 38 f114_37 rfl (by decide +kernel) ?_
                                                        refine zw_zreturn f114_38 r114 u114 (by decide +kernel) ⟨_, rfl, ?_⟩
                                                        refine zw_if_eq_t 43 f109_32 (by decide +kernel) (by decide +kernel) ?_
                                                        refine zw_aload_n 44 f109_43 rfl (zl1_ne rfl rfl rfl) ?_
                                                        refine zw_bipush 11 46 f109_44 rfl (by decide +kernel) ?_
                                                        refine zw_virtual_i 49 0 0 [.ref 0, .int 11] [(0, .ref 0), (1, .int 11)] f109_46 rfl n109_78 k109_78_11 rfl (hb_0 _ _ _ _) (by decide +kernel) (Nat.le_of_ble_eq_true rfl) rfl rfl (by decide +kernel) (by decide +kernel) rfl (Nat.le_of_ble_eq_true rfl) rfl ?_
                                                        refine zw_aload_n 1 f105_0 rfl rfl ?_
                                                        refine zw_iload_n 2 f105_1 rfl rfl ?_
                                                        refine zw_put _ 5 f105_2 rfl g105_70_11 (hb_0 _ _ _ _) rfl (Nat.le_of_ble_eq_true rfl) (by decide +kernel) (hi_0_7 _ _ _ _ _) ?_
                                                        refine zw_iconst (-1) 6 f105_5 rfl (by decide +kernel) ?_
                                                        refine zw_ireturn f105_6 r105 u105 ⟨_, rfl, ?_⟩
                                                        refine zw_ireturn f109_49 r109 u109 ⟨_, rfl, ?_⟩
                                                        refine zw_ireturn f103_91 r103 u103 ?_
                                                        exact ⟨_, _, _, _, rfl, (KP.i rfl KP.rf), ⟨⟨hI.1, hI.2.1, t, by omega, et⟩, PE.of10 rfl rfl rfl rfl rfl rfl rfl rfl rfl rfl⟩, _, rfl⟩
                                                      · refine zw_iload_n 6 f112_5 rfl rfl ?_
                                                        refine zw_iload_n 7 f112_6 rfl rfl ?_
                                                        refine zw_ic_gt 10 14 f112_7 (by decide +kernel) rfl (fun hc87 => ?_) (fun hc87 => ?_)
                                                        · refine zw_iconst 0 15 f112_14 rfl (by decide +kernel) ?_
                                                          refine zw_zreturn f112_15 r112 u112 (by decide +kernel) ⟨_, rfl, ?_⟩
                                                          refine zw_if_eq_t 37 f114_15 (by decide +kernel) (by decide +kernel) ?_
                                                          refine zw_iconst 0 38 f114_37 rfl (by decide +kernel) ?_
                                                          refine zw_zreturn f114_38 r114 u114 (by decide +kernel) ⟨_, rfl, ?_⟩
                                                          refine zw_if_eq_t 43 f109_32 (by decide +kernel) (by decide +kernel) ?_
                                                          refine zw_aload_n 44 f109_43 rfl (zl1_ne rfl rfl rfl) ?_
                                                          refine zw_bipush 11 46 f109_44 rfl (by decide +kernel) ?_
                                                          refine zw_virtual_i 49 0 0 [.ref 0, .int 11] [(0, .ref 0), (1, .int 11)] f109_46 rfl n109_78 k109_78_11 rfl (hb_0 _ _ _ _) (by decide +kernel) (Nat.le_of_ble_eq_true rfl) rfl rfl (by decide +kernel) (by decide +kernel) rfl (Nat.le_of_ble_eq_true rfl) rfl ?_
                                                          refine zw_aload_n 1 f105_0 rfl rfl ?_
                                                          refine zw_iload_n 2 f105_1 rfl rfl ?_
                                                          refine zw_put _ 5 f105_2 rfl g105_70_11 (hb_0 _ _ _ _) rfl (Nat.le_of_ble_eq_true rfl) (by decide +kernel) (hi_0_7 _ _ _ _ _) ?_
                                                          refine zw_iconst (-1) 6 f105_5 rfl (by decide +kernel) ?_
                                                          refine zw_ireturn f105_6 r105 u105 ⟨_, rfl, ?_⟩
                                                          refine zw_ireturn f109_49 r109 u109 ⟨_, rfl, ?_⟩
                                                          refine zw_ireturn f103_91 r103 u103 ?_
                                                          exact ⟨_, _, _, _, rfl, (KP.i rfl KP.rf), ⟨⟨hI.1, hI.2.1, t, by omega, et⟩, PE.of10 rfl rfl rfl rfl rfl rfl rfl rfl rfl rfl⟩, _, rfl⟩
                                                        · refine zw_iconst 1 11 f112_10 rfl (by decide +kernel) ?_
                                                          refine zw_goto 15 f112_11 (by decide +kernel) ?_
                                                          refine zw_zreturn f112_15 r112 u112 (by decide +kernel) ⟨_, rfl, ?_⟩
                                                          refine zw_if_eq_f 18 37 f114_15 (by decide +kernel) rfl (by decide +kernel) ?_
                                                          refine zw_iload_n 19 f114_18 rfl (zl1_ne rfl rfl zl1_eq) ?_
                                                          refine zw_iload_n 20 f114_19 rfl (zl1_ne rfl rfl (zl1_ne rfl rfl (zl1_ne rfl rfl (zl1_ne rfl rfl (zl1_ne rfl rfl (zl1_ne rfl rfl (zl1_ne rfl rfl (zl1_ne rfl rfl (zl1_ne rfl rfl (zl1_ne rfl rfl rfl)))))))))) ?_
                                                          refine zw_ic_ne 23 25 f114_20 (by decide +kernel) rfl (fun hc88 => ?_) (fun hc88 => ?_)
                                                          · refine zw_getstatic 28 f114_25 rfl (by decide +kernel) ?_
                                                            refine zw_iload_n 29 f114_28 rfl (zl1_ne rfl rfl zl1_eq) ?_
                                                            refine zw_iaload_f (zka (zka (zka (zka (A 2 (c - c / 8 * 8).toNatClampNeg).toNatClampNeg).toNatClampNeg).toNatClampNeg).toNatClampNeg).toNatClampNeg 5 (zka (zka (zka (zka (zka (A 2 (c - c / 8 * 8).toNatClampNeg).toNatClampNeg).toNatClampNeg).toNatClampNeg).toNatClampNeg).toNatClampNeg) 30 f114_29 rfl hro.1 rfl hc86 (zix (by decide) hc86 (n45 hc87)) (congrFun hro.2 _) ?_
                                                            refine zw_istore_n _ 31 f114_30 rfl (by decide +kernel) rfl ?_
                                                            refine zw_iinc 5 _ 34 f114_31 rfl (zl1_ne rfl rfl zl1_eq) (by decide +kernel) (by decide +kernel) rfl ?_
                                                            refine zw_goto 4 f114_34 (by decide +kernel) ?_
                                                            refine zw_iload_n 5 f114_4 rfl zl1_eq ?_
                                                            refine zw_iconst 5 6 f114_5 rfl (by decide +kernel) ?_
                                                            refine zw_ic_ge_t 37 f114_6 (by decide +kernel) (by decide +kernel) ?_
                                                            refine zw_iconst 0 38 f114_37 rfl (by decide +kernel) ?_
                                                            refine zw_zreturn f114_38 r114 u114 (by decide +kernel) ⟨_, rfl, ?_⟩
                                                            refine zw_if_eq_t 43 f109_32 (by decide +kernel) (by decide +kernel) ?_
                                                            refine zw_aload_n 44 f109_43 rfl (zl1_ne rfl rfl rfl) ?_
                                                            refine zw_bipush 11 46 f109_44 rfl (by decide +kernel) ?_
                                                            refine zw_virtual_i 49 0 0 [.ref 0, .int 11] [(0, .ref 0), (1, .int 11)] f109_46 rfl n109_78 k109_78_11 rfl (hb_0 _ _ _ _) (by decide +kernel) (Nat.le_of_ble_eq_true rfl) rfl rfl (by decide +kernel) (by decide +kernel) rfl (Nat.le_of_ble_eq_true rfl) rfl ?_
                                                            refine zw_aload_n 1 f105_0 rfl rfl ?_
                                                            refine zw_iload_n 2 f105_1 rfl rfl ?_
                                                            refine zw_put _ 5 f105_2 rfl g105_70_11 (hb_0 _ _ _ _) rfl (Nat.le_of_ble_eq_true rfl) (by decide +kernel) (hi_0_7 _ _ _ _ _) ?_
                                                            refine zw_iconst (-1) 6 f105_5 rfl (by decide +kernel) ?_
                                                            refine zw_ireturn f105_6 r105 u105 ⟨_, rfl, ?_⟩
                                                            refine zw_ireturn f109_49 r109 u109 ⟨_, rfl, ?_⟩
                                                            refine zw_ireturn f103_91 r103 u103 ?_
                                                            exact ⟨_, _, _, _, rfl, (KP.i rfl KP.rf), ⟨⟨hI.1, hI.2.1, t, by omega, et⟩, PE.of10 rfl rfl rfl rfl rfl rfl rfl rfl rfl rfl⟩, _, rfl⟩
                                                          · refine zw_iconst 1 24 f114_23 rfl (by decide +kernel) ?_
                                                            refine zw_zreturn f114_24 r114 u114 (by decide +kernel) ⟨_, rfl, ?_⟩
                                                            refine zw_if_eq_f 35 43 f109_32 (by decide +kernel) rfl (by decide +kernel) ?_
                                                            refine zw_aload_n 36 f109_35 rfl (zl1_ne rfl rfl rfl) ?_
                                                            refine zw_iload_n 37 f109_36 rfl zl1_eq ?_
                                                            refine zw_virtual_i 40 0 0 [.ref 0, .int (A 2 (c - c / 8 * 8).toNatClampNeg)] [(0, .ref 0), (1, .int (A 2 (c - c / 8 * 8).toNatClampNeg))] f109_37 rfl n109_181 k109_181_11 rfl (hb_0 _ _ _ _) (by decide +kernel) (Nat.le_of_ble_eq_true rfl) rfl rfl (by decide +kernel) (by decide +kernel) rfl (Nat.le_of_ble_eq_true rfl) rfl ?_
                                                            refine zw_aload_n 1 f106_0 rfl rfl ?_
                                                            refine zw_iconst 0 2 f106_1 rfl (by decide +kernel) ?_
                                                            refine zw_put _ 5 f106_2 rfl g106_70_11 (hb_0 _ _ _ _) rfl (Nat.le_of_ble_eq_true rfl) (by decide +kernel) (hi_0_7 _ _ _ _ _) ?_
                                                            refine zw_iload_n 6 f106_5 rfl rfl ?_
                                                            refine zw_ireturn f106_6 r106 u106 ⟨_, rfl, ?_⟩
                                                            refine zw_goto 49 f109_40 (by decide +kernel) ?_
                                                            refine zw_ireturn f109_49 r109 u109 ⟨_, rfl, ?_⟩
                                                            refine zw_ireturn f103_91 r103 u103 ?_
                                                            exact ⟨_, _, _, _, rfl, (KP.i rfl KP.rf), ⟨⟨hI.1, hI.2.1, t, by omega, et⟩, PE.of10 rfl rfl rfl rfl rfl rfl rfl rfl rfl rfl⟩, _, rfl⟩
                                                    · refine zw_iconst 1 24 f114_23 rfl (by decide +kernel) ?_
                                                      refine zw_zreturn f114_24 r114 u114 (by decide +kernel) ⟨_, rfl, ?_⟩
                                                      refine zw_if_eq_f 35 43 f109_32 (by decide +kernel) rfl (by decide +kernel) ?_
                                                      refine zw_aload_n 36 f109_35 rfl (zl1_ne rfl rfl rfl) ?_
                                                      refine zw_iload_n 37 f109_36 rfl zl1_eq ?_
                                                      refine zw_virtual_i 40 0 0 [.ref 0, .int (A 2 (c - c / 8 * 8).toNatClampNeg)] [(0, .ref 0), (1, .int (A 2 (c - c / 8 * 8).toNatClampNeg))] f109_37 rfl n109_181 k109_181_11 rfl (hb_0 _ _ _ _) (by decide +kernel) (Nat.le_of_ble_eq_true rfl) rfl rfl (by decide +kernel) (by decide +kernel) rfl (Nat.le_of_ble_eq_true rfl) rfl ?_
                                                      refine zw_aload_n 1 f106_0 rfl rfl ?_
                                                      refine zw_iconst 0 2 f106_1 rfl (by decide +kernel) ?_
                                                      refine zw_put _ 5 f106_2 rfl g106_70_11 (hb_0 _ _ _ _) rfl (Nat.le_of_ble_eq_true rfl) (by decide +kernel) (hi_0_7 _ _ _ _ _) ?_
                                                      refine zw_iload_n 6 f106_5 rfl rfl ?_
                                                      refine zw_ireturn f106_6 r106 u106 ⟨_, rfl, ?_⟩
                                                      refine zw_goto 49 f109_40 (by decide +kernel) ?_
                                                      refine zw_ireturn f109_49 r109 u109 ⟨_, rfl, ?_⟩
                                                      refine zw_ireturn f103_91 r103 u103 ?_
                                                      exact ⟨_, _, _, _, rfl, (KP.i rfl KP.rf), ⟨⟨hI.1, hI.2.1, t, by omega, et⟩, PE.of10 rfl rfl rfl rfl rfl rfl rfl rfl rfl rfl⟩, _, rfl⟩
                                              · refine zw_iconst 1 24 f114_23 rfl (by decide +kernel) ?_
                                                refine zw_zreturn f114_24 r114 u114 (by decide +kernel) ⟨_, rfl, ?_⟩
                                                refine zw_if_eq_f 35 43 f109_32 (by decide +kernel) rfl (by decide +kernel) ?_
                                                refine zw_aload_n 36 f109_35 rfl (zl1_ne rfl rfl rfl) ?_
                                                refine zw_iload_n 37 f109_36 rfl zl1_eq ?_
                                                refine zw_virtual_i 40 0 0 [.ref 0, .int (A 2 (c - c / 8 * 8).toNatClampNeg)] [(0, .ref 0), (1, .int (A 2 (c - c / 8 * 8).toNatClampNeg))] f109_37 rfl n109_181 k109_181_11 rfl (hb_0 _ _ _ _) (by decide +kernel) (Nat.le_of_ble_eq_true rfl) rfl rfl (by decide +kernel) (by decide +kernel) rfl (Nat.le_of_ble_eq_true rfl) rfl ?_
                                                refine zw_aload_n 1 f106_0 rfl rfl ?_
                                                refine zw_iconst 0 2 f106_1 rfl (by decide +kernel) ?_
                                                refine zw_put _ 5 f106_2 rfl g106_70_11 (hb_0 _ _ _ _) rfl (Nat.le_of_ble_eq_true rfl) (by decide +kernel) (hi_0_7 _ _ _ _ _) ?_
                                                refine zw_iload_n 6 f106_5 rfl rfl ?_
                                                refine zw_ireturn f106_6 r106 u106 ⟨_, rfl, ?_⟩
                                                refine zw_goto 49 f109_40 (by decide +kernel) ?_
                                                refine zw_ireturn f109_49 r109 u109 ⟨_, rfl, ?_⟩
                                                refine zw_ireturn f103_91 r103 u103 ?_
                                                exact ⟨_, _, _, _, rfl, (KP.i rfl KP.rf), ⟨⟨hI.1, hI.2.1, t, by omega, et⟩, PE.of10 rfl rfl rfl rfl rfl rfl rfl rfl rfl rfl⟩, _, rfl⟩
                                        · refine zw_iconst 1 24 f114_23 rfl (by decide +kernel) ?_
                                          refine zw_zreturn f114_24 r114 u114 (by decide +kernel) ⟨_, rfl, ?_⟩
                                          refine zw_if_eq_f 35 43 f109_32 (by decide +kernel) rfl (by decide +kernel) ?_
                                          refine zw_aload_n 36 f109_35 rfl (zl1_ne rfl rfl rfl) ?_
                                          refine zw_iload_n 37 f109_36 rfl zl1_eq ?_
                                          refine zw_virtual_i 40 0 0 [.ref 0, .int (A 2 (c - c / 8 * 8).toNatClampNeg)] [(0, .ref 0), (1, .int (A 2 (c - c / 8 * 8).toNatClampNeg))] f109_37 rfl n109_181 k109_181_11 rfl (hb_0 _ _ _ _) (by decide +kernel) (Nat.le_of_ble_eq_true rfl) rfl rfl (by decide +kernel) (by decide +kernel) rfl (Nat.le_of_ble_eq_true rfl) rfl ?_
                                          refine zw_aload_n 1 f106_0 rfl rfl ?_
                                          refine zw_iconst 0 2 f106_1 rfl (by decide +kernel) ?_
                                          refine zw_put _ 5 f106_2 rfl g106_70_11 (hb_0 _ _ _ _) rfl (Nat.le_of_ble_eq_true rfl) (by decide +kernel) (hi_0_7 _ _ _ _ _) ?_
                                          refine zw_iload_n 6 f106_5 rfl rfl ?_
                                          refine zw_ireturn f106_6 r106 u106 ⟨_, rfl, ?_⟩
                                          refine zw_goto 49 f109_40 (by decide +kernel) ?_
                                          refine zw_ireturn f109_49 r109 u109 ⟨_, rfl, ?_⟩
                                          refine zw_ireturn f103_91 r103 u103 ?_
                                          exact ⟨_, _, _, _, rfl, (KP.i rfl KP.rf), ⟨⟨hI.1, hI.2.1, t, by omega, et⟩, PE.of10 rfl rfl rfl rfl rfl rfl rfl rfl rfl rfl⟩, _, rfl⟩
                                  · refine zw_iconst 1 24 f114_23 rfl (by decide +kernel) ?_
                                    refine zw_zreturn f114_24 r114 u114 (by decide +kernel) ⟨_, rfl, ?_⟩
                                    refine zw_if_eq_f 35 43 f109_32 (by decide +kernel) rfl (by decide +kernel) ?_
                                    refine zw_aload_n 36 f109_35 rfl (zl1_ne rfl rfl rfl) ?_
                                    refine zw_iload_n 37 f109_36 rfl zl1_eq ?_
                                    refine zw_virtual_i 40 0 0 [.ref 0, .int (A 2 (c - c / 8 * 8).toNatClampNeg)] [(0, .ref 0), (1, .int (A 2 (c - c / 8 * 8).toNatClampNeg))] f109_37 rfl n109_181 k109_181_11 rfl (hb_0 _ _ _ _) (by decide +kernel) (Nat.le_of_ble_eq_true rfl) rfl rfl (by decide +kernel) (by decide +kernel) rfl (Nat.le_of_ble_eq_true rfl) rfl ?_
                                    refine zw_aload_n 1 f106_0 rfl rfl ?_
                                    refine zw_iconst 0 2 f106_1 rfl (by decide +kernel) ?_
                                    refine zw_put _ 5 f106_2 rfl g106_70_11 (hb_0 _ _ _ _) rfl (Nat.le_of_ble_eq_true rfl) (by decide +kernel) (hi_0_7 _ _ _ _ _) ?_
                                    refine zw_iload_n 6 f106_5 rfl rfl ?_
                                    refine zw_ireturn f106_6 r106 u106 ⟨_, rfl, ?_⟩
                                    refine zw_goto 49 f109_40 (by decide +kernel) ?_
                                    refine zw_ireturn f109_49 r109 u109 ⟨_, rfl, ?_⟩
                                    refine zw_ireturn f103_91 r103 u103 ?_
                                    exact ⟨_, _, _, _, rfl, (KP.i rfl KP.rf), ⟨⟨hI.1, hI.2.1, t, by omega, et⟩, PE.of10 rfl rfl rfl rfl rfl rfl rfl rfl rfl rfl⟩, _, rfl⟩
                      · refine zw_iload_n 11 f186_10 rfl zl1_eq ?_
                        refine zw_if_eq 14 18 f186_11 (by decide +kernel) rfl (fun hc89 => ?_) (fun hc89 => ?_)
                        · refine zw_iload_n 19 f186_18 rfl zl1_eq ?_
                          refine zw_ireturn f186_19 r186 u186 ⟨_, rfl, ?_⟩
                          refine zw_virtual_i 91 0 0 [.ref 0, .int (c - c / 8 * 8), .int (b - b / 5 * 5)] [(0, .ref 0), (1, .int (c - c / 8 * 8)), (2, .int (b - b / 5 * 5))] f103_88 rfl n103_309 k103_309_11 rfl (hb_0 _ _ _ _) (by decide +kernel) (Nat.le_of_ble_eq_true rfl) rfl rfl (by decide +kernel) (by decide +kernel) rfl (Nat.le_of_ble_eq_true rfl) rfl ?_
                          refine zw_aload_n 1 f109_0 rfl rfl ?_
                          refine zw_getfield 4 f109_1 rfl g109_10_11 (hb_0 _ _ _ _) rfl ?_
                          refine zw_iload_n 5 f109_4 rfl rfl ?_
                          refine zw_virtual_i 8 0 0 [.ref 1, .int (c - c / 8 * 8)] [(0, .ref 1), (1, .int (c - c / 8 * 8))] f109_5 rfl n109_89 k109_89_4 rfl (hb_1 _ _ _ _) (by decide +kernel) (Nat.le_of_ble_eq_true rfl) rfl rfl (by decide +kernel) (by decide +kernel) rfl (Nat.le_of_ble_eq_true rfl) rfl ?_
                          refine zw_iload_n 1 f13_0 rfl rfl ?_
                          refine zw_if_lt 4 22 f13_1 (by decide +kernel) rfl (fun hc90 => ?_) (fun hc90 => ?_)
                          · refine zw_iconst 0 23 f13_22 rfl (by decide +kernel) ?_
                            refine zw_zreturn f13_23 r13 u13 (by decide +kernel) ⟨_, rfl, ?_⟩
                            refine zw_if_ne_f 11 18 f109_8 (by decide +kernel) rfl (by decide +kernel) ?_
                            refine zw_aload_n 12 f109_11 rfl rfl ?_
                            refine zw_bipush 10 14 f109_12 rfl (by decide +kernel) ?_
                            refine zw_virtual_i 17 0 0 [.ref 0, .int 10] [(0, .ref 0), (1, .int 10)] f109_14 rfl n109_78 k109_78_11 rfl (hb_0 _ _ _ _) (by decide +kernel) (Nat.le_of_ble_eq_true rfl) rfl rfl (by decide +kernel) (by decide +kernel) rfl (Nat.le_of_ble_eq_true rfl) rfl ?_
                            refine zw_aload_n 1 f105_0 rfl rfl ?_
                            refine zw_iload_n 2 f105_1 rfl rfl ?_
                            refine zw_put _ 5 f105_2 rfl g105_70_11 (hb_0 _ _ _ _) rfl (Nat.le_of_ble_eq_true rfl) (by decide +kernel) (hi_0_7 _ _ _ _ _) ?_
                            refine zw_iconst (-1) 6 f105_5 rfl (by decide +kernel) ?_
                            refine zw_ireturn f105_6 r105 u105 ⟨_, rfl, ?_⟩
                            refine zw_ireturn f109_17 r109 u109 ⟨_, rfl, ?_⟩
                            refine zw_ireturn f103_91 r103 u103 ?_
                            exact ⟨_, _, _, _, rfl, (KP.i rfl KP.rf), ⟨⟨hI.1, hI.2.1, t, by omega, et⟩, PE.of10 rfl rfl rfl rfl rfl rfl rfl rfl rfl rfl⟩, _, rfl⟩
                          · refine zw_iload_n 5 f13_4 rfl rfl ?_
                            refine zw_aload_n 6 f13_5 rfl rfl ?_
                            refine zw_getI (nI nv) 9 f13_6 rfl g13_39_4 (hb_1 _ _ _ _) rfl hI.1.1.1 ?_
                            refine zw_ic_ge 12 22 f13_9 (by decide +kernel) rfl (fun hc91 => ?_) (fun hc91 => ?_)
                            · refine zw_iconst 0 23 f13_22 rfl (by decide +kernel) ?_
                              refine zw_zreturn f13_23 r13 u13 (by decide +kernel) ⟨_, rfl, ?_⟩
                              refine zw_if_ne_f 11 18 f109_8 (by decide +kernel) rfl (by decide +kernel) ?_
                              refine zw_aload_n 12 f109_11 rfl rfl ?_
                              refine zw_bipush 10 14 f109_12 rfl (by decide +kernel) ?_
                              refine zw_virtual_i 17 0 0 [.ref 0, .int 10] [(0, .ref 0), (1, .int 10)] f109_14 rfl n109_78 k109_78_11 rfl (hb_0 _ _ _ _) (by decide +kernel) (Nat.le_of_ble_eq_true rfl) rfl rfl (by decide +kernel) (by decide +kernel) rfl (Nat.le_of_ble_eq_true rfl) rfl ?_
                              refine zw_aload_n 1 f105_0 rfl rfl ?_
                              refine zw_iload_n 2 f105_1 rfl rfl ?_
                              refine zw_put _ 5 f105_2 rfl g105_70_11 (hb_0 _ _ _ _) rfl (Nat.le_of_ble_eq_true rfl) (by decide +kernel) (hi_0_7 _ _ _ _ _) ?_
                              refine zw_iconst (-1) 6 f105_5 rfl (by decide +kernel) ?_
                              refine zw_ireturn f105_6 r105 u105 ⟨_, rfl, ?_⟩
                              refine zw_ireturn f109_17 r109 u109 ⟨_, rfl, ?_⟩
                              refine zw_ireturn f103_91 r103 u103 ?_
                              exact ⟨_, _, _, _, rfl, (KP.i rfl KP.rf), ⟨⟨hI.1, hI.2.1, t, by omega, et⟩, PE.of10 rfl rfl rfl rfl rfl rfl rfl rfl rfl rfl⟩, _, rfl⟩
                            · refine zw_iload_n 13 f13_12 rfl rfl ?_
                              refine zw_bipush 8 15 f13_13 rfl (by decide +kernel) ?_
                              refine zw_ic_ge 18 22 f13_15 (by decide +kernel) rfl (fun hc92 => ?_) (fun hc92 => ?_)
                              · refine zw_iconst 0 23 f13_22 rfl (by decide +kernel) ?_
                                refine zw_zreturn f13_23 r13 u13 (by decide +kernel) ⟨_, rfl, ?_⟩
                                refine zw_if_ne_f 11 18 f109_8 (by decide +kernel) rfl (by decide +kernel) ?_
                                refine zw_aload_n 12 f109_11 rfl rfl ?_
                                refine zw_bipush 10 14 f109_12 rfl (by decide +kernel) ?_
                                refine zw_virtual_i 17 0 0 [.ref 0, .int 10] [(0, .ref 0), (1, .int 10)] f109_14 rfl n109_78 k109_78_11 rfl (hb_0 _ _ _ _) (by decide +kernel) (Nat.le_of_ble_eq_true rfl) rfl rfl (by decide +kernel) (by decide +kernel) rfl (Nat.le_of_ble_eq_true rfl) rfl ?_
                                refine zw_aload_n 1 f105_0 rfl rfl ?_
                                refine zw_iload_n 2 f105_1 rfl rfl ?_
                                refine zw_put _ 5 f105_2 rfl g105_70_11 (hb_0 _ _ _ _) rfl (Nat.le_of_ble_eq_true rfl) (by decide +kernel) (hi_0_7 _ _ _ _ _) ?_
                                refine zw_iconst (-1) 6 f105_5 rfl (by decide +kernel) ?_
                                refine zw_ireturn f105_6 r105 u105 ⟨_, rfl, ?_⟩
                                refine zw_ireturn f109_17 r109 u109 ⟨_, rfl, ?_⟩
                                refine zw_ireturn f103_91 r103 u103 ?_
                                exact ⟨_, _, _, _, rfl, (KP.i rfl KP.rf), ⟨⟨hI.1, hI.2.1, t, by omega, et⟩, PE.of10 rfl rfl rfl rfl rfl rfl rfl rfl rfl rfl⟩, _, rfl⟩
                              · refine zw_iconst 1 19 f13_18 rfl (by decide +kernel) ?_
                                refine zw_goto 23 f13_19 (by decide +kernel) ?_
                                refine zw_zreturn f13_23 r13 u13 (by decide +kernel) ⟨_, rfl, ?_⟩
                                refine zw_if_ne_t 18 f109_8 (by decide +kernel) (by decide +kernel) ?_
                                refine zw_aload_n 19 f109_18 rfl rfl ?_
                                refine zw_getfield 22 f109_19 rfl g109_10_11 (hb_0 _ _ _ _) rfl ?_
                                refine zw_iload_n 23 f109_22 rfl rfl ?_
                                refine zw_virtual_i 26 0 0 [.ref 1, .int (c - c / 8 * 8)] [(0, .ref 1), (1, .int (c - c / 8 * 8))] f109_23 rfl n109_112 k109_112_4 rfl (hb_1 _ _ _ _) (by decide +kernel) (Nat.le_of_ble_eq_true rfl) rfl rfl (by decide +kernel) (by decide +kernel) rfl (Nat.le_of_ble_eq_true rfl) rfl ?_
                                refine zw_iload_n 1 f15_0 rfl rfl ?_
                                refine zw_if_lt_f 4 27 f15_1 (by decide +kernel) rfl hc90 ?_
                                refine zw_iload_n 5 f15_4 rfl rfl ?_
                                refine zw_aload_n 6 f15_5 rfl rfl ?_
                                refine zw_getI (nI nv) 9 f15_6 rfl g15_39_4 (hb_1 _ _ _ _) rfl hI.1.1.1 ?_
                                refine zw_ic_ge_f 12 27 f15_9 (by decide +kernel) rfl hc91 ?_
                                refine zw_iload_n 13 f15_12 rfl rfl ?_
                                refine zw_bipush 8 15 f15_13 rfl (by decide +kernel) ?_
                                refine zw_ic_ge_f 18 27 f15_15 (by decide +kernel) rfl hc92 ?_
                                refine zw_aload_n 19 f15_18 rfl rfl ?_
                                refine zw_getfield 22 f15_19 rfl g15_9_4 (hb_1 _ _ _ _) rfl ?_
                                refine zw_iload_n 23 f15_22 rfl rfl ?_
                                refine zw_iaload (c - c / 8 * 8).toNatClampNeg (A 2 (c - c / 8 * 8).toNatClampNeg) 24 f15_23 rfl (hb_2 _ _ _ _) rfl hc90 (zix (by decide) hc90 hc92) rfl ?_
                                refine zw_goto 28 f15_24 (by decide +kernel) ?_
                                refine zw_ireturn f15_28 r15 u15 ⟨_, rfl, ?_⟩
                                refine zw_istore_n _ 27 f109_26 rfl (by decide +kernel) rfl ?_
                                refine zw_iload_n 28 f109_27 rfl zl1_eq ?_
                                refine zw_iload_n 29 f109_28 rfl (zl1_ne rfl rfl rfl) ?_
                                refine zw_static_i 32 0 0 [.int (A 2 (c - c / 8 * 8).toNatClampNeg), .int (b - b / 5 * 5)] [] [(0, .int (A 2 (c - c / 8 * 8).toNatClampNeg)), (1, .int (b - b / 5 * 5))] f109_29 rfl k109_327_99 rfl (by decide +kernel) (Nat.le_of_ble_eq_true rfl) (Nat.le_of_ble_eq_true rfl) rfl rfl (by decide +kernel) (by decide +kernel) rfl (Nat.le_of_ble_eq_true rfl) rfl ?_
                                refine zw_iload_n 1 f114_0 rfl rfl ?_
                                refine zw_istore_n _ 2 f114_1 rfl (by decide +kernel) rfl ?_
                                refine zw_iconst 0 3 f114_2 rfl (by decide +kernel) ?_
                                refine zw_istore_n _ 4 f114_3 rfl (by decide +kernel) rfl ?_
                                refine zw_iload_n 5 f114_4 rfl zl1_eq ?_
                                refine zw_iconst 5 6 f114_5 rfl (by decide +kernel) ?_
                                refine zw_ic_ge_f 9 37 f114_6 (by decide +kernel) rfl (by decide +kernel) ?_
                                refine zw_iload_n 10 f114_9 rfl (zl1_ne rfl rfl zl1_eq) ?_
                                refine zw_iconst 0 11 f114_10 rfl (by decide +kernel) ?_
                                refine zw_iconst 4 12 f114_11 rfl (by decide +kernel) ?_
                                refine zw_static_i 15 0 0 [.int (A 2 (c - c / 8 * 8).toNatClampNeg), .int 0, .int 4] [] [(0, .int (A 2 (c - c / 8 * 8).toNatClampNeg)), (1, .int 0), (2, .int 4)] f114_12 rfl k114_74_99 rfl (by decide +kernel) (Nat.le_of_ble_eq_true rfl) (Nat.le_of_ble_eq_true rfl) rfl rfl (by decide +kernel) (by decide +kernel) rfl (Nat.le_of_ble_eq_true rfl) rfl ?_
                                refine zw_iload_n 1 f112_0 rfl rfl ?_
                                refine zw_iload_n 2 f112_1 rfl rfl ?_
                                refine zw_ic_lt 5 14 f112_2 (by decide +kernel) rfl (fun hc93 => ?_) (fun hc93 => ?_)
                                · refine zw_iconst 0 15 f112_14 rfl (by decide +kernel) ?_
                                  refine zw_zreturn f112_15 r112 u112 (by decide +kernel) ⟨_, rfl, ?_⟩
                                  refine zw_if_eq_t 37 f114_15 (by decide +kernel) (by decide +kernel) ?_
                                  refine zw_iconst 0 38 f114_37 rfl (by decide +kernel) ?_
                                  refine zw_zreturn f114_38 r114 u114 (by decide +kernel) ⟨_, rfl, ?_⟩
                                  refine zw_if_eq_t 43 f109_32 (by decide +kernel) (by decide +kernel) ?_
                                  refine zw_aload_n 44 f109_43 rfl (zl1_ne rfl rfl rfl) ?_
                                  refine zw_bipush 11 46 f109_44 rfl (by decide +kernel) ?_
                                  refine zw_virtual_i 49 0 0 [.ref 0, .int 11] [(0, .ref 0), (1, .int 11)] f109_46 rfl n109_78 k109_78_11 rfl (hb_0 _ _ _ _) (by decide +kernel) (Nat.le_of_ble_eq_true rfl) rfl rfl (by decide +kernel) (by decide +kernel) rfl (Nat.le_of_ble_eq_true rfl) rfl ?_
                                  refine zw_aload_n 1 f105_0 rfl rfl ?_
                                  refine zw_iload_n 2 f105_1 rfl rfl ?_
                                  refine zw_put _ 5 f105_2 rfl g105_70_11 (hb_0 _ _ _ _) rfl (Nat.le_of_ble_eq_true rfl) (by decide +kernel) (hi_0_7 _ _ _ _ _) ?_
                                  refine zw_iconst (-1) 6 f105_5 rfl (by decide +kernel) ?_
                                  refine zw_ireturn f105_6 r105 u105 ⟨_, rfl, ?_⟩
                                  refine zw_ireturn f109_49 r109 u109 ⟨_, rfl, ?_⟩
                                  refine zw_ireturn f103_91 r103 u103 ?_
                                  exact ⟨_, _, _, _, rfl, (KP.i rfl KP.rf), ⟨⟨hI.1, hI.2.1, t, by omega, et⟩, PE.of10 rfl rfl rfl rfl rfl rfl rfl rfl rfl rfl⟩, _, rfl⟩
                                · refine zw_iload_n 6 f112_5 rfl rfl ?_
                                  refine zw_iload_n 7 f112_6 rfl rfl ?_
                                  refine zw_ic_gt 10 14 f112_7 (by decide +kernel) rfl (fun hc94 => ?_) (fun hc94 => ?_)
                                  · refine zw_iconst 0 15 f112_14 rfl (by decide +kernel) ?_
                                    refine zw_zreturn f112_15 r112 u112 (by decide +kernel) ⟨_, rfl, ?_⟩
                                    refine zw_if_eq_t 37 f114_15 (by decide +kernel) (by decide +kernel) ?_
                                    refine zw_iconst 0 38 f114_37 rfl (by decide +kernel) ?_
                                    refine zw_zreturn f114_38 r114 u114 (by decide +kernel) ⟨_, rfl, ?_⟩
                                    refine zw_if_eq_t 43 f109_32 (by decide +kernel) (by decide +kernel) ?_
                                    refine zw_aload_n 44 f109_43 rfl (zl1_ne rfl rfl rfl) ?_
                                    refine zw_bipush 11 46 f109_44 rfl (by decide +kernel) ?_
                                    refine zw_virtual_i 49 0 0 [.ref 0, .int 11] [(0, .ref 0), (1, .int 11)] f109_46 rfl n109_78 k109_78_11 rfl (hb_0 _ _ _ _) (by decide +kernel) (Nat.le_of_ble_eq_true rfl) rfl rfl (by decide +kernel) (by decide +kernel) rfl (Nat.le_of_ble_eq_true rfl) rfl ?_
                                    refine zw_aload_n 1 f105_0 rfl rfl ?_
                                    refine zw_iload_n 2 f105_1 rfl rfl ?_
                                    refine zw_put _ 5 f105_2 rfl g105_70_11 (hb_0 _ _ _ _) rfl (Nat.le_of_ble_eq_true rfl) (by decide +kernel) (hi_0_7 _ _ _ _ _) ?_
                                    refine zw_iconst (-1) 6 f105_5 rfl (by decide +kernel) ?_
                                    refine zw_ireturn f105_6 r105 u105 ⟨_, rfl, ?_⟩
                                    refine zw_ireturn f109_49 r109 u109 ⟨_, rfl, ?_⟩
                                    refine zw_ireturn f103_91 r103 u103 ?_
                                    exact ⟨_, _, _, _, rfl, (KP.i rfl KP.rf), ⟨⟨hI.1, hI.2.1, t, by omega, et⟩, PE.of10 rfl rfl rfl rfl rfl rfl rfl rfl rfl rfl⟩, _, rfl⟩
                                  · refine zw_iconst 1 11 f112_10 rfl (by decide +kernel) ?_
                                    refine zw_goto 15 f112_11 (by decide +kernel) ?_
                                    refine zw_zreturn f112_15 r112 u112 (by decide +kernel) ⟨_, rfl, ?_⟩
                                    refine zw_if_eq_f 18 37 f114_15 (by decide +kernel) rfl (by decide +kernel) ?_
                                    refine zw_iload_n 19 f114_18 rfl (zl1_ne rfl rfl zl1_eq) ?_
                                    refine zw_iload_n 20 f114_19 rfl (zl1_ne rfl rfl (zl1_ne rfl rfl rfl)) ?_
                                    refine zw_ic_ne 23 25 f114_20 (by decide +kernel) rfl (fun hc95 => ?_) (fun hc95 => ?_)
                                    · refine zw_getstatic 28 f114_25 rfl (by decide +kernel) ?_
                                      refine zw_iload_n 29 f114_28 rfl (zl1_ne rfl rfl zl1_eq) ?_
                                      refine zw_iaload_f (A 2 (c - c / 8 * 8).toNatClampNeg).toNatClampNeg 5 (zka (A 2 (c - c / 8 * 8).toNatClampNeg).toNatClampNeg) 30 f114_29 rfl hro.1 rfl hc93 (zix (by decide) hc93 (n45 hc94)) (congrFun hro.2 _) ?_
                                      refine zw_istore_n _ 31 f114_30 rfl (by decide +kernel) rfl ?_
                                      refine zw_iinc 1 _ 34 f114_31 rfl (zl1_ne rfl rfl zl1_eq) (by decide +kernel) (by decide +kernel) rfl ?_
                                      refine zw_goto 4 f114_34 (by decide +kernel) ?_
                                      refine zw_iload_n 5 f114_4 rfl zl1_eq ?_
                                      refine zw_iconst 5 6 f114_5 rfl (by decide +kernel) ?_
                                      refine zw_ic_ge_f 9 37 f114_6 (by decide +kernel) rfl (by decide +kernel) ?_
                                      refine zw_iload_n 10 f114_9 rfl (zl1_ne rfl rfl zl1_eq) ?_
                                      refine zw_iconst 0 11 f114_10 rfl (by decide +kernel) ?_
                                      refine zw_iconst 4 12 f114_11 rfl (by decide +kernel) ?_
                                      refine zw_static_i 15 0 0 [.int (zka (A 2 (c - c / 8 * 8).toNatClampNeg).toNatClampNeg), .int 0, .int 4] [] [(0, .int (zka (A 2 (c - c / 8 * 8).toNatClampNeg).toNatClampNeg)), (1, .int 0), (2, .int 4)] f114_12 rfl k114_74_99 rfl (by decide +kernel) (Nat.le_of_ble_eq_true rfl) (Nat.le_of_ble_eq_true rfl) rfl rfl (by decide +kernel) (by decide +kernel) rfl (Nat.le_of_ble_eq_true rfl) rfl ?_
                                      refine zw_iload_n 1 f112_0 rfl rfl ?_
                                      refine zw_iload_n 2 f112_1 rfl rfl ?_
                                      refine zw_ic_lt 5 14 f112_2 (by decide +kernel) rfl (fun hc96 => ?_) (fun hc96 => ?_)
                                      · refine zw_iconst 0 15 f112_14 rfl (by decide +kernel) ?_
                                        refine zw_zreturn f112_15 r112 u112 (by decide +kernel) ⟨_, rfl, ?_⟩
                                        refine zw_if_eq_t 37 f114_15 (by decide +kernel) (by decide +kernel) ?_
                                        refine zw_iconst 0 38 f114_37 rfl (by decide +kernel) ?_
                                        refine zw_zreturn f114_38 r114 u114 (by decide +kernel) ⟨_, rfl, ?_⟩
                                        refine zw_if_eq_t 43 f109_32 (by decide +kernel) (by decide +kernel) ?_
                                        refine zw_aload_n 44 f109_43 rfl (zl1_ne rfl rfl rfl) ?_
                                        refine zw_bipush 11 46 f109_44 rfl (by decide +kernel) ?_
                                        refine zw_virtual_i 49 0 0 [.ref 0, .int 11] [(0, .ref 0), (1, .int 11)] f109_46 rfl n109_78 k109_78_11 rfl (hb_0 _ _ _ _) (by decide +kernel) (Nat.le_of_ble_eq_true rfl) rfl rfl (by decide +kernel) (by decide +kernel) rfl (Nat.le_of_ble_eq_true rfl) rfl ?_
                                        refine zw_aload_n 1 f105_0 rfl rfl ?_
                                        refine zw_iload_n 2 f105_1 rfl rfl ?_
                                        refine zw_put _ 5 f105_2 rfl g105_70_11 (hb_0 _ _ _ _) rfl (Nat.le_of_ble_eq_true rfl) (by decide +kernel) (hi_0_7 _ _ _ _ _) ?_
                                        refine zw_iconst (-1) 6 f105_5 rfl (by decide +kernel) ?_
                                        refine zw_ireturn f105_6 r105 u105 ⟨_, rfl, ?_⟩
                                        refine zw_ireturn f109_49 r109 u109 ⟨_, rfl, ?_⟩
                                        refine zw_ireturn f103_91 r103 u103 ?_
                                        exact ⟨_, _, _, _, rfl, (KP.i rfl KP.rf), ⟨⟨hI.1, hI.2.1, t, by omega, et⟩, PE.of10 rfl rfl rfl rfl rfl rfl rfl rfl rfl rfl⟩, _, rfl⟩
                                      · refine zw_iload_n 6 f112_5 rfl rfl ?_
                                        refine zw_iload_n 7 f112_6 rfl rfl ?_
                                        refine zw_ic_gt 10 14 f112_7 (by decide +kernel) rfl (fun hc97 => ?_) (fun hc97 => ?_)
                                        · refine zw_iconst 0 15 f112_14 rfl (by decide +kernel) ?_
                                          refine zw_zreturn f112_15 r112 u112 (by decide +kernel) ⟨_, rfl, ?_⟩
                                          refine zw_if_eq_t 37 f114_15 (by decide +kernel) (by decide +kernel) ?_
                                          refine zw_iconst 0 38 f114_37 rfl (by decide +kernel) ?_
                                          refine zw_zreturn f114_38 r114 u114 (by decide +kernel) ⟨_, rfl, ?_⟩
                                          refine zw_if_eq_t 43 f109_32 (by decide +kernel) (by decide +kernel) ?_
                                          refine zw_aload_n 44 f109_43 rfl (zl1_ne rfl rfl rfl) ?_
                                          refine zw_bipush 11 46 f109_44 rfl (by decide +kernel) ?_
                                          refine zw_virtual_i 49 0 0 [.ref 0, .int 11] [(0, .ref 0), (1, .int 11)] f109_46 rfl n109_78 k109_78_11 rfl (hb_0 _ _ _ _) (by decide +kernel) (Nat.le_of_ble_eq_true rfl) rfl rfl (by decide +kernel) (by decide +kernel) rfl (Nat.le_of_ble_eq_true rfl) rfl ?_
                                          refine zw_aload_n 1 f105_0 rfl rfl ?_
                                          refine zw_iload_n 2 f105_1 rfl rfl ?_
                                          refine zw_put _ 5 f105_2 rfl g105_70_11 (hb_0 _ _ _ _) rfl (Nat.le_of_ble_eq_true rfl) (by decide +kernel) (hi_0_7 _ _ _ _ _) ?_
                                          refine zw_iconst (-1) 6 f105_5 rfl (by decide +kernel) ?_
                                          refine zw_ireturn f105_6 r105 u105 ⟨_, rfl, ?_⟩
                                          refine zw_ireturn f109_49 r109 u109 ⟨_, rfl, ?_⟩
                                          refine zw_ireturn f103_91 r103 u103 ?_
                                          exact ⟨_, _, _, _, rfl, (KP.i rfl KP.rf), ⟨⟨hI.1, hI.2.1, t, by omega, et⟩, PE.of10 rfl rfl rfl rfl rfl rfl rfl rfl rfl rfl⟩, _, rfl⟩
                                        · refine zw_iconst 1 11 f112_10 rfl (by decide +kernel) ?_
                                          refine zw_goto 15 f112_11 (by decide +kernel) ?_
                                          refine zw_zreturn f112_15 r112 u112 (by decide +kernel) ⟨_, rfl, ?_⟩
                                          refine zw_if_eq_f 18 37 f114_15 (by decide +kernel) rfl (by decide +kernel) ?_
                                          refine zw_iload_n 19 f114_18 rfl (zl1_ne rfl rfl zl1_eq) ?_
                                          refine zw_iload_n 20 f114_19 rfl (zl1_ne rfl rfl (zl1_ne rfl rfl (zl1_ne rfl rfl (zl1_ne rfl rfl rfl)))) ?_
                                          refine zw_ic_ne 23 25 f114_20 (by decide +kernel) rfl (fun hc98 => ?_) (fun hc98 => ?_)
                                          · refine zw_getstatic 28 f114_25 rfl (by decide +kernel) ?_
                                            refine zw_iload_n 29 f114_28 rfl (zl1_ne rfl rfl zl1_eq) ?_
                                            refine zw_iaload_f (zka (A 2 (c - c / 8 * 8).toNatClampNeg).toNatClampNeg).toNatClampNeg 5 (zka (zka (A 2 (c - c / 8 * 8).toNatClampNeg).toNatClampNeg).toNatClampNeg) 30 f114_29 rfl hro.1 rfl hc96 (zix (by decide) hc96 (n45 hc97)) (congrFun hro.2 _) ?_
                                            refine zw_istore_n _ 31 f114_30 rfl (by decide +kernel) rfl ?_
                                            refine zw_iinc 2 _ 34 f114_31 rfl (zl1_ne rfl rfl zl1_eq) (by decide +kernel) (by decide +kernel) rfl ?_
                                            refine zw_goto 4 f114_34 (by decide +kernel) ?_
                                            refine zw_iload_n 5 f114_4 rfl zl1_eq ?_
                                            refine zw_iconst 5 6 f114_5 rfl (by decide +kernel) ?_
                                            refine zw_ic_ge_f 9 37 f114_6 (by decide +kernel) rfl (by decide +kernel) ?_
                                            refine zw_iload_n 10 f114_9 rfl (zl1_ne rfl rfl zl1_eq) ?_
                                            refine zw_iconst 0 11 f114_10 rfl (by decide +kernel) ?_
                                            refine zw_iconst 4 12 f114_11 rfl (by decide +kernel) ?_
                                            refine zw_static_i 15 0 0 [.int (zka (zka (A 2 (c - c / 8 * 8).toNatClampNeg).toNatClampNeg).toNatClampNeg), .int 0, .int 4] [] [(0, .int (zka (zka (A 2 (c - c / 8 * 8).toNatClampNeg).toNatClampNeg).toNatClampNeg)), (1, .int 0), (2, .int 4)] f114_12 rfl k114_74_99 rfl (by decide +kernel) (Nat.le_of_ble_eq_true rfl) (Nat.le_of_ble_eq_true rfl) rfl rfl (by decide +kernel) (by decide +kernel) rfl (Nat.le_of_ble_eq_true rfl) rfl ?_
                                            refine zw_iload_n 1 f112_0 rfl rfl ?_
                                            refine zw_iload_n 2 f112_1 rfl rfl ?_
                                            refine zw_ic_lt 5 14 f112_2 (by decide +kernel) rfl (fun hc99 => ?_) (fun hc99 => ?_)
                                            · refine zw_iconst 0 15 f112_14 rfl (by decide +kernel) ?_
                                              refine zw_zreturn f112_15 r112 u112 (by decide +kernel) ⟨_, rfl, ?_⟩
                                              refine zw_if_eq_t 37 f114_15 (by decide +kernel) (by decide +kernel) ?_
                                              refine zw_iconst 0 38 f114_37 rfl (by decide +kernel) ?_
                                              refine zw_zreturn f114_38 r114 u114 (by decide +kernel) ⟨_, rfl, ?_⟩
                                              refine zw_if_eq_t 43 f109_32 (by decide +kernel) (by decide +kernel) ?_
                                              refine zw_aload_n 44 f109_43 rfl (zl1_ne rfl rfl rfl) ?_
                                              refine zw_bipush 11 46 f109_44 rfl (by decide +kernel) ?_
                                              refine zw_virtual_i 49 0 0 [.ref 0, .int 11] [(0, .ref 0), (1, .int 11)] f109_46 rfl n109_78 k109_78_11 rfl (hb_0 _ _ _ _) (by decide +kernel) (Nat.le_of_ble_eq_true rfl) rfl rfl (by decide +kernel) (by decide +kernel) rfl (Nat.le_of_ble_eq_true rfl) rfl ?_
                                              refine zw_aload_n 1 f105_0 rfl rfl ?_
                                              refine zw_iload_n 2 f105_1 rfl rfl ?_
                                              refine zw_put _ 5 f105_2 rfl g105_70_11 (hb_0 _ _ _ _) rfl (Nat.le_of_ble_eq_true rfl) (by decide +kernel) (hi_0_7 _ _ _ _ _) ?_
                                              refine zw_iconst (-1) 6 f105_5 rfl (by decide +kernel) ?_
                                              refine zw_ireturn f105_6 r105 u105 ⟨_, rfl, ?_⟩
                                              refine zw_ireturn f109_49 r109 u109 ⟨_, rfl, ?_⟩
                                              refine zw_ireturn f103_91 r103 u103 ?_
                                              exact ⟨_, _, _, _, rfl, (KP.i rfl KP.rf), ⟨⟨hI.1, hI.2.1, t, by omega, et⟩, PE.of10 rfl rfl rfl rfl rfl rfl rfl rfl rfl rfl⟩, _, rfl⟩
                                            · refine zw_iload_n 6 f112_5 rfl rfl ?_
                                              refine zw_iload_n 7 f112_6 rfl rfl ?_
                                              refine zw_ic_gt 10 14 f112_7 (by decide +kernel) rfl (fun hc100 => ?_) (fun hc100 => ?_)
                                              · refine zw_iconst 0 15 f112_14 rfl (by decide +kernel) ?_
                                                refine zw_zreturn f112_15 r112 u112 (by decide +kernel) ⟨_, rfl, ?_⟩
                                                refine zw_if_eq_t 37 f114_15 (by decide +kernel) (by decide +kernel) ?_
                                                refine zw_iconst 0 38 f114_37 rfl (by decide +kernel) ?_
                                                refine zw_zreturn f114_38 r114 u114 (by decide +kernel) ⟨_, rfl, ?_⟩
                                                refine zw_if_eq_t 43 f109_32 (by decide +kernel) (by decide +kernel) ?_
                                                refine zw_aload_n 44 f109_43 rfl (zl1_ne rfl rfl rfl) ?_
                                                refine zw_bipush 11 46 f109_44 rfl (by decide +kernel) ?_
                                                refine zw_virtual_i 49 0 0 [.ref 0, .int 11] [(0, .ref 0), (1, .int 11)] f109_46 rfl n109_78 k109_78_11 rfl (hb_0 _ _ _ _) (by decide +kernel) (Nat.le_of_ble_eq_true rfl) rfl rfl (by decide +kernel) (by decide +kernel) rfl (Nat.le_of_ble_eq_true rfl) rfl ?_
                                                refine zw_aload_n 1 f105_0 rfl rfl ?_
                                                refine zw_iload_n 2 f105_1 rfl rfl ?_
                                                refine zw_put _ 5 f105_2 rfl g105_70_11 (hb_0 _ _ _ _) rfl (Nat.le_of_ble_eq_true rfl) (by decide +kernel) (hi_0_7 _ _ _ _ _) ?_
                                                refine zw_iconst (-1) 6 f105_5 rfl (by decide +kernel) ?_
                                                refine zw_ireturn f105_6 r105 u105 ⟨_, rfl, ?_⟩
                                                refine zw_ireturn f109_49 r109 u109 ⟨_, rfl, ?_⟩
                                                refine zw_ireturn f103_91 r103 u103 ?_
                                                exact ⟨_, _, _, _, rfl, (KP.i rfl KP.rf), ⟨⟨hI.1, hI.2.1, t, by omega, et⟩, PE.of10 rfl rfl rfl rfl rfl rfl rfl rfl rfl rfl⟩, _, rfl⟩
                                              · refine zw_iconst 1 11 f112_10 rfl (by decide +kernel) ?_
                                                refine zw_goto 15 f112_11 (by decide +kernel) ?_
                                                refine zw_zreturn f112_15 r112 u112 (by decide +kernel) ⟨_, rfl, ?_⟩
                                                refine zw_if_eq_f 18 37 f114_15 (by decide +kernel) rfl (by decide +kernel) ?_
                                                refine zw_iload_n 19 f114_18 rfl (zl1_ne rfl rfl zl1_eq) ?_
                                                refine zw_iload_n 20 f114_19 rfl (zl1_ne rfl rfl (zl1_ne rfl rfl (zl1_ne rfl rfl (zl1_ne rfl rfl (zl1_ne rfl rfl (zl1_ne rfl rfl rfl)))))) ?_
                                                refine zw_ic_ne 23 25 f114_20 (by decide +kernel) rfl (fun hc101 => ?_) (fun hc101 => ?_)
                                                · refine zw_getstatic 28 f114_25 rfl (by decide +kernel) ?_
                                                  refine zw_iload_n 29 f114_28 rfl (zl1_ne rfl rfl zl1_eq) ?_
                                                  refine zw_iaload_f (zka (zka (A 2 (c - c / 8 * 8).toNatClampNeg).toNatClampNeg).toNatClampNeg).toNatClampNeg 5 (zka (zka (zka (A 2 (c - c / 8 * 8).toNatClampNeg).toNatClampNeg).toNatClampNeg).toNatClampNeg) 30 f114_29 rfl hro.1 rfl hc99 (zix (by decide) hc99 (n45 hc100)) (congrFun hro.2 _) ?_
                                                  refine zw_istore_n _ 31 f114_30 rfl (by decide +kernel) rfl ?_
                                                  refine zw_iinc 3 _ 34 f114_31 rfl (zl1_ne rfl rfl zl1_eq) (by decide +kernel) (by decide +kernel) rfl ?_
                                                  refine zw_goto 4 f114_34 (by decide +kernel) ?_
                                                  refine zw_iload_n 5 f114_4 rfl zl1_eq ?_
                                                  refine zw_iconst 5 6 f114_5 rfl (by decide +kernel) ?_
                                                  refine zw_ic_ge_f 9 37 f114_6 (by decide +kernel) rfl (by decide +kernel) ?_
                                                  refine zw_iload_n 10 f114_9 rfl (zl1_ne rfl rfl zl1_eq) ?_
                                                  refine zw_iconst 0 11 f114_10 rfl (by decide +kernel) ?_
                                                  refine zw_iconst 4 12 f114_11 rfl (by decide +kernel) ?_
                                                  refine zw_static_i 15 0 0 [.int (zka (zka (zka (A 2 (c - c / 8 * 8).toNatClampNeg).toNatClampNeg).toNatClampNeg).toNatClampNeg), .int 0, .int 4] [] [(0, .int (zka (zka (zka (A 2 (c - c / 8 * 8).toNatClampNeg).toNatClampNeg).toNatClampNeg).toNatClampNeg)), (1, .int 0), (2, .int 4)] f114_12 rfl k114_74_99 rfl (by decide +kernel) (Nat.le_of_ble_eq_true rfl) (Nat.le_of_ble_eq_true rfl) rfl rfl (by decide +kernel) (by decide +kernel) rfl (Nat.le_of_ble_eq_true rfl) rfl ?_
                                                  refine zw_iload_n 1 f112_0 rfl rfl ?_
                                                  refine zw_iload_n 2 f112_1 rfl rfl ?_
                                                  refine zw_ic_lt 5 14 f112_2 (by decide +kernel) rfl (fun hc102 => ?_) (fun hc102 => ?_)
                                                  · refine zw_iconst 0 15 f112_14 rfl (by decide +kernel) ?_
                                                    refine zw_zreturn f112_15 r112 u112 (by decide +kernel) ⟨_, rfl, ?_⟩
                                                    refine zw_if_eq_t 37 f114_15 (by decide +kernel) (by decide +kernel) ?_
                                                    refine zw_iconst 0 38 f114_37 rfl (by decide +kernel) ?_
                                                    refine zw_zreturn f114_38 r114 u114 (by decide +kernel) ⟨_, rfl, ?_⟩
                                                    refine zw_if_eq_t 43 f109_32 (by decide +kernel) (by decide +kernel) ?_
                                                    refine zw_aload_n 44 f109_43 rfl (zl1_ne rfl rfl rfl) ?_
                                                    refine zw_bipush 11 46 f109_44 rfl (by decide +kernel) ?_
                                                    refine zw_virtual_i 49 0 0 [.ref 0, .int 11] [(0, .ref 0), (1, .int 11)] f109_46 rfl n109_78 k109_78_11 rfl (hb_0 _ _ _ _) (by decide +kernel) (Nat.le_of_ble_eq_true rfl) rfl rfl (by decide +kernel) (by decide +kernel) rfl (Nat.le_of_ble_eq_true rfl) rfl ?_
                                                    refine zw_aload_n 1 f105_0 rfl rfl ?_
                                                    refine zw_iload_n 2 f105_1 rfl rfl ?_
                                                    refine zw_put _ 5 f105_2 rfl g105_70_11 (hb_0 _ _ _ _) rfl (Nat.le_of_ble_eq_true rfl) (by decide +kernel) (hi_0_7 _ _ _ _ _) ?_
                                                    refine zw_iconst (-1) 6 f105_5 rfl (by decide +kernel) ?_
                                                    refine zw_ireturn f105_6 r105 u105 ⟨_, rfl, ?_⟩
                                                    refine zw_ireturn f109_49 r109 u109 ⟨_, rfl, ?_⟩
                                                    refine zw_ireturn f103_91 r103 u103 ?_
                                                    exact ⟨_, _, _, _, rfl, (KP.i rfl KP.rf), ⟨⟨hI.1, hI.2.1, t, by omega, et⟩, PE.of10 rfl rfl rfl rfl rfl rfl rfl rfl rfl rfl⟩, _, rfl⟩
                                                  · refine zw_iload_n 6 f112_5 rfl rfl ?_
                                                    refine zw_iload_n 7 f112_6 rfl rfl ?_
                                                    refine zw_ic_gt 10 14 f112_7 (by decide +kernel) rfl (fun hc103 => ?_) (fun hc103 => ?_)
                                                    · refine zw_iconst 0 15 f112_14 rfl (by decide +kernel) ?_
                                                      refine zw_zreturn f112_15 r112 u112 (by decide +kernel) ⟨_, rfl, ?_⟩
                                                      refine zw_if_eq_t 37 f114_15 (by decide +kernel) (by decide +kernel) ?_
                                                      refine zw_iconst 0 38 f114_37 rfl (by decide +kernel) ?_
                                                      refine zw_zreturn f114_38 r114 u114 (by decide +kernel) ⟨_, rfl, ?_⟩
                                                      refine zw_if_eq_t 43 f109_32 (by decide +kernel) (by decide +kernel) ?_
                                                      refine zw_aload_n 44 f109_43 rfl (zl1_ne rfl rfl rfl) ?_
                                                      refine zw_bipush 11 46 f109_44 rfl (by decide +kernel) ?_
                                                      refine zw_virtual_i 49 0 0 [.ref 0, .int 11] [(0, .ref 0), (1, .int 11)] f109_46 rfl n109_78 k109_78_11 rfl (hb_0 _ _ _ _) (by decide +kernel) (Nat.le_of_ble_eq_true rfl) rfl rfl (by decide +kernel) (by decide +kernel) rfl (Nat.le_of_ble_eq_true rfl) rfl ?_
                                                      refine zw_aload_n 1 f105_0 rfl rfl ?_
                                                      refine zw_iload_n 2 f105_1 rfl rfl ?_
                                                      refine zw_put _ 5 f105_2 rfl g105_70_11 (hb_0 _ _ _ _) rfl (Nat.le_of_ble_eq_true rfl) (by decide +kernel) (hi_0_7 _ _ _ _ _) ?_
                                                      refine zw_iconst (-1) 6 f105_5 rfl (by decide +kernel) ?_
                                                      refine zw_ireturn f105_6 r105 u105 ⟨_, rfl, ?_⟩
                                                      refine zw_ireturn f109_49 r109 u109 ⟨_, rfl, ?_⟩
                                                      refine zw_ireturn f103_91 r103 u103 ?_
                                                      exact ⟨_, _, _, _, rfl, (KP.i rfl KP.rf), ⟨⟨hI.1, hI.2.1, t, by omega, et⟩, PE.of10 rfl rfl rfl rfl rfl rfl rfl rfl rfl rfl⟩, _, rfl⟩
                                                    · refine zw_iconst 1 11 f112_10 rfl (by decide +kernel) ?_
                                                      refine zw_goto 15 f112_11 (by decide +kernel) ?_
                                                      refine zw_zreturn f112_15 r112 u112 (by decide +kernel) ⟨_, rfl, ?_⟩
                                                      refine zw_if_eq_f 18 37 f114_15 (by decide +kernel) rfl (by decide +kernel) ?_
                                                      refine zw_iload_n 19 f114_18 rfl (zl1_ne rfl rfl zl1_eq) ?_
                                                      refine zw_iload_n 20 f114_19 rfl (zl1_ne rfl rfl (zl1_ne rfl rfl (zl1_ne rfl rfl (zl1_ne rfl rfl (zl1_ne rfl rfl (zl1_ne rfl rfl (zl1_ne rfl rfl (zl1_ne rfl rfl rfl)))))))) ?_
                                                      refine zw_ic_ne 23 25 f114_20 (by decide +kernel) rfl (fun hc104 => ?_) (fun hc104 => ?_)
                                                      · refine zw_getstatic 28 f114_25 rfl (by decide +kernel) ?_
                                                        refine zw_iload_n 29 f114_28 rfl (zl1_ne rfl rfl zl1_eq) ?_
                                                        refine zw_iaload_f (zka (zka (zka (A 2 (c - c / 8 * 8).toNatClampNeg).toNatClampNeg).toNatClampNeg).toNatClampNeg).toNatClampNeg 5 (zka (zka (zka (zka (A 2 (c - c / 8 * 8).toNatClampNeg).toNatClampNeg).toNatClampNeg).toNatClampNeg).toNatClampNeg) 30 f114_29 rfl hro.1 rfl hc102 (zix (by decide) hc102 (n45 hc103)) (congrFun hro.2 _) ?_
                                                        refine zw_istore_n _ 31 f114_30 rfl (by decide +kernel) rfl ?_
                                                        refine zw_iinc 4 _ 34 f114_31 rfl (zl1_ne rfl rfl zl1_eq) (by decide +kernel) (by decide +kernel) rfl ?_
                                                        refine zw_goto 4 f114_34 (by decide +kernel) ?_
                                                        refine zw_iload_n 5 f114_4 rfl zl1_eq ?_
                                                        refine zw_iconst 5 6 f114_5 rfl (by decide +kernel) ?_
                                                        refine zw_ic_ge_f 9 37 f114_6 (by decide +kernel) rfl (by decide +kernel) ?_
                                                        refine zw_iload_n 10 f114_9 rfl (zl1_ne rfl rfl zl1_eq) ?_
                                                        refine zw_iconst 0 11 f114_10 rfl (by decide +kernel) ?_
                                                        refine zw_iconst 4 12 f114_11 rfl (by decide +kernel) ?_
                                                        refine zw_static_i 15 0 0 [.int (zka (zka (zka (zka (A 2 (c - c / 8 * 8).toNatClampNeg).toNatClampNeg).toNatClampNeg).toNatClampNeg).toNatClampNeg), .int 0, .int 4] [] [(0, .int (zka (zka (zka (zka (A 2 (c - c / 8 * 8).toNatClampNeg).toNatClampNeg).toNatClampNeg).toNatClampNeg).toNatClampNeg)), (1, .int 0), (2, .int 4)] f114_12 rfl k114_74_99 rfl (by decide +kernel) (Nat.le_of_ble_eq_true rfl) (Nat.le_of_ble_eq_true rfl) rfl rfl (by decide +kernel) (by decide +kernel) rfl (Nat.le_of_ble_eq_true rfl) rfl ?_
                                                        refine zw_iload_n 1 f112_0 rfl rfl ?_
                                                        refine zw_iload_n 2 f112_1 rfl rfl ?_
                                                        refine zw_ic_lt 5 14 f112_2 (by decide +kernel) rfl (fun hc105 => ?_) (fun hc105 => ?_)
                                                        · refine zw_iconst 0 15 f112_14 rfl (by decide +kernel) ?_
                                                          refine zw_zreturn f112_15 r112 u112 (by decide +kernel) ⟨_, rfl, ?_⟩
                                                          refine zw_if_eq_t 37 f114_15 (by decide +kernel) (by decide +kernel) ?_
                                                          refine zw_iconst 0 38 f114_37 rfl (by decide +kernel) ?_
                                                          refine zw_zreturn f114_38 r114 u114 (by decide +kernel) ⟨_, rfl, ?_⟩
                                                          refine zw_if_eq_t 43 f109_32 (by decide +kernel) (by decide +kernel) ?_
                                                          refine zw_aload_n 44 f109_43 rfl (zl1_ne rfl rfl rfl) ?_
                                                          refine zw_bipush 11 46 f109_44 rfl (by decide +kernel) ?_
                                                          refine zw_virtual_i 49 0 0 [.ref 0, .int 11] [(0, .ref 0), (1, .int 11)] f109_46 rfl n109_78 k109_78_11 rfl (hb_0 _ _ _ _) (by decide +kernel) (Nat.le_of_ble_eq_true rfl) rfl rfl (by decide +kernel) (by decide +kernel) rfl (Nat.le_of_ble_eq_true rfl) rfl ?_
                                                          refine zw_aload_n 1 f105_0 rfl rfl ?_
                                                          refine zw_iload_n 2 f105_1 rfl rfl ?_
                                                          refine zw_put _ 5 f105_2 rfl g105_70_11 (hb_0 _ _ _ _) rfl (Nat.le_of_ble_eq_true rfl) (by decide +kernel) (hi_0_7 _ _ _ _ _) ?_
                                                          refine zw_iconst (-1) 6 f105_5 rfl (by decide +kernel) ?_
                                                          refine zw_ireturn f105_6 r105 u105 ⟨_, rfl, ?_⟩
                                                          refine zw_ireturn f109_49 r109 u109 ⟨_, rfl, ?_⟩
                                                          refine zw_ireturn f103_91 r103 u103 ?_
                                                          exact ⟨_, _, _, _, rfl, (KP.i rfl KP.rf), ⟨⟨hI.1, hI.2.1, t, by omega, et⟩, PE.of10 rfl rfl rfl rfl rfl rfl rfl rfl rfl rfl⟩, _, rfl⟩
                                                        · refine zw_iload_n 6 f112_5 rfl rfl ?_
                                                          refine zw_iload_n 7 f112_6 rfl rfl ?_
                                                          refine zw_ic_gt 10 14 f112_7 (by decide +kernel) rfl (fun hc106 => ?_) (fun hc106 => ?_)
                                                          · refine zw_iconst 0 15 f112_14 rfl (by decide +kernel) ?_
                                                            refine zw_zreturn f112_15 r112 u112 (by decide +kernel) ⟨_, rfl, ?_⟩
                                                            refine zw_if_eq_t 37 f114_15 (by decide +kernel) (by decide +kernel) ?_
                                                            refine zw_iconst 0 38 f114_37 rfl (by decide +kernel) ?_
                                                            refine zw_zreturn f114_38 r114 u114 (by decide +kernel) ⟨_, rfl, ?_⟩
                                                            refine zw_if_eq_t 43 f109_32 (by decide +kernel) (by decide +kernel) ?_
                                                            refine zw_aload_n 44 f109_43 rfl (zl1_ne rfl rfl rfl) ?_
                                                            refine zw_bipush 11 46 f109_44 rfl (by decide +kernel) ?_
                                                            refine zw_virtual_i 49 0 0 [.ref 0, .int 11] [(0, .ref 0), (1, .int 11)] f109_46 rfl n109_78 k109_78_11 rfl (hb_0 _ _ _ _) (by decide +kernel) (Nat.le_of_ble_eq_true rfl) rfl rfl (by decide +kernel) (by decide +kernel) rfl (Nat.le_of_ble_eq_true rfl) rfl ?_
                                                            refine zw_aload_n 1 f105_0 rfl rfl ?_
                                                            refine zw_iload_n 2 f105_1 rfl rfl ?_
                                                            refine zw_put _ 5 f105_2 rfl g105_70_11 (hb_0 _ _ _ _) rfl (Nat.le_of_ble_eq_true rfl) (by decide +kernel) (hi_0_7 _ _ _ _ _) ?_
                                                            refine zw_iconst (-1) 6 f105_5 rfl (by decide +kernel) ?_
                                                            refine zw_ireturn f105_6 r105 u105 ⟨_, rfl, ?_⟩
                                                            refine zw_ireturn f109_49 r109 u109 ⟨_, rfl, ?_⟩
                                                            refine zw_ireturn f103_91 r103 u103 ?_
                                                            exact ⟨_, _, _, _, rfl, (KP.i rfl KP.rf), ⟨⟨hI.1, hI.2.1, t, by omega, et⟩, PE.of10 rfl rfl rfl rfl rfl rfl rfl rfl rfl rfl⟩, _, rfl⟩
                                                          · refine zw_iconst 1 11 f112_10 rfl (by decide +kernel) ?_
                                                            refine zw_goto 15 f112_11 (by decide +kernel) ?_
                                                            refine zw_zreturn f112_15 r112 u112 (by decide +kernel) ⟨_, rfl, ?_⟩
                                                            refine zw_if_eq_f 18 37 f114_15 (by decide +kernel) rfl (by decide +kernel) ?_
                                                            refine zw_iload_n 19 f114_18 rfl (zl1_ne rfl rfl zl1_eq) ?_
                                                            refine zw_iload_n 20 f114_19 rfl (zl1_ne rfl rfl (zl1_ne rfl rfl (zl1_ne rfl rfl (zl1_ne rfl rfl (zl1_ne rfl rfl (zl1_ne rfl rfl (zl1_ne rfl rfl (zl1_ne rfl rfl (zl1_ne rfl rfl (zl1_ne rfl rfl rfl)))))))))) ?_
                                                            refine zw_ic_ne 23 25 f114_20 (by decide +kernel) rfl (fun hc107 => ?_) (fun hc107 => ?_)
                                                            · refine zw_getstatic 28 f114_25 rfl (by decide +kernel) ?_
                                                              refine zw_iload_n 29 f114_28 rfl (zl1_ne rfl rfl zl1_eq) ?_
                                                              refine zw_iaload_f (zka (zka (zka (zka (A 2 (c - c / 8 * 8).toNatClampNeg).toNatClampNeg).toNatClampNeg).toNatClampNeg).toNatClampNeg).toNatClampNeg 5 (zka (zka (zka (zka (zka (A 2 (c - c / 8 * 8).toNatClampNeg).toNatClampNeg).toNatClampNeg).toNatClampNeg).toNatClampNeg).toNatClampNeg) 30 f114_29 rfl hro.1 rfl hc105 (zix (by decide) hc105 (n45 hc106)) (congrFun hro.2 _) ?_
                                                              refine zw_istore_n _ 31 f114_30 rfl (by decide +kernel) rfl ?_
                                                              refine zw_iinc 5 _ 34 f114_31 rfl (zl1_ne rfl rfl zl1_eq) (by decide +kernel) (by decide +kernel) rfl ?_
                                                              refine zw_goto 4 f114_34 (by decide +kernel) ?_
                                                              refine zw_iload_n 5 f114_4 rfl zl1_eq ?_
                                                              refine zw_iconst 5 6 f114_5 rfl (by decide +kernel) ?_
                                                              refine zw_ic_ge_t 37 f114_6 (by decide +kernel) (by decide +kernel) ?_
                                                              refine zw_iconst 0 38 f114_37 rfl (by decide +kernel) ?_
                                                              refine zw_zreturn f114_38 r114 u114 (by decide +kernel) ⟨_, rfl, ?_⟩
                                                              refine zw_if_eq_t 43 f109_32 (by decide +kernel) (by decide +kernel) ?_
                                                              refine zw_aload_n 44 f109_43 rfl (zl1_ne rfl rfl rfl) ?_
                                                              refine zw_bipush 11 46 f109_44 rfl (by decide +kernel) ?_
                                                              refine zw_virtual_i 49 0 0 [.ref 0, .int 11] [(0, .ref 0), (1, .int 11)] f109_46 rfl n109_78 k109_78_11 rfl (hb_0 _ _ _ _) (by decide +kernel) (Nat.le_of_ble_eq_true rfl) rfl rfl (by decide +kernel) (by decide +kernel) rfl (Nat.le_of_ble_eq_true rfl) rfl ?_
                                                              refine zw_aload_n 1 f105_0 rfl rfl ?_
                                                              refine zw_iload_n 2 f105_1 rfl rfl ?_
                                                              refine zw_put _ 5 f105_2 rfl g105_70_11 (hb_0 _ _ _ _) rfl (Nat.le_of_ble_eq_true rfl) (by decide +kernel) (hi_0_7 _ _ _ _ _) ?_
                                                              refine zw_iconst (-1) 6 f105_5 rfl (by decide +kernel) ?_
                                                              refine zw_ireturn f105_6 r105 u105 ⟨_, rfl, ?_⟩
                                                              refine zw_ireturn f109_49 r109 u109 ⟨_, rfl, ?_⟩
                                                              refine zw_ireturn f103_91 r103 u103 ?_
                                                              exact ⟨_, _, _, _, rfl, (KP.i rfl KP.rf), ⟨⟨hI.1, hI.2.1, t, by omega, et⟩, PE.of10 rfl rfl rfl rfl rfl rfl rfl rfl rfl rfl⟩, _, rfl⟩
                                                            · refine zw_iconst 1 24 f114_23 rfl (by decide +kernel) ?_
                                                              refine zw_zreturn f114_24 r114 u114 (by decide +kernel) ⟨_, rfl, ?_⟩
                                                              refine zw_if_eq_f 35 43 f109_32 (by decide +kernel) rfl (by decide +kernel) ?_
                                                              refine zw_aload_n 36 f109_35 rfl (zl1_ne rfl rfl rfl) ?_
                                                              refine zw_iload_n 37 f109_36 rfl zl1_eq ?_
                                                              refine zw_virtual_i 40 0 0 [.ref 0, .int (A 2 (c - c / 8 * 8).toNatClampNeg)] [(0, .ref 0), (1, .int (A 2 (c - c / 8 * 8).toNatClampNeg))] f109_37 rfl n109_181 k109_181_11 rfl (hb_0 _ _ _ _) (by decide +kernel) (Nat.le_of_ble_eq_true rfl) rfl rfl (by decide +kernel) (by decide +kernel) rfl (Nat.le_of_ble_eq_true rfl) rfl ?_
                                                              refine zw_aload_n 1 f106_0 rfl rfl ?_
                                                              refine zw_iconst 0 2 f106_1 rfl (by decide +kernel) ?_
                                                              refine zw_put _ 5 f106_2 rfl g106_70_11 (hb_0 _ _ _ _) rfl (Nat.le_of_ble_eq_true rfl) (by decide +kernel) (hi_0_7 _ _ _ _ _) ?_
                                                              refine zw_iload_n 6 f106_5 rfl rfl ?_
                                                              refine zw_ireturn f106_6 r106 u106 ⟨_, rfl, ?_⟩
                                                              refine zw_goto 49 f109_40 (by decide +kernel) ?_
                                                              refine zw_ireturn f109_49 r109 u109 ⟨_, rfl, ?_⟩
                                                              refine zw_ireturn f103_91 r103 u103 ?_
                                                              exact ⟨_, _, _, _, rfl, (KP.i rfl KP.rf), ⟨⟨hI.1, hI.2.1, t, by omega, et⟩, PE.of10 rfl rfl rfl rfl rfl rfl rfl rfl rfl rfl⟩, _, rfl⟩
                                                      · refine zw_iconst 1 24 f114_23 rfl (by decide +kernel) ?_
                                                        refine zw_zreturn f114_24 r114 u114 (by decide +kernel) ⟨_, rfl, ?_⟩
                                                        refine zw_if_eq_f 35 43 f109_32 (by decide +kernel) rfl (by decide +kernel) ?_
                                                        refine zw_aload_n 36 f109_35 rfl (zl1_ne rfl rfl rfl) ?_
                                                        refine zw_iload_n 37 f109_36 rfl zl1_eq ?_
                                                        refine zw_virtual_i 40 0 0 [.ref 0, .int (A 2 (c - c / 8 * 8).toNatClampNeg)] [(0, .ref 0), (1, .int (A 2 (c - c / 8 * 8).toNatClampNeg))] f109_37 rfl n109_181 k109_181_11 rfl (hb_0 _ _ _ _) (by decide +kernel) (Nat.le_of_ble_eq_true rfl) rfl rfl (by decide +kernel) (by decide +kernel) rfl (Nat.le_of_ble_eq_true rfl) rfl ?_
                                                        refine zw_aload_n 1 f106_0 rfl rfl ?_
                                                        refine zw_iconst 0 2 f106_1 rfl (by decide +kernel) ?_
                                                        refine zw_put _ 5 f106_2 rfl g106_70_11 (hb_0 _ _ _ _) rfl (Nat.le_of_ble_eq_true rfl) (by decide +kernel) (hi_0_7 _ _ _ _ _) ?_
                                                        refine zw_iload_n 6 f106_5 rfl rfl ?_
                                                        refine zw_ireturn f106_6 r106 u106 ⟨_, rfl, ?_⟩
                                                        refine zw_goto 49 f109_40 (by decide +kernel) ?_
                                                        refine zw_ireturn f109_49 r109 u109 ⟨_, rfl, ?_⟩
                                                        refine zw_ireturn f103_91 r103 u103 ?_
                                                        exact ⟨_, _, _, _, rfl, (KP.i rfl KP.rf), ⟨⟨hI.1, hI.2.1, t, by omega, et⟩, PE.of10 rfl rfl rfl rfl rfl rfl rfl rfl rfl rfl⟩, _, rfl⟩
                                                · refine zw_iconst 1 24 f114_23 rfl (by decide +kernel) ?_
                                                  refine zw_zreturn f114_24 r114 u114 (by decide +kernel) ⟨_, rfl, ?_⟩
                                                  refine zw_if_eq_f 35 43 f109_32 (by decide +kernel) rfl (by decide +kernel) ?_
                                                  refine zw_aload_n 36 f109_35 rfl (zl1_ne rfl rfl rfl) ?_
                                                  refine zw_iload_n 37 f109_36 rfl zl1_eq ?_
                                                  refine zw_virtual_i 40 0 0 [.ref 0, .int (A 2 (c - c / 8 * 8).toNatClampNeg)] [(0, .ref 0), (1, .int (A 2 (c - c / 8 * 8).toNatClampNeg))] f109_37 rfl n109_181 k109_181_11 rfl (hb_0 _ _ _ _) (by decide +kernel) (Nat.le_of_ble_eq_true rfl) rfl rfl (by decide +kernel) (by decide +kernel) rfl (Nat.le_of_ble_eq_true rfl) rfl ?_
                                                  refine zw_aload_n 1 f106_0 rfl rfl ?_
                                                  refine zw_iconst 0 2 f106_1 rfl (by decide +kernel) ?_
                                                  refine zw_put _ 5 f106_2 rfl g106_70_11 (hb_0 _ _ _ _) rfl (Nat.le_of_ble_eq_true rfl) (by decide +kernel) (hi_0_7 _ _ _ _ _) ?_
                                                  refine zw_iload_n 6 f106_5 rfl rfl ?_
                                                  refine zw_ireturn f106_6 r106 u106 ⟨_, rfl, ?_⟩
                                                  refine zw_goto 49 f109_40 (by decide +kernel) ?_
                                                  refine zw_ireturn f109_49 r109 u109 ⟨_, rfl, ?_⟩
                                                  refine zw_ireturn f103_91 r103 u103 ?_
                                                  exact ⟨_, _, _, _, rfl, (KP.i rfl KP.rf), ⟨⟨hI.1, hI.2.1, t, by omega, et⟩, PE.of10 rfl rfl rfl rfl rfl rfl rfl rfl rfl rfl⟩, _, rfl⟩
                                          · refine zw_iconst 1 24 f114_23 rfl (by decide +kernel) ?_
                                            refine zw_zreturn f114_24 r114 u114 (by decide +kernel) ⟨_, rfl, ?_⟩
                                            refine zw_if_eq_f 35 43 f109_32 (by decide +kernel) rfl (by decide +kernel) ?_
                                            refine zw_aload_n 36 f109_35 rfl (zl1_ne rfl rfl rfl) ?_
                                            refine zw_iload_n 37 f109_36 rfl zl1_eq ?_
                                            refine zw_virtual_i 40 0 0 [.ref 0, .int (A 2 (c - c / 8 * 8).toNatClampNeg)] [(0, .ref 0), (1, .int (A 2 (c - c / 8 * 8).toNatClampNeg))] f109_37 rfl n109_181 k109_181_11 rfl (hb_0 _ _ _ _) (by decide +kernel) (Nat.le_of_ble_eq_true rfl) rfl rfl (by decide +kernel) (by decide +kernel) rfl (Nat.le_of_ble_eq_true rfl) rfl ?_
                                            refine zw_aload_n 1 f106_0 rfl rfl ?_
                                            refine zw_iconst 0 2 f106_1 rfl (by decide +kernel) ?_
                                            refine zw_put _ 5 f106_2 rfl g106_70_11 (hb_0 _ _ _ _) rfl (Nat.le_of_ble_eq_true rfl) (by decide +kernel) (hi_0_7 _ _ _ _ _) ?_
                                            refine zw_iload_n 6 f106_5 rfl rfl ?_
                                            refine zw_ireturn f106_6 r106 u106 ⟨_, rfl, ?_⟩
                                            refine zw_goto 49 f109_40 (by decide +kernel) ?_
                                            refine zw_ireturn f109_49 r109 u109 ⟨_, rfl, ?_⟩
                                            refine zw_ireturn f103_91 r103 u103 ?_
                                            exact ⟨_, _, _, _, rfl, (KP.i rfl KP.rf), ⟨⟨hI.1, hI.2.1, t, by omega, et⟩, PE.of10 rfl rfl rfl rfl rfl rfl rfl rfl rfl rfl⟩, _, rfl⟩
                                    · refine zw_iconst 1 24 f114_23 rfl (by decide +kernel) ?_
                                      refine zw_zreturn f114_24 r114 u114 (by decide +kernel) ⟨_, rfl, ?_⟩
                                      refine zw_if_eq_f 35 43 f109_32 (by decide +kernel) rfl (by decide +kernel) ?_
                                      refine zw_aload_n 36 f109_35 rfl (zl1_ne rfl rfl rfl) ?_
                                      refine zw_iload_n 37 f109_36 rfl zl1_eq ?_
                                      refine zw_virtual_i 40 0 0 [.ref 0, .int (A 2 (c - c / 8 * 8).toNatClampNeg)] [(0, .ref 0), (1, .int (A 2 (c - c / 8 * 8).toNatClampNeg))] f109_37 rfl n109_181 k109_181_11 rfl (hb_0 _ _ _ _) (by decide +kernel) (Nat.le_of_ble_eq_true rfl) rfl rfl (by decide +kernel) (by decide +kernel) rfl (Nat.le_of_ble_eq_true rfl) rfl ?_
                                      refine zw_aload_n 1 f106_0 rfl rfl ?_
                                      refine zw_iconst 0 2 f106_1 rfl (by decide +kernel) ?_
                                      refine zw_put _ 5 f106_2 rfl g106_70_11 (hb_0 _ _ _ _) rfl (Nat.le_of_ble_eq_true rfl) (by decide +kernel) (hi_0_7 _ _ _ _ _) ?_
                                      refine zw_iload_n 6 f106_5 rfl rfl ?_
                                      refine zw_ireturn f106_6 r106 u106 ⟨_, rfl, ?_⟩
                                      refine zw_goto 49 f109_40 (by decide +kernel) ?_
                                      refine zw_ireturn f109_49 r109 u109 ⟨_, rfl, ?_⟩
                                      refine zw_ireturn f103_91 r103 u103 ?_
                                      exact ⟨_, _, _, _, rfl, (KP.i rfl KP.rf), ⟨⟨hI.1, hI.2.1, t, by omega, et⟩, PE.of10 rfl rfl rfl rfl rfl rfl rfl rfl rfl rfl⟩, _, rfl⟩
                        · refine zw_iload_n 15 f186_14 rfl zl1_eq ?_
                          refine zw_iload_n 16 f186_15 rfl (zl1_ne rfl rfl rfl) ?_
                          refine zw_iadd ((b - b / 5 * 5) + 5) 17 f186_16 rfl rfl ?_
                          refine zw_ireturn f186_17 r186 u186 ⟨_, rfl, ?_⟩
                          refine zw_virtual_i 91 0 0 [.ref 0, .int (c - c / 8 * 8), .int ((b - b / 5 * 5) + 5)] [(0, .ref 0), (1, .int (c - c / 8 * 8)), (2, .int ((b - b / 5 * 5) + 5))] f103_88 rfl n103_309 k103_309_11 rfl (hb_0 _ _ _ _) (by decide +kernel) (Nat.le_of_ble_eq_true rfl) rfl rfl (by decide +kernel) (by decide +kernel) rfl (Nat.le_of_ble_eq_true rfl) rfl ?_
                          refine zw_aload_n 1 f109_0 rfl rfl ?_
                          refine zw_getfield 4 f109_1 rfl g109_10_11 (hb_0 _ _ _ _) rfl ?_
                          refine zw_iload_n 5 f109_4 rfl rfl ?_
                          refine zw_virtual_i 8 0 0 [.ref 1, .int (c - c / 8 * 8)] [(0, .ref 1), (1, .int (c - c / 8 * 8))] f109_5 rfl n109_89 k109_89_4 rfl (hb_1 _ _ _ _) (by decide +kernel) (Nat.le_of_ble_eq_true rfl) rfl rfl (by decide +kernel) (by decide +kernel) rfl (Nat.le_of_ble_eq_true rfl) rfl ?_
                          refine zw_iload_n 1 f13_0 rfl rfl ?_
                          refine zw_if_lt 4 22 f13_1 (by decide +kernel) rfl (fun hc108 => ?_) (fun hc108 => ?_)
                          · refine zw_iconst 0 23 f13_22 rfl (by decide +kernel) ?_
                            refine zw_zreturn f13_23 r13 u13 (by decide +kernel) ⟨_, rfl, ?_⟩
                            refine zw_if_ne_f 11 18 f109_8 (by decide +kernel) rfl (by decide +kernel) ?_
                            refine zw_aload_n 12 f109_11 rfl rfl ?_
                            refine zw_bipush 10 14 f109_12 rfl (by decide +kernel) ?_
                            refine zw_virtual_i 17 0 0 [.ref 0, .int 10] [(0, .ref 0), (1, .int 10)] f109_14 rfl n109_78 k109_78_11 rfl (hb_0 _ _ _ _) (by decide +kernel) (Nat.le_of_ble_eq_true rfl) rfl rfl (by decide +kernel) (by decide +kernel) rfl (Nat.le_of_ble_eq_true rfl) rfl ?_
                            refine zw_aload_n 1 f105_0 rfl rfl ?_
                            refine zw_iload_n 2 f105_1 rfl rfl ?_
                            refine zw_put _ 5 f105_2 rfl g105_70_11 (hb_0 _ _ _ _) rfl (Nat.le_of_ble_eq_true rfl) (by decide +kernel) (hi_0_7 _ _ _ _ _) ?_
                            refine zw_iconst (-1) 6 f105_5 rfl (by decide +kernel) ?_
                            refine zw_ireturn f105_6 r105 u105 ⟨_, rfl, ?_⟩
                            refine zw_ireturn f109_17 r109 u109 ⟨_, rfl, ?_⟩
                            refine zw_ireturn f103_91 r103 u103 ?_
                            exact ⟨_, _, _, _, rfl, (KP.i rfl KP.rf), ⟨⟨hI.1, hI.2.1, t, by omega, et⟩, PE.of10 rfl rfl rfl rfl rfl rfl rfl rfl rfl rfl⟩, _, rfl⟩
                          · refine zw_iload_n 5 f13_4 rfl rfl ?_
                            refine zw_aload_n 6 f13_5 rfl rfl ?_
                            refine zw_getI (nI nv) 9 f13_6 rfl g13_39_4 (hb_1 _ _ _ _) rfl hI.1.1.1 ?_
                            refine zw_ic_ge 12 22 f13_9 (by decide +kernel) rfl (fun hc109 => ?_) (fun hc109 => ?_)
                            · refine zw_iconst 0 23 f13_22 rfl (by decide +kernel) ?_
                              refine zw_zreturn f13_23 r13 u13 (by decide +kernel) ⟨_, rfl, ?_⟩
                              refine zw_if_ne_f 11 18 f109_8 (by decide +kernel) rfl (by decide +kernel) ?_
                              refine zw_aload_n 12 f109_11 rfl rfl ?_
                              refine zw_bipush 10 14 f109_12 rfl (by decide +kernel) ?_
                              refine zw_virtual_i 17 0 0 [.ref 0, .int 10] [(0, .ref 0), (1, .int 10)] f109_14 rfl n109_78 k109_78_11 rfl (hb_0 _ _ _ _) (by decide +kernel) (Nat.le_of_ble_eq_true rfl) rfl rfl (by decide +kernel) (by decide +kernel) rfl (Nat.le_of_ble_eq_true rfl) rfl ?_
                              refine zw_aload_n 1 f105_0 rfl rfl ?_
                              refine zw_iload_n 2 f105_1 rfl rfl ?_
                              refine zw_put _ 5 f105_2 rfl g105_70_11 (hb_0 _ _ _ _) rfl (Nat.le_of_ble_eq_true rfl) (by decide +kernel) (hi_0_7 _ _ _ _ _) ?_
                              refine zw_iconst (-1) 6 f105_5 rfl (by decide +kernel) ?_
                              refine zw_ireturn f105_6 r105 u105 ⟨_, rfl, ?_⟩
                              refine zw_ireturn f109_17 r109 u109 ⟨_, rfl, ?_⟩
                              refine zw_ireturn f103_91 r103 u103 ?_
                              exact ⟨_, _, _, _, rfl, (KP.i rfl KP.rf), ⟨⟨hI.1, hI.2.1, t, by omega, et⟩, PE.of10 rfl rfl rfl rfl rfl rfl rfl rfl rfl rfl⟩, _, rfl⟩
                            · refine zw_iload_n 13 f13_12 rfl rfl ?_
                              refine zw_bipush 8 15 f13_13 rfl (by decide +kernel) ?_
                              refine zw_ic_ge 18 22 f13_15 (by decide +kernel) rfl (fun hc110 => ?_) (fun hc110 => ?_)
                              · refine zw_iconst 0 23 f13_22 rfl (by decide +kernel) ?_
                                refine zw_zreturn f13_23 r13 u13 (by decide +kernel) ⟨_, rfl, ?_⟩
                                refine zw_if_ne_f 11 18 f109_8 (by decide +kernel) rfl (by decide +kernel) ?_
                                refine zw_aload_n 12 f109_11 rfl rfl ?_
                                refine zw_bipush 10 14 f109_12 rfl (by decide +kernel) ?_
                                refine zw_virtual_i 17 0 0 [.ref 0, .int 10] [(0, .ref 0), (1, .int 10)] f109_14 rfl n109_78 k109_78_11 rfl (hb_0 _ _ _ _) (by decide +kernel) (Nat.le_of_ble_eq_true rfl) rfl rfl (by decide +kernel) (by decide +kernel) rfl (Nat.le_of_ble_eq_true rfl) rfl ?_
                                refine zw_aload_n 1 f105_0 rfl rfl ?_
                                refine zw_iload_n 2 f105_1 rfl rfl ?_
                                refine zw_put _ 5 f105_2 rfl g105_70_11 (hb_0 _ _ _ _) rfl (Nat.le_of_ble_eq_true rfl) (by decide +kernel) (hi_0_7 _ _ _ _ _) ?_
                                refine zw_iconst (-1) 6 f105_5 rfl (by decide +kernel) ?_
                                refine zw_ireturn f105_6 r105 u105 ⟨_, rfl, ?_⟩
                                refine zw_ireturn f109_17 r109 u109 ⟨_, rfl, ?_⟩
                                refine zw_ireturn f103_91 r103 u103 ?_
                                exact ⟨_, _, _, _, rfl, (KP.i rfl KP.rf), ⟨⟨hI.1, hI.2.1, t, by omega, et⟩, PE.of10 rfl rfl rfl rfl rfl rfl rfl rfl rfl rfl⟩, _, rfl⟩
                              · refine zw_iconst 1 19 f13_18 rfl (by decide +kernel) ?_
                                refine zw_goto 23 f13_19 (by decide +kernel) ?_
                                refine zw_zreturn f13_23 r13 u13 (by decide +kernel) ⟨_, rfl, ?_⟩
                                refine zw_if_ne_t 18 f109_8 (by decide +kernel) (by decide +kernel) ?_
                                refine zw_aload_n 19 f109_18 rfl rfl ?_
                                refine zw_getfield 22 f109_19 rfl g109_10_11 (hb_0 _ _ _ _) rfl ?_
                                refine zw_iload_n 23 f109_22 rfl rfl ?_
                                refine zw_virtual_i 26 0 0 [.ref 1, .int (c - c / 8 * 8)] [(0, .ref 1), (1, .int (c - c / 8 * 8))] f109_23 rfl n109_112 k109_112_4 rfl (hb_1 _ _ _ _) (by decide +kernel) (Nat.le_of_ble_eq_true rfl) rfl rfl (by decide +kernel) (by decide +kernel) rfl (Nat.le_of_ble_eq_true rfl) rfl ?_
                                refine zw_iload_n 1 f15_0 rfl rfl ?_
                                refine zw_if_lt_f 4 27 f15_1 (by decide +kernel) rfl hc108 ?_
                                refine zw_iload_n 5 f15_4 rfl rfl ?_
                                refine zw_aload_n 6 f15_5 rfl rfl ?_
                                refine zw_getI (nI nv) 9 f15_6 rfl g15_39_4 (hb_1 _ _ _ _) rfl hI.1.1.1 ?_
                                refine zw_ic_ge_f 12 27 f15_9 (by decide +kernel) rfl hc109 ?_
                                refine zw_iload_n 13 f15_12 rfl rfl ?_
                                refine zw_bipush 8 15 f15_13 rfl (by decide +kernel) ?_
                                refine zw_ic_ge_f 18 27 f15_15 (by decide +kernel) rfl hc110 ?_
                                refine zw_aload_n 19 f15_18 rfl rfl ?_
                                refine zw_getfield 22 f15_19 rfl g15_9_4 (hb_1 _ _ _ _) rfl ?_
                                refine zw_iload_n 23 f15_22 rfl rfl ?_
                                refine zw_iaload (c - c / 8 * 8).toNatClampNeg (A 2 (c - c / 8 * 8).toNatClampNeg) 24 f15_23 rfl (hb_2 _ _ _ _) rfl hc108 (zix (by decide) hc108 hc110) rfl ?_
                                refine zw_goto 28 f15_24 (by decide +kernel) ?_
                                refine zw_ireturn f15_28 r15 u15 ⟨_, rfl, ?_⟩
                                refine zw_istore_n _ 27 f109_26 rfl (by decide +kernel) rfl ?_
                                refine zw_iload_n 28 f109_27 rfl zl1_eq ?_
                                refine zw_iload_n 29 f109_28 rfl (zl1_ne rfl rfl rfl) ?_
                                refine zw_static_i 32 0 0 [.int (A 2 (c - c / 8 * 8).toNatClampNeg), .int ((b - b / 5 * 5) + 5)] [] [(0, .int (A 2 (c - c / 8 * 8).toNatClampNeg)), (1, .int ((b - b / 5 * 5) + 5))] f109_29 rfl k109_327_99 rfl (by decide +kernel) (Nat.le_of_ble_eq_true rfl) (Nat.le_of_ble_eq_true rfl) rfl rfl (by decide +kernel) (by decide +kernel) rfl (Nat.le_of_ble_eq_true rfl) rfl ?_
                                refine zw_iload_n 1 f114_0 rfl rfl ?_
                                refine zw_istore_n _ 2 f114_1 rfl (by decide +kernel) rfl ?_
                                refine zw_iconst 0 3 f114_2 rfl (by decide +kernel) ?_
                                refine zw_istore_n _ 4 f114_3 rfl (by decide +kernel) rfl ?_
                                refine zw_iload_n 5 f114_4 rfl zl1_eq ?_
                                refine zw_iconst 5 6 f114_5 rfl (by decide +kernel) ?_
                                refine zw_ic_ge_f 9 37 f114_6 (by decide +kernel) rfl (by decide +kernel) ?_
                                refine zw_iload_n 10 f114_9 rfl (zl1_ne rfl rfl zl1_eq) ?_
                                refine zw_iconst 0 11 f114_10 rfl (by decide +kernel) ?_
                                refine zw_iconst 4 12 f114_11 rfl (by decide +kernel) ?_
                                refine zw_static_i 15 0 0 [.int (A 2 (c - c / 8 * 8).toNatClampNeg), .int 0, .int 4] [] [(0, .int (A 2 (c - c / 8 * 8).toNatClampNeg)), (1, .int 0), (2, .int 4)] f114_12 rfl k114_74_99 rfl (by decide +kernel) (Nat.le_of_ble_eq_true rfl) (Nat.le_of_ble_eq_true rfl) rfl rfl (by decide +kernel) (by decide +kernel) rfl (Nat.le_of_ble_eq_true rfl) rfl ?_
                                refine zw_iload_n 1 f112_0 rfl rfl ?_
                                refine zw_iload_n 2 f112_1 rfl rfl ?_
                                refine zw_ic_lt 5 14 f112_2 (by decide +kernel) rfl (fun hc111 => ?_) (fun hc111 => ?_)
                                · refine zw_iconst 0 15 f112_14 rfl (by decide +kernel) ?_
                                  refine zw_zreturn f112_15 r112 u112 (by decide +kernel) ⟨_, rfl, ?_⟩
                                  refine zw_if_eq_t 37 f114_15 (by decide +kernel) (by decide +kernel) ?_
                                  refine zw_iconst 0 38 f114_37 rfl (by decide +kernel) ?_
                                  refine zw_zreturn f114_38 r114 u114 (by decide +kernel) ⟨_, rfl, ?_⟩
                                  refine zw_if_eq_t 43 f109_32 (by decide +kernel) (by decide +kernel) ?_
                                  refine zw_aload_n 44 f109_43 rfl (zl1_ne rfl rfl rfl) ?_
                                  refine zw_bipush 11 46 f109_44 rfl (by decide +kernel) ?_
                                  refine zw_virtual_i 49 0 0 [.ref 0, .int 11] [(0, .ref 0), (1, .int 11)] f109_46 rfl n109_78 k109_78_11 rfl (hb_0 _ _ _ _) (by decide +kernel) (Nat.le_of_ble_eq_true rfl) rfl rfl (by decide +kernel) (by decide +kernel) rfl (Nat.le_of_ble_eq_true rfl) rfl ?_
                                  refine zw_aload_n 1 f105_0 rfl rfl ?_
                                  refine zw_iload_n 2 f105_1 rfl rfl ?_
                                  refine zw_put _ 5 f105_2 rfl g105_70_11 (hb_0 _ _ _ _) rfl (Nat.le_of_ble_eq_true rfl) (by decide +kernel) (hi_0_7 _ _ _ _ _) ?_
                                  refine zw_iconst (-1) 6 f105_5 rfl (by decide +kernel) ?_
                                  refine zw_ireturn f105_6 r105 u105 ⟨_, rfl, ?_⟩
                                  refine zw_ireturn f109_49 r109 u109 ⟨_, rfl, ?_⟩
                                  refine zw_ireturn f103_91 r103 u103 ?_
                                  exact ⟨_, _, _, _, rfl, (KP.i rfl KP.rf), ⟨⟨hI.1, hI.2.1, t, by omega, et⟩, PE.of10 rfl rfl rfl rfl rfl rfl rfl rfl rfl rfl⟩, _, rfl⟩
                                · refine zw_iload_n 6 f112_5 rfl rfl ?_
                                  refine zw_iload_n 7 f112_6 rfl rfl ?_
                                  refine zw_ic_gt 10 14 f112_7 (by decide +kernel) rfl (fun hc112 => ?_) (fun hc112 => ?_)
                                  · refine zw_iconst 0 15 f112_14 rfl (by decide +kernel) ?_
                                    refine zw_zreturn f112_15 r112 u112 (by decide +kernel) ⟨_, rfl, ?_⟩
                                    refine zw_if_eq_t 37 f114_15 (by decide +kernel) (by decide +kernel) ?_
                                    refine zw_iconst 0 38 f114_37 rfl (by decide +kernel) ?_
                                    refine zw_zreturn f114_38 r114 u114 (by decide +kernel) ⟨_, rfl, ?_⟩
                                    refine zw_if_eq_t 43 f109_32 (by decide +kernel) (by decide +kernel) ?_
                                    refine zw_aload_n 44 f109_43 rfl (zl1_ne rfl rfl rfl) ?_
                                    refine zw_bipush 11 46 f109_44 rfl (by decide +kernel) ?_
                                    refine zw_virtual_i 49 0 0 [.ref 0, .int 11] [(0, .ref 0), (1, .int 11)] f109_46 rfl n109_78 k109_78_11 rfl (hb_0 _ _ _ _) (by decide +kernel) (Nat.le_of_ble_eq_true rfl) rfl rfl (by decide +kernel) (by decide +kernel) rfl (Nat.le_of_ble_eq_true rfl) rfl ?_
                                    refine zw_aload_n 1 f105_0 rfl rfl ?_
                                    refine zw_iload_n 2 f105_1 rfl rfl ?_
                                    refine zw_put _ 5 f105_2 rfl g105_70_11 (hb_0 _ _ _ _) rfl (Nat.le_of_ble_eq_true rfl) (by decide +kernel) (hi_0_7 _ _ _ _ _) ?_
                                    refine zw_iconst (-1) 6 f105_5 rfl (by decide +kernel) ?_
                                    refine zw_ireturn f105_6 r105 u105 ⟨_, rfl, ?_⟩
                                    refine zw_ireturn f109_49 r109 u109 ⟨_, rfl, ?_⟩
                                    refine zw_ireturn f103_91 r103 u103 ?_
                                    exact ⟨_, _, _, _, rfl, (KP.i rfl KP.rf), ⟨⟨hI.1, hI.2.1, t, by omega, et⟩, PE.of10 rfl rfl rfl rfl rfl rfl rfl rfl rfl rfl⟩, _, rfl⟩
                                  · refine zw_iconst 1 11 f112_10 rfl (by decide +kernel) ?_
                                    refine zw_goto 15 f112_11 (by decide +kernel) ?_
                                    refine zw_zreturn f112_15 r112 u112 (by decide +kernel) ⟨_, rfl, ?_⟩
                                    refine zw_if_eq_f 18 37 f114_15 (by decide +kernel) rfl (by decide +kernel) ?_
                                    refine zw_iload_n 19 f114_18 rfl (zl1_ne rfl rfl zl1_eq) ?_
                                    refine zw_iload_n 20 f114_19 rfl (zl1_ne rfl rfl (zl1_ne rfl rfl rfl)) ?_
                                    refine zw_ic_ne 23 25 f114_20 (by decide +kernel) rfl (fun hc113 => ?_) (fun hc113 => ?_)
                                    · refine zw_getstatic 28 f114_25 rfl (by decide +kernel) ?_
                                      refine zw_iload_n 29 f114_28 rfl (zl1_ne rfl rfl zl1_eq) ?_
                                      refine zw_iaload_f (A 2 (c - c / 8 * 8).toNatClampNeg).toNatClampNeg 5 (zka (A 2 (c - c / 8 * 8).toNatClampNeg).toNatClampNeg) 30 f114_29 rfl hro.1 rfl hc111 (zix (by decide) hc111 (n45 hc112)) (congrFun hro.2 _) ?_
                                      refine zw_istore_n _ 31 f114_30 rfl (by decide +kernel) rfl ?_
                                      refine zw_iinc 1 _ 34 f114_31 rfl (zl1_ne rfl rfl zl1_eq) (by decide +kernel) (by decide +kernel) rfl ?_
                                      refine zw_goto 4 f114_34 (by decide +kernel) ?_
                                      refine zw_iload_n 5 f114_4 rfl zl1_eq ?_
                                      refine zw_iconst 5 6 f114_5 rfl (by decide +kernel) ?_
                                      refine zw_ic_ge_f 9 37 f114_6 (by decide +kernel) rfl (by decide +kernel) ?_
                                      refine zw_iload_n 10 f114_9 rfl (zl1_ne rfl rfl zl1_eq) ?_
                                      refine zw_iconst 0 11 f114_10 rfl (by decide +kernel) ?_
                                      refine zw_iconst 4 12 f114_11 rfl (by decide +kernel) ?_
                                      refine zw_static_i 15 0 0 [.int (zka (A 2 (c - c / 8 * 8).toNatClampNeg).toNatClampNeg), .int 0, .int 4] [] [(0, .int (zka (A 2 (c - c / 8 * 8).toNatClampNeg).toNatClampNeg)), (1, .int 0), (2, .int 4)] f114_12 rfl k114_74_99 rfl (by decide +kernel) (Nat.le_of_ble_eq_true rfl) (Nat.le_of_ble_eq_true rfl) rfl rfl (by decide +kernel) (by decide +kernel) rfl (Nat.le_of_ble_eq_true rfl) rfl ?_
                                      refine zw_iload_n 1 f112_0 rfl rfl ?_
                                      refine zw_iload_n 2 f112_1 rfl rfl ?_
                                      refine zw_ic_lt 5 14 f112_2 (by decide +kernel) rfl (fun hc114 => ?_) (fun hc114 => ?_)
                                      · refine zw_iconst 0 15 f112_14 rfl (by decide +kernel) ?_
                                        refine zw_zreturn f112_15 r112 u112 (by decide +kernel) ⟨_, rfl, ?_⟩
                                        refine zw_if_eq_t 37 f114_15 (by decide +kernel) (by decide +kernel) ?_
                                        refine zw_iconst 0 38 f114_37 rfl (by decide +kernel) ?_
                                        refine zw_zreturn f114_38 r114 u114 (by decide +kernel) ⟨_, rfl, ?_⟩
                                        refine zw_if_eq_t 43 f109_32 (by decide +kernel) (by decide +kernel) ?_
                                        refine zw_aload_n 44 f109_43 rfl (zl1_ne rfl rfl rfl) ?_
                                        refine zw_bipush 11 46 f109_44 rfl (by decide +kernel) ?_
                                        refine zw_virtual_i 49 0 0 [.ref 0, .int 11] [(0, .ref 0), (1, .int 11)] f109_46 rfl n109_78 k109_78_11 rfl (hb_0 _ _ _ _) (by decide +kernel) (Nat.le_of_ble_eq_true rfl) rfl rfl (by decide +kernel) (by decide +kernel) rfl (Nat.le_of_ble_eq_true rfl) rfl ?_
                                        refine zw_aload_n 1 f105_0 rfl rfl ?_
                                        refine zw_iload_n 2 f105_1 rfl rfl ?_
                                        refine zw_put _ 5 f105_2 rfl g105_70_11 (hb_0 _ _ _ _) rfl (Nat.le_of_ble_eq_true rfl) (by decide +kernel) (hi_0_7 _ _ _ _ _) ?_
                                        refine zw_iconst (-1) 6 f105_5 rfl (by decide +kernel) ?_
                                        refine zw_ireturn f105_6 r105 u105 ⟨_, rfl, ?_⟩
                                        refine zw_ireturn f109_49 r109 u109 ⟨_, rfl, ?_⟩
                                        refine zw_ireturn f103_91 r103 u103 ?_
                                        exact ⟨_, _, _, _, rfl, (KP.i rfl KP.rf), ⟨⟨hI.1, hI.2.1, t, by omega, et⟩, PE.of10 rfl rfl rfl rfl rfl rfl rfl rfl rfl rfl⟩, _, rfl⟩
                                      · refine zw_iload_n 6 f112_5 rfl rfl ?_
                                        refine zw_iload_n 7 f112_6 rfl rfl ?_
                                        refine zw_ic_gt 10 14 f112_7 (by decide +kernel) rfl (fun hc115 => ?_) (fun hc115 => ?_)
                                        · refine zw_iconst 0 15 f112_14 rfl (by decide +kernel) ?_
                                          refine zw_zreturn f112_15 r112 u112 (by decide +kernel) ⟨_, rfl, ?_⟩
                                          refine zw_if_eq_t 37 f114_15 (by decide +kernel) (by decide +kernel) ?_
                                          refine zw_iconst 0 38 f114_37 rfl (by decide +kernel) ?_
                                          refine zw_zreturn f114_38 r114 u114 (by decide +kernel) ⟨_, rfl, ?_⟩
                                          refine zw_if_eq_t 43 f109_32 (by decide +kernel) (by decide +kernel) ?_
                                          refine zw_aload_n 44 f109_43 rfl (zl1_ne rfl rfl rfl) ?_
                                          refine zw_bipush 11 46 f109_44 rfl (by decide +kernel) ?_
                                          refine zw_virtual_i 49 0 0 [.ref 0, .int 11] [(0, .ref 0), (1, .int 11)] f109_46 rfl n109_78 k109_78_11 rfl (hb_0 _ _ _ _) (by decide +kernel) (Nat.le_of_ble_eq_true rfl) rfl rfl (by decide +kernel) (by decide +kernel) rfl (Nat.le_of_ble_eq_true rfl) rfl ?_
                                          refine zw_aload_n 1 f105_0 rfl rfl ?_
                                          refine zw_iload_n 2 f105_1 rfl rfl ?_
                                          refine zw_put _ 5 f105_2 rfl g105_70_11 (hb_0 _ _ _ _) rfl (Nat.le_of_ble_eq_true rfl) (by decide +kernel) (hi_0_7 _ _ _ _ _) ?_
                                          refine zw_iconst (-1) 6 f105_5 rfl (by decide +kernel) ?_
                                          refine zw_ireturn f105_6 r105 u105 ⟨_, rfl, ?_⟩
                                          refine zw_ireturn f109_49 r109 u109 ⟨_, rfl, ?_⟩
                                          refine zw_ireturn f103_91 r103 u103 ?_
                                          exact ⟨_, _, _, _, rfl, (KP.i rfl KP.rf), ⟨⟨hI.1, hI.2.1, t, by omega, et⟩, PE.of10 rfl rfl rfl rfl rfl rfl rfl rfl rfl rfl⟩, _, rfl⟩
                                        · refine zw_iconst 1 11 f112_10 rfl (by decide +kernel) ?_
                                          refine zw_goto 15 f112_11 (by decide +kernel) ?_
                                          refine zw_zreturn f112_15 r112 u112 (by decide +kernel) ⟨_, rfl, ?_⟩
                                          refine zw_if_eq_f 18 37 f114_15 (by decide +kernel) rfl (by decide +kernel) ?_
                                          refine zw_iload_n 19 f114_18 rfl (zl1_ne rfl rfl zl1_eq) ?_
                                          refine zw_iload_n 20 f114_19 rfl (zl1_ne rfl rfl (zl1_ne rfl rfl (zl1_ne rfl rfl (zl1_ne rfl rfl rfl)))) ?_
                                          refine zw_ic_ne 23 25 f114_20 (by decide +kernel) rfl (fun hc116 => ?_) (fun hc116 => ?_)
                                          · refine zw_getstatic 28 f114_25 rfl (by decide +kernel) ?_
                                            refine zw_iload_n 29 f114_28 rfl (zl1_ne rfl rfl zl1_eq) ?_
                                            refine zw_iaload_f (zka (A 2 (c - c / 8 * 8).toNatClampNeg).toNatClampNeg).toNatClampNeg 5 (zka (zka (A 2 (c - c / 8 * 8).toNatClampNeg).toNatClampNeg).toNatClampNeg) 30 f114_29 rfl hro.1 rfl hc114 (zix (by decide) hc114 (n45 hc115)) (congrFun hro.2 _) ?_
                                            refine zw_istore_n _ 31 f114_30 rfl (by decide +kernel) rfl ?_
                                            refine zw_iinc 2 _ 34 f114_31 rfl (zl1_ne rfl rfl zl1_eq) (by decide +kernel) (by decide +kernel) rfl ?_
                                            refine zw_goto 4 f114_34 (by decide +kernel) ?_
                                            refine zw_iload_n 5 f114_4 rfl zl1_eq ?_
                                            refine zw_iconst 5 6 f114_5 rfl (by decide +kernel) ?_
                                            refine zw_ic_ge_f 9 37 f114_6 (by decide +kernel) rfl (by decide +kernel) ?_
                                            refine zw_iload_n 10 f114_9 rfl (zl1_ne rfl rfl zl1_eq) ?_
                                            refine zw_iconst 0 11 f114_10 rfl (by decide +kernel) ?_
                                            refine zw_iconst 4 12 f114_11 rfl (by decide +kernel) ?_
                                            refine zw_static_i 15 0 0 [.int (zka (zka (A 2 (c - c / 8 * 8).toNatClampNeg).toNatClampNeg).toNatClampNeg), .int 0, .int 4] [] [(0, .int (zka (zka (A 2 (c - c / 8 * 8).toNatClampNeg).toNatClampNeg).toNatClampNeg)), (1, .int 0), (2, .int 4)] f114_12 rfl k114_74_99 rfl (by decide +kernel) (Nat.le_of_ble_eq_true rfl) (Nat.le_of_ble_eq_true rfl) rfl rfl (by decide +kernel) (by decide +kernel) rfl (Nat.le_of_ble_eq_true rfl) rfl ?_
                                            refine zw_iload_n 1 f112_0 rfl rfl ?_
                                            refine zw_iload_n 2 f112_1 rfl rfl ?_
                                            refine zw_ic_lt 5 14 f112_2 (by decide +kernel) rfl (fun hc117 => ?_) (fun hc117 => ?_)
                                            · refine zw_iconst 0 15 f112_14 rfl (by decide +kernel) ?_
                                              refine zw_zreturn f112_15 r112 u112 (by decide +kernel) ⟨_, rfl, ?_⟩
                                              refine zw_if_eq_t 37 f114_15 (by decide +kernel) (by decide +kernel) ?_
                                              refine zw_iconst 0 38 f114_37 rfl (by decide +kernel) ?_
                                              refine zw_zreturn f114_38 r114 u114 (by decide +kernel) ⟨_, rfl, ?_⟩
                                              refine zw_if_eq_t 43 f109_32 (by decide +kernel) (by decide +kernel) ?_
                                              refine zw_aload_n 44 f109_43 rfl (zl1_ne rfl rfl rfl) ?_
                                              refine zw_bipush 11 46 f109_44 rfl (by decide +kernel) ?_
                                              refine zw_virtual_i 49 0 0 [.ref 0, .int 11] [(0, .ref 0), (1, .int 11)] f109_46 rfl n109_78 k109_78_11 rfl (hb_0 _ _ _ _) (by decide +kernel) (Nat.le_of_ble_eq_true rfl) rfl rfl (by decide +kernel) (by decide +kernel) rfl (Nat.le_of_ble_eq_true rfl) rfl ?_
                                              refine zw_aload_n 1 f105_0 rfl rfl ?_
                                              refine zw_iload_n 2 f105_1 rfl rfl ?_
                                              refine zw_put _ 5 f105_2 rfl g105_70_11 (hb_0 _ _ _ _) rfl (Nat.le_of_ble_eq_true rfl) (by decide +kernel) (hi_0_7 _ _ _ _ _) ?_
                                              refine zw_iconst (-1) 6 f105_5 rfl (by decide +kernel) ?_
                                              refine zw_ireturn f105_6 r105 u105 ⟨_, rfl, ?_⟩
                                              refine zw_ireturn f109_49 r109 u109 ⟨_, rfl, ?_⟩
                                              refine zw_ireturn f103_91 r103 u103 ?_
                                              exact ⟨_, _, _, _, rfl, (KP.i rfl KP.rf), ⟨⟨hI.1, hI.2.1, t, by omega, et⟩, PE.of10 rfl rfl rfl rfl rfl rfl rfl rfl rfl rfl⟩, _, rfl⟩
                                            · refine zw_iload_n 6 f112_5 rfl rfl ?_
                                              refine zw_iload_n 7 f112_6 rfl rfl ?_
                                              refine zw_ic_gt 10 14 f112_7 (by decide +kernel) rfl (fun hc118 => ?_) (fun hc118 => ?_)
                                              · refine zw_iconst 0 15 f112_14 rfl (by decide +kernel) ?_
                                                refine zw_zreturn f112_15 r112 u112 (by decide +kernel) ⟨_, rfl, ?_⟩
                                                refine zw_if_eq_t 37 f114_15 (by decide +kernel) (by decide +kernel) ?_
                                                refine zw_iconst 0 38 f114_37 rfl (by decide +kernel) ?_
                                                refine zw_zreturn f114_38 r114 u114 (by decide +kernel) ⟨_, rfl, ?_⟩
                                                refine zw_if_eq_t 43 f109_32 (by decide +kernel) (by decide +kernel) ?_
                                                refine zw_aload_n 44 f109_43 rfl (zl1_ne rfl rfl rfl) ?_
                                                refine zw_bipush 11 46 f109_44 rfl (by decide +kernel) ?_
                                                refine zw_virtual_i 49 0 0 [.ref 0, .int 11] [(0, .ref 0), (1, .int 11)] f109_46 rfl n109_78 k109_78_11 rfl (hb_0 _ _ _ _) (by decide +kernel) (Nat.le_of_ble_eq_true rfl) rfl rfl (by decide +kernel) (by decide +kernel) rfl (Nat.le_of_ble_eq_true rfl) rfl ?_
                                                refine zw_aload_n 1 f105_0 rfl rfl ?_
                                                refine zw_iload_n 2 f105_1 rfl rfl ?_
                                                refine zw_put _ 5 f105_2 rfl g105_70_11 (hb_0 _ _ _ _) rfl (Nat.le_of_ble_eq_true rfl) (by decide +kernel) (hi_0_7 _ _ _ _ _) ?_
                                                refine zw_iconst (-1) 6 f105_5 rfl (by decide +kernel) ?_
                                                refine zw_ireturn f105_6 r105 u105 ⟨_, rfl, ?_⟩
                                                refine zw_ireturn f109_49 r109 u109 ⟨_, rfl, ?_⟩
                                                refine zw_ireturn f103_91 r103 u103 ?_
                                                exact ⟨_, _, _, _, rfl, (KP.i rfl KP.rf), ⟨⟨hI.1, hI.2.1, t, by omega, et⟩, PE.of10 rfl rfl rfl rfl rfl rfl rfl rfl rfl rfl⟩, _, rfl⟩
                                              · refine zw_iconst 1 11 f112_10 rfl (by decide +kernel) ?_
                                                refine zw_goto 15 f112_11 (by decide +kernel) ?_
                                                refine zw_zreturn f112_15 r112 u112 (by decide +kernel) ⟨_, rfl, ?_⟩
                                                refine zw_if_eq_f 18 37 f114_15 (by decide +kernel) rfl (by decide +kernel) ?_
                                                refine zw_iload_n 19 f114_18 rfl (zl1_ne rfl rfl zl1_eq) ?_
                                                refine zw_iload_n 20 f114_19 rfl (zl1_ne rfl rfl (zl1_ne rfl rfl (zl1_ne rfl rfl (zl1_ne rfl rfl (zl1_ne rfl rfl (zl1_ne rfl rfl rfl)))))) ?_
                                                refine zw_ic_ne 23 25 f114_20 (by decide +kernel) rfl (fun hc119 => ?_) (fun hc119 => ?_)
                                                · refine zw_getstatic 28 f114_25 rfl (by decide +kernel) ?_
                                                  refine zw_iload_n 29 f114_28 rfl (zl1_ne rfl rfl zl1_eq) ?_
                                                  refine zw_iaload_f (zka (zka (A 2 (c - c / 8 * 8).toNatClampNeg).toNatClampNeg).toNatClampNeg).toNatClampNeg 5 (zka (zka (zka (A 2 (c - c / 8 * 8).toNatClampNeg).toNatClampNeg).toNatClampNeg).toNatClampNeg) 30 f114_29 rfl hro.1 rfl hc117 (zix (by decide) hc117 (n45 hc118)) (congrFun hro.2 _) ?_
                                                  refine zw_istore_n _ 31 f114_30 rfl (by decide +kernel) rfl ?_
                                                  refine zw_iinc 3 _ 34 f114_31 rfl (zl1_ne rfl rfl zl1_eq) (by decide +kernel) (by decide +kernel) rfl ?_
                                                  refine zw_goto 4 f114_34 (by decide +kernel) ?_
                                                  refine zw_iload_n 5 f114_4 rfl zl1_eq ?_
                                                  refine zw_iconst 5 6 f114_5 rfl (by decide +kernel) ?_
                                                  refine zw_ic_ge_f 9 37 f114_6 (by decide +kernel) rfl (by decide +kernel) ?_
                                                  refine zw_iload_n 10 f114_9 rfl (zl1_ne rfl rfl zl1_eq) ?_
                                                  refine zw_iconst 0 11 f114_10 rfl (by decide +kernel) ?_
                                                  refine zw_iconst 4 12 f114_11 rfl (by decide +kernel) ?_
                                                  refine zw_static_i 15 0 0 [.int (zka (zka (zka (A 2 (c - c / 8 * 8).toNatClampNeg).toNatClampNeg).toNatClampNeg).toNatClampNeg), .int 0, .int 4] [] [(0, .int (zka (zka (zka (A 2 (c - c / 8 * 8).toNatClampNeg).toNatClampNeg).toNatClampNeg).toNatClampNeg)), (1, .int 0), (2, .int 4)] f114_12 rfl k114_74_99 rfl (by decide +kernel) (Nat.le_of_ble_eq_true rfl) (Nat.le_of_ble_eq_true rfl) rfl rfl (by decide +kernel) (by decide +kernel) rfl (Nat.le_of_ble_eq_true rfl) rfl ?_
                                                  refine zw_iload_n 1 f112_0 rfl rfl ?_
                                                  refine zw_iload_n 2 f112_1 rfl rfl ?_
                                                  refine zw_ic_lt 5 14 f112_2 (by decide +kernel) rfl (fun hc120 => ?_) (fun hc120 => ?_)
                                                  · refine zw_iconst 0 15 f112_14 rfl (by decide +kernel) ?_
                                                    refine zw_zreturn f112_15 r112 u112 (by decide +kernel) ⟨_, rfl, ?_⟩
                                                    refine zw_if_eq_t 37 f114_15 (by decide +kernel) (by decide +kernel) ?_
                                                    refine zw_iconst 0 38 f114_37 rfl (by decide +kernel) ?_
                                                    refine zw_zreturn f114_38 r114 u114 (by decide +kernel) ⟨_, rfl, ?_⟩
                                                    refine zw_if_eq_t 43 f109_32 (by decide +kernel) (by decide +kernel) ?_
                                                    refine zw_aload_n 44 f109_43 rfl (zl1_ne rfl rfl rfl) ?_
                                                    refine zw_bipush 11 46 f109_44 rfl (by decide +kernel) ?_
                                                    refine zw_virtual_i 49 0 0 [.ref 0, .int 11] [(0, .ref 0), (1, .int 11)] f109_46 rfl n109_78 k109_78_11 rfl (hb_0 _ _ _ _) (by decide +kernel) (Nat.le_of_ble_eq_true rfl) rfl rfl (by decide +kernel) (by decide +kernel) rfl (Nat.le_of_ble_eq_true rfl) rfl ?_
                                                    refine zw_aload_n 1 f105_0 rfl rfl ?_
                                                    refine zw_iload_n 2 f105_1 rfl rfl ?_
                                                    refine zw_put _ 5 f105_2 rfl g105_70_11 (hb_0 _ _ _ _) rfl (Nat.le_of_ble_eq_true rfl) (by decide +kernel) (hi_0_7 _ _ _ _ _) ?_
                                                    refine zw_iconst (-1) 6 f105_5 rfl (by decide +kernel) ?_
                                                    refine zw_ireturn f105_6 r105 u105 ⟨_, rfl, ?_⟩
                                                    refine zw_ireturn f109_49 r109 u109 ⟨_, rfl, ?_⟩
                                                    refine zw_ireturn f103_91 r103 u103 ?_
                                                    exact ⟨_, _, _, _, rfl, (KP.i rfl KP.rf), ⟨⟨hI.1, hI.2.1, t, by omega, et⟩, PE.of10 rfl rfl rfl rfl rfl rfl rfl rfl rfl rfl⟩, _, rfl⟩
                                                  · refine zw_iload_n 6 f112_5 rfl rfl ?_
                                                    refine zw_iload_n 7 f112_6 rfl rfl ?_
                                                    refine zw_ic_gt 10 14 f112_7 (by decide +kernel) rfl (fun hc121 => ?_) (fun hc121 => ?_)
                                                    · refine zw_iconst 0 15 f112_14 rfl (by decide +kernel) ?_
                                                      refine zw_zreturn f112_15 r112 u112 (by decide +kernel) ⟨_, rfl, ?_⟩
                                                      refine zw_if_eq_t 37 f114_15 (by decide +kernel) (by decide +kernel) ?_
                                                      refine zw_iconst 0 38 f114_37 rfl (by decide +kernel) ?_
                                                      refine zw_zreturn f114_38 r114 u114 (by decide +kernel) ⟨_, rfl, ?_⟩
                                                      refine zw_if_eq_t 43 f109_32 (by decide +kernel) (by decide +kernel) ?_
                                                      refine zw_aload_n 44 f109_43 rfl (zl1_ne rfl rfl rfl) ?_
                                                      refine zw_bipush 11 46 f109_44 rfl (by decide +kernel) ?_
                                                      refine zw_virtual_i 49 0 0 [.ref 0, .int 11] [(0, .ref 0), (1, .int 11)] f109_46 rfl n109_78 k109_78_11 rfl (hb_0 _ _ _ _) (by decide +kernel) (Nat.le_of_ble_eq_true rfl) rfl rfl (by decide +kernel) (by decide +kernel) rfl (Nat.le_of_ble_eq_true rfl) rfl ?_
                                                      refine zw_aload_n 1 f105_0 rfl rfl ?_
                                                      refine zw_iload_n 2 f105_1 rfl rfl ?_
                                                      refine zw_put _ 5 f105_2 rfl g105_70_11 (hb_0 _ _ _ _) rfl (Nat.le_of_ble_eq_true rfl) (by decide +kernel) (hi_0_7 _ _ _ _ _) ?_
                                                      refine zw_iconst (-1) 6 f105_5 rfl (by decide +kernel) ?_
                                                      refine zw_ireturn f105_6 r105 u105 ⟨_, rfl, ?_⟩
                                                      refine zw_ireturn f109_49 r109 u109 ⟨_, rfl, ?_⟩
                                                      refine zw_ireturn f103_91 r103 u103 ?_
                                                      exact ⟨_, _, _, _, rfl, (KP.i rfl KP.rf), ⟨⟨hI.1, hI.2.1, t, by omega, et⟩, PE.of10 rfl rfl rfl rfl rfl rfl rfl rfl rfl rfl⟩, _, rfl⟩
                                                    · refine zw_iconst 1 11 f112_10 rfl (by decide +kernel) ?_
                                                      refine zw_goto 15 f112_11 (by decide +kernel) ?_
                                                      refine zw_zreturn f112_15 r112 u112 (by decide +kernel) ⟨_, rfl, ?_⟩
                                                      refine zw_if_eq_f 18 37 f114_15 (by decide +kernel) rfl (by decide +kernel) ?_
                                                      refine zw_iload_n 19 f114_18 rfl (zl1_ne rfl rfl zl1_eq) ?_
                                                      refine zw_iload_n 20 f114_19 rfl (zl1_ne rfl rfl (zl1_ne rfl rfl (zl1_ne rfl rfl (zl1_ne rfl rfl (zl1_ne rfl rfl (zl1_ne rfl rfl (zl1_ne rfl rfl (zl1_ne rfl rfl rfl)))))))) ?_
                                                      refine zw_ic_ne 23 25 f114_20 (by decide +kernel) rfl (fun hc122 => ?_) (fun hc122 => ?_)
                                                      · refine zw_getstatic 28 f114_25 rfl (by decide +kernel) ?_
                                                        refine zw_iload_n 29 f114_28 rfl (zl1_ne rfl rfl zl1_eq) ?_
                                                        refine zw_iaload_f (zka (zka (zka (A 2 (c - c / 8 * 8).toNatClampNeg).toNatClampNeg).toNatClampNeg).toNatClampNeg).toNatClampNeg 5 (zka (zka (zka (zka (A 2 (c - c / 8 * 8).toNatClampNeg).toNatClampNeg).toNatClampNeg).toNatClampNeg).toNatClampNeg) 30 f114_29 rfl hro.1 rfl hc120 (zix (by decide) hc120 (n45 hc121)) (congrFun hro.2 _) ?_
                                                        refine zw_istore_n _ 31 f114_30 rfl (by decide +kernel) rfl ?_
                                                        refine zw_iinc 4 _ 34 f114_31 rfl (zl1_ne rfl rfl zl1_eq) (by decide +kernel) (by decide +kernel) rfl ?_
                                                        refine zw_goto 4 f114_34 (by decide +kernel) ?_
                                                        refine zw_iload_n 5 f114_4 rfl zl1_eq ?_
                                                        refine zw_iconst 5 6 f114_5 rfl (by decide +kernel) ?_
                                                        refine zw_ic_ge_f 9 37 f114_6 (by decide +kernel) rfl (by decide +kernel) ?_
                                                        refine zw_iload_n 10 f114_9 rfl (zl1_ne rfl rfl zl1_eq) ?_
                                                        refine zw_iconst 0 11 f114_10 rfl (by decide +kernel) ?_
                                                        refine zw_iconst 4 12 f114_11 rfl (by decide +kernel) ?_
                                                        refine zw_static_i 15 0 0 [.int (zka (zka (zka (zka (A 2 (c - c / 8 * 8).toNatClampNeg).toNatClampNeg).toNatClampNeg).toNatClampNeg).toNatClampNeg), .int 0, .int 4] [] [(0, .int (zka (zka (zka (zka (A 2 (c - c / 8 * 8).toNatClampNeg).toNatClampNeg).toNatClampNeg).toNatClampNeg).toNatClampNeg)), (1, .int 0), (2, .int 4)] f114_12 rfl k114_74_99 rfl (by decide +kernel) (Nat.le_of_ble_eq_true rfl) (Nat.le_of_ble_eq_true rfl) rfl rfl (by decide +kernel) (by decide +kernel) rfl (Nat.le_of_ble_eq_true rfl) rfl ?_
                                                        refine zw_iload_n 1 f112_0 rfl rfl ?_
                                                        refine zw_iload_n 2 f112_1 rfl rfl ?_
                                                        refine zw_ic_lt 5 14 f112_2 (by decide +kernel) rfl (fun hc123 => ?_) (fun hc123 => ?_)
                                                        · refine zw_iconst 0 15 f112_14 rfl (by decide +kernel) ?_
                                                          refine zw_zreturn f112_15 r112 u112 (by decide +kernel) ⟨_, rfl, ?_⟩
                                                          refine zw_if_eq_t 37 f114_15 (by decide +kernel) (by decide +kernel) ?_
                                                          refine zw_iconst 0 38 f114_37 rfl (by decide +kernel) ?_
                                                          refine zw_zreturn f114_38 r114 u114 (by decide +kernel) ⟨_, rfl, ?_⟩
                                                          refine zw_if_eq_t 43 f109_32 (by decide +kernel) (by decide +kernel) ?_
                                                          refine zw_aload_n 44 f109_43 rfl (zl1_ne rfl rfl rfl) ?_
                                                          refine zw_bipush 11 46 f109_44 rfl (by decide +kernel) ?_
                                                          refine zw_virtual_i 49 0 0 [.ref 0, .int 11] [(0, .ref 0), (1, .int 11)] f109_46 rfl n109_78 k109_78_11 rfl (hb_0 _ _ _ _) (by decide +kernel) (Nat.le_of_ble_eq_true rfl) rfl rfl (by decide +kernel) (by decide +kernel) rfl (Nat.le_of_ble_eq_true rfl) rfl ?_
                                                          refine zw_aload_n 1 f105_0 rfl rfl ?_
                                                          refine zw_iload_n 2 f105_1 rfl rfl ?_
                                                          refine zw_put _ 5 f105_2 rfl g105_70_11 (hb_0 _ _ _ _) rfl (Nat.le_of_ble_eq_true rfl) (by decide +kernel) (hi_0_7 _ _ _ _ _) ?_
                                                          refine zw_iconst (-1) 6 f105_5 rfl (by decide +kernel) ?_
                                                          refine zw_ireturn f105_6 r105 u105 ⟨_, rfl, ?_⟩
                                                          refine zw_ireturn f109_49 r109 u109 ⟨_, rfl, ?_⟩
                                                          refine zw_ireturn f103_91 r103 u103 ?_
                                                          exact ⟨_, _, _, _, rfl, (KP.i rfl KP.rf), ⟨⟨hI.1, hI.2.1, t, by omega, et⟩, PE.of10 rfl rfl rfl rfl rfl rfl rfl rfl rfl rfl⟩, _, rfl⟩
                                                        · refine zw_iload_n 6 f112_5 rfl rfl ?_
                                                          refine zw_iload_n 7 f112_6 rfl rfl ?_
                                                          refine zw_ic_gt 10 14 f112_7 (by decide +kernel) rfl (fun hc124 => ?_) (fun hc124 => ?_)
                                                          · refine zw_iconst 0 15 f112_14 rfl (by decide +kernel) ?_
                                                            refine zw_zreturn f112_15 r112 u112 (by decide +kernel) ⟨_, rfl, ?_⟩
                                                            refine zw_if_eq_t 37 f114_15 (by decide +kernel) (by decide +kernel) ?_
                                                            refine zw_iconst 0 38 f114_37 rfl (by decide +kernel) ?_
                                                            refine zw_zreturn f114_38 r114 u114 (by decide +kernel) ⟨_, rfl, ?_⟩
                                                            refine zw_if_eq_t 43 f109_32 (by decide +kernel) (by decide +kernel) ?_
                                                            refine zw_aload_n 44 f109_43 rfl (zl1_ne rfl rfl rfl) ?_
                                                            refine zw_bipush 11 46 f109_44 rfl (by decide +kernel) ?_
                                                            refine zw_virtual_i 49 0 0 [.ref 0, .int 11] [(0, .ref 0), (1, .int 11)] f109_46 rfl n109_78 k109_78_11 rfl (hb_0 _ _ _ _) (by decide +kernel) (Nat.le_of_ble_eq_true rfl) rfl rfl (by decide +kernel) (by decide +kernel) rfl (Nat.le_of_ble_eq_true rfl) rfl ?_
                                                            refine zw_aload_n 1 f105_0 rfl rfl ?_
                                                            refine zw_iload_n 2 f105_1 rfl rfl ?_
                                                            refine zw_put _ 5 f105_2 rfl g105_70_11 (hb_0 _ _ _ _) rfl (Nat.le_of_ble_eq_true rfl) (by decide +kernel) (hi_0_7 _ _ _ _ _) ?_
                                                            refine zw_iconst (-1) 6 f105_5 rfl (by decide +kernel) ?_
                                                            refine zw_ireturn f105_6 r105 u105 ⟨_, rfl, ?_⟩
                                                            refine zw_ireturn f109_49 r109 u109 ⟨_, rfl, ?_⟩
                                                            refine zw_ireturn f103_91 r103 u103 ?_
                                                            exact ⟨_, _, _, _, rfl, (KP.i rfl KP.rf), ⟨⟨hI.1, hI.2.1, t, by omega, et⟩, PE.of10 rfl rfl rfl rfl rfl rfl rfl rfl rfl rfl⟩, _, rfl⟩
                                                          · refine zw_iconst 1 11 f112_10 rfl (by decide +kernel) ?_
                                                            refine zw_goto 15 f112_11 (by decide +kernel) ?_
                                                            refine zw_zreturn f112_15 r112 u112 (by decide +kernel) ⟨_, rfl, ?_⟩
                                                            refine zw_if_eq_f 18 37 f114_15 (by decide +kernel) rfl (by decide +kernel) ?_
                                                            refine zw_iload_n 19 f114_18 rfl (zl1_ne rfl rfl zl1_eq) ?_
                                                            refine zw_iload_n 20 f114_19 rfl (zl1_ne rfl rfl (zl1_ne rfl rfl (zl1_ne rfl rfl (zl1_ne rfl rfl (zl1_ne rfl rfl (zl1_ne rfl rfl (zl1_ne rfl rfl (zl1_ne rfl rfl (zl1_ne rfl rfl (zl1_ne rfl rfl rfl)))))))))) ?_
                                                            refine zw_ic_ne 23 25 f114_20 (by decide +kernel) rfl (fun hc125 => ?_) (fun hc125 => ?_)
                                                            · refine zw_getstatic 28 f114_25 rfl (by decide +kernel) ?_
                                                              refine zw_iload_n 29 f114_28 rfl (zl1_ne rfl rfl zl1_eq) ?_
                                                              refine zw_iaload_f (zka (zka (zka (zka (A 2 (c - c / 8 * 8).toNatClampNeg).toNatClampNeg).toNatClampNeg).toNatClampNeg).toNatClampNeg).toNatClampNeg 5 (zka (zka (zka (zka (zka (A 2 (c - c / 8 * 8).toNatClampNeg).toNatClampNeg).toNatClampNeg).toNatClampNeg).toNatClampNeg).toNatClampNeg) 30 f114_29 rfl hro.1 rfl hc123 (zix (by decide) hc123 (n45 hc124)) (congrFun hro.2 _) ?_
                                                              refine zw_istore_n _ 31 f114_30 rfl (by decide +kernel) rfl ?_
                                                              refine zw_iinc 5 _ 34 f114_31 rfl (zl1_ne rfl rfl zl1_eq) (by decide +kernel) (by decide +kernel) rfl ?_
                                                              refine zw_goto 4 f114_34 (by decide +kernel) ?_
                                                              refine zw_iload_n 5 f114_4 rfl zl1_eq ?_
                                                              refine zw_iconst 5 6 f114_5 rfl (by decide +kernel) ?_
                                                              refine zw_ic_ge_t 37 f114_6 (by decide +kernel) (by decide +kernel) ?_
                                                              refine zw_iconst 0 38 f114_37 rfl (by decide +kernel) ?_
                                                              refine zw_zreturn f114_38 r114 u114 (by decide +kernel) ⟨_, rfl, ?_⟩
                                                              refine zw_if_eq_t 43 f109_32 (by decide +kernel) (by decide +kernel) ?_
                                                              refine zw_aload_n 44 f109_43 rfl (zl1_ne rfl rfl rfl) ?_
                                                              refine zw_bipush 11 46 f109_44 rfl (by decide +kernel) ?_
                                                              refine zw_virtual_i 49 0 0 [.ref 0, .int 11] [(0, .ref 0), (1, .int 11)] f109_46 rfl n109_78 k109_78_11 rfl (hb_0 _ _ _ _) (by decide +kernel) (Nat.le_of_ble_eq_true rfl) rfl rfl (by decide +kernel) (by decide +kernel) rfl (Nat.le_of_ble_eq_true rfl) rfl ?_
                                                              refine zw_aload_n 1 f105_0 rfl rfl ?_
                                                              refine zw_iload_n 2 f105_1 rfl rfl ?_
                                                              refine zw_put _ 5 f105_2 rfl g105_70_11 (hb_0 _ _ _ _) rfl (Nat.le_of_ble_eq_true rfl) (by decide +kernel) (hi_0_7 _ _ _ _ _) ?_
                                                              refine zw_iconst (-1) 6 f105_5 rfl (by decide +kernel) ?_
                                                              refine zw_ireturn f105_6 r105 u105 ⟨_, rfl, ?_⟩
                                                              refine zw_ireturn f109_49 r109 u109 ⟨_, rfl, ?_⟩
                                                              refine zw_ireturn f103_91 r103 u103 ?_
                                                              exact ⟨_, _, _, _, rfl, (KP.i rfl KP.rf), ⟨⟨hI.1, hI.2.1, t, by omega, et⟩, PE.of10 rfl rfl rfl rfl rfl rfl rfl rfl rfl rfl⟩, _, rfl⟩
                                                            · refine zw_iconst 1 24 f114_23 rfl (by decide +kernel) ?_
                                                              refine zw_zreturn f114_24 r114 u114 (by decide +kernel) ⟨_, rfl, ?_⟩
                                                              refine zw_if_eq_f 35 43 f109_32 (by decide +kernel) rfl (by decide +kernel) ?_
                                                              refine zw_aload_n 36 f109_35 rfl (zl1_ne rfl rfl rfl) ?_
                                                              refine zw_iload_n 37 f109_36 rfl zl1_eq ?_
                                                              refine zw_virtual_i 40 0 0 [.ref 0, .int (A 2 (c - c / 8 * 8).toNatClampNeg)] [(0, .ref 0), (1, .int (A 2 (c - c / 8 * 8).toNatClampNeg))] f109_37 rfl n109_181 k109_181_11 rfl (hb_0 _ _ _ _) (by decide +kernel) (Nat.le_of_ble_eq_true rfl) rfl rfl (by decide +kernel) (by decide +kernel) rfl (Nat.le_of_ble_eq_true rfl) rfl ?_
                                                              refine zw_aload_n 1 f106_0 rfl rfl ?_
                                                              refine zw_iconst 0 2 f106_1 rfl (by decide +kernel) ?_
                                                              refine zw_put _ 5 f106_2 rfl g106_70_11 (hb_0 _ _ _ _) rfl (Nat.le_of_ble_eq_true rfl) (by decide +kernel) (hi_0_7 _ _ _ _ _) ?_
                                                              refine zw_iload_n 6 f106_5 rfl rfl ?_
                                                              refine zw_ireturn f106_6 r106 u106 ⟨_, rfl, ?_⟩
                                                              refine zw_goto 49 f109_40 (by decide +kernel) ?_
                                                              refine zw_ireturn f109_49 r109 u109 ⟨_, rfl, ?_⟩
                                                              refine zw_ireturn f103_91 r103 u103 ?_
                                                              exact ⟨_, _, _, _, rfl, (KP.i rfl KP.rf), ⟨⟨hI.1, hI.2.1, t, by omega, et⟩, PE.of10 rfl rfl rfl rfl rfl rfl rfl rfl rfl rfl⟩, _, rfl⟩
                                                      · refine zw_iconst 1 24 f114_23 rfl (by decide +kernel) ?_
                                                        refine zw_zreturn f114_24 r114 u114 (by decide +kernel) ⟨_, rfl, ?_⟩
                                                        refine zw_if_eq_f 35 43 f109_32 (by decide +kernel) rfl (by decide +kernel) ?_
                                                        refine zw_aload_n 36 f109_35 rfl (zl1_ne rfl rfl rfl) ?_
                                                        refine zw_iload_n 37 f109_36 rfl zl1_eq ?_
                                                        refine zw_virtual_i 40 0 0 [.ref 0, .int (A 2 (c - c / 8 * 8).toNatClampNeg)] [(0, .ref 0), (1, .int (A 2 (c - c / 8 * 8).toNatClampNeg))] f109_37 rfl n109_181 k109_181_11 rfl (hb_0 _ _ _ _) (by decide +kernel) (Nat.le_of_ble_eq_true rfl) rfl rfl (by decide +kernel) (by decide +kernel) rfl (Nat.le_of_ble_eq_true rfl) rfl ?_
                                                        refine zw_aload_n 1 f106_0 rfl rfl ?_
                                                        refine zw_iconst 0 2 f106_1 rfl (by decide +kernel) ?_
                                                        refine zw_put _ 5 f106_2 rfl g106_70_11 (hb_0 _ _ _ _) rfl (Nat.le_of_ble_eq_true rfl) (by decide +kernel) (hi_0_7 _ _ _ _ _) ?_
                                                        refine zw_iload_n 6 f106_5 rfl rfl ?_
                                                        refine zw_ireturn f106_6 r106 u106 ⟨_, rfl, ?_⟩
                                                        refine zw_goto 49 f109_40 (by decide +kernel) ?_
                                                        refine zw_ireturn f109_49 r109 u109 ⟨_, rfl, ?_⟩
                                                        refine zw_ireturn f103_91 r103 u103 ?_
                                                        exact ⟨_, _, _, _, rfl, (KP.i rfl KP.rf), ⟨⟨hI.1, hI.2.1, t, by omega, et⟩, PE.of10 rfl rfl rfl rfl rfl rfl rfl rfl rfl rfl⟩, _, rfl⟩
                                                · refine zw_iconst 1 24 f114_23 rfl (by decide +kernel) ?_
                                                  refine zw_zreturn f114_24 r114 u114 (by decide +kernel) ⟨_, rfl, ?_⟩
                                                  refine zw_if_eq_f 35 43 f109_32 (by decide +kernel) rfl (by decide +kernel) ?_
                                                  refine zw_aload_n 36 f109_35 rfl (zl1_ne rfl rfl rfl) ?_
                                                  refine zw_iload_n 37 f109_36 rfl zl1_eq ?_
                                                  refine zw_virtual_i 40 0 0 [.ref 0, .int (A 2 (c - c / 8 * 8).toNatClampNeg)] [(0, .ref 0), (1, .int (A 2 (c - c / 8 * 8).toNatClampNeg))] f109_37 rfl n109_181 k109_181_11 rfl (hb_0 _ _ _ _) (by decide +kernel) (Nat.le_of_ble_eq_true rfl) rfl rfl (by decide +kernel) (by decide +kernel) rfl (Nat.le_of_ble_eq_true rfl) rfl ?_
                                                  refine zw_aload_n 1 f106_0 rfl rfl ?_
                                                  refine zw_iconst 0 2 f106_1 rfl (by decide +kernel) ?_
                                                  refine zw_put _ 5 f106_2 rfl g106_70_11 (hb_0 _ _ _ _) rfl (Nat.le_of_ble_eq_true rfl) (by decide +kernel) (hi_0_7 _ _ _ _ _) ?_
                                                  refine zw_iload_n 6 f106_5 rfl rfl ?_
                                                  refine zw_ireturn f106_6 r106 u106 ⟨_, rfl, ?_⟩
                                                  refine zw_goto 49 f109_40 (by decide +kernel) ?_
                                                  refine zw_ireturn f109_49 r109 u109 ⟨_, rfl, ?_⟩
                                                  refine zw_ireturn f103_91 r103 u103 ?_
                                                  exact ⟨_, _, _, _, rfl, (KP.i rfl KP.rf), ⟨⟨hI.1, hI.2.1, t, by omega, et⟩, PE.of10 rfl rfl rfl rfl rfl rfl rfl rfl rfl rfl⟩, _, rfl⟩
                                          · refine zw_iconst 1 24 f114_23 rfl (by decide +kernel) ?_
                                            refine zw_zreturn f114_24 r114 u114 (by decide +kernel) ⟨_, rfl, ?_⟩
                                            refine zw_if_eq_f 35 43 f109_32 (by decide +kernel) rfl (by decide +kernel) ?_
                                            refine zw_aload_n 36 f109_35 rfl (zl1_ne rfl rfl rfl) ?_
                                            refine zw_iload_n 37 f109_36 rfl zl1_eq ?_
                                            refine zw_virtual_i 40 0 0 [.ref 0, .int (A 2 (c - c / 8 * 8).toNatClampNeg)] [(0, .ref 0), (1, .int (A 2 (c - c / 8 * 8).toNatClampNeg))] f109_37 rfl n109_181 k109_181_11 rfl (hb_0 _ _ _ _) (by decide +kernel) (Nat.le_of_ble_eq_true rfl) rfl rfl (by decide +kernel) (by decide +kernel) rfl (Nat.le_of_ble_eq_true rfl) rfl ?_
                                            refine zw_aload_n 1 f106_0 rfl rfl ?_
                                            refine zw_iconst 0 2 f106_1 rfl (by decide +kernel) ?_
                                            refine zw_put _ 5 f106_2 rfl g106_70_11 (hb_0 _ _ _ _) rfl (Nat.le_of_ble_eq_true rfl) (by decide +kernel) (hi_0_7 _ _ _ _ _) ?_
                                            refine zw_iload_n 6 f106_5 rfl rfl ?_
                                            refine zw_ireturn f106_6 r106 u106 ⟨_, rfl, ?_⟩
                                            refine zw_goto 49 f109_40 (by decide +kernel) ?_
                                            refine zw_ireturn f109_49 r109 u109 ⟨_, rfl, ?_⟩
                                            refine zw_ireturn f103_91 r103 u103 ?_
                                            exact ⟨_, _, _, _, rfl, (KP.i rfl KP.rf), ⟨⟨hI.1, hI.2.1, t, by omega, et⟩, PE.of10 rfl rfl rfl rfl rfl rfl rfl rfl rfl rfl⟩, _, rfl⟩
                                    · refine zw_iconst 1 24 f114_23 rfl (by decide +kernel) ?_
                                      refine zw_zreturn f114_24 r114 u114 (by decide +kernel) ⟨_, rfl, ?_⟩
                                      refine zw_if_eq_f 35 43 f109_32 (by decide +kernel) rfl (by decide +kernel) ?_
                                      refine zw_aload_n 36 f109_35 rfl (zl1_ne rfl rfl rfl) ?_
                                      refine zw_iload_n 37 f109_36 rfl zl1_eq ?_
                                      refine zw_virtual_i 40 0 0 [.ref 0, .int (A 2 (c - c / 8 * 8).toNatClampNeg)] [(0, .ref 0), (1, .int (A 2 (c - c / 8 * 8).toNatClampNeg))] f109_37 rfl n109_181 k109_181_11 rfl (hb_0 _ _ _ _) (by decide +kernel) (Nat.le_of_ble_eq_true rfl) rfl rfl (by decide +kernel) (by decide +kernel) rfl (Nat.le_of_ble_eq_true rfl) rfl ?_
                                      refine zw_aload_n 1 f106_0 rfl rfl ?_
                                      refine zw_iconst 0 2 f106_1 rfl (by decide +kernel) ?_
                                      refine zw_put _ 5 f106_2 rfl g106_70_11 (hb_0 _ _ _ _) rfl (Nat.le_of_ble_eq_true rfl) (by decide +kernel) (hi_0_7 _ _ _ _ _) ?_
                                      refine zw_iload_n 6 f106_5 rfl rfl ?_
                                      refine zw_ireturn f106_6 r106 u106 ⟨_, rfl, ?_⟩
                                      refine zw_goto 49 f109_40 (by decide +kernel) ?_
                                      refine zw_ireturn f109_49 r109 u109 ⟨_, rfl, ?_⟩
                                      refine zw_ireturn f103_91 r103 u103 ?_
                                      exact ⟨_, _, _, _, rfl, (KP.i rfl KP.rf), ⟨⟨hI.1, hI.2.1, t, by omega, et⟩, PE.of10 rfl rfl rfl rfl rfl rfl rfl rfl rfl rfl⟩, _, rfl⟩
                    · refine zw_iload_n 15 f186_14 rfl zl1_eq ?_
                      refine zw_iload_n 16 f186_15 rfl (zl1_ne rfl rfl rfl) ?_
                      refine zw_iadd ((c - c / 8 * 8) + 8) 17 f186_16 rfl rfl ?_
                      refine zw_ireturn f186_17 r186 u186 ⟨_, rfl, ?_⟩
                      refine zw_iload_n 84 f103_83 rfl rfl ?_
                      refine zw_iconst 5 85 f103_84 rfl (by decide +kernel) ?_
                      refine zw_static_i 88 0 0 [.int b, .int 5] [.int ((c - c / 8 * 8) + 8), .ref 0] [(0, .int b), (1, .int 5)] f103_85 rfl k103_304_99 rfl (by decide +kernel) (Nat.le_of_ble_eq_true rfl) (Nat.le_of_ble_eq_true rfl) rfl rfl (by decide +kernel) (by decide +kernel) rfl (Nat.le_of_ble_eq_true rfl) rfl ?_
                      refine zw_iload_n 1 f186_0 rfl rfl ?_
                      refine zw_iload_n 2 f186_1 rfl rfl ?_
                      refine zw_irem (b - b / 5 * 5) 3 f186_2 rfl (by decide +kernel) rfl ?_
                      refine zw_istore_n _ 4 f186_3 rfl (by decide +kernel) rfl ?_
                      refine zw_iload_n 5 f186_4 rfl (zl1_ne rfl rfl rfl) ?_
                      refine zw_iload_n 6 f186_5 rfl (zl1_ne rfl rfl rfl) ?_
                      refine zw_ixor (b ^^^ 5) 7 f186_6 rfl rfl ?_
                      refine zw_if_ge 10 18 f186_7 (by decide +kernel) rfl (fun hc126 => ?_) (fun hc126 => ?_)
                      · refine zw_iload_n 19 f186_18 rfl zl1_eq ?_
                        refine zw_ireturn f186_19 r186 u186 ⟨_, rfl, ?_⟩
                        refine zw_virtual_i 91 0 0 [.ref 0, .int ((c - c / 8 * 8) + 8), .int (b - b / 5 * 5)] [(0, .ref 0), (1, .int ((c - c / 8 * 8) + 8)), (2, .int (b - b / 5 * 5))] f103_88 rfl n103_309 k103_309_11 rfl (hb_0 _ _ _ _) (by decide +kernel) (Nat.le_of_ble_eq_true rfl) rfl rfl (by decide +kernel) (by decide +kernel) rfl (Nat.le_of_ble_eq_true rfl) rfl ?_
                        refine zw_aload_n 1 f109_0 rfl rfl ?_
                        refine zw_getfield 4 f109_1 rfl g109_10_11 (hb_0 _ _ _ _) rfl ?_
                        refine zw_iload_n 5 f109_4 rfl rfl ?_
                        refine zw_virtual_i 8 0 0 [.ref 1, .int ((c - c / 8 * 8) + 8)] [(0, .ref 1), (1, .int ((c - c / 8 * 8) + 8))] f109_5 rfl n109_89 k109_89_4 rfl (hb_1 _ _ _ _) (by decide +kernel) (Nat.le_of_ble_eq_true rfl) rfl rfl (by decide +kernel) (by decide +kernel) rfl (Nat.le_of_ble_eq_true rfl) rfl ?_
                        refine zw_iload_n 1 f13_0 rfl rfl ?_
                        refine zw_if_lt 4 22 f13_1 (by decide +kernel) rfl (fun hc127 => ?_) (fun hc127 => ?_)
                        · refine zw_iconst 0 23 f13_22 rfl (by decide +kernel) ?_
                          refine zw_zreturn f13_23 r13 u13 (by decide +kernel) ⟨_, rfl, ?_⟩
                          refine zw_if_ne_f 11 18 f109_8 (by decide +kernel) rfl (by decide +kernel) ?_
                          refine zw_aload_n 12 f109_11 rfl rfl ?_
                          refine zw_bipush 10 14 f109_12 rfl (by decide +kernel) ?_
                          refine zw_virtual_i 17 0 0 [.ref 0, .int 10] [(0, .ref 0), (1, .int 10)] f109_14 rfl n109_78 k109_78_11 rfl (hb_0 _ _ _ _) (by decide +kernel) (Nat.le_of_ble_eq_true rfl) rfl rfl (by decide +kernel) (by decide +kernel) rfl (Nat.le_of_ble_eq_true rfl) rfl ?_
                          refine zw_aload_n 1 f105_0 rfl rfl ?_
                          refine zw_iload_n 2 f105_1 rfl rfl ?_
                          refine zw_put _ 5 f105_2 rfl g105_70_11 (hb_0 _ _ _ _) rfl (Nat.le_of_ble_eq_true rfl) (by decide +kernel) (hi_0_7 _ _ _ _ _) ?_
                          refine zw_iconst (-1) 6 f105_5 rfl (by decide +kernel) ?_
                          refine zw_ireturn f105_6 r105 u105 ⟨_, rfl, ?_⟩
                          refine zw_ireturn f109_17 r109 u109 ⟨_, rfl, ?_⟩
                          refine zw_ireturn f103_91 r103 u103 ?_
                          exact ⟨_, _, _, _, rfl, (KP.i rfl KP.rf), ⟨⟨hI.1, hI.2.1, t, by omega, et⟩, PE.of10 rfl rfl rfl rfl rfl rfl rfl rfl rfl rfl⟩, _, rfl⟩
                        · refine zw_iload_n 5 f13_4 rfl rfl ?_
                          refine zw_aload_n 6 f13_5 rfl rfl ?_
                          refine zw_getI (nI nv) 9 f13_6 rfl g13_39_4 (hb_1 _ _ _ _) rfl hI.1.1.1 ?_
                          refine zw_ic_ge 12 22 f13_9 (by decide +kernel) rfl (fun hc128 => ?_) (fun hc128 => ?_)
                          · refine zw_iconst 0 23 f13_22 rfl (by decide +kernel) ?_
                            refine zw_zreturn f13_23 r13 u13 (by decide +kernel) ⟨_, rfl, ?_⟩
                            refine zw_if_ne_f 11 18 f109_8 (by decide +kernel) rfl (by decide +kernel) ?_
                            refine zw_aload_n 12 f109_11 rfl rfl ?_
                            refine zw_bipush 10 14 f109_12 rfl (by decide +kernel) ?_
                            refine zw_virtual_i 17 0 0 [.ref 0, .int 10] [(0, .ref 0), (1, .int 10)] f109_14 rfl n109_78 k109_78_11 rfl (hb_0 _ _ _ _) (by decide +kernel) (Nat.le_of_ble_eq_true rfl) rfl rfl (by decide +kernel) (by decide +kernel) rfl (Nat.le_of_ble_eq_true rfl) rfl ?_
                            refine zw_aload_n 1 f105_0 rfl rfl ?_
                            refine zw_iload_n 2 f105_1 rfl rfl ?_
                            refine zw_put _ 5 f105_2 rfl g105_70_11 (hb_0 _ _ _ _) rfl (Nat.le_of_ble_eq_true rfl) (by decide +kernel) (hi_0_7 _ _ _ _ _) ?_
                            refine zw_iconst (-1) 6 f105_5 rfl (by decide +kernel) ?_
                            refine zw_ireturn f105_6 r105 u105 ⟨_, rfl, ?_⟩
                            refine zw_ireturn f109_17 r109 u109 ⟨_, rfl, ?_⟩
                            refine zw_ireturn f103_91 r103 u103 ?_
                            exact ⟨_, _, _, _, rfl, (KP.i rfl KP.rf), ⟨⟨hI.1, hI.2.1, t, by omega, et⟩, PE.of10 rfl rfl rfl rfl rfl rfl rfl rfl rfl rfl⟩, _, rfl⟩
                          · refine zw_iload_n 13 f13_12 rfl rfl ?_
                            refine zw_bipush 8 15 f13_13 rfl (by decide +kernel) ?_
                            refine zw_ic_ge 18 22 f13_15 (by decide +kernel) rfl (fun hc129 => ?_) (fun hc129 => ?_)
                            · refine zw_iconst 0 23 f13_22 rfl (by decide +kernel) ?_
                              refine zw_zreturn f13_23 r13 u13 (by decide +kernel) ⟨_, rfl, ?_⟩
                              refine zw_if_ne_f 11 18 f109_8 (by decide +kernel) rfl (by decide +kernel) ?_
                              refine zw_aload_n 12 f109_11 rfl rfl ?_
                              refine zw_bipush 10 14 f109_12 rfl (by decide +kernel) ?_
                              refine zw_virtual_i 17 0 0 [.ref 0, .int 10] [(0, .ref 0), (1, .int 10)] f109_14 rfl n109_78 k109_78_11 rfl (hb_0 _ _ _ _) (by decide +kernel) (Nat.le_of_ble_eq_true rfl) rfl rfl (by decide +kernel) (by decide +kernel) rfl (Nat.le_of_ble_eq_true rfl) rfl ?_
                              refine zw_aload_n 1 f105_0 rfl rfl ?_
                              refine zw_iload_n 2 f105_1 rfl rfl ?_
                              refine zw_put _ 5 f105_2 rfl g105_70_11 (hb_0 _ _ _ _) rfl (Nat.le_of_ble_eq_true rfl) (by decide +kernel) (hi_0_7 _ _ _ _ _) ?_
                              refine zw_iconst (-1) 6 f105_5 rfl (by decide +kernel) ?_
                              refine zw_ireturn f105_6 r105 u105 ⟨_, rfl, ?_⟩
                              refine zw_ireturn f109_17 r109 u109 ⟨_, rfl, ?_⟩
                              refine zw_ireturn f103_91 r103 u103 ?_
                              exact ⟨_, _, _, _, rfl, (KP.i rfl KP.rf), ⟨⟨hI.1, hI.2.1, t, by omega, et⟩, PE.of10 rfl rfl rfl rfl rfl rfl rfl rfl rfl rfl⟩, _, rfl⟩
                            · refine zw_iconst 1 19 f13_18 rfl (by decide +kernel) ?_
                              refine zw_goto 23 f13_19 (by decide +kernel) ?_
                              refine zw_zreturn f13_23 r13 u13 (by decide +kernel) ⟨_, rfl, ?_⟩
                              refine zw_if_ne_t 18 f109_8 (by decide +kernel) (by decide +kernel) ?_
                              refine zw_aload_n 19 f109_18 rfl rfl ?_
                              refine zw_getfield 22 f109_19 rfl g109_10_11 (hb_0 _ _ _ _) rfl ?_
                              refine zw_iload_n 23 f109_22 rfl rfl ?_
                              refine zw_virtual_i 26 0 0 [.ref 1, .int ((c - c / 8 * 8) + 8)] [(0, .ref 1), (1, .int ((c - c / 8 * 8) + 8))] f109_23 rfl n109_112 k109_112_4 rfl (hb_1 _ _ _ _) (by decide +kernel) (Nat.le_of_ble_eq_true rfl) rfl rfl (by decide +kernel) (by decide +kernel) rfl (Nat.le_of_ble_eq_true rfl) rfl ?_
                              refine zw_iload_n 1 f15_0 rfl rfl ?_
                              refine zw_if_lt_f 4 27 f15_1 (by decide +kernel) rfl hc127 ?_
                              refine zw_iload_n 5 f15_4 rfl rfl ?_
                              refine zw_aload_n 6 f15_5 rfl rfl ?_
                              refine zw_getI (nI nv) 9 f15_6 rfl g15_39_4 (hb_1 _ _ _ _) rfl hI.1.1.1 ?_
                              refine zw_ic_ge_f 12 27 f15_9 (by decide +kernel) rfl hc128 ?_
                              refine zw_iload_n 13 f15_12 rfl rfl ?_
                              refine zw_bipush 8 15 f15_13 rfl (by decide +kernel) ?_
                              refine zw_ic_ge_f 18 27 f15_15 (by decide +kernel) rfl hc129 ?_
                              refine zw_aload_n 19 f15_18 rfl rfl ?_
                              refine zw_getfield 22 f15_19 rfl g15_9_4 (hb_1 _ _ _ _) rfl ?_
                              refine zw_iload_n 23 f15_22 rfl rfl ?_
                              refine zw_iaload ((c - c / 8 * 8) + 8).toNatClampNeg (A 2 ((c - c / 8 * 8) + 8).toNatClampNeg) 24 f15_23 rfl (hb_2 _ _ _ _) rfl hc127 (zix (by decide) hc127 hc129) rfl ?_
                              refine zw_goto 28 f15_24 (by decide +kernel) ?_
                              refine zw_ireturn f15_28 r15 u15 ⟨_, rfl, ?_⟩
                              refine zw_istore_n _ 27 f109_26 rfl (by decide +kernel) rfl ?_
                              refine zw_iload_n 28 f109_27 rfl zl1_eq ?_
                              refine zw_iload_n 29 f109_28 rfl (zl1_ne rfl rfl rfl) ?_
                              refine zw_static_i 32 0 0 [.int (A 2 ((c - c / 8 * 8) + 8).toNatClampNeg), .int (b - b / 5 * 5)] [] [(0, .int (A 2 ((c - c / 8 * 8) + 8).toNatClampNeg)), (1, .int (b - b / 5 * 5))] f109_29 rfl k109_327_99 rfl (by decide +kernel) (Nat.le_of_ble_eq_true rfl) (Nat.le_of_ble_eq_true rfl) rfl rfl (by decide +kernel) (by decide +kernel) rfl (Nat.le_of_ble_eq_true rfl) rfl ?_
                              refine zw_iload_n 1 f114_0 rfl rfl ?_
                              refine zw_istore_n _ 2 f114_1 rfl (by decide +kernel) rfl ?_
                              refine zw_iconst 0 3 f114_2 rfl (by decide +kernel) ?_
                              refine zw_istore_n _ 4 f114_3 rfl (by decide +kernel) rfl ?_
                              refine zw_iload_n 5 f114_4 rfl zl1_eq ?_
                              refine zw_iconst 5 6 f114_5 rfl (by decide +kernel) ?_
                              refine zw_ic_ge_f 9 37 f114_6 (by decide +kernel) rfl (by decide +kernel) ?_
                              refine zw_iload_n 10 f114_9 rfl (zl1_ne rfl rfl zl1_eq) ?_
                              refine zw_iconst 0 11 f114_10 rfl (by decide +kernel) ?_
                              refine zw_iconst 4 12 f114_11 rfl (by decide +kernel) ?_
                              refine zw_static_i 15 0 0 [.int (A 2 ((c - c / 8 * 8) + 8).toNatClampNeg), .int 0, .int 4] [] [(0, .int (A 2 ((c - c / 8 * 8) + 8).toNatClampNeg)), (1, .int 0), (2, .int 4)] f114_12 rfl k114_74_99 rfl (by decide +kernel) (Nat.le_of_ble_eq_true rfl) (Nat.le_of_ble_eq_true rfl) rfl rfl (by decide +kernel) (by decide +kernel) rfl (Nat.le_of_ble_eq_true rfl) rfl ?_
                              refine zw_iload_n 1 f112_0 rfl rfl ?_
                              refine zw_iload_n 2 f112_1 rfl rfl ?_
                              refine zw_ic_lt 5 14 f112_2 (by decide +kernel) rfl (fun hc130 => ?_) (fun hc130 => ?_)
                              · refine zw_iconst 0 15 f112_14 rfl (by decide +kernel) ?_
                                refine zw_zreturn f112_15 r112 u112 (by decide +kernel) ⟨_, rfl, ?_⟩
                                refine zw_if_eq_t 37 f114_15 (by decide +kernel) (by decide +kernel) ?_
                                refine zw_iconst 0 38 f114_37 rfl (by decide +kernel) ?_
                                refine zw_zreturn f114_38 r114 u114 (by decide +kernel) ⟨_, rfl, ?_⟩
                                refine zw_if_eq_t 43 f109_32 (by decide +kernel) (by decide +kernel) ?_
                                refine zw_aload_n 44 f109_43 rfl (zl1_ne rfl rfl rfl) ?_
                                refine zw_bipush 11 46 f109_44 rfl (by decide +kernel) ?_
                                refine zw_virtual_i 49 0 0 [.ref 0, .int 11] [(0, .ref 0), (1, .int 11)] f109_46 rfl n109_78 k109_78_11 rfl (hb_0 _ _ _ _) (by decide +kernel) (Nat.le_of_ble_eq_true rfl) rfl rfl (by decide +kernel) (by decide +kernel) rfl (Nat.le_of_ble_eq_true rfl) rfl ?_
                                refine zw_aload_n 1 f105_0 rfl rfl ?_
                                refine zw_iload_n 2 f105_1 rfl rfl ?_
                                refine zw_put _ 5 f105_2 rfl g105_70_11 (hb_0 _ _ _ _) rfl (Nat.le_of_ble_eq_true rfl) (by decide +kernel) (hi_0_7 _ _ _ _ _) ?_
                                refine zw_iconst (-1) 6 f105_5 rfl (by decide +kernel) ?_
                                refine zw_ireturn f105_6 r105 u105 ⟨_, rfl, ?_⟩
                                refine zw_ireturn f109_49 r109 u109 ⟨_, rfl, ?_⟩
                                refine zw_ireturn f103_91 r103 u103 ?_
                                exact ⟨_, _, _, _, rfl, (KP.i rfl KP.rf), ⟨⟨hI.1, hI.2.1, t, by omega, et⟩, PE.of10 rfl rfl rfl rfl rfl rfl rfl rfl rfl rfl⟩, _, rfl⟩
                              · refine zw_iload_n 6 f112_5 rfl rfl ?_
                                refine zw_iload_n 7 f112_6 rfl rfl ?_
                                refine zw_ic_gt 10 14 f112_7 (by decide +kernel) rfl (fun hc131 => ?_) (fun hc131 => ?_)
                                · refine zw_iconst 0 15 f112_14 rfl (by decide +kernel) ?_
                                  refine zw_zreturn f112_15 r112 u112 (by decide +kernel) ⟨_, rfl, ?_⟩
                                  refine zw_if_eq_t 37 f114_15 (by decide +kernel) (by decide +kernel) ?_
                                  refine zw_iconst 0 38 f114_37 rfl (by decide +kernel) ?_
                                  refine zw_zreturn f114_38 r114 u114 (by decide +kernel) ⟨_, rfl, ?_⟩
                                  refine zw_if_eq_t 43 f109_32 (by decide +kernel) (by decide +kernel) ?_
                                  refine zw_aload_n 44 f109_43 rfl (zl1_ne rfl rfl rfl) ?_
                                  refine zw_bipush 11 46 f109_44 rfl (by decide +kernel) ?_
                                  refine zw_virtual_i 49 0 0 [.ref 0, .int 11] [(0, .ref 0), (1, .int 11)] f109_46 rfl n109_78 k109_78_11 rfl (hb_0 _ _ _ _) (by decide +kernel) (Nat.le_of_ble_eq_true rfl) rfl rfl (by decide +kernel) (by decide +kernel) rfl (Nat.le_of_ble_eq_true rfl) rfl ?_
                                  refine zw_aload_n 1 f105_0 rfl rfl ?_
                                  refine zw_iload_n 2 f105_1 rfl rfl ?_
                                  refine zw_put _ 5 f105_2 rfl g105_70_11 (hb_0 _ _ _ _) rfl (Nat.le_of_ble_eq_true rfl) (by decide +kernel) (hi_0_7 _ _ _ _ _) ?_
                                  refine zw_iconst (-1) 6 f105_5 rfl (by decide +kernel) ?_
                                  refine zw_ireturn f105_6 r105 u105 ⟨_, rfl, ?_⟩
                                  refine zw_ireturn f109_49 r109 u109 ⟨_, rfl, ?_⟩
                                  refine zw_ireturn f103_91 r103 u103 ?_
                                  exact ⟨_, _, _, _, rfl, (KP.i rfl KP.rf), ⟨⟨hI.1, hI.2.1, t, by omega, et⟩, PE.of10 rfl rfl rfl rfl rfl rfl rfl rfl rfl rfl⟩, _, rfl⟩
                                · refine zw_iconst 1 11 f112_10 rfl (by decide +kernel) ?_
                                  refine zw_goto 15 f112_11 (by decide +kernel) ?_
                                  refine zw_zreturn f112_15 r112 u112 (by decide +kernel) ⟨_, rfl, ?_⟩
                                  refine zw_if_eq_f 18 37 f114_15 (by decide +kernel) rfl (by decide +kernel) ?_
                                  refine zw_iload_n 19 f114_18 rfl (zl1_ne rfl rfl zl1_eq) ?_
                                  refine zw_iload_n 20 f114_19 rfl (zl1_ne rfl rfl (zl1_ne rfl rfl rfl)) ?_
                                  refine zw_ic_ne 23 25 f114_20 (by decide +kernel) rfl (fun hc132 => ?_) (fun hc132 => ?_)
                                  · refine zw_getstatic 28 f114_25 rfl (by decide +kernel) ?_
                                    refine zw_iload_n 29 f114_28 rfl (zl1_ne rfl rfl zl1_eq) ?_
                                    refine zw_iaload_f (A 2 ((c - c / 8 * 8) + 8).toNatClampNeg).toNatClampNeg 5 (zka (A 2 ((c - c / 8 * 8) + 8).toNatClampNeg).toNatClampNeg) 30 f114_29 rfl hro.1 rfl hc130 (zix (by decide) hc130 (n45 hc131)) (congrFun hro.2 _) ?_
                                    refine zw_istore_n _ 31 f114_30 rfl (by decide +kernel) rfl ?_
                                    refine zw_iinc 1 _ 34 f114_31 rfl (zl1_ne rfl rfl zl1_eq) (by decide +kernel) (by decide +kernel) rfl ?_
                                    refine zw_goto 4 f114_34 (by decide +kernel) ?_
                                    refine zw_iload_n 5 f114_4 rfl zl1_eq ?_
                                    refine zw_iconst 5 6 f114_5 rfl (by decide +kernel) ?_
                                    refine zw_ic_ge_f 9 37 f114_6 (by decide +kernel) rfl (by decide +kernel) ?_
                                    refine zw_iload_n 10 f114_9 rfl (zl1_ne rfl rfl zl1_eq) ?_
                                    refine zw_iconst 0 11 f114_10 rfl (by decide +kernel) ?_
                                    refine zw_iconst 4 12 f114_11 rfl (by decide +kernel) ?_
                                    refine zw_static_i 15 0 0 [.int (zka (A 2 ((c - c / 8 * 8) + 8).toNatClampNeg).toNatClampNeg), .int 0, .int 4] [] [(0, .int (zka (A 2 ((c - c / 8 * 8) + 8).toNatClampNeg).toNatClampNeg)), (1, .int 0), (2, .int 4)] f114_12 rfl k114_74_99 rfl (by decide +kernel) (Nat.le_of_ble_eq_true rfl) (Nat.le_of_ble_eq_true rfl) rfl rfl (by decide +kernel) (by decide +kernel) rfl (Nat.le_of_ble_eq_true rfl) rfl ?_
                                    refine zw_iload_n 1 f112_0 rfl rfl ?_
                                    refine zw_iload_n 2 f112_1 rfl rfl ?_
                                    refine zw_ic_lt 5 14 f112_2 (by decide +kernel) rfl (fun hc133 => ?_) (fun hc133 => ?_)
                                    · refine zw_iconst 0 15 f112_14 rfl (by decide +kernel) ?_
                                      refine zw_zreturn f112_15 r112 u112 (by decide +kernel) ⟨_, rfl, ?_⟩
                                      refine zw_if_eq_t 37 f114_15 (by decide +kernel) (by decide +kernel) ?_
                                      refine zw_iconst 0 38 f114_37 rfl (by decide +kernel) ?_
                                      refine zw_zreturn f114_38 r114 u114 (by decide +kernel) ⟨_, rfl, ?_⟩
                                      refine zw_if_eq_t 43 f109_32 (by decide +kernel) (by decide +kernel) ?_
                                      refine zw_aload_n 44 f109_43 rfl (zl1_ne rfl rfl rfl) ?_
                                      refine zw_bipush 11 46 f109_44 rfl (by decide +kernel) ?_
                                      refine zw_virtual_i 49 0 0 [.ref 0, .int 11] [(0, .ref 0), (1, .int 11)] f109_46 rfl n109_78 k109_78_11 rfl (hb_0 _ _ _ _) (by decide +kernel) (Nat.le_of_ble_eq_true rfl) rfl rfl (by decide +kernel) (by decide +kernel) rfl (Nat.le_of_ble_eq_true rfl) rfl ?_
                                      refine zw_aload_n 1 f105_0 rfl rfl ?_
                                      refine zw_iload_n 2 f105_1 rfl rfl ?_
                                      refine zw_put _ 5 f105_2 rfl g105_70_11 (hb_0 _ _ _ _) rfl (Nat.le_of_ble_eq_true rfl) (by decide +kernel) (hi_0_7 _ _ _ _ _) ?_
                                      refine zw_iconst (-1) 6 f105_5 rfl (by decide +kernel) ?_
                                      refine zw_ireturn f105_6 r105 u105 ⟨_, rfl, ?_⟩
                                      refine zw_ireturn f109_49 r109 u109 ⟨_, rfl, ?_⟩
                                      refine zw_ireturn f103_91 r103 u103 ?_
                                      exact ⟨_, _, _, _, rfl, (KP.i rfl KP.rf), ⟨⟨hI.1, hI.2.1, t, by omega, et⟩, PE.of10 rfl rfl rfl rfl rfl rfl rfl rfl rfl rfl⟩, _, rfl⟩
                                    · refine zw_iload_n 6 f112_5 rfl rfl ?_
                                      refine zw_iload_n 7 f112_6 rfl rfl ?_
                                      refine zw_ic_gt 10 14 f112_7 (by decide +kernel) rfl (fun hc134 => ?_) (fun hc134 => ?_)
                                      · refine zw_iconst 0 15 f112_14 rfl (by decide +kernel) ?_
                                        refine zw_zreturn f112_15 r112 u112 (by decide +kernel) ⟨_, rfl, ?_⟩
                                        refine zw_if_eq_t 37 f114_15 (by decide +kernel) (by decide +kernel) ?_
                                        refine zw_iconst 0 38 f114_37 rfl (by decide +kernel) ?_
                                        refine zw_zreturn f114_38 r114 u114 (by decide +kernel) ⟨_, rfl, ?_⟩
                                        refine zw_if_eq_t 43 f109_32 (by decide +kernel) (by decide +kernel) ?_
                                        refine zw_aload_n 44 f109_43 rfl (zl1_ne rfl rfl rfl) ?_
                                        refine zw_bipush 11 46 f109_44 rfl (by decide +kernel) ?_
                                        refine zw_virtual_i 49 0 0 [.ref 0, .int 11] [(0, .ref 0), (1, .int 11)] f109_46 rfl n109_78 k109_78_11 rfl (hb_0 _ _ _ _) (by decide +kernel) (Nat.le_of_ble_eq_true rfl) rfl rfl (by decide +kernel) (by decide +kernel) rfl (Nat.le_of_ble_eq_true rfl) rfl ?_
                                        refine zw_aload_n 1 f105_0 rfl rfl ?_
                                        refine zw_iload_n 2 f105_1 rfl rfl ?_
                                        refine zw_put _ 5 f105_2 rfl g105_70_11 (hb_0 _ _ _ _) rfl (Nat.le_of_ble_eq_true rfl) (by decide +kernel) (hi_0_7 _ _ _ _ _) ?_
                                        refine zw_iconst (-1) 6 f105_5 rfl (by decide +kernel) ?_
                                        refine zw_ireturn f105_6 r105 u105 ⟨_, rfl, ?_⟩
                                        refine zw_ireturn f109_49 r109 u109 ⟨_, rfl, ?_⟩
                                        refine zw_ireturn f103_91 r103 u103 ?_
                                        exact ⟨_, _, _, _, rfl, (KP.i rfl KP.rf), ⟨⟨hI.1, hI.2.1, t, by omega, et⟩, PE.of10 rfl rfl rfl rfl rfl rfl rfl rfl rfl rfl⟩, _, rfl⟩
                                      · refine zw_iconst 1 11 f112_10 rfl (by decide +kernel) ?_
                                        refine zw_goto 15 f112_11 (by decide +kernel) ?_
                                        refine zw_zreturn f112_15 r112 u112 (by decide +kernel) ⟨_, rfl, ?_⟩
                                        refine zw_if_eq_f 18 37 f114_15 (by decide +kernel) rfl (by decide +kernel) ?_
                                        refine zw_iload_n 19 f114_18 rfl (zl1_ne rfl rfl zl1_eq) ?_
                                        refine zw_iload_n 20 f114_19 rfl (zl1_ne rfl rfl (zl1_ne rfl rfl (zl1_ne rfl rfl (zl1_ne rfl rfl rfl)))) ?_
                                        refine zw_ic_ne 23 25 f114_20 (by decide +kernel) rfl (fun hc135 => ?_) (fun hc135 => ?_)
                                        · refine zw_getstatic 28 f114_25 rfl (by decide +kernel) ?_
                                          refine zw_iload_n 29 f114_28 rfl (zl1_ne rfl rfl zl1_eq) ?_
                                          refine zw_iaload_f (zka (A 2 ((c - c / 8 * 8) + 8).toNatClampNeg).toNatClampNeg).toNatClampNeg 5 (zka (zka (A 2 ((c - c / 8 * 8) + 8).toNatClampNeg).toNatClampNeg).toNatClampNeg) 30 f114_29 rfl hro.1 rfl hc133 (zix (by decide) hc133 (n45 hc134)) (congrFun hro.2 _) ?_
                                          refine zw_istore_n _ 31 f114_30 rfl (by decide +kernel) rfl ?_
                                          refine zw_iinc 2 _ 34 f114_31 rfl (zl1_ne rfl rfl zl1_eq) (by decide +kernel) (by decide +kernel) rfl ?_
                                          refine zw_goto 4 f114_34 (by decide +kernel) ?_
                                          refine zw_iload_n 5 f114_4 rfl zl1_eq ?_
                                          refine zw_iconst 5 6 f114_5 rfl (by decide +kernel) ?_
                                          refine zw_ic_ge_f 9 37 f114_6 (by decide +kernel) rfl (by decide +kernel) ?_
                                          refine zw_iload_n 10 f114_9 rfl (zl1_ne rfl rfl zl1_eq) ?_
                                          refine zw_iconst 0 11 f114_10 rfl (by decide +kernel) ?_
                                          refine zw_iconst 4 12 f114_11 rfl (by decide +kernel) ?_
                                          refine zw_static_i 15 0 0 [.int (zka (zka (A 2 ((c - c / 8 * 8) + 8).toNatClampNeg).toNatClampNeg).toNatClampNeg), .int 0, .int 4] [] [(0, .int (zka (zka (A 2 ((c - c / 8 * 8) + 8).toNatClampNeg).toNatClampNeg).toNatClampNeg)), (1, .int 0), (2, .int 4)] f114_12 rfl k114_74_99 rfl (by decide +kernel) (Nat.le_of_ble_eq_true rfl) (Nat.le_of_ble_eq_true rfl) rfl rfl (by decide +kernel) (by decide +kernel) rfl (Nat.le_of_ble_eq_true rfl) rfl ?_
                                          refine zw_iload_n 1 f112_0 rfl rfl ?_
                                          refine zw_iload_n 2 f112_1 rfl rfl ?_
                                          refine zw_ic_lt 5 14 f112_2 (by decide +kernel) rfl (fun hc136 => ?_) (fun hc136 => ?_)
                                          · refine zw_iconst 0 15 f112_14 rfl (by decide +kernel) ?_
                                            refine zw_zreturn f112_15 r112 u112 (by decide +kernel) ⟨_, rfl, ?_⟩
                                            refine zw_if_eq_t 37 f114_15 (by decide +kernel) (by decide +kernel) ?_
                                            refine zw_iconst 0 38 f114_37 rfl (by decide +kernel) ?_
                                            refine zw_zreturn f114_38 r114 u114 (by decide +kernel) ⟨_, rfl, ?_⟩
                                            refine zw_if_eq_t 43 f109_32 (by decide +kernel) (by decide +kernel) ?_
                                            refine zw_aload_n 44 f109_43 rfl (zl1_ne rfl rfl rfl) ?_
                                            refine zw_bipush 11 46 f109_44 rfl (by decide +kernel) ?_
                                            refine zw_virtual_i 49 0 0 [.ref 0, .int 11] [(0, .ref 0), (1, .int 11)] f109_46 rfl n109_78 k109_78_11 rfl (hb_0 _ _ _ _) (by decide +kernel) (Nat.le_of_ble_eq_true rfl) rfl rfl (by decide +kernel) (by decide +kernel) rfl (Nat.le_of_ble_eq_true rfl) rfl ?_
                                            refine zw_aload_n 1 f105_0 rfl rfl ?_
                                            refine zw_iload_n 2 f105_1 rfl rfl ?_
                                            refine zw_put _ 5 f105_2 rfl g105_70_11 (hb_0 _ _ _ _) rfl (Nat.le_of_ble_eq_true rfl) (by decide +kernel) (hi_0_7 _ _ _ _ _) ?_
                                            refine zw_iconst (-1) 6 f105_5 rfl (by decide +kernel) ?_
                                            refine zw_ireturn f105_6 r105 u105 ⟨_, rfl, ?_⟩
                                            refine zw_ireturn f109_49 r109 u109 ⟨_, rfl, ?_⟩
                                            refine zw_ireturn f103_91 r103 u103 ?_
                                            exact ⟨_, _, _, _, rfl, (KP.i rfl KP.rf), ⟨⟨hI.1, hI.2.1, t, by omega, et⟩, PE.of10 rfl rfl rfl rfl rfl rfl rfl rfl rfl rfl⟩, _, rfl⟩
                                          · refine zw_iload_n 6 f112_5 rfl rfl ?_
                                            refine zw_iload_n 7 f112_6 rfl rfl ?_
                                            refine zw_ic_gt 10 14 f112_7 (by decide +kernel) rfl (fun hc137 => ?_) (fun hc137 => ?_)
                                            · refine zw_iconst 0 15 f112_14 rfl (by decide +kernel) ?_
                                              refine zw_zreturn f112_15 r112 u112 (by decide +kernel) ⟨_, rfl, ?_⟩
                                              refine zw_if_eq_t 37 f114_15 (by decide +kernel) (by decide +kernel) ?_
                                              refine zw_iconst 0 38 f114_37 rfl (by decide +kernel) ?_
                                              refine zw_zreturn f114_38 r114 u114 (by decide +kernel) ⟨_, rfl, ?_⟩
                                              refine zw_if_eq_t 43 f109_32 (by decide +kernel) (by decide +kernel) ?_
                                              refine zw_aload_n 44 f109_43 rfl (zl1_ne rfl rfl rfl) ?_
                                              refine zw_bipush 11 46 f109_44 rfl (by decide +kernel) ?_
                                              refine zw_virtual_i 49 0 0 [.ref 0, .int 11] [(0, .ref 0), (1, .int 11)] f109_46 rfl n109_78 k109_78_11 rfl (hb_0 _ _ _ _) (by decide +kernel) (Nat.le_of_ble_eq_true rfl) rfl rfl (by decide +kernel) (by decide +kernel) rfl (Nat.le_of_ble_eq_true rfl) rfl ?_
                                              refine zw_aload_n 1 f105_0 rfl rfl ?_
                                              refine zw_iload_n 2 f105_1 rfl rfl ?_
                                              refine zw_put _ 5 f105_2 rfl g105_70_11 (hb_0 _ _ _ _) rfl (Nat.le_of_ble_eq_true rfl) (by decide +kernel) (hi_0_7 _ _ _ _ _) ?_
                                              refine zw_iconst (-1) 6 f105_5 rfl (by decide +kernel) ?_
                                              refine zw_ireturn f105_6 r105 u105 ⟨_, rfl, ?_⟩
                                              refine zw_ireturn f109_49 r109 u109 ⟨_, rfl, ?_⟩
                                              refine zw_ireturn f103_91 r103 u103 ?_
                                              exact ⟨_, _, _, _, rfl, (KP.i rfl KP.rf), ⟨⟨hI.1, hI.2.1, t, by omega, et⟩, PE.of10 rfl rfl rfl rfl rfl rfl rfl rfl rfl rfl⟩, _, rfl⟩
                                            · refine zw_iconst 1 11 f112_10 rfl (by decide +kernel) ?_
                                              refine zw_goto 15 f112_11 (by decide +kernel) ?_
                                              refine zw_zreturn f112_15 r112 u112 (by decide +kernel) ⟨_, rfl, ?_⟩
                                              refine zw_if_eq_f 18 37 f114_15 (by decide +kernel) rfl (by decide +kernel) ?_
                                              refine zw_iload_n 19 f114_18 rfl (zl1_ne rfl rfl zl1_eq) ?_
                                              refine zw_iload_n 20 f114_19 rfl (zl1_ne rfl rfl (zl1_ne rfl rfl (zl1_ne rfl rfl (zl1_ne rfl rfl (zl1_ne rfl rfl (zl1_ne rfl rfl rfl)))))) ?_
                                              refine zw_ic_ne 23 25 f114_20 (by decide +kernel) rfl (fun hc138 => ?_) (fun hc138 => ?_)
                                              · refine zw_getstatic 28 f114_25 rfl (by decide +kernel) ?_
                                                refine zw_iload_n 29 f114_28 rfl (zl1_ne rfl rfl zl1_eq) ?_
                                                refine zw_iaload_f (zka (zka (A 2 ((c - c / 8 * 8) + 8).toNatClampNeg).toNatClampNeg).toNatClampNeg).toNatClampNeg 5 (zka (zka (zka (A 2 ((c - c / 8 * 8) + 8).toNatClampNeg).toNatClampNeg).toNatClampNeg).toNatClampNeg) 30 f114_29 rfl hro.1 rfl hc136 (zix (by decide) hc136 (n45 hc137)) (congrFun hro.2 _) ?_
                                                refine zw_istore_n _ 31 f114_30 rfl (by decide +kernel) rfl ?_
                                                refine zw_iinc 3 _ 34 f114_31 rfl (zl1_ne rfl rfl zl1_eq) (by decide +kernel) (by decide +kernel) rfl ?_
                                                refine zw_goto 4 f114_34 (by decide +kernel) ?_
                                                refine zw_iload_n 5 f114_4 rfl zl1_eq ?_
                                                refine zw_iconst 5 6 f114_5 rfl (by decide +kernel) ?_
                                                refine zw_ic_ge_f 9 37 f114_6 (by decide +kernel) rfl (by decide +kernel) ?_
                                                refine zw_iload_n 10 f114_9 rfl (zl1_ne rfl rfl zl1_eq) ?_
                                                refine zw_iconst 0 11 f114_10 rfl (by decide +kernel) ?_
                                                refine zw_iconst 4 12 f114_11 rfl (by decide +kernel) ?_
                                                refine zw_static_i 15 0 0 [.int (zka (zka (zka (A 2 ((c - c / 8 * 8) + 8).toNatClampNeg).toNatClampNeg).toNatClampNeg).toNatClampNeg), .int 0, .int 4] [] [(0, .int (zka (zka (zka (A 2 ((c - c / 8 * 8) + 8).toNatClampNeg).toNatClampNeg).toNatClampNeg).toNatClampNeg)), (1, .int 0), (2, .int 4)] f114_12 rfl k114_74_99 rfl (by decide +kernel) (Nat.le_of_ble_eq_true rfl) (Nat.le_of_ble_eq_true rfl) rfl rfl (by decide +kernel) (by decide +kernel) rfl (Nat.le_of_ble_eq_true rfl) rfl ?_
                                                refine zw_iload_n 1 f112_0 rfl rfl ?_
                                                refine zw_iload_n 2 f112_1 rfl rfl ?_
                                                refine zw_ic_lt 5 14 f112_2 (by decide +kernel) rfl (fun hc139 => ?_) (fun hc139 => ?_)
                                                · refine zw_iconst 0 15 f112_14 rfl (by decide +kernel) ?_
                                                  refine zw_zreturn f112_15 r112 u112 (by decide +kernel) ⟨_, rfl, ?_⟩
                                                  refine zw_if_eq_t 37 f114_15 (by decide +kernel) (by decide +kernel) ?_
                                                  refine zw_iconst 0 38 f114_37 rfl (by decide +kernel) ?_
                                                  refine zw_zreturn f114_38 r114 u114 (by decide +kernel) ⟨_, rfl, ?_⟩
                                                  refine zw_if_eq_t 43 f109_32 (by decide +kernel) (by decide +kernel) ?_
                                                  refine zw_aload_n 44 f109_43 rfl (zl1_ne rfl rfl rfl) ?_
                                                  refine zw_bipush 11 46 f109_44 rfl (by decide +kernel) ?_
                                                  refine zw_virtual_i 49 0 0 [.ref 0, .int 11] [(0, .ref 0), (1, .int 11)] f109_46 rfl n109_78 k109_78_11 rfl (hb_0 _ _ _ _) (by decide +kernel) (Nat.le_of_ble_eq_true rfl) rfl rfl (by decide +kernel) (by decide +kernel) rfl (Nat.le_of_ble_eq_true rfl) rfl ?_
                                                  refine zw_aload_n 1 f105_0 rfl rfl ?_
                                                  refine zw_iload_n 2 f105_1 rfl rfl ?_
                                                  refine zw_put _ 5 f105_2 rfl g105_70_11 (hb_0 _ _ _ _) rfl (Nat.le_of_ble_eq_true rfl) (by decide +kernel) (hi_0_7 _ _ _ _ _) ?_
                                                  refine zw_iconst (-1) 6 f105_5 rfl (by decide +kernel) ?_
                                                  refine zw_ireturn f105_6 r105 u105 ⟨_, rfl, ?_⟩
                                                  refine zw_ireturn f109_49 r109 u109 ⟨_, rfl, ?_⟩
                                                  refine zw_ireturn f103_91 r103 u103 ?_
                                                  exact ⟨_, _, _, _, rfl, (KP.i rfl KP.rf), ⟨⟨hI.1, hI.2.1, t, by omega, et⟩, PE.of10 rfl rfl rfl rfl rfl rfl rfl rfl rfl rfl⟩, _, rfl⟩
                                                · refine zw_iload_n 6 f112_5 rfl rfl ?_
                                                  refine zw_iload_n 7 f112_6 rfl rfl ?_
                                                  refine zw_ic_gt 10 14 f112_7 (by decide +kernel) rfl (fun hc140 => ?_) (fun hc140 => ?_)
                                                  · refine zw_iconst 0 15 f112_14 rfl (by decide +kernel) ?_
                                                    refine zw_zreturn f112_15 r112 u112 (by decide +kernel) ⟨_, rfl, ?_⟩
                                                    refine zw_if_eq_t 37 f114_15 (by decide +kernel) (by decide +kernel) ?_
                                                    refine zw_iconst 0 38 f114_37 rfl (by decide +kernel) ?_
                                                    refine zw_zreturn f114_38 r114 u114 (by decide +kernel) ⟨_, rfl, ?_⟩
                                                    refine zw_if_eq_t 43 f109_32 (by decide +kernel) (by decide +kernel) ?_
                                                    refine zw_aload_n 44 f109_43 rfl (zl1_ne rfl rfl rfl) ?_
                                                    refine zw_bipush 11 46 f109_44 rfl (by decide +kernel) ?_
                                                    refine zw_virtual_i 49 0 0 [.ref 0, .int 11] [(0, .ref 0), (1, .int 11)] f109_46 rfl n109_78 k109_78_11 rfl (hb_0 _ _ _ _) (by decide +kernel) (Nat.le_of_ble_eq_true rfl) rfl rfl (by decide +kernel) (by decide +kernel) rfl (Nat.le_of_ble_eq_true rfl) rfl ?_
                                                    refine zw_aload_n 1 f105_0 rfl rfl ?_
                                                    refine zw_iload_n 2 f105_1 rfl rfl ?_
                                                    refine zw_put _ 5 f105_2 rfl g105_70_11 (hb_0 _ _ _ _) rfl (Nat.le_of_ble_eq_true rfl) (by decide +kernel) (hi_0_7 _ _ _ _ _) ?_
                                                    refine zw_iconst (-1) 6 f105_5 rfl (by decide +kernel) ?_
                                                    refine zw_ireturn f105_6 r105 u105 ⟨_, rfl, ?_⟩
                                                    refine zw_ireturn f109_49 r109 u109 ⟨_, rfl, ?_⟩
                                                    refine zw_ireturn f103_91 r103 u103 ?_
                                                    exact ⟨_, _, _, _, rfl, (KP.i rfl KP.rf), ⟨⟨hI.1, hI.2.1, t, by omega, et⟩, PE.of10 rfl rfl rfl rfl rfl rfl rfl rfl rfl rfl⟩, _, rfl⟩
                                                  · refine zw_iconst 1 11 f112_10 rfl (by decide +kernel) ?_
                                                    refine zw_goto 15 f112_11 (by decide +kernel) ?_
                                                    refine zw_zreturn f112_15 r112 u112 (by decide +kernel) ⟨_, rfl, ?_⟩
                                                    refine zw_if_eq_f 18 37 f114_15 (by decide +kernel) rfl (by decide +kernel) ?_
                                                    refine zw_iload_n 19 f114_18 rfl (zl1_ne rfl rfl zl1_eq) ?_
                                                    refine zw_iload_n 20 f114_19 rfl (zl1_ne rfl rfl (zl1_ne rfl rfl (zl1_ne rfl rfl (zl1_ne rfl rfl (zl1_ne rfl rfl (zl1_ne rfl rfl (zl1_ne rfl rfl (zl1_ne rfl rfl rfl)))))))) ?_
                                                    refine zw_ic_ne 23 25 f114_20 (by decide +kernel) rfl (fun hc141 => ?_) (fun hc141 => ?_)
                                                    · refine zw_getstatic 28 f114_25 rfl (by decide +kernel) ?_
                                                      refine zw_iload_n 29 f114_28 rfl (zl1_ne rfl rfl zl1_eq) ?_
                                                      refine zw_iaload_f (zka (zka (zka (A 2 ((c - c / 8 * 8) + 8).toNatClampNeg).toNatClampNeg).toNatClampNeg).toNatClampNeg).toNatClampNeg 5 (zka (zka (zka (zka (A 2 ((c - c / 8 * 8) + 8).toNatClampNeg).toNatClampNeg).toNatClampNeg).toNatClampNeg).toNatClampNeg) 30 f114_29 rfl hro.1 rfl hc139 (zix (by decide) hc139 (n45 hc140)) (congrFun hro.2 _) ?_
                                                      refine zw_istore_n _ 31 f114_30 rfl (by decide +kernel) rfl ?_
                                                      refine zw_iinc 4 _ 34 f114_31 rfl (zl1_ne rfl rfl zl1_eq) (by decide +kernel) (by decide +kernel) rfl ?_
                                                      refine zw_goto 4 f114_34 (by decide +kernel) ?_
                                                      refine zw_iload_n 5 f114_4 rfl zl1_eq ?_
                                                      refine zw_iconst 5 6 f114_5 rfl (by decide +kernel) ?_
                                                      refine zw_ic_ge_f 9 37 f114_6 (by decide +kernel) rfl (by decide +kernel) ?_
                                                      refine zw_iload_n 10 f114_9 rfl (zl1_ne rfl rfl zl1_eq) ?_
                                                      refine zw_iconst 0 11 f114_10 rfl (by decide +kernel) ?_
                                                      refine zw_iconst 4 12 f114_11 rfl (by decide +kernel) ?_
                                                      refine zw_static_i 15 0 0 [.int (zka (zka (zka (zka (A 2 ((c - c / 8 * 8) + 8).toNatClampNeg).toNatClampNeg).toNatClampNeg).toNatClampNeg).toNatClampNeg), .int 0, .int 4] [] [(0, .int (zka (zka (zka (zka (A 2 ((c - c / 8 * 8) + 8).toNatClampNeg).toNatClampNeg).toNatClampNeg).toNatClampNeg).toNatClampNeg)), (1, .int 0), (2, .int 4)] f114_12 rfl k114_74_99 rfl (by decide +kernel) (Nat.le_of_ble_eq_true rfl) (Nat.le_of_ble_eq_true rfl) rfl rfl (by decide +kernel) (by decide +kernel) rfl (Nat.le_of_ble_eq_true rfl) rfl ?_
                                                      refine zw_iload_n 1 f112_0 rfl rfl ?_
                                                      refine zw_iload_n 2 f112_1 rfl rfl ?_
                                                      refine zw_ic_lt 5 14 f112_2 (by decide +kernel) rfl (fun hc142 => ?_) (fun hc142 => ?_)
                                                      · refine zw_iconst 0 15 f112_14 rfl (by decide +kernel) ?_
                                                        refine zw_zreturn f112_15 r112 u112 (by decide +kernel) ⟨_, rfl, ?_⟩
                                                        refine zw_if_eq_t 37 f114_15 (by decide +kernel) (by decide +kernel) ?_
                                                        refine zw_iconst 0 38 f114_37 rfl (by decide +kernel) ?_
                                                        refine zw_zreturn f114_38 r114 u114 (by decide +kernel) ⟨_, rfl, ?_⟩
                                                        refine zw_if_eq_t 43 f109_32 (by decide +kernel) (by decide +kernel) ?_
                                                        refine zw_aload_n 44 f109_43 rfl (zl1_ne rfl rfl rfl) ?_
                                                        refine zw_bipush 11 46 f109_44 rfl (by decide +kernel) ?_
                                                        refine zw_virtual_i 49 0 0 [.ref 0, .int 11] [(0, .ref 0), (1, .int 11)] f109_46 rfl n109_78 k109_78_11 rfl (hb_0 _ _ _ _) (by decide +kernel) (Nat.le_of_ble_eq_true rfl) rfl rfl (by decide +kernel) (by decide +kernel) rfl (Nat.le_of_ble_eq_true rfl) rfl ?_
                                                        refine zw_aload_n 1 f105_0 rfl rfl ?_
                                                        refine zw_iload_n 2 f105_1 rfl rfl ?_
                                                        refine zw_put _ 5 f105_2 rfl g105_70_11 (hb_0 _ _ _ _) rfl (Nat.le_of_ble_eq_true rfl) (by decide +kernel) (hi_0_7 _ _ _ _ _) ?_
                                                        refine zw_iconst (-1) 6 f105_5 rfl (by decide +kernel) ?_
                                                        refine zw_ireturn f105_6 r105 u105 ⟨_, rfl, ?_⟩
                                                        refine zw_ireturn f109_49 r109 u109 ⟨_, rfl, ?_⟩
                                                        refine zw_ireturn f103_91 r103 u103 ?_
                                                        exact ⟨_, _, _, _, rfl, (KP.i rfl KP.rf), ⟨⟨hI.1, hI.2.1, t, by omega, et⟩, PE.of10 rfl rfl rfl rfl rfl rfl rfl rfl rfl rfl⟩, _, rfl⟩
                                                      · refine zw_iload_n 6 f112_5 rfl rfl ?_
                                                        refine zw_iload_n 7 f112_6 rfl rfl ?_
                                                        refine zw_ic_gt 10 14 f112_7 (by decide +kernel) rfl (fun hc143 => ?_) (fun hc143 => ?_)
                                                        · refine zw_iconst 0 15 f112_14 rfl (by decide +kernel) ?_
                                                          refine zw_zreturn f112_15 r112 u112 (by decide +kernel) ⟨_, rfl, ?_⟩
                                                          refine zw_if_eq_t 37 f114_15 (by decide +kernel) (by decide +kernel) ?_
                                                          refine zw_iconst 0 38 f114_37 rfl (by decide +kernel) ?_
                                                          refine zw_zreturn f114_38 r114 u114 (by decide +kernel) ⟨_, rfl, ?_⟩
                                                          refine zw_if_eq_t 43 f109_32 (by decide +kernel) (by decide +kernel) ?_
                                                          refine zw_aload_n 44 f109_43 rfl (zl1_ne rfl rfl rfl) ?_
                                                          refine zw_bipush 11 46 f109_44 rfl (by decide +kernel) ?_
                                                          refine zw_virtual_i 49 0 0 [.ref 0, .int 11] [(0, .ref 0), (1, .int 11)] f109_46 rfl n109_78 k109_78_11 rfl (hb_0 _ _ _ _) (by decide +kernel) (Nat.le_of_ble_eq_true rfl) rfl rfl (by decide +kernel) (by decide +kernel) rfl (Nat.le_of_ble_eq_true rfl) rfl ?_
                                                          refine zw_aload_n 1 f105_0 rfl rfl ?_
                                                          refine zw_iload_n 2 f105_1 rfl rfl ?_
                                                          refine zw_put _ 5 f105_2 rfl g105_70_11 (hb_0 _ _ _ _) rfl (Nat.le_of_ble_eq_true rfl) (by decide +kernel) (hi_0_7 _ _ _ _ _) ?_
                                                          refine zw_iconst (-1) 6 f105_5 rfl (by decide +kernel) ?_
                                                          refine zw_ireturn f105_6 r105 u105 ⟨_, rfl, ?_⟩
                                                          refine zw_ireturn f109_49 r109 u109 ⟨_, rfl, ?_⟩
                                                          refine zw_ireturn f103_91 r103 u103 ?_
                                                          exact ⟨_, _, _, _, rfl, (KP.i rfl KP.rf), ⟨⟨hI.1, hI.2.1, t, by omega, et⟩, PE.of10 rfl rfl rfl rfl rfl rfl rfl rfl rfl rfl⟩, _, rfl⟩
                                                        · refine zw_iconst 1 11 f112_10 rfl (by decide +kernel) ?_
                                                          refine zw_goto 15 f112_11 (by decide +kernel) ?_
                                                          refine zw_zreturn f112_15 r112 u112 (by decide +kernel) ⟨_, rfl, ?_⟩
                                                          refine zw_if_eq_f 18 37 f114_15 (by decide +kernel) rfl (by decide +kernel) ?_
                                                          refine zw_iload_n 19 f114_18 rfl (zl1_ne rfl rfl zl1_eq) ?_
                                                          refine zw_iload_n 20 f114_19 rfl (zl1_ne rfl rfl (zl1_ne rfl rfl (zl1_ne rfl rfl (zl1_ne rfl rfl (zl1_ne rfl rfl (zl1_ne rfl rfl (zl1_ne rfl rfl (zl1_ne rfl rfl (zl1_ne rfl rfl (zl1_ne rfl rfl rfl)))))))))) ?_
                                                          refine zw_ic_ne 23 25 f114_20 (by decide +kernel) rfl (fun hc144 => ?_) (fun hc144 => ?_)
                                                          · refine zw_getstatic 28 f114_25 rfl (by decide +kernel) ?_
                                                            refine zw_iload_n 29 f114_28 rfl (zl1_ne rfl rfl zl1_eq) ?_
                                                            refine zw_iaload_f (zka (zka (zka (zka (A 2 ((c - c / 8 * 8) + 8).toNatClampNeg).toNatClampNeg).toNatClampNeg).toNatClampNeg).toNatClampNeg).toNatClampNeg 5 (zka (zka (zka (zka (zka (A 2 ((c - c / 8 * 8) + 8).toNatClampNeg).toNatClampNeg).toNatClampNeg).toNatClampNeg).toNatClampNeg).toNatClampNeg) 30 f114_29 rfl hro.1 rfl hc142 (zix (by decide) hc142 (n45 hc143)) (congrFun hro.2 _) ?_
                                                            refine zw_istore_n _ 31 f114_30 rfl (by decide +kernel) rfl ?_
                                                            refine zw_iinc 5 _ 34 f114_31 rfl (zl1_ne rfl rfl zl1_eq) (by decide +kernel) (by decide +kernel) rfl ?_
                                                            refine zw_goto 4 f114_34 (by decide +kernel) ?_
                                                            refine zw_iload_n 5 f114_4 rfl zl1_eq ?_
                                                            refine zw_iconst 5 6 f114_5 rfl (by decide +kernel) ?_
                                                            refine zw_ic_ge_t 37 f114_6 (by decide +kernel) (by decide +kernel) ?_
                                                            refine zw_iconst 0 38 f114_37 rfl (by decide +kernel) ?_
                                                            refine zw_zreturn f114_38 r114 u114 (by decide +kernel) ⟨_, rfl, ?_⟩
                                                            refine zw_if_eq_t 43 f109_32 (by decide +kernel) (by decide +kernel) ?_
                                                            refine zw_aload_n 44 f109_43 rfl (zl1_ne rfl rfl rfl) ?_
                                                            refine zw_bipush 11 46 f109_44 rfl (by decide +kernel) ?_
                                                            refine zw_virtual_i 49 0 0 [.ref 0, .int 11] [(0, .ref 0), (1, .int 11)] f109_46 rfl n109_78 k109_78_11 rfl (hb_0 _ _ _ _) (by decide +kernel) (Nat.le_of_ble_eq_true rfl) rfl rfl (by decide +kernel) (by decide +kernel) rfl (Nat.le_of_ble_eq_true rfl) rfl ?_
                                                            refine zw_aload_n 1 f105_0 rfl rfl ?_
                                                            refine zw_iload_n 2 f105_1 rfl rfl ?_
                                                            refine zw_put _ 5 f105_2 rfl g105_70_11 (hb_0 _ _ _ _) rfl (Nat.le_of_ble_eq_true rfl) (by decide +kernel) (hi_0_7 _ _ _ _ _) ?_
                                                            refine zw_iconst (-1) 6 f105_5 rfl (by decide +kernel) ?_
                                                            refine zw_ireturn f105_6 r105 u105 ⟨_, rfl, ?_⟩
                                                            refine zw_ireturn f109_49 r109 u109 ⟨_, rfl, ?_⟩
                                                            refine zw_ireturn f103_91 r103 u103 ?_
                                                            exact ⟨_, _, _, _, rfl, (KP.i rfl KP.rf), ⟨⟨hI.1, hI.2.1, t, by omega, et⟩, PE.of10 rfl rfl rfl rfl rfl rfl rfl rfl rfl rfl⟩, _, rfl⟩
                                                          · refine zw_iconst 1 24 f114_23 rfl (by decide +kernel) ?_
                                                            refine zw_zreturn f114_24 r114 u114 (by decide +kernel) ⟨_, rfl, ?_⟩
                                                            refine zw_if_eq_f 35 43 f109_32 (by decide +kernel) rfl (by decide +kernel) ?_
                                                            refine zw_aload_n 36 f109_35 rfl (zl1_ne rfl rfl rfl) ?_
                                                            refine zw_iload_n 37 f109_36 rfl zl1_eq ?_
                                                            refine zw_virtual_i 40 0 0 [.ref 0, .int (A 2 ((c - c / 8 * 8) + 8).toNatClampNeg)] [(0, .ref 0), (1, .int (A 2 ((c - c / 8 * 8) + 8).toNatClampNeg))] f109_37 rfl n109_181 k109_181_11 rfl (hb_0 _ _ _ _) (by decide +kernel) (Nat.le_of_ble_eq_true rfl) rfl rfl (by decide +kernel) (by decide +kernel) rfl (Nat.le_of_ble_eq_true rfl) rfl ?_
                                                            refine zw_aload_n 1 f106_0 rfl rfl ?_
                                                            refine zw_iconst 0 2 f106_1 rfl (by decide +kernel) ?_
                                                            refine zw_put _ 5 f106_2 rfl g106_70_11 (hb_0 _ _ _ _) rfl (Nat.le_of_ble_eq_true rfl) (by decide +kernel) (hi_0_7 _ _ _ _ _) ?_
                                                            refine zw_iload_n 6 f106_5 rfl rfl ?_
                                                            refine zw_ireturn f106_6 r106 u106 ⟨_, rfl, ?_⟩
                                                            refine zw_goto 49 f109_40 (by decide +kernel) ?_
                                                            refine zw_ireturn f109_49 r109 u109 ⟨_, rfl, ?_⟩
                                                            refine zw_ireturn f103_91 r103 u103 ?_
                                                            exact ⟨_, _, _, _, rfl, (KP.i rfl KP.rf), ⟨⟨hI.1, hI.2.1, t, by omega, et⟩, PE.of10 rfl rfl rfl rfl rfl rfl rfl rfl rfl rfl⟩, _, rfl⟩
                                                    · refine zw_iconst 1 24 f114_23 rfl (by decide +kernel) ?_
                                                      refine zw_zreturn f114_24 r114 u114 (by decide +kernel) ⟨_, rfl, ?_⟩
                                                      refine zw_if_eq_f 35 43 f109_32 (by decide +kernel) rfl (by decide +kernel) ?_
                                                      refine zw_aload_n 36 f109_35 rfl (zl1_ne rfl rfl rfl) ?_
                                                      refine zw_iload_n 37 f109_36 rfl zl1_eq ?_
                                                      refine zw_virtual_i 40 0 0 [.ref 0, .int (A 2 ((c - c / 8 * 8) + 8).toNatClampNeg)] [(0, .ref 0), (1, .int (A 2 ((c - c / 8 * 8) + 8).toNatClampNeg))] f109_37 rfl n109_181 k109_181_11 rfl (hb_0 _ _ _ _) (by decide +kernel) (Nat.le_of_ble_eq_true rfl) rfl rfl (by decide +kernel) (by decide +kernel) rfl (Nat.le_of_ble_eq_true rfl) rfl ?_
                                                      refine zw_aload_n 1 f106_0 rfl rfl ?_
                                                      refine zw_iconst 0 2 f106_1 rfl (by decide +kernel) ?_
                                                      refine zw_put _ 5 f106_2 rfl g106_70_11 (hb_0 _ _ _ _) rfl (Nat.le_of_ble_eq_true rfl) (by decide +kernel) (hi_0_7 _ _ _ _ _) ?_
                                                      refine zw_iload_n 6 f106_5 rfl rfl ?_
                                                      refine zw_ireturn f106_6 r106 u106 ⟨_, rfl, ?_⟩
                                                      refine zw_goto 49 f109_40 (by decide +kernel) ?_
                                                      refine zw_ireturn f109_49 r109 u109 ⟨_, rfl, ?_⟩
                                                      refine zw_ireturn f103_91 r103 u103 ?_
                                                      exact ⟨_, _, _, _, rfl, (KP.i rfl KP.rf), ⟨⟨hI.1, hI.2.1, t, by omega, et⟩, PE.of10 rfl rfl rfl rfl rfl rfl rfl rfl rfl rfl⟩, _, rfl⟩
                                              · refine zw_iconst 1 24 f114_23 rfl (by decide +kernel) ?_
                                                refine zw_zreturn f114_24 r114 u114 (by decide +kernel) ⟨_, rfl, ?_⟩
                                                refine zw_if_eq_f 35 43 f109_32 (by decide +kernel) rfl (by decide +kernel) ?_
                                                refine zw_aload_n 36 f109_35 rfl (zl1_ne rfl rfl rfl) ?_
                                                refine zw_iload_n 37 f109_36 rfl zl1_eq ?_
                                                refine zw_virtual_i 40 0 0 [.ref 0, .int (A 2 ((c - c / 8 * 8) + 8).toNatClampNeg)] [(0, .ref 0), (1, .int (A 2 ((c - c / 8 * 8) + 8).toNatClampNeg))] f109_37 rfl n109_181 k109_181_11 rfl (hb_0 _ _ _ _) (by decide +kernel) (Nat.le_of_ble_eq_true rfl) rfl rfl (by decide +kernel) (by decide +kernel) rfl (Nat.le_of_ble_eq_true rfl) rfl ?_
                                                refine zw_aload_n 1 f106_0 rfl rfl ?_
                                                refine zw_iconst 0 2 f106_1 rfl (by decide +kernel) ?_
                                                refine zw_put _ 5 f106_2 rfl g106_70_11 (hb_0 _ _ _ _) rfl (Nat.le_of_ble_eq_true rfl) (by decide +kernel) (hi_0_7 _ _ _ _ _) ?_
                                                refine zw_iload_n 6 f106_5 rfl rfl ?_
                                                refine zw_ireturn f106_6 r106 u106 ⟨_, rfl, ?_⟩
                                                refine zw_goto 49 f109_40 (by decide +kernel) ?_
                                                refine zw_ireturn f109_49 r109 u109 ⟨_, rfl, ?_⟩
                                                refine zw_ireturn f103_91 r103 u103 ?_
                                                exact ⟨_, _, _, _, rfl, (KP.i rfl KP.rf), ⟨⟨hI.1, hI.2.1, t, by omega, et⟩, PE.of10 rfl rfl rfl rfl rfl rfl rfl rfl rfl rfl⟩, _, rfl⟩
                                        · refine zw_iconst 1 24 f114_23 rfl (by decide +kernel) ?_
                                          refine zw_zreturn f114_24 r114 u114 (by decide +kernel) ⟨_, rfl, ?_⟩
                                          refine zw_if_eq_f 35 43 f109_32 (by decide +kernel) rfl (by decide +kernel) ?_
                                          refine zw_aload_n 36 f109_35 rfl (zl1_ne rfl rfl rfl) ?_
                                          refine zw_iload_n 37 f109_36 rfl zl1_eq ?_
                                          refine zw_virtual_i 40 0 0 [.ref 0, .int (A 2 ((c - c / 8 * 8) + 8).toNatClampNeg)] [(0, .ref 0), (1, .int (A 2 ((c - c / 8 * 8) + 8).toNatClampNeg))] f109_37 rfl n109_181 k109_181_11 rfl (hb_0 _ _ _ _) (by decide +kernel) (Nat.le_of_ble_eq_true rfl) rfl rfl (by decide +kernel) (by decide +kernel) rfl (Nat.le_of_ble_eq_true rfl) rfl ?_
                                          refine zw_aload_n 1 f106_0 rfl rfl ?_
                                          refine zw_iconst 0 2 f106_1 rfl (by decide +kernel) ?_
                                          refine zw_put _ 5 f106_2 rfl g106_70_11 (hb_0 _ _ _ _) rfl (Nat.le_of_ble_eq_true rfl) (by decide +kernel) (hi_0_7 _ _ _ _ _) ?_
                                          refine zw_iload_n 6 f106_5 rfl rfl ?_
                                          refine zw_ireturn f106_6 r106 u106 ⟨_, rfl, ?_⟩
                                          refine zw_goto 49 f109_40 (by decide +kernel) ?_
                                          refine zw_ireturn f109_49 r109 u109 ⟨_, rfl, ?_⟩
                                          refine zw_ireturn f103_91 r103 u103 ?_
                                          exact ⟨_, _, _, _, rfl, (KP.i rfl KP.rf), ⟨⟨hI.1, hI.2.1, t, by omega, et⟩, PE.of10 rfl rfl rfl rfl rfl rfl rfl rfl rfl rfl⟩, _, rfl⟩
                                  · refine zw_iconst 1 24 f114_23 rfl (by decide +kernel) ?_
                                    refine zw_zreturn f114_24 r114 u114 (by decide +kernel) ⟨_, rfl, ?_⟩
                                    refine zw_if_eq_f 35 43 f109_32 (by decide +kernel) rfl (by decide +kernel) ?_
                                    refine zw_aload_n 36 f109_35 rfl (zl1_ne rfl rfl rfl) ?_
                                    refine zw_iload_n 37 f109_36 rfl zl1_eq ?_
                                    refine zw_virtual_i 40 0 0 [.ref 0, .int (A 2 ((c - c / 8 * 8) + 8).toNatClampNeg)] [(0, .ref 0), (1, .int (A 2 ((c - c / 8 * 8) + 8).toNatClampNeg))] f109_37 rfl n109_181 k109_181_11 rfl (hb_0 _ _ _ _) (by decide +kernel) (Nat.le_of_ble_eq_true rfl) rfl rfl (by decide +kernel) (by decide +kernel) rfl (Nat.le_of_ble_eq_true rfl) rfl ?_
                                    refine zw_aload_n 1 f106_0 rfl rfl ?_
                                    refine zw_iconst 0 2 f106_1 rfl (by decide +kernel) ?_
                                    refine zw_put _ 5 f106_2 rfl g106_70_11 (hb_0 _ _ _ _) rfl (Nat.le_of_ble_eq_true rfl) (by decide +kernel) (hi_0_7 _ _ _ _ _) ?_
                                    refine zw_iload_n 6 f106_5 rfl rfl ?_
                                    refine zw_ireturn f106_6 r106 u106 ⟨_, rfl, ?_⟩
                                    refine zw_goto 49 f109_40 (by decide +kernel) ?_
                                    refine zw_ireturn f109_49 r109 u109 ⟨_, rfl, ?_⟩
                                    refine zw_ireturn f103_91 r103 u103 ?_
                                    exact ⟨_, _, _, _, rfl, (KP.i rfl KP.rf), ⟨⟨hI.1, hI.2.1, t, by omega, et⟩, PE.of10 rfl rfl rfl rfl rfl rfl rfl rfl rfl rfl⟩, _, rfl⟩
                      · refine zw_iload_n 11 f186_10 rfl zl1_eq ?_
                        refine zw_if_eq 14 18 f186_11 (by decide +kernel) rfl (fun hc145 => ?_) (fun hc145 => ?_)
                        · refine zw_iload_n 19 f186_18 rfl zl1_eq ?_
                          refine zw_ireturn f186_19 r186 u186 ⟨_, rfl, ?_⟩
                          refine zw_virtual_i 91 0 0 [.ref 0, .int ((c - c / 8 * 8) + 8), .int (b - b / 5 * 5)] [(0, .ref 0), (1, .int ((c - c / 8 * 8) + 8)), (2, .int (b - b / 5 * 5))] f103_88 rfl n103_309 k103_309_11 rfl (hb_0 _ _ _ _) (by decide +kernel) (Nat.le_of_ble_eq_true rfl) rfl rfl (by decide +kernel) (by decide +kernel) rfl (Nat.le_of_ble_eq_true rfl) rfl ?_
                          refine zw_aload_n 1 f109_0 rfl rfl ?_
                          refine zw_getfield 4 f109_1 rfl g109_10_11 (hb_0 _ _ _ _) rfl ?_
                          refine zw_iload_n 5 f109_4 rfl rfl ?_
                          refine zw_virtual_i 8 0 0 [.ref 1, .int ((c - c / 8 * 8) + 8)] [(0, .ref 1), (1, .int ((c - c / 8 * 8) + 8))] f109_5 rfl n109_89 k109_89_4 rfl (hb_1 _ _ _ _) (by decide +kernel) (Nat.le_of_ble_eq_true rfl) rfl rfl (by decide +kernel) (by decide +kernel) rfl (Nat.le_of_ble_eq_true rfl) rfl ?_
                          refine zw_iload_n 1 f13_0 rfl rfl ?_
                          refine zw_if_lt 4 22 f13_1 (by decide +kernel) rfl (fun hc146 => ?_) (fun hc146 => ?_)
                          · refine zw_iconst 0 23 f13_22 rfl (by decide +kernel) ?_
                            refine zw_zreturn f13_23 r13 u13 (by decide +kernel) ⟨_, rfl, ?_⟩
                            refine zw_if_ne_f 11 18 f109_8 (by decide +kernel) rfl (by decide +kernel) ?_
                            refine zw_aload_n 12 f109_11 rfl rfl ?_
                            refine zw_bipush 10 14 f109_12 rfl (by decide +kernel) ?_
                            refine zw_virtual_i 17 0 0 [.ref 0, .int 10] [(0, .ref 0), (1, .int 10)] f109_14 rfl n109_78 k109_78_11 rfl (hb_0 _ _ _ _) (by decide +kernel) (Nat.le_of_ble_eq_true rfl) rfl rfl (by decide +kernel) (by decide +kernel) rfl (Nat.le_of_ble_eq_true rfl) rfl ?_
                            refine zw_aload_n 1 f105_0 rfl rfl ?_
                            refine zw_iload_n 2 f105_1 rfl rfl ?_
                            refine zw_put _ 5 f105_2 rfl g105_70_11 (hb_0 _ _ _ _) rfl (Nat.le_of_ble_eq_true rfl) (by decide +kernel) (hi_0_7 _ _ _ _ _) ?_
                            refine zw_iconst (-1) 6 f105_5 rfl (by decide +kernel) ?_
                            refine zw_ireturn f105_6 r105 u105 ⟨_, rfl, ?_⟩
                            refine zw_ireturn f109_17 r109 u109 ⟨_, rfl, ?_⟩
                            refine zw_ireturn f103_91 r103 u103 ?_
                            exact ⟨_, _, _, _, rfl, (KP.i rfl KP.rf), ⟨⟨hI.1, hI.2.1, t, by omega, et⟩, PE.of10 rfl rfl rfl rfl rfl rfl rfl rfl rfl rfl⟩, _, rfl⟩
                          · refine zw_iload_n 5 f13_4 rfl rfl ?_
                            refine zw_aload_n 6 f13_5 rfl rfl ?_
                            refine zw_getI (nI nv) 9 f13_6 rfl g13_39_4 (hb_1 _ _ _ _) rfl hI.1.1.1 ?_
                            refine zw_ic_ge 12 22 f13_9 (by decide +kernel) rfl (fun hc147 => ?_) (fun hc147 => ?_)
                            · refine zw_iconst 0 23 f13_22 rfl (by decide +kernel) ?_
                              refine zw_zreturn f13_23 r13 u13 (by decide +kernel) ⟨_, rfl, ?_⟩
                              refine zw_if_ne_f 11 18 f109_8 (by decide +kernel) rfl (by decide +kernel) ?_
                              refine zw_aload_n 12 f109_11 rfl rfl ?_
                              refine zw_bipush 10 14 f109_12 rfl (by decide +kernel) ?_
                              refine zw_virtual_i 17 0 0 [.ref 0, .int 10] [(0, .ref 0), (1, .int 10)] f109_14 rfl n109_78 k109_78_11 rfl (hb_0 _ _ _ _) (by decide +kernel) (Nat.le_of_ble_eq_true rfl) rfl rfl (by decide +kernel) (by decide +kernel) rfl (Nat.le_of_ble_eq_true rfl) rfl ?_
                              refine zw_aload_n 1 f105_0 rfl rfl ?_
                              refine zw_iload_n 2 f105_1 rfl rfl ?_
                              refine zw_put _ 5 f105_2 rfl g105_70_11 (hb_0 _ _ _ _) rfl (Nat.le_of_ble_eq_true rfl) (by decide +kernel) (hi_0_7 _ _ _ _ _) ?_
                              refine zw_iconst (-1) 6 f105_5 rfl (by decide +kernel) ?_
                              refine zw_ireturn f105_6 r105 u105 ⟨_, rfl, ?_⟩
                              refine zw_ireturn f109_17 r109 u109 ⟨_, rfl, ?_⟩
                              refine zw_ireturn f103_91 r103 u103 ?_
                              exact ⟨_, _, _, _, rfl, (KP.i rfl KP.rf), ⟨⟨hI.1, hI.2.1, t, by omega, et⟩, PE.of10 rfl rfl rfl rfl rfl rfl rfl rfl rfl rfl⟩, _, rfl⟩
                            · refine zw_iload_n 13 f13_12 rfl rfl ?_
                              refine zw_bipush 8 15 f13_13 rfl (by decide +kernel) ?_
                              refine zw_ic_ge 18 22 f13_15 (by decide +kernel) rfl (fun hc148 => ?_) (fun hc148 => ?_)
                              · refine zw_iconst 0 23 f13_22 rfl (by decide +kernel) ?_
                                refine zw_zreturn f13_23 r13 u13 (by decide +kernel) ⟨_, rfl, ?_⟩
                                refine zw_if_ne_f 11 18 f109_8 (by decide +kernel) rfl (by decide +kernel) ?_
                                refine zw_aload_n 12 f109_11 rfl rfl ?_
                                refine zw_bipush 10 14 f109_12 rfl (by decide +kernel) ?_
                                refine zw_virtual_i 17 0 0 [.ref 0, .int 10] [(0, .ref 0), (1, .int 10)] f109_14 rfl n109_78 k109_78_11 rfl (hb_0 _ _ _ _) (by decide +kernel) (Nat.le_of_ble_eq_true rfl) rfl rfl (by decide +kernel) (by decide +kernel) rfl (Nat.le_of_ble_eq_true rfl) rfl ?_
                                refine zw_aload_n 1 f105_0 rfl rfl ?_
                                refine zw_iload_n 2 f105_1 rfl rfl ?_
                                refine zw_put _ 5 f105_2 rfl g105_70_11 (hb_0 _ _ _ _) rfl (Nat.le_of_ble_eq_true rfl) (by decide +kernel) (hi_0_7 _ _ _ _ _) ?_
                                refine zw_iconst (-1) 6 f105_5 rfl (by decide +kernel) ?_
                                refine zw_ireturn f105_6 r105 u105 ⟨_, rfl, ?_⟩
                                refine zw_ireturn f109_17 r109 u109 ⟨_, rfl, ?_⟩
                                refine zw_ireturn f103_91 r103 u103 ?_
                                exact ⟨_, _, _, _, rfl, (KP.i rfl KP.rf), ⟨⟨hI.1, hI.2.1, t, by omega, et⟩, PE.of10 rfl rfl rfl rfl rfl rfl rfl rfl rfl rfl⟩, _, rfl⟩
                              · refine zw_iconst 1 19 f13_18 rfl (by decide +kernel) ?_
                                refine zw_goto 23 f13_19 (by decide +kernel) ?_
                                refine zw_zreturn f13_23 r13 u13 (by decide +kernel) ⟨_, rfl, ?_⟩
                                refine zw_if_ne_t 18 f109_8 (by decide +kernel) (by decide +kernel) ?_
                                refine zw_aload_n 19 f109_18 rfl rfl ?_
                                refine zw_getfield 22 f109_19 rfl g109_10_11 (hb_0 _ _ _ _) rfl ?_
                                refine zw_iload_n 23 f109_22 rfl rfl ?_
                                refine zw_virtual_i 26 0 0 [.ref 1, .int ((c - c / 8 * 8) + 8)] [(0, .ref 1), (1, .int ((c - c / 8 * 8) + 8))] f109_23 rfl n109_112 k109_112_4 rfl (hb_1 _ _ _ _) (by decide +kernel) (Nat.le_of_ble_eq_true rfl) rfl rfl (by decide +kernel) (by decide +kernel) rfl (Nat.le_of_ble_eq_true rfl) rfl ?_
                                refine zw_iload_n 1 f15_0 rfl rfl ?_
                                refine zw_if_lt_f 4 27 f15_1 (by decide +kernel) rfl hc146 ?_
                                refine zw_iload_n 5 f15_4 rfl rfl ?_
                                refine zw_aload_n 6 f15_5 rfl rfl ?_
                                refine zw_getI (nI nv) 9 f15_6 rfl g15_39_4 (hb_1 _ _ _ _) rfl hI.1.1.1 ?_
                                refine zw_ic_ge_f 12 27 f15_9 (by decide +kernel) rfl hc147 ?_
                                refine zw_iload_n 13 f15_12 rfl rfl ?_
                                refine zw_bipush 8 15 f15_13 rfl (by decide +kernel) ?_
                                refine zw_ic_ge_f 18 27 f15_15 (by decide +kernel) rfl hc148 ?_
                                refine zw_aload_n 19 f15_18 rfl rfl ?_
                                refine zw_getfield 22 f15_19 rfl g15_9_4 (hb_1 _ _ _ _) rfl ?_
                                refine zw_iload_n 23 f15_22 rfl rfl ?_
                                refine zw_iaload ((c - c / 8 * 8) + 8).toNatClampNeg (A 2 ((c - c / 8 * 8) + 8).toNatClampNeg) 24 f15_23 rfl (hb_2 _ _ _ _) rfl hc146 (zix (by decide) hc146 hc148) rfl ?_
                                refine zw_goto 28 f15_24 (by decide +kernel) ?_
                                refine zw_ireturn f15_28 r15 u15 ⟨_, rfl, ?_⟩
                                refine zw_istore_n _ 27 f109_26 rfl (by decide +kernel) rfl ?_
                                refine zw_iload_n 28 f109_27 rfl zl1_eq ?_
                                refine zw_iload_n 29 f109_28 rfl (zl1_ne rfl rfl rfl) ?_
                                refine zw_static_i 32 0 0 [.int (A 2 ((c - c / 8 * 8) + 8).toNatClampNeg), .int (b - b / 5 * 5)] [] [(0, .int (A 2 ((c - c / 8 * 8) + 8).toNatClampNeg)), (1, .int (b - b / 5 * 5))] f109_29 rfl k109_327_99 rfl (by decide +kernel) (Nat.le_of_ble_eq_true rfl) (Nat.le_of_ble_eq_true rfl) rfl rfl (by decide +kernel) (by decide +kernel) rfl (Nat.le_of_ble_eq_true rfl) rfl ?_
                                refine zw_iload_n 1 f114_0 rfl rfl ?_
                                refine zw_istore_n _ 2 f114_1 rfl (by decide +kernel) rfl ?_
                                refine zw_iconst 0 3 f114_2 rfl (by decide +kernel) ?_
                                refine zw_istore_n _ 4 f114_3 rfl (by decide +kernel) rfl ?_
                                refine zw_iload_n 5 f114_4 rfl zl1_eq ?_
                                refine zw_iconst 5 6 f114_5 rfl (by decide +kernel) ?_
                                refine zw_ic_ge_f 9 37 f114_6 (by decide +kernel) rfl (by decide +kernel) ?_
                                refine zw_iload_n 10 f114_9 rfl (zl1_ne rfl rfl zl1_eq) ?_
                                refine zw_iconst 0 11 f114_10 rfl (by decide +kernel) ?_
                                refine zw_iconst 4 12 f114_11 rfl (by decide +kernel) ?_
                                refine zw_static_i 15 0 0 [.int (A 2 ((c - c / 8 * 8) + 8).toNatClampNeg), .int 0, .int 4] [] [(0, .int (A 2 ((c - c / 8 * 8) + 8).toNatClampNeg)), (1, .int 0), (2, .int 4)] f114_12 rfl k114_74_99 rfl (by decide +kernel) (Nat.le_of_ble_eq_true rfl) (Nat.le_of_ble_eq_true rfl) rfl rfl (by decide +kernel) (by decide +kernel) rfl (Nat.le_of_ble_eq_true rfl) rfl ?_
                                refine zw_iload_n 1 f112_0 rfl rfl ?_
                                refine zw_iload_n 2 f112_1 rfl rfl ?_
                                refine zw_ic_lt 5 14 f112_2 (by decide +kernel) rfl (fun hc149 => ?_) (fun hc149 => ?_)
                                · refine zw_iconst 0 15 f112_14 rfl (by decide +kernel) ?_
                                  refine zw_zreturn f112_15 r112 u112 (by decide +kernel) ⟨_, rfl, ?_⟩
                                  refine zw_if_eq_t 37 f114_15 (by decide +kernel) (by decide +kernel) ?_
                                  refine zw_iconst 0 38 f114_37 rfl (by decide +kernel) ?_
                                  refine zw_zreturn f114_38 r114 u114 (by decide +kernel) ⟨_, rfl, ?_⟩
                                  refine zw_if_eq_t 43 f109_32 (by decide +kernel) (by decide +kernel) ?_
                                  refine zw_aload_n 44 f109_43 rfl (zl1_ne rfl rfl rfl) ?_
                                  refine zw_bipush 11 46 f109_44 rfl (by decide +kernel) ?_
                                  refine zw_virtual_i 49 0 0 [.ref 0, .int 11] [(0, .ref 0), (1, .int 11)] f109_46 rfl n109_78 k109_78_11 rfl (hb_0 _ _ _ _) (by decide +kernel) (Nat.le_of_ble_eq_true rfl) rfl rfl (by decide +kernel) (by decide +kernel) rfl (Nat.le_of_ble_eq_true rfl) rfl ?_
                                  refine zw_aload_n 1 f105_0 rfl rfl ?_
                                  refine zw_iload_n 2 f105_1 rfl rfl ?_
                                  refine zw_put _ 5 f105_2 rfl g105_70_11 (hb_0 _ _ _ _) rfl (Nat.le_of_ble_eq_true rfl) (by decide +kernel) (hi_0_7 _ _ _ _ _) ?_
                                  refine zw_iconst (-1) 6 f105_5 rfl (by decide +kernel) ?_
                                  refine zw_ireturn f105_6 r105 u105 ⟨_, rfl, ?_⟩
                                  refine zw_ireturn f109_49 r109 u109 ⟨_, rfl, ?_⟩
                                  refine zw_ireturn f103_91 r103 u103 ?_
                                  exact ⟨_, _, _, _, rfl, (KP.i rfl KP.rf), ⟨⟨hI.1, hI.2.1, t, by omega, et⟩, PE.of10 rfl rfl rfl rfl rfl rfl rfl rfl rfl rfl⟩, _, rfl⟩
                                · refine zw_iload_n 6 f112_5 rfl rfl ?_
                                  refine zw_iload_n 7 f112_6 rfl rfl ?_
                                  refine zw_ic_gt 10 14 f112_7 (by decide +kernel) rfl (fun hc150 => ?_) (fun hc150 => ?_)
                                  · refine zw_iconst 0 15 f112_14 rfl (by decide +kernel) ?_
                                    refine zw_zreturn f112_15 r112 u112 (by decide +kernel) ⟨_, rfl, ?_⟩
                                    refine zw_if_eq_t 37 f114_15 (by decide +kernel) (by decide +kernel) ?_
                                    refine zw_iconst 0 38 f114_37 rfl (by decide +kernel) ?_
                                    refine zw_zreturn f114_38 r114 u114 (by decide +kernel) ⟨_, rfl, ?_⟩
                                    refine zw_if_eq_t 43 f109_32 (by decide +kernel) (by decide +kernel) ?_
                                    refine zw_aload_n 44 f109_43 rfl (zl1_ne rfl rfl rfl) ?_
                                    refine zw_bipush 11 46 f109_44 rfl (by decide +kernel) ?_
                                    refine zw_virtual_i 49 0 0 [.ref 0, .int 11] [(0, .ref 0), (1, .int 11)] f109_46 rfl n109_78 k109_78_11 rfl (hb_0 _ _ _ _) (by decide +kernel) (Nat.le_of_ble_eq_true rfl) rfl rfl (by decide +kernel) (by decide +kernel) rfl (Nat.le_of_ble_eq_true rfl) rfl ?_
                                    refine zw_aload_n 1 f105_0 rfl rfl ?_
                                    refine zw_iload_n 2 f105_1 rfl rfl ?_
                                    refine zw_put _ 5 f105_2 rfl g105_70_11 (hb_0 _ _ _ _) rfl (Nat.le_of_ble_eq_true rfl) (by decide +kernel) (hi_0_7 _ _ _ _ _) ?_
                                    refine zw_iconst (-1) 6 f105_5 rfl (by decide +kernel) ?_
                                    refine zw_ireturn f105_6 r105 u105 ⟨_, rfl, ?_⟩
                                    refine zw_ireturn f109_49 r109 u109 ⟨_, rfl, ?_⟩
                                    refine zw_ireturn f103_91 r103 u103 ?_
                                    exact ⟨_, _, _, _, rfl, (KP.i rfl KP.rf), ⟨⟨hI.1, hI.2.1, t, by omega, et⟩, PE.of10 rfl rfl rfl rfl rfl rfl rfl rfl rfl rfl⟩, _, rfl⟩
                                  · refine zw_iconst 1 11 f112_10 rfl (by decide +kernel) ?_
                                    refine zw_goto 15 f112_11 (by decide +kernel) ?_
                                    refine zw_zreturn f112_15 r112 u112 (by decide +kernel) ⟨_, rfl, ?_⟩
                                    refine zw_if_eq_f 18 37 f114_15 (by decide +kernel) rfl (by decide +kernel) ?_
                                    refine zw_iload_n 19 f114_18 rfl (zl1_ne rfl rfl zl1_eq) ?_
                                    refine zw_iload_n 20 f114_19 rfl (zl1_ne rfl rfl (zl1_ne rfl rfl rfl)) ?_
                                    refine zw_ic_ne 23 25 f114_20 (by decide +kernel) rfl (fun hc151 => ?_) (fun hc151 => ?_)
                                    · refine zw_getstatic 28 f114_25 rfl (by decide +kernel) ?_
                                      refine zw_iload_n 29 f114_28 rfl (zl1_ne rfl rfl zl1_eq) ?_
                                      refine zw_iaload_f (A 2 ((c - c / 8 * 8) + 8).toNatClampNeg).toNatClampNeg 5 (zka (A 2 ((c - c / 8 * 8) + 8).toNatClampNeg).toNatClampNeg) 30 f114_29 rfl hro.1 rfl hc149 (zix (by decide) hc149 (n45 hc150)) (congrFun hro.2 _) ?_
                                      refine zw_istore_n _ 31 f114_30 rfl (by decide +kernel) rfl ?_
                                      refine zw_iinc 1 _ 34 f114_31 rfl (zl1_ne rfl rfl zl1_eq) (by decide +kernel) (by decide +kernel) rfl ?_
                                      refine zw_goto 4 f114_34 (by decide +kernel) ?_
                                      refine zw_iload_n 5 f114_4 rfl zl1_eq ?_
                                      refine zw_iconst 5 6 f114_5 rfl (by decide +kernel) ?_
                                      refine zw_ic_ge_f 9 37 f114_6 (by decide +kernel) rfl (by decide +kernel) ?_
                                      refine zw_iload_n 10 f114_9 rfl (zl1_ne rfl rfl zl1_eq) ?_
                                      refine zw_iconst 0 11 f114_10 rfl (by decide +kernel) ?_
                                      refine zw_iconst 4 12 f114_11 rfl (by decide +kernel) ?_
                                      refine zw_static_i 15 0 0 [.int (zka (A 2 ((c - c / 8 * 8) + 8).toNatClampNeg).toNatClampNeg), .int 0, .int 4] [] [(0, .int (zka (A 2 ((c - c / 8 * 8) + 8).toNatClampNeg).toNatClampNeg)), (1, .int 0), (2, .int 4)] f114_12 rfl k114_74_99 rfl (by decide +kernel) (Nat.le_of_ble_eq_true rfl) (Nat.le_of_ble_eq_true rfl) rfl rfl (by decide +kernel) (by decide +kernel) rfl (Nat.le_of_ble_eq_true rfl) rfl ?_
                                      refine zw_iload_n 1 f112_0 rfl rfl ?_
                                      refine zw_iload_n 2 f112_1 rfl rfl ?_
                                      refine zw_ic_lt 5 14 f112_2 (by decide +kernel) rfl (fun hc152 => ?_) (fun hc152 => ?_)
                                      · refine zw_iconst 0 15 f112_14 rfl (by decide +kernel) ?_
                                        refine zw_zreturn f112_15 r112 u112 (by decide +kernel) ⟨_, rfl, ?_⟩
                                        refine zw_if_eq_t 37 f114_15 (by decide +kernel) (by decide +kernel) ?_
                                        refine zw_iconst 0 38 f114_37 rfl (by decide +kernel) ?_
                                        refine zw_zreturn f114_38 r114 u114 (by decide +kernel) ⟨_, rfl, ?_⟩
                                        refine zw_if_eq_t 43 f109_32 (by decide +kernel) (by decide +kernel) ?_
                                        refine zw_aload_n 44 f109_43 rfl (zl1_ne rfl rfl rfl) ?_
                                        refine zw_bipush 11 46 f109_44 rfl (by decide +kernel) ?_
                                        refine zw_virtual_i 49 0 0 [.ref 0, .int 11] [(0, .ref 0), (1, .int 11)] f109_46 rfl n109_78 k109_78_11 rfl (hb_0 _ _ _ _) (by decide +kernel) (Nat.le_of_ble_eq_true rfl) rfl rfl (by decide +kernel) (by decide +kernel) rfl (Nat.le_of_ble_eq_true rfl) rfl ?_
                                        refine zw_aload_n 1 f105_0 rfl rfl ?_
                                        refine zw_iload_n 2 f105_1 rfl rfl ?_
                                        refine zw_put _ 5 f105_2 rfl g105_70_11 (hb_0 _ _ _ _) rfl (Nat.le_of_ble_eq_true rfl) (by decide +kernel) (hi_0_7 _ _ _ _ _) ?_
                                        refine zw_iconst (-1) 6 f105_5 rfl (by decide +kernel) ?_
                                        refine zw_ireturn f105_6 r105 u105 ⟨_, rfl, ?_⟩
                                        refine zw_ireturn f109_49 r109 u109 ⟨_, rfl, ?_⟩
                                        refine zw_ireturn f103_91 r103 u103 ?_
                                        exact ⟨_, _, _, _, rfl, (KP.i rfl KP.rf), ⟨⟨hI.1, hI.2.1, t, by omega, et⟩, PE.of10 rfl rfl rfl rfl rfl rfl rfl rfl rfl rfl⟩, _, rfl⟩
                                      · refine zw_iload_n 6 f112_5 rfl rfl ?_
                                        refine zw_iload_n 7 f112_6 rfl rfl ?_
                                        refine zw_ic_gt 10 14 f112_7 (by decide +kernel) rfl (fun hc153 => ?_) (fun hc153 => ?_)
                                        · refine zw_iconst 0 15 f112_14 rfl (by decide +kernel) ?_
                                          refine zw_zreturn f112_15 r112 u112 (by decide +kernel) ⟨_, rfl, ?_⟩
                                          refine zw_if_eq_t 37 f114_15 (by decide +kernel) (by decide +kernel) ?_
                                          refine zw_iconst 0 38 f114_37 rfl (by decide +kernel) ?_
                                          refine zw_zreturn f114_38 r114 u114 (by decide +kernel) ⟨_, rfl, ?_⟩
                                          refine zw_if_eq_t 43 f109_32 (by decide +kernel) (by decide +kernel) ?_
                                          refine zw_aload_n 44 f109_43 rfl (zl1_ne rfl rfl rfl) ?_
                                          refine zw_bipush 11 46 f109_44 rfl (by decide +kernel) ?_
                                          refine zw_virtual_i 49 0 0 [.ref 0, .int 11] [(0, .ref 0), (1, .int 11)] f109_46 rfl n109_78 k109_78_11 rfl (hb_0 _ _ _ _) (by decide +kernel) (Nat.le_of_ble_eq_true rfl) rfl rfl (by decide +kernel) (by decide +kernel) rfl (Nat.le_of_ble_eq_true rfl) rfl ?_
                                          refine zw_aload_n 1 f105_0 rfl rfl ?_
                                          refine zw_iload_n 2 f105_1 rfl rfl ?_
                                          refine zw_put _ 5 f105_2 rfl g105_70_11 (hb_0 _ _ _ _) rfl (Nat.le_of_ble_eq_true rfl) (by decide +kernel) (hi_0_7 _ _ _ _ _) ?_
                                          refine zw_iconst (-1) 6 f105_5 rfl (by decide +kernel) ?_
                                          refine zw_ireturn f105_6 r105 u105 ⟨_, rfl, ?_⟩
                                          refine zw_ireturn f109_49 r109 u109 ⟨_, rfl, ?_⟩
                                          refine zw_ireturn f103_91 r103 u103 ?_
                                          exact ⟨_, _, _, _, rfl, (KP.i rfl KP.rf), ⟨⟨hI.1, hI.2.1, t, by omega, et⟩, PE.of10 rfl rfl rfl rfl rfl rfl rfl rfl rfl rfl⟩, _, rfl⟩
                                        · refine zw_iconst 1 11 f112_10 rfl (by decide +kernel) ?_
                                          refine zw_goto 15 f112_11 (by decide +kernel) ?_
                                          refine zw_zreturn f112_15 r112 u112 (by decide +kernel) ⟨_, rfl, ?_⟩
                                          refine zw_if_eq_f 18 37 f114_15 (by decide +kernel) rfl (by decide +kernel) ?_
                                          refine zw_iload_n 19 f114_18 rfl (zl1_ne rfl rfl zl1_eq) ?_
                                          refine zw_iload_n 20 f114_19 rfl (zl1_ne rfl rfl (zl1_ne rfl rfl (zl1_ne rfl rfl (zl1_ne rfl rfl rfl)))) ?_
                                          refine zw_ic_ne 23 25 f114_20 (by decide +kernel) rfl (fun hc154 => ?_) (fun hc154 => ?_)
                                          · refine zw_getstatic 28 f114_25 rfl (by decide +kernel) ?_
                                            refine zw_iload_n 29 f114_28 rfl (zl1_ne rfl rfl zl1_eq) ?_
                                            refine zw_iaload_f (zka (A 2 ((c - c / 8 * 8) + 8).toNatClampNeg).toNatClampNeg).toNatClampNeg 5 (zka (zka (A 2 ((c - c / 8 * 8) + 8).toNatClampNeg).toNatClampNeg).toNatClampNeg) 30 f114_29 rfl hro.1 rfl hc152 (zix (by decide) hc152 (n45 hc153)) (congrFun hro.2 _) ?_
                                            refine zw_istore_n _ 31 f114_30 rfl (by decide +kernel) rfl ?_
                                            refine zw_iinc 2 _ 34 f114_31 rfl (zl1_ne rfl rfl zl1_eq) (by decide +kernel) (by decide +kernel) rfl ?_
                                            refine zw_goto 4 f114_34 (by decide +kernel) ?_
                                            refine zw_iload_n 5 f114_4 rfl zl1_eq ?_
                                            refine zw_iconst 5 6 f114_5 rfl (by decide +kernel) ?_
                                            refine zw_ic_ge_f 9 37 f114_6 (by decide +kernel) rfl (by decide +kernel) ?_
                                            refine zw_iload_n 10 f114_9 rfl (zl1_ne rfl rfl zl1_eq) ?_
                                            refine zw_iconst 0 11 f114_10 rfl (by decide +kernel) ?_
                                            refine zw_iconst 4 12 f114_11 rfl (by decide +kernel) ?_
                                            refine zw_static_i 15 0 0 [.int (zka (zka (A 2 ((c - c / 8 * 8) + 8).toNatClampNeg).toNatClampNeg).toNatClampNeg), .int 0, .int 4] [] [(0, .int (zka (zka (A 2 ((c - c / 8 * 8) + 8).toNatClampNeg).toNatClampNeg).toNatClampNeg)), (1, .int 0), (2, .int 4)] f114_12 rfl k114_74_99 rfl (by decide +kernel) (Nat.le_of_ble_eq_true rfl) (Nat.le_of_ble_eq_true rfl) rfl rfl (by decide +kernel) (by decide +kernel) rfl (Nat.le_of_ble_eq_true rfl) rfl ?_
                                            refine zw_iload_n 1 f112_0 rfl rfl ?_
                                            refine zw_iload_n 2 f112_1 rfl rfl ?_
                                            refine zw_ic_lt 5 14 f112_2 (by decide +kernel) rfl (fun hc155 => ?_) (fun hc155 => ?_)
                                            · refine zw_iconst 0 15 f112_14 rfl (by decide +kernel) ?_
                                              refine zw_zreturn f112_15 r112 u112 (by decide +kernel) ⟨_, rfl, ?_⟩
                                              refine zw_if_eq_t 37 f114_15 (by decide +kernel) (by decide +kernel) ?_
                                              refine zw_iconst 0 38 f114_37 rfl (by decide +kernel) ?_
                                              refine zw_zreturn f114_38 r114 u114 (by decide +kernel) ⟨_, rfl, ?_⟩
                                              refine zw_if_eq_t 43 f109_32 (by decide +kernel) (by decide +kernel) ?_
                                              refine zw_aload_n 44 f109_43 rfl (zl1_ne rfl rfl rfl) ?_
                                              refine zw_bipush 11 46 f109_44 rfl (by decide +kernel) ?_
                                              refine zw_virtual_i 49 0 0 [.ref 0, .int 11] [(0, .ref 0), (1, .int 11)] f109_46 rfl n109_78 k109_78_11 rfl (hb_0 _ _ _ _) (by decide +kernel) (Nat.le_of_ble_eq_true rfl) rfl rfl (by decide +kernel) (by decide +kernel) rfl (Nat.le_of_ble_eq_true rfl) rfl ?_
                                              refine zw_aload_n 1 f105_0 rfl rfl ?_
                                              refine zw_iload_n 2 f105_1 rfl rfl ?_
                                              refine zw_put _ 5 f105_2 rfl g105_70_11 (hb_0 _ _ _ _) rfl (Nat.le_of_ble_eq_true rfl) (by decide +kernel) (hi_0_7 _ _ _ _ _) ?_
                                              refine zw_iconst (-1) 6 f105_5 rfl (by decide +kernel) ?_
                                              refine zw_ireturn f105_6 r105 u105 ⟨_, rfl, ?_⟩
                                              refine zw_ireturn f109_49 r109 u109 ⟨_, rfl, ?_⟩
                                              refine zw_ireturn f103_91 r103 u103 ?_
                                              exact ⟨_, _, _, _, rfl, (KP.i rfl KP.rf), ⟨⟨hI.1, hI.2.1, t, by omega, et⟩, PE.of10 rfl rfl rfl rfl rfl rfl rfl rfl rfl rfl⟩, _, rfl⟩
                                            · refine zw_iload_n 6 f112_5 rfl rfl ?_
                                              refine zw_iload_n 7 f112_6 rfl rfl ?_
                                              refine zw_ic_gt 10 14 f112_7 (by decide +kernel) rfl (fun hc156 => ?_) (fun hc156 => ?_)
                                              · refine zw_iconst 0 15 f112_14 rfl (by decide +kernel) ?_
                                                refine zw_zreturn f112_15 r112 u112 (by decide +kernel) ⟨_, rfl, ?_⟩
                                                refine zw_if_eq_t 37 f114_15 (by decide +kernel) (by decide +kernel) ?_
                                                refine zw_iconst 0 38 f114_37 rfl (by decide +kernel) ?_
                                                refine zw_zreturn f114_38 r114 u114 (by decide +kernel) ⟨_, rfl, ?_⟩
                                                refine zw_if_eq_t 43 f109_32 (by decide +kernel) (by decide +kernel) ?_
                                                refine zw_aload_n 44 f109_43 rfl (zl1_ne rfl rfl rfl) ?_
                                                refine zw_bipush 11 46 f109_44 rfl (by decide +kernel) ?_
                                                refine zw_virtual_i 49 0 0 [.ref 0, .int 11] [(0, .ref 0), (1, .int 11)] f109_46 rfl n109_78 k109_78_11 rfl (hb_0 _ _ _ _) (by decide +kernel) (Nat.le_of_ble_eq_true rfl) rfl rfl (by decide +kernel) (by decide +kernel) rfl (Nat.le_of_ble_eq_true rfl) rfl ?_
                                                refine zw_aload_n 1 f105_0 rfl rfl ?_
                                                refine zw_iload_n 2 f105_1 rfl rfl ?_
                                                refine zw_put _ 5 f105_2 rfl g105_70_11 (hb_0 _ _ _ _) rfl (Nat.le_of_ble_eq_true rfl) (by decide +kernel) (hi_0_7 _ _ _ _ _) ?_
                                                refine zw_iconst (-1) 6 f105_5 rfl (by decide +kernel) ?_
                                                refine zw_ireturn f105_6 r105 u105 ⟨_, rfl, ?_⟩
                                                refine zw_ireturn f109_49 r109 u109 ⟨_, rfl, ?_⟩
                                                refine zw_ireturn f103_91 r103 u103 ?_
                                                exact ⟨_, _, _, _, rfl, (KP.i rfl KP.rf), ⟨⟨hI.1, hI.2.1, t, by omega, et⟩, PE.of10 rfl rfl rfl rfl rfl rfl rfl rfl rfl rfl⟩, _, rfl⟩
                                              · refine zw_iconst 1 11 f112_10 rfl (by decide +kernel) ?_
                                                refine zw_goto 15 f112_11 (by decide +kernel) ?_
                                                refine zw_zreturn f112_15 r112 u112 (by decide +kernel) ⟨_, rfl, ?_⟩
                                                refine zw_if_eq_f 18 37 f114_15 (by decide +kernel) rfl (by decide +kernel) ?_
                                                refine zw_iload_n 19 f114_18 rfl (zl1_ne rfl rfl zl1_eq) ?_
                                                refine zw_iload_n 20 f114_19 rfl (zl1_ne rfl rfl (zl1_ne rfl rfl (zl1_ne rfl rfl (zl1_ne rfl rfl (zl1_ne rfl rfl (zl1_ne rfl rfl rfl)))))) ?_
                                                refine zw_ic_ne 23 25 f114_20 (by decide +kernel) rfl (fun hc157 => ?_) (fun hc157 => ?_)
                                                · refine zw_getstatic 28 f114_25 rfl (by decide +kernel) ?_
                                                  refine zw_iload_n 29 f114_28 rfl (zl1_ne rfl rfl zl1_eq) ?_
                                                  refine zw_iaload_f (zka (zka (A 2 ((c - c / 8 * 8) + 8).toNatClampNeg).toNatClampNeg).toNatClampNeg).toNatClampNeg 5 (zka (zka (zka (A 2 ((c - c / 8 * 8) + 8).toNatClampNeg).toNatClampNeg).toNatClampNeg).toNatClampNeg) 30 f114_29 rfl hro.1 rfl hc155 (zix (by decide) hc155 (n45 hc156)) (congrFun hro.2 _) ?_
                                                  refine zw_istore_n _ 31 f114_30 rfl (by decide +kernel) rfl ?_
                                                  refine zw_iinc 3 _ 34 f114_31 rfl (zl1_ne rfl rfl zl1_eq) (by decide +kernel) (by decide +kernel) rfl ?_
                                                  refine zw_goto 4 f114_34 (by decide +kernel) ?_
                                                  refine zw_iload_n 5 f114_4 rfl zl1_eq ?_
                                                  refine zw_iconst 5 6 f114_5 rfl (by decide +kernel) ?_
                                                  refine zw_ic_ge_f 9 37 f114_6 (by decide +kernel) rfl (by decide +kernel) ?_
                                                  refine zw_iload_n 10 f114_9 rfl (zl1_ne rfl rfl zl1_eq) ?_
                                                  refine zw_iconst 0 11 f114_10 rfl (by decide +kernel) ?_
                                                  refine zw_iconst 4 12 f114_11 rfl (by decide +kernel) ?_
                                                  refine zw_static_i 15 0 0 [.int (zka (zka (zka (A 2 ((c - c / 8 * 8) + 8).toNatClampNeg).toNatClampNeg).toNatClampNeg).toNatClampNeg), .int 0, .int 4] [] [(0, .int (zka (zka (zka (A 2 ((c - c / 8 * 8) + 8).toNatClampNeg).toNatClampNeg).toNatClampNeg).toNatClampNeg)), (1, .int 0), (2, .int 4)] f114_12 rfl k114_74_99 rfl (by decide +kernel) (Nat.le_of_ble_eq_true rfl) (Nat.le_of_ble_eq_true rfl) rfl rfl (by decide +kernel) (by decide +kernel) rfl (Nat.le_of_ble_eq_true rfl) rfl ?_
                                                  refine zw_iload_n 1 f112_0 rfl rfl ?_
                                                  refine zw_iload_n 2 f112_1 rfl rfl ?_
                                                  refine zw_ic_lt 5 14 f112_2 (by decide +kernel) rfl (fun hc158 => ?_) (fun hc158 => ?_)
                                                  · refine zw_iconst 0 15 f112_14 rfl (by decide +kernel) ?_
                                                    refine zw_zreturn f112_15 r112 u112 (by decide +kernel) ⟨_, rfl, ?_⟩
                                                    refine zw_if_eq_t 37 f114_15 (by decide +kernel) (by decide +kernel) ?_
                                                    refine zw_iconst 0 38 f114_37 rfl (by decide +kernel) ?_
                                                    refine zw_zreturn f114_38 r114 u114 (by decide +kernel) ⟨_, rfl, ?_⟩
                                                    refine zw_if_eq_t 43 f109_32 (by decide +kernel) (by decide +kernel) ?_
                                                    refine zw_aload_n 44 f109_43 rfl (zl1_ne rfl rfl rfl) ?_
                                                    refine zw_bipush 11 46 f109_44 rfl (by decide +kernel) ?_
                                                    refine zw_virtual_i 49 0 0 [.ref 0, .int 11] [(0, .ref 0), (1, .int 11)] f109_46 rfl n109_78 k109_78_11 rfl (hb_0 _ _ _ _) (by decide +kernel) (Nat.le_of_ble_eq_true rfl) rfl rfl (by decide +kernel) (by decide +kernel) rfl (Nat.le_of_ble_eq_true rfl) rfl ?_
                                                    refine zw_aload_n 1 f105_0 rfl rfl ?_
                                                    refine zw_iload_n 2 f105_1 rfl rfl ?_
                                                    refine zw_put _ 5 f105_2 rfl g105_70_11 (hb_0 _ _ _ _) rfl (Nat.le_of_ble_eq_true rfl) (by decide +kernel) (hi_0_7 _ _ _ _ _) ?_
                                                    refine zw_iconst (-1) 6 f105_5 rfl (by decide +kernel) ?_
                                                    refine zw_ireturn f105_6 r105 u105 ⟨_, rfl, ?_⟩
                                                    refine zw_ireturn f109_49 r109 u109 ⟨_, rfl, ?_⟩
                                                    refine zw_ireturn f103_91 r103 u103 ?_
                                                    exact ⟨_, _, _, _, rfl, (KP.i rfl KP.rf), ⟨⟨hI.1, hI.2.1, t, by omega, et⟩, PE.of10 rfl rfl rfl rfl rfl rfl rfl rfl rfl rfl⟩, _, rfl⟩
                                                  · refine zw_iload_n 6 f112_5 rfl rfl ?_
                                                    refine zw_iload_n 7 f112_6 rfl rfl ?_
                                                    refine zw_ic_gt 10 14 f112_7 (by decide +kernel) rfl (fun hc159 => ?_) (fun hc159 => ?_)
                                                    · refine zw_iconst 0 15 f112_14 rfl (by decide +kernel) ?_
                                                      refine zw_zreturn f112_15 r112 u112 (by decide +kernel) ⟨_, rfl, ?_⟩
                                                      refine zw_if_eq_t 37 f114_15 (by decide +kernel) (by decide +kernel) ?_
                                                      refine zw_iconst 0 38 f114_37 rfl (by decide +kernel) ?_
                                                      refine zw_zreturn f114_38 r114 u114 (by decide +kernel) ⟨_, rfl, ?_⟩
                                                      refine zw_if_eq_t 43 f109_32 (by decide +kernel) (by decide +kernel) ?_
                                                      refine zw_aload_n 44 f109_43 rfl (zl1_ne rfl rfl rfl) ?_
                                                      refine zw_bipush 11 46 f109_44 rfl (by decide +kernel) ?_
                                                      refine zw_virtual_i 49 0 0 [.ref 0, .int 11] [(0, .ref 0), (1, .int 11)] f109_46 rfl n109_78 k109_78_11 rfl (hb_0 _ _ _ _) (by decide +kernel) (Nat.le_of_ble_eq_true rfl) rfl rfl (by decide +kernel) (by decide +kernel) rfl (Nat.le_of_ble_eq_true rfl) rfl ?_
                                                      refine zw_aload_n 1 f105_0 rfl rfl ?_
                                                      refine zw_iload_n 2 f105_1 rfl rfl ?_
                                                      refine zw_put _ 5 f105_2 rfl g105_70_11 (hb_0 _ _ _ _) rfl (Nat.le_of_ble_eq_true rfl) (by decide +kernel) (hi_0_7 _ _ _ _ _) ?_
                                                      refine zw_iconst (-1) 6 f105_5 rfl (by decide +kernel) ?_
                                                      refine zw_ireturn f105_6 r105 u105 ⟨_, rfl, ?_⟩
                                                      refine zw_ireturn f109_49 r109 u109 ⟨_, rfl, ?_⟩
                                                      refine zw_ireturn f103_91 r103 u103 ?_
                                                      exact ⟨_, _, _, _, rfl, (KP.i rfl KP.rf), ⟨⟨hI.1, hI.2.1, t, by omega, et⟩, PE.of10 rfl rfl rfl rfl rfl rfl rfl rfl rfl rfl⟩, _, rfl⟩
                                                    · refine zw_iconst 1 11 f112_10 rfl (by decide +kernel) ?_
                                                      refine zw_goto 15 f112_11 (by decide +kernel) ?_
                                                      refine zw_zreturn f112_15 r112 u112 (by decide +kernel) ⟨_, rfl, ?_⟩
                                                      refine zw_if_eq_f 18 37 f114_15 (by decide +kernel) rfl (by decide +kernel) ?_
                                                      refine zw_iload_n 19 f114_18 rfl (zl1_ne rfl rfl zl1_eq) ?_
                                                      refine zw_iload_n 20 f114_19 rfl (zl1_ne rfl rfl (zl1_ne rfl rfl (zl1_ne rfl rfl (zl1_ne rfl rfl (zl1_ne rfl rfl (zl1_ne rfl rfl (zl1_ne rfl rfl (zl1_ne rfl rfl rfl)))))))) ?_
                                                      refine zw_ic_ne 23 25 f114_20 (by decide +kernel) rfl (fun hc160 => ?_) (fun hc160 => ?_)
                                                      · refine zw_getstatic 28 f114_25 rfl (by decide +kernel) ?_
                                                        refine zw_iload_n 29 f114_28 rfl (zl1_ne rfl rfl zl1_eq) ?_
                                                        refine zw_iaload_f (zka (zka (zka (A 2 ((c - c / 8 * 8) + 8).toNatClampNeg).toNatClampNeg).toNatClampNeg).toNatClampNeg).toNatClampNeg 5 (zka (zka (zka (zka (A 2 ((c - c / 8 * 8) + 8).toNatClampNeg).toNatClampNeg).toNatClampNeg).toNatClampNeg).toNatClampNeg) 30 f114_29 rfl hro.1 rfl hc158 (zix (by decide) hc158 (n45 hc159)) (congrFun hro.2 _) ?_
                                                        refine zw_istore_n _ 31 f114_30 rfl (by decide +kernel) rfl ?_
                                                        refine zw_iinc 4 _ 34 f114_31 rfl (zl1_ne rfl rfl zl1_eq) (by decide +kernel) (by decide +kernel) rfl ?_
                                                        refine zw_goto 4 f114_34 (by decide +kernel) ?_
                                                        refine zw_iload_n 5 f114_4 rfl zl1_eq ?_
                                                        refine zw_iconst 5 6 f114_5 rfl (by decide +kernel) ?_
                                                        refine zw_ic_ge_f 9 37 f114_6 (by decide +kernel) rfl (by decide +kernel) ?_
                                                        refine zw_iload_n 10 f114_9 rfl (zl1_ne rfl rfl zl1_eq) ?_
                                                        refine zw_iconst 0 11 f114_10 rfl (by decide +kernel) ?_
                                                        refine zw_iconst 4 12 f114_11 rfl (by decide +kernel) ?_
                                                        refine zw_static_i 15 0 0 [.int (zka (zka (zka (zka (A 2 ((c - c / 8 * 8) + 8).toNatClampNeg).toNatClampNeg).toNatClampNeg).toNatClampNeg).toNatClampNeg), .int 0, .int 4] [] [(0, .int (zka (zka (zka (zka (A 2 ((c - c / 8 * 8) + 8).toNatClampNeg).toNatClampNeg).toNatClampNeg).toNatClampNeg).toNatClampNeg)), (1, .int 0), (2, .int 4)] f114_12 rfl k114_74_99 rfl (by decide +kernel) (Nat.le_of_ble_eq_true rfl) (Nat.le_of_ble_eq_true rfl) rfl rfl (by decide +kernel) (by decide +kernel) rfl (Nat.le_of_ble_eq_true rfl) rfl ?_
                                                        refine zw_iload_n 1 f112_0 rfl rfl ?_
                                                        refine zw_iload_n 2 f112_1 rfl rfl ?_
                                                        refine zw_ic_lt 5 14 f112_2 (by decide +kernel) rfl (fun hc161 => ?_) (fun hc161 => ?_)
                                                        · refine zw_iconst 0 15 f112_14 rfl (by decide +kernel) ?_
                                                          refine zw_zreturn f112_15 r112 u112 (by decide +kernel) ⟨_, rfl, ?_⟩
                                                          refine zw_if_eq_t 37 f114_15 (by decide +kernel) (by decide +kernel) ?_
                                                          refine zw_iconst 0 38 f114_37 rfl (by decide +kernel) ?_
                                                          refine zw_zreturn f114_38 r114 u114 (by decide +kernel) ⟨_, rfl, ?_⟩
                                                          refine zw_if_eq_t 43 f109_32 (by decide +kernel) (by decide +kernel) ?_
                                                          refine zw_aload_n 44 f109_43 rfl (zl1_ne rfl rfl rfl) ?_
                                                          refine zw_bipush 11 46 f109_44 rfl (by decide +kernel) ?_
                                                          refine zw_virtual_i 49 0 0 [.ref 0, .int 11] [(0, .ref 0), (1, .int 11)] f109_46 rfl n109_78 k109_78_11 rfl (hb_0 _ _ _ _) (by decide +kernel) (Nat.le_of_ble_eq_true rfl) rfl rfl (by decide +kernel) (by decide +kernel) rfl (Nat.le_of_ble_eq_true rfl) rfl ?_
                                                          refine zw_aload_n 1 f105_0 rfl rfl ?_
                                                          refine zw_iload_n 2 f105_1 rfl rfl ?_
                                                          refine zw_put _ 5 f105_2 rfl g105_70_11 (hb_0 _ _ _ _) rfl (Nat.le_of_ble_eq_true rfl) (by decide +kernel) (hi_0_7 _ _ _ _ _) ?_
                                                          refine zw_iconst (-1) 6 f105_5 rfl (by decide +kernel) ?_
                                                          refine zw_ireturn f105_6 r105 u105 ⟨_, rfl, ?_⟩
                                                          refine zw_ireturn f109_49 r109 u109 ⟨_, rfl, ?_⟩
                                                          refine zw_ireturn f103_91 r103 u103 ?_
                                                          exact ⟨_, _, _, _, rfl, (KP.i rfl KP.rf), ⟨⟨hI.1, hI.2.1, t, by omega, et⟩, PE.of10 rfl rfl rfl rfl rfl rfl rfl rfl rfl rfl⟩, _, rfl⟩
                                                        · refine zw_iload_n 6 f112_5 rfl rfl ?_
                                                          refine zw_iload_n 7 f112_6 rfl rfl ?_
                                                          refine zw_ic_gt 10 14 f112_7 (by decide +kernel) rfl (fun hc162 => ?_) (fun hc162 => ?_)
                                                          · refine zw_iconst 0 15 f112_14 rfl (by decide +kernel) ?_
                                                            refine zw_zreturn f112_15 r112 u112 (by decide +kernel) ⟨_, rfl, ?_⟩
                                                            refine zw_if_eq_t 37 f114_15 (by decide +kernel) (by decide +kernel) ?_
                                                            refine zw_iconst 0 38 f114_37 rfl (by decide +kernel) ?_
                                                            refine zw_zreturn f114_38 r114 u114 (by decide +kernel) ⟨_, rfl, ?_⟩
                                                            refine zw_if_eq_t 43 f109_32 (by decide +kernel) (by decide +kernel) ?_
                                                            refine zw_aload_n 44 f109_43 rfl (zl1_ne rfl rfl rfl) ?_
                                                            refine zw_bipush 11 46 f109_44 rfl (by decide +kernel) ?_
                                                            refine zw_virtual_i 49 0 0 [.ref 0, .int 11] [(0, .ref 0), (1, .int 11)] f109_46 rfl n109_78 k109_78_11 rfl (hb_0 _ _ _ _) (by decide +kernel) (Nat.le_of_ble_eq_true rfl) rfl rfl (by decide +kernel) (by decide +kernel) rfl (Nat.le_of_ble_eq_true rfl) rfl ?_
                                                            refine zw_aload_n 1 f105_0 rfl rfl ?_
                                                            refine zw_iload_n 2 f105_1 rfl rfl ?_
                                                            refine zw_put _ 5 f105_2 rfl g105_70_11 (hb_0 _ _ _ _) rfl (Nat.le_of_ble_eq_true rfl) (by decide +kernel) (hi_0_7 _ _ _ _ _) ?_
                                                            refine zw_iconst (-1) 6 f105_5 rfl (by decide +kernel) ?_
                                                            refine zw_ireturn f105_6 r105 u105 ⟨_, rfl, ?_⟩
                                                            refine zw_ireturn f109_49 r109 u109 ⟨_, rfl, ?_⟩
                                                            refine zw_ireturn f103_91 r103 u103 ?_
                                                            exact ⟨_, _, _, _, rfl, (KP.i rfl KP.rf), ⟨⟨hI.1, hI.2.1, t, by omega, et⟩, PE.of10 rfl rfl rfl rfl rfl rfl rfl rfl rfl rfl⟩, _, rfl⟩
                                                          · refine zw_iconst 1 11 f112_10 rfl (by decide +kernel) ?_
                                                            refine zw_goto 15 f112_11 (by decide +kernel) ?_
                                                            refine zw_zreturn f112_15 r112 u112 (by decide +kernel) ⟨_, rfl, ?_⟩
                                                            refine zw_if_eq_f 18 37 f114_15 (by decide +kernel) rfl (by decide +kernel) ?_
                                                            refine zw_iload_n 19 f114_18 rfl (zl1_ne rfl rfl zl1_eq) ?_
                                                            refine zw_iload_n 20 f114_19 rfl (zl1_ne rfl rfl (zl1_ne rfl rfl (zl1_ne rfl rfl (zl1_ne rfl rfl (zl1_ne rfl rfl (zl1_ne rfl rfl (zl1_ne rfl rfl (zl1_ne rfl rfl (zl1_ne rfl rfl (zl1_ne rfl rfl rfl)))))))))) ?_
                                                            refine zw_ic_ne 23 25 f114_20 (by decide +kernel) rfl (fun hc163 => ?_) (fun hc163 => ?_)
                                                            · refine zw_getstatic 28 f114_25 rfl (by decide +kernel) ?_
                                                              refine zw_iload_n 29 f114_28 rfl (zl1_ne rfl rfl zl1_eq) ?_
                                                              refine zw_iaload_f (zka (zka (zka (zka (A 2 ((c - c / 8 * 8) + 8).toNatClampNeg).toNatClampNeg).toNatClampNeg).toNatClampNeg).toNatClampNeg).toNatClampNeg 5 (zka (zka (zka (zka (zka (A 2 ((c - c / 8 * 8) + 8).toNatClampNeg).toNatClampNeg).toNatClampNeg).toNatClampNeg).toNatClampNeg).toNatClampNeg) 30 f114_29 rfl hro.1 rfl hc161 (zix (by decide) hc161 (n45 hc162)) (congrFun hro.2 _) ?_
                                                              refine zw_istore_n _ 31 f114_30 rfl (by decide +kernel) rfl ?_
                                                              refine zw_iinc 5 _ 34 f114_31 rfl (zl1_ne rfl rfl zl1_eq) (by decide +kernel) (by decide +kernel) rfl ?_
                                                              refine zw_goto 4 f114_34 (by decide +kernel) ?_
                                                              refine zw_iload_n 5 f114_4 rfl zl1_eq ?_
                                                              refine zw_iconst 5 6 f114_5 rfl (by decide +kernel) ?_
                                                              refine zw_ic_ge_t 37 f114_6 (by decide +kernel) (by decide +kernel) ?_
                                                              refine zw_iconst 0 38 f114_37 rfl (by decide +kernel) ?_
                                                              refine zw_zreturn f114_38 r114 u114 (by decide +kernel) ⟨_, rfl, ?_⟩
                                                              refine zw_if_eq_t 43 f109_32 (by decide +kernel) (by decide +kernel) ?_
                                                              refine zw_aload_n 44 f109_43 rfl (zl1_ne rfl rfl rfl) ?_
                                                              refine zw_bipush 11 46 f109_44 rfl (by decide +kernel) ?_
                                                              refine zw_virtual_i 49 0 0 [.ref 0, .int 11] [(0, .ref 0), (1, .int 11)] f109_46 rfl n109_78 k109_78_11 rfl (hb_0 _ _ _ _) (by decide +kernel) (Nat.le_of_ble_eq_true rfl) rfl rfl (by decide +kernel) (by decide +kernel) rfl (Nat.le_of_ble_eq_true rfl) rfl ?_
                                                              refine zw_aload_n 1 f105_0 rfl rfl ?_
                                                              refine zw_iload_n 2 f105_1 rfl rfl ?_
                                                              refine zw_put _ 5 f105_2 rfl g105_70_11 (hb_0 _ _ _ _) rfl (Nat.le_of_ble_eq_true rfl) (by decide +kernel) (hi_0_7 _ _ _ _ _) ?_
                                                              refine zw_iconst (-1) 6 f105_5 rfl (by decide +kernel) ?_
                                                              refine zw_ireturn f105_6 r105 u105 ⟨_, rfl, ?_⟩
                                                              refine zw_ireturn f109_49 r109 u109 ⟨_, rfl, ?_⟩
                                                              refine zw_ireturn f103_91 r103 u103 ?_
                                                              exact ⟨_, _, _, _, rfl, (KP.i rfl KP.rf), ⟨⟨hI.1, hI.2.1, t, by omega, et⟩, PE.of10 rfl rfl rfl rfl rfl rfl rfl rfl rfl rfl⟩, _, rfl⟩
                                                            · refine zw_iconst 1 24 f114_23 rfl (by decide +kernel) ?_
                                                              refine zw_zreturn f114_24 r114 u114 (by decide +kernel) ⟨_, rfl, ?_⟩
                                                              refine zw_if_eq_f 35 43 f109_32 (by decide +kernel) rfl (by decide +kernel) ?_
                                                              refine zw_aload_n 36 f109_35 rfl (zl1_ne rfl rfl rfl) ?_
                                                              refine zw_iload_n 37 f109_36 rfl zl1_eq ?_
                                                              refine zw_virtual_i 40 0 0 [.ref 0, .int (A 2 ((c - c / 8 * 8) + 8).toNatClampNeg)] [(0, .ref 0), (1, .int (A 2 ((c - c / 8 * 8) + 8).toNatClampNeg))] f109_37 rfl n109_181 k109_181_11 rfl (hb_0 _ _ _ _) (by decide +kernel) (Nat.le_of_ble_eq_true rfl) rfl rfl (by decide +kernel) (by decide +kernel) rfl (Nat.le_of_ble_eq_true rfl) rfl ?_
                                                              refine zw_aload_n 1 f106_0 rfl rfl ?_
                                                              refine zw_iconst 0 2 f106_1 rfl (by decide +kernel) ?_
                                                              refine zw_put _ 5 f106_2 rfl g106_70_11 (hb_0 _ _ _ _) rfl (Nat.le_of_ble_eq_true rfl) (by decide +kernel) (hi_0_7 _ _ _ _ _) ?_
                                                              refine zw_iload_n 6 f106_5 rfl rfl ?_
                                                              refine zw_ireturn f106_6 r106 u106 ⟨_, rfl, ?_⟩
                                                              refine zw_goto 49 f109_40 (by decide +kernel) ?_
                                                              refine zw_ireturn f109_49 r109 u109 ⟨_, rfl, ?_⟩
                                                              refine zw_ireturn f103_91 r103 u103 ?_
                                                              exact ⟨_, _, _, _, rfl, (KP.i rfl KP.rf), ⟨⟨hI.1, hI.2.1, t, by omega, et⟩, PE.of10 rfl rfl rfl rfl rfl rfl rfl rfl rfl rfl⟩, _, rfl⟩
                                                      · refine zw_iconst 1 24 f114_23 rfl (by decide +kernel) ?_
                                                        refine zw_zreturn f114_24 r114 u114 (by decide +kernel) ⟨_, rfl, ?_⟩
                                                        refine zw_if_eq_f 35 43 f109_32 (by decide +kernel) rfl (by decide +kernel) ?_
                                                        refine zw_aload_n 36 f109_35 rfl (zl1_ne rfl rfl rfl) ?_
                                                        refine zw_iload_n 37 f109_36 rfl zl1_eq ?_
                                                        refine zw_virtual_i 40 0 0 [.ref 0, .int (A 2 ((c - c / 8 * 8) + 8).toNatClampNeg)] [(0, .ref 0), (1, .int (A 2 ((c - c / 8 * 8) + 8).toNatClampNeg))] f109_37 rfl n109_181 k109_181_11 rfl (hb_0 _ _ _ _) (by decide +kernel) (Nat.le_of_ble_eq_true rfl) rfl rfl (by decide +kernel) (by decide +kernel) rfl (Nat.le_of_ble_eq_true rfl) rfl ?_
                                                        refine zw_aload_n 1 f106_0 rfl rfl ?_
                                                        refine zw_iconst 0 2 f106_1 rfl (by decide +kernel) ?_
                                                        refine zw_put _ 5 f106_2 rfl g106_70_11 (hb_0 _ _ _ _) rfl (Nat.le_of_ble_eq_true rfl) (by decide +kernel) (hi_0_7 _ _ _ _ _) ?_
                                                        refine zw_iload_n 6 f106_5 rfl rfl ?_
                                                        refine zw_ireturn f106_6 r106 u106 ⟨_, rfl, ?_⟩
                                                        refine zw_goto 49 f109_40 (by decide +kernel) ?_
                                                        refine zw_ireturn f109_49 r109 u109 ⟨_, rfl, ?_⟩
                                                        refine zw_ireturn f103_91 r103 u103 ?_
                                                        exact ⟨_, _, _, _, rfl, (KP.i rfl KP.rf), ⟨⟨hI.1, hI.2.1, t, by omega, et⟩, PE.of10 rfl rfl rfl rfl rfl rfl rfl rfl rfl rfl⟩, _, rfl⟩
                                                · refine zw_iconst 1 24 f114_23 rfl (by decide +kernel) ?_
                                                  refine zw_zreturn f114_24 r114 u114 (by decide +kernel) ⟨_, rfl, ?_⟩
                                                  refine zw_if_eq_f 35 43 f109_32 (by decide +kernel) rfl (by decide +kernel) ?_
                                                  refine zw_aload_n 36 f109_35 rfl (zl1_ne rfl rfl rfl) ?_
                                                  refine zw_iload_n 37 f109_36 rfl zl1_eq ?_
                                                  refine zw_virtual_i 40 0 0 [.ref 0, .int (A 2 ((c - c / 8 * 8) + 8).toNatClampNeg)] [(0, .ref 0), (1, .int (A 2 ((c - c / 8 * 8) + 8).toNatClampNeg))] f109_37 rfl n109_181 k109_181_11 rfl (hb_0 _ _ _ _) (by decide +kernel) (Nat.le_of_ble_eq_true rfl) rfl rfl (by decide +kernel) (by decide +kernel) rfl (Nat.le_of_ble_eq_true rfl) rfl ?_
                                                  refine zw_aload_n 1 f106_0 rfl rfl ?_
                                                  refine zw_iconst 0 2 f106_1 rfl (by decide +kernel) ?_
                                                  refine zw_put _ 5 f106_2 rfl g106_70_11 (hb_0 _ _ _ _) rfl (Nat.le_of_ble_eq_true rfl) (by decide +kernel) (hi_0_7 _ _ _ _ _) ?_
                                                  refine zw_iload_n 6 f106_5 rfl rfl ?_
                                                  refine zw_ireturn f106_6 r106 u106 ⟨_, rfl, ?_⟩
                                                  refine zw_goto 49 f109_40 (by decide +kernel) ?_
                                                  refine zw_ireturn f109_49 r109 u109 ⟨_, rfl, ?_⟩
                                                  refine zw_ireturn f103_91 r103 u103 ?_
                                                  exact ⟨_, _, _, _, rfl, (KP.i rfl KP.rf), ⟨⟨hI.1, hI.2.1, t, by omega, et⟩, PE.of10 rfl rfl rfl rfl rfl rfl rfl rfl rfl rfl⟩, _, rfl⟩
                                          · refine zw_iconst 1 24 f114_23 rfl (by decide +kernel) ?_
                                            refine zw_zreturn f114_24 r114 u114 (by decide +kernel) ⟨_, rfl, ?_⟩
                                            refine zw_if_eq_f 35 43 f109_32 (by decide +kernel) rfl (by decide +kernel) ?_
                                            refine zw_aload_n 36 f109_35 rfl (zl1_ne rfl rfl rfl) ?_
                                            refine zw_iload_n 37 f109_36 rfl zl1_eq ?_
                                            refine zw_virtual_i 40 0 0 [.ref 0, .int (A 2 ((c - c / 8 * 8) + 8).toNatClampNeg)] [(0, .ref 0), (1, .int (A 2 ((c - c / 8 * 8) + 8).toNatClampNeg))] f109_37 rfl n109_181 k109_181_11 rfl (hb_0 _ _ _ _) (by decide +kernel) (Nat.le_of_ble_eq_true rfl) rfl rfl (by decide +kernel) (by decide +kernel) rfl (Nat.le_of_ble_eq_true rfl) rfl ?_
                                            refine zw_aload_n 1 f106_0 rfl rfl ?_
                                            refine zw_iconst 0 2 f106_1 rfl (by decide +kernel) ?_
                                            refine zw_put _ 5 f106_2 rfl g106_70_11 (hb_0 _ _ _ _) rfl (Nat.le_of_ble_eq_true rfl) (by decide +kernel) (hi_0_7 _ _ _ _ _) ?_
                                            refine zw_iload_n 6 f106_5 rfl rfl ?_
                                            refine zw_ireturn f106_6 r106 u106 ⟨_, rfl, ?_⟩
                                            refine zw_goto 49 f109_40 (by decide +kernel) ?_
                                            refine zw_ireturn f109_49 r109 u109 ⟨_, rfl, ?_⟩
                                            refine zw_ireturn f103_91 r103 u103 ?_
                                            exact ⟨_, _, _, _, rfl, (KP.i rfl KP.rf), ⟨⟨hI.1, hI.2.1, t, by omega, et⟩, PE.of10 rfl rfl rfl rfl rfl rfl rfl rfl rfl rfl⟩, _, rfl⟩
                                    · refine zw_iconst 1 24 f114_23 rfl (by decide +kernel) ?_
                                      refine zw_zreturn f114_24 r114 u114 (by decide +kernel) ⟨_, rfl, ?_⟩
                                      refine zw_if_eq_f 35 43 f109_32 (by decide +kernel) rfl (by decide +kernel) ?_
                                      refine zw_aload_n 36 f109_35 rfl (zl1_ne rfl rfl rfl) ?_
                                      refine zw_iload_n 37 f109_36 rfl zl1_eq ?_
                                      refine zw_virtual_i 40 0 0 [.ref 0, .int (A 2 ((c - c / 8 * 8) + 8).toNatClampNeg)] [(0, .ref 0), (1, .int (A 2 ((c - c / 8 * 8) + 8).toNatClampNeg))] f109_37 rfl n109_181 k109_181_11 rfl (hb_0 _ _ _ _) (by decide +kernel) (Nat.le_of_ble_eq_true rfl) rfl rfl (by decide +kernel) (by decide +kernel) rfl (Nat.le_of_ble_eq_true rfl) rfl ?_
                                      refine zw_aload_n 1 f106_0 rfl rfl ?_
                                      refine zw_iconst 0 2 f106_1 rfl (by decide +kernel) ?_
                                      refine zw_put _ 5 f106_2 rfl g106_70_11 (hb_0 _ _ _ _) rfl (Nat.le_of_ble_eq_true rfl) (by decide +kernel) (hi_0_7 _ _ _ _ _) ?_
                                      refine zw_iload_n 6 f106_5 rfl rfl ?_
                                      refine zw_ireturn f106_6 r106 u106 ⟨_, rfl, ?_⟩
                                      refine zw_goto 49 f109_40 (by decide +kernel) ?_
                                      refine zw_ireturn f109_49 r109 u109 ⟨_, rfl, ?_⟩
                                      refine zw_ireturn f103_91 r103 u103 ?_
                                      exact ⟨_, _, _, _, rfl, (KP.i rfl KP.rf), ⟨⟨hI.1, hI.2.1, t, by omega, et⟩, PE.of10 rfl rfl rfl rfl rfl rfl rfl rfl rfl rfl⟩, _, rfl⟩
                        · refine zw_iload_n 15 f186_14 rfl zl1_eq ?_
                          refine zw_iload_n 16 f186_15 rfl (zl1_ne rfl rfl rfl) ?_
                          refine zw_iadd ((b - b / 5 * 5) + 5) 17 f186_16 rfl rfl ?_
                          refine zw_ireturn f186_17 r186 u186 ⟨_, rfl, ?_⟩
                          refine zw_virtual_i 91 0 0 [.ref 0, .int ((c - c / 8 * 8) + 8), .int ((b - b / 5 * 5) + 5)] [(0, .ref 0), (1, .int ((c - c / 8 * 8) + 8)), (2, .int ((b - b / 5 * 5) + 5))] f103_88 rfl n103_309 k103_309_11 rfl (hb_0 _ _ _ _) (by decide +kernel) (Nat.le_of_ble_eq_true rfl) rfl rfl (by decide +kernel) (by decide +kernel) rfl (Nat.le_of_ble_eq_true rfl) rfl ?_
                          refine zw_aload_n 1 f109_0 rfl rfl ?_
                          refine zw_getfield 4 f109_1 rfl g109_10_11 (hb_0 _ _ _ _) rfl ?_
                          refine zw_iload_n 5 f109_4 rfl rfl ?_
                          refine zw_virtual_i 8 0 0 [.ref 1, .int ((c - c / 8 * 8) + 8)] [(0, .ref 1), (1, .int ((c - c / 8 * 8) + 8))] f109_5 rfl n109_89 k109_89_4 rfl (hb_1 _ _ _ _) (by decide +kernel) (Nat.le_of_ble_eq_true rfl) rfl rfl (by decide +kernel) (by decide +kernel) rfl (Nat.le_of_ble_eq_true rfl) rfl ?_
                          refine zw_iload_n 1 f13_0 rfl rfl ?_
                          refine zw_if_lt 4 22 f13_1 (by decide +kernel) rfl (fun hc164 => ?_) (fun hc164 => ?_)
                          · refine zw_iconst 0 23 f13_22 rfl (by decide +kernel) ?_
                            refine zw_zreturn f13_23 r13 u13 (by decide +kernel) ⟨_, rfl, ?_⟩
                            refine zw_if_ne_f 11 18 f109_8 (by decide +kernel) rfl (by decide +kernel) ?_
                            refine zw_aload_n 12 f109_11 rfl rfl ?_
                            refine zw_bipush 10 14 f109_12 rfl (by decide +kernel) ?_
                            refine zw_virtual_i 17 0 0 [.ref 0, .int 10] [(0, .ref 0), (1, .int 10)] f109_14 rfl n109_78 k109_78_11 rfl (hb_0 _ _ _ _) (by decide +kernel) (Nat.le_of_ble_eq_true rfl) rfl rfl (by decide +kernel) (by decide +kernel) rfl (Nat.le_of_ble_eq_true rfl) rfl ?_
                            refine zw_aload_n 1 f105_0 rfl rfl ?_
                            refine zw_iload_n 2 f105_1 rfl rfl ?_
                            refine zw_put _ 5 f105_2 rfl g105_70_11 (hb_0 _ _ _ _) rfl (Nat.le_of_ble_eq_true rfl) (by decide +kernel) (hi_0_7 _ _ _ _ _) ?_
                            refine zw_iconst (-1) 6 f105_5 rfl (by decide +kernel) ?_
                            refine zw_ireturn f105_6 r105 u105 ⟨_, rfl, ?_⟩
                            refine zw_ireturn f109_17 r109 u109 ⟨_, rfl, ?_⟩
                            refine zw_ireturn f103_91 r103 u103 ?_
                            exact ⟨_, _, _, _, rfl, (KP.i rfl KP.rf), ⟨⟨hI.1, hI.2.1, t, by omega, et⟩, PE.of10 rfl rfl rfl rfl rfl rfl rfl rfl rfl rfl⟩, _, rfl⟩
                          · refine zw_iload_n 5 f13_4 rfl rfl ?_
                            refine zw_aload_n 6 f13_5 rfl rfl ?_
                            refine zw_getI (nI nv) 9 f13_6 rfl g13_39_4 (hb_1 _ _ _ _) rfl hI.1.1.1 ?_
                            refine zw_ic_ge 12 22 f13_9 (by decide +kernel) rfl (fun hc165 => ?_) (fun hc165 => ?_)
                            · refine zw_iconst 0 23 f13_22 rfl (by decide +kernel) ?_
                              refine zw_zreturn f13_23 r13 u13 (by decide +kernel) ⟨_, rfl, ?_⟩
                              refine zw_if_ne_f 11 18 f109_8 (by decide +kernel) rfl (by decide +kernel) ?_
                              refine zw_aload_n 12 f109_11 rfl rfl ?_
                              refine zw_bipush 10 14 f109_12 rfl (by decide +kernel) ?_
                              refine zw_virtual_i 17 0 0 [.ref 0, .int 10] [(0, .ref 0), (1, .int 10)] f109_14 rfl n109_78 k109_78_11 rfl (hb_0 _ _ _ _) (by decide +kernel) (Nat.le_of_ble_eq_true rfl) rfl rfl (by decide +kernel) (by decide +kernel) rfl (Nat.le_of_ble_eq_true rfl) rfl ?_
                              refine zw_aload_n 1 f105_0 rfl rfl ?_
                              refine zw_iload_n 2 f105_1 rfl rfl ?_
                              refine zw_put _ 5 f105_2 rfl g105_70_11 (hb_0 _ _ _ _) rfl (Nat.le_of_ble_eq_true rfl) (by decide +kernel) (hi_0_7 _ _ _ _ _) ?_
                              refine zw_iconst (-1) 6 f105_5 rfl (by decide +kernel) ?_
                              refine zw_ireturn f105_6 r105 u105 ⟨_, rfl, ?_⟩
                              refine zw_ireturn f109_17 r109 u109 ⟨_, rfl, ?_⟩
                              refine zw_ireturn f103_91 r103 u103 ?_
                              exact ⟨_, _, _, _, rfl, (KP.i rfl KP.rf), ⟨⟨hI.1, hI.2.1, t, by omega, et⟩, PE.of10 rfl rfl rfl rfl rfl rfl rfl rfl rfl rfl⟩, _, rfl⟩
                            · refine zw_iload_n 13 f13_12 rfl rfl ?_
                              refine zw_bipush 8 15 f13_13 rfl (by decide +kernel) ?_
                              refine zw_ic_ge 18 22 f13_15 (by decide +kernel) rfl (fun hc166 => ?_) (fun hc166 => ?_)
                              · refine zw_iconst 0 23 f13_22 rfl (by decide +kernel) ?_
                                refine zw_zreturn f13_23 r13 u13 (by decide +kernel) ⟨_, rfl, ?_⟩
                                refine zw_if_ne_f 11 18 f109_8 (by decide +kernel) rfl (by decide +kernel) ?_
                                refine zw_aload_n 12 f109_11 rfl rfl ?_
                                refine zw_bipush 10 14 f109_12 rfl (by decide +kernel) ?_
                                refine zw_virtual_i 17 0 0 [.ref 0, .int 10] [(0, .ref 0), (1, .int 10)] f109_14 rfl n109_78 k109_78_11 rfl (hb_0 _ _ _ _) (by decide +kernel) (Nat.le_of_ble_eq_true rfl) rfl rfl (by decide +kernel) (by decide +kernel) rfl (Nat.le_of_ble_eq_true rfl) rfl ?_
                                refine zw_aload_n 1 f105_0 rfl rfl ?_
                                refine zw_iload_n 2 f105_1 rfl rfl ?_
                                refine zw_put _ 5 f105_2 rfl g105_70_11 (hb_0 _ _ _ _) rfl (Nat.le_of_ble_eq_true rfl) (by decide +kernel) (hi_0_7 _ _ _ _ _) ?_
                                refine zw_iconst (-1) 6 f105_5 rfl (by decide +kernel) ?_
                                refine zw_ireturn f105_6 r105 u105 ⟨_, rfl, ?_⟩
                                refine zw_ireturn f109_17 r109 u109 ⟨_, rfl, ?_⟩
                                refine zw_ireturn f103_91 r103 u103 ?_
                                exact ⟨_, _, _, _, rfl, (KP.i rfl KP.rf), ⟨⟨hI.1, hI.2.1, t, by omega, et⟩, PE.of10 rfl rfl rfl rfl rfl rfl rfl rfl rfl rfl⟩, _, rfl⟩
                              · refine zw_iconst 1 19 f13_18 rfl (by decide +kernel) ?_
                                refine zw_goto 23 f13_19 (by decide +kernel) ?_
                                refine zw_zreturn f13_23 r13 u13 (by decide +kernel) ⟨_, rfl, ?_⟩
                                refine zw_if_ne_t 18 f109_8 (by decide +kernel) (by decide +kernel) ?_
                                refine zw_aload_n 19 f109_18 rfl rfl ?_
                                refine zw_getfield 22 f109_19 rfl g109_10_11 (hb_0 _ _ _ _) rfl ?_
                                refine zw_iload_n 23 f109_22 rfl rfl ?_
                                refine zw_virtual_i 26 0 0 [.ref 1, .int ((c - c / 8 * 8) + 8)] [(0, .ref 1), (1, .int ((c - c / 8 * 8) + 8))] f109_23 rfl n109_112 k109_112_4 rfl (hb_1 _ _ _ _) (by decide +kernel) (Nat.le_of_ble_eq_true rfl) rfl rfl (by decide +kernel) (by decide +kernel) rfl (Nat.le_of_ble_eq_true rfl) rfl ?_
                                refine zw_iload_n 1 f15_0 rfl rfl ?_
                                refine zw_if_lt_f 4 27 f15_1 (by decide +kernel) rfl hc164 ?_
                                refine zw_iload_n 5 f15_4 rfl rfl ?_
                                refine zw_aload_n 6 f15_5 rfl rfl ?_
                                refine zw_getI (nI nv) 9 f15_6 rfl g15_39_4 (hb_1 _ _ _ _) rfl hI.1.1.1 ?_
                                refine zw_ic_ge_f 12 27 f15_9 (by decide +kernel) rfl hc165 ?_
                                refine zw_iload_n 13 f15_12 rfl rfl ?_
                                refine zw_bipush 8 15 f15_13 rfl (by decide +kernel) ?_
                                refine zw_ic_ge_f 18 27 f15_15 (by decide +kernel) rfl hc166 ?_
                                refine zw_aload_n 19 f15_18 rfl rfl ?_
                                refine zw_getfield 22 f15_19 rfl g15_9_4 (hb_1 _ _ _ _) rfl ?_
                                refine zw_iload_n 23 f15_22 rfl rfl ?_
                                refine zw_iaload ((c - c / 8 * 8) + 8).toNatClampNeg (A 2 ((c - c / 8 * 8) + 8).toNatClampNeg) 24 f15_23 rfl (hb_2 _ _ _ _) rfl hc164 (zix (by decide) hc164 hc166) rfl ?_
                                refine zw_goto 28 f15_24 (by decide +kernel) ?_
                                refine zw_ireturn f15_28 r15 u15 ⟨_, rfl, ?_⟩
                                refine zw_istore_n _ 27 f109_26 rfl (by decide +kernel) rfl ?_
                                refine zw_iload_n 28 f109_27 rfl zl1_eq ?_
                                refine zw_iload_n 29 f109_28 rfl (zl1_ne rfl rfl rfl) ?_
                                refine zw_static_i 32 0 0 [.int (A 2 ((c - c / 8 * 8) + 8).toNatClampNeg), .int ((b - b / 5 * 5) + 5)] [] [(0, .int (A 2 ((c - c / 8 * 8) + 8).toNatClampNeg)), (1, .int ((b - b / 5 * 5) + 5))] f109_29 rfl k109_327_99 rfl (by decide +kernel) (Nat.le_of_ble_eq_true rfl) (Nat.le_of_ble_eq_true rfl) rfl rfl (by decide +kernel) (by decide +kernel) rfl (Nat.le_of_ble_eq_true rfl) rfl ?_
                                refine zw_iload_n 1 f114_0 rfl rfl ?_
                                refine zw_istore_n _ 2 f114_1 rfl (by decide +kernel) rfl ?_
                                refine zw_iconst 0 3 f114_2 rfl (by decide +kernel) ?_
                                refine zw_istore_n _ 4 f114_3 rfl (by decide +kernel) rfl ?_
                                refine zw_iload_n 5 f114_4 rfl zl1_eq ?_
                                refine zw_iconst 5 6 f114_5 rfl (by decide +kernel) ?_
                                refine zw_ic_ge_f 9 37 f114_6 (by decide +kernel) rfl (by decide +kernel) ?_
                                refine zw_iload_n 10 f114_9 rfl (zl1_ne rfl rfl zl1_eq) ?_
                                refine zw_iconst 0 11 f114_10 rfl (by decide +kernel) ?_
                                refine zw_iconst 4 12 f114_11 rfl (by decide +kernel) ?_
                                refine zw_static_i 15 0 0 [.int (A 2 ((c - c / 8 * 8) + 8).toNatClampNeg), .int 0, .int 4] [] [(0, .int (A 2 ((c - c / 8 * 8) + 8).toNatClampNeg)), (1, .int 0), (2, .int 4)] f114_12 rfl k114_74_99 rfl (by decide +kernel) (Nat.le_of_ble_eq_true rfl) (Nat.le_of_ble_eq_true rfl) rfl rfl (by decide +kernel) (by decide +kernel) rfl (Nat.le_of_ble_eq_true rfl) rfl ?_
                                refine zw_iload_n 1 f112_0 rfl rfl ?_
                                refine zw_iload_n 2 f112_1 rfl rfl ?_
                                refine zw_ic_lt 5 14 f112_2 (by decide +kernel) rfl (fun hc167 => ?_) (fun hc167 => ?_)
                                · refine zw_iconst 0 15 f112_14 rfl (by decide +kernel) ?_
                                  refine zw_zreturn f112_15 r112 u112 (by decide +kernel) ⟨_, rfl, ?_⟩
                                  refine zw_if_eq_t 37 f114_15 (by decide +kernel) (by decide +kernel) ?_
                                  refine zw_iconst 0 38 f114_37 rfl (by decide +kernel) ?_
                                  refine zw_zreturn f114_38 r114 u114 (by decide +kernel) ⟨_, rfl, ?_⟩
                                  refine zw_if_eq_t 43 f109_32 (by decide +kernel) (by decide +kernel) ?_
                                  refine zw_aload_n 44 f109_43 rfl (zl1_ne rfl rfl rfl) ?_
                                  refine zw_bipush 11 46 f109_44 rfl (by decide +kernel) ?_
                                  refine zw_virtual_i 49 0 0 [.ref 0, .int 11] [(0, .ref 0), (1, .int 11)] f109_46 rfl n109_78 k109_78_11 rfl (hb_0 _ _ _ _) (by decide +kernel) (Nat.le_of_ble_eq_true rfl) rfl rfl (by decide +kernel) (by decide +kernel) rfl (Nat.le_of_ble_eq_true rfl) rfl ?_
                                  refine zw_aload_n 1 f105_0 rfl rfl ?_
                                  refine zw_iload_n 2 f105_1 rfl rfl ?_
                                  refine zw_put _ 5 f105_2 rfl g105_70_11 (hb_0 _ _ _ _) rfl (Nat.le_of_ble_eq_true rfl) (by decide +kernel) (hi_0_7 _ _ _ _ _) ?_
                                  refine zw_iconst (-1) 6 f105_5 rfl (by decide +kernel) ?_
                                  refine zw_ireturn f105_6 r105 u105 ⟨_, rfl, ?_⟩
                                  refine zw_ireturn f109_49 r109 u109 ⟨_, rfl, ?_⟩
                                  refine zw_ireturn f103_91 r103 u103 ?_
                                  exact ⟨_, _, _, _, rfl, (KP.i rfl KP.rf), ⟨⟨hI.1, hI.2.1, t, by omega, et⟩, PE.of10 rfl rfl rfl rfl rfl rfl rfl rfl rfl rfl⟩, _, rfl⟩
                                · refine zw_iload_n 6 f112_5 rfl rfl ?_
                                  refine zw_iload_n 7 f112_6 rfl rfl ?_
                                  refine zw_ic_gt 10 14 f112_7 (by decide +kernel) rfl (fun hc168 => ?_) (fun hc168 => ?_)
                                  · refine zw_iconst 0 15 f112_14 rfl (by decide +kernel) ?_
                                    refine zw_zreturn f112_15 r112 u112 (by decide +kernel) ⟨_, rfl, ?_⟩
                                    refine zw_if_eq_t 37 f114_15 (by decide +kernel) (by decide +kernel) ?_
                                    refine zw_iconst 0 38 f114_37 rfl (by decide +kernel) ?_
                                    refine zw_zreturn f114_38 r114 u114 (by decide +kernel) ⟨_, rfl, ?_⟩
                                    refine zw_if_eq_t 43 f109_32 (by decide +kernel) (by decide +kernel) ?_
                                    refine zw_aload_n 44 f109_43 rfl (zl1_ne rfl rfl rfl) ?_
                                    refine zw_bipush 11 46 f109_44 rfl (by decide +kernel) ?_
                                    refine zw_virtual_i 49 0 0 [.ref 0, .int 11] [(0, .ref 0), (1, .int 11)] f109_46 rfl n109_78 k109_78_11 rfl (hb_0 _ _ _ _) (by decide +kernel) (Nat.le_of_ble_eq_true rfl) rfl rfl (by decide +kernel) (by decide +kernel) rfl (Nat.le_of_ble_eq_true rfl) rfl ?_
                                    refine zw_aload_n 1 f105_0 rfl rfl ?_
                                    refine zw_iload_n 2 f105_1 rfl rfl ?_
                                    refine zw_put _ 5 f105_2 rfl g105_70_11 (hb_0 _ _ _ _) rfl (Nat.le_of_ble_eq_true rfl) (by decide +kernel) (hi_0_7 _ _ _ _ _) ?_
                                    refine zw_iconst (-1) 6 f105_5 rfl (by decide +kernel) ?_
                                    refine zw_ireturn f105_6 r105 u105 ⟨_, rfl, ?_⟩
                                    refine zw_ireturn f109_49 r109 u109 ⟨_, rfl, ?_⟩
                                    refine zw_ireturn f103_91 r103 u103 ?_
                                    exact ⟨_, _, _, _, rfl, (KP.i rfl KP.rf), ⟨⟨hI.1, hI.2.1, t, by omega, et⟩, PE.of10 rfl rfl rfl rfl rfl rfl rfl rfl rfl rfl⟩, _, rfl⟩
                                  · refine zw_iconst 1 11 f112_10 rfl (by decide +kernel) ?_
                                    refine zw_goto 15 f112_11 (by decide +kernel) ?_
                                    refine zw_zreturn f112_15 r112 u112 (by decide +kernel) ⟨_, rfl, ?_⟩
                                    refine zw_if_eq_f 18 37 f114_15 (by decide +kernel) rfl (by decide +kernel) ?_
                                    refine zw_iload_n 19 f114_18 rfl (zl1_ne rfl rfl zl1_eq) ?_
                                    refine zw_iload_n 20 f114_19 rfl (zl1_ne rfl rfl (zl1_ne rfl rfl rfl)) ?_
                                    refine zw_ic_ne 23 25 f114_20 (by decide +kernel) rfl (fun hc169 => ?_) (fun hc169 => ?_)
                                    · refine zw_getstatic 28 f114_25 rfl (by decide +kernel) ?_
                                      refine zw_iload_n 29 f114_28 rfl (zl1_ne rfl rfl zl1_eq) ?_
                                      refine zw_iaload_f (A 2 ((c - c / 8 * 8) + 8).toNatClampNeg).toNatClampNeg 5 (zka (A 2 ((c - c / 8 * 8) + 8).toNatClampNeg).toNatClampNeg) 30 f114_29 rfl hro.1 rfl hc167 (zix (by decide) hc167 (n45 hc168)) (congrFun hro.2 _) ?_
                                      refine zw_istore_n _ 31 f114_30 rfl (by decide +kernel) rfl ?_
                                      refine zw_iinc 1 _ 34 f114_31 rfl (zl1_ne rfl rfl zl1_eq) (by decide +kernel) (by decide +kernel) rfl ?_
                                      refine zw_goto 4 f114_34 (by decide +kernel) ?_
                                      refine zw_iload_n 5 f114_4 rfl zl1_eq ?_
                                      refine zw_iconst 5 6 f114_5 rfl (by decide +kernel) ?_
                                      refine zw_ic_ge_f 9 37 f114_6 (by decide +kernel) rfl (by decide +kernel) ?_
                                      refine zw_iload_n 10 f114_9 rfl (zl1_ne rfl rfl zl1_eq) ?_
                                      refine zw_iconst 0 11 f114_10 rfl (by decide +kernel) ?_
                                      refine zw_iconst 4 12 f114_11 rfl (by decide +kernel) ?_
                                      refine zw_static_i 15 0 0 [.int (zka (A 2 ((c - c / 8 * 8) + 8).toNatClampNeg).toNatClampNeg), .int 0, .int 4] [] [(0, .int (zka (A 2 ((c - c / 8 * 8) + 8).toNatClampNeg).toNatClampNeg)), (1, .int 0), (2, .int 4)] f114_12 rfl k114_74_99 rfl (by decide +kernel) (Nat.le_of_ble_eq_true rfl) (Nat.le_of_ble_eq_true rfl) rfl rfl (by decide +kernel) (by decide +kernel) rfl (Nat.le_of_ble_eq_true rfl) rfl ?_
                                      refine zw_iload_n 1 f112_0 rfl rfl ?_
                                      refine zw_iload_n 2 f112_1 rfl rfl ?_
                                      refine zw_ic_lt 5 14 f112_2 (by decide +kernel) rfl (fun hc170 => ?_) (fun hc170 => ?_)
                                      · refine zw_iconst 0 15 f112_14 rfl (by decide +kernel) ?_
                                        refine zw_zreturn f112_15 r112 u112 (by decide +kernel) ⟨_, rfl, ?_⟩
                                        refine zw_if_eq_t 37 f114_15 (by decide +kernel) (by decide +kernel) ?_
                                        refine zw_iconst 0 38 f114_37 rfl (by decide +kernel) ?_
                                        refine zw_zreturn f114_38 r114 u114 (by decide +kernel) ⟨_, rfl, ?_⟩
                                        refine zw_if_eq_t 43 f109_32 (by decide +kernel) (by decide +kernel) ?_
                                        refine zw_aload_n 44 f109_43 rfl (zl1_ne rfl rfl rfl) ?_
                                        refine zw_bipush 11 46 f109_44 rfl (by decide +kernel) ?_
                                        refine zw_virtual_i 49 0 0 [.ref 0, .int 11] [(0, .ref 0), (1, .int 11)] f109_46 rfl n109_78 k109_78_11 rfl (hb_0 _ _ _ _) (by decide +kernel) (Nat.le_of_ble_eq_true rfl) rfl rfl (by decide +kernel) (by decide +kernel) rfl (Nat.le_of_ble_eq_true rfl) rfl ?_
                                        refine zw_aload_n 1 f105_0 rfl rfl ?_
                                        refine zw_iload_n 2 f105_1 rfl rfl ?_
                                        refine zw_put _ 5 f105_2 rfl g105_70_11 (hb_0 _ _ _ _) rfl (Nat.le_of_ble_eq_true rfl) (by decide +kernel) (hi_0_7 _ _ _ _ _) ?_
                                        refine zw_iconst (-1) 6 f105_5 rfl (by decide +kernel) ?_
                                        refine zw_ireturn f105_6 r105 u105 ⟨_, rfl, ?_⟩
                                        refine zw_ireturn f109_49 r109 u109 ⟨_, rfl, ?_⟩
                                        refine zw_ireturn f103_91 r103 u103 ?_
                                        exact ⟨_, _, _, _, rfl, (KP.i rfl KP.rf), ⟨⟨hI.1, hI.2.1, t, by omega, et⟩, PE.of10 rfl rfl rfl rfl rfl rfl rfl rfl rfl rfl⟩, _, rfl⟩
                                      · refine zw_iload_n 6 f112_5 rfl rfl ?_
                                        refine zw_iload_n 7 f112_6 rfl rfl ?_
                                        refine zw_ic_gt 10 14 f112_7 (by decide +kernel) rfl (fun hc171 => ?_) (fun hc171 => ?_)
                                        · refine zw_iconst 0 15 f112_14 rfl (by decide +kernel) ?_
                                          refine zw_zreturn f112_15 r112 u112 (by decide +kernel) ⟨_, rfl, ?_⟩
                                          refine zw_if_eq_t 37 f114_15 (by decide +kernel) (by decide +kernel) ?_
                                          refine zw_iconst 0 38 f114_37 rfl (by decide +kernel) ?_
                                          refine zw_zreturn f114_38 r114 u114 (by decide +kernel) ⟨_, rfl, ?_⟩
                                          refine zw_if_eq_t 43 f109_32 (by decide +kernel) (by decide +kernel) ?_
                                          refine zw_aload_n 44 f109_43 rfl (zl1_ne rfl rfl rfl) ?_
                                          refine zw_bipush 11 46 f109_44 rfl (by decide +kernel) ?_
                                          refine zw_virtual_i 49 0 0 [.ref 0, .int 11] [(0, .ref 0), (1, .int 11)] f109_46 rfl n109_78 k109_78_11 rfl (hb_0 _ _ _ _) (by decide +kernel) (Nat.le_of_ble_eq_true rfl) rfl rfl (by decide +kernel) (by decide +kernel) rfl (Nat.le_of_ble_eq_true rfl) rfl ?_
                                          refine zw_aload_n 1 f105_0 rfl rfl ?_
                                          refine zw_iload_n 2 f105_1 rfl rfl ?_
                                          refine zw_put _ 5 f105_2 rfl g105_70_11 (hb_0 _ _ _ _) rfl (Nat.le_of_ble_eq_true rfl) (by decide +kernel) (hi_0_7 _ _ _ _ _) ?_
                                          refine zw_iconst (-1) 6 f105_5 rfl (by decide +kernel) ?_
                                          refine zw_ireturn f105_6 r105 u105 ⟨_, rfl, ?_⟩
                                          refine zw_ireturn f109_49 r109 u109 ⟨_, rfl, ?_⟩
                                          refine zw_ireturn f103_91 r103 u103 ?_
                                          exact ⟨_, _, _, _, rfl, (KP.i rfl KP.rf), ⟨⟨hI.1, hI.2.1, t, by omega, et⟩, PE.of10 rfl rfl rfl rfl rfl rfl rfl rfl rfl rfl⟩, _, rfl⟩
                                        · refine zw_iconst 1 11 f112_10 rfl (by decide +kernel) ?_
                                          refine zw_goto 15 f112_11 (by decide +kernel) ?_
                                          refine zw_zreturn f112_15 r112 u112 (by decide +kernel) ⟨_, rfl, ?_⟩
                                          refine zw_if_eq_f 18 37 f114_15 (by decide +kernel) rfl (by decide +kernel) ?_
                                          refine zw_iload_n 19 f114_18 rfl (zl1_ne rfl rfl zl1_eq) ?_
                                          refine zw_iload_n 20 f114_19 rfl (zl1_ne rfl rfl (zl1_ne rfl rfl (zl1_ne rfl rfl (zl1_ne rfl rfl rfl)))) ?_
                                          refine zw_ic_ne 23 25 f114_20 (by decide +kernel) rfl (fun hc172 => ?_) (fun hc172 => ?_)
                                          · refine zw_getstatic 28 f114_25 rfl (by decide +kernel) ?_
                                            refine zw_iload_n 29 f114_28 rfl (zl1_ne rfl rfl zl1_eq) ?_
                                            refine zw_iaload_f (zka (A 2 ((c - c / 8 * 8) + 8).toNatClampNeg).toNatClampNeg).toNatClampNeg 5 (zka (zka (A 2 ((c - c / 8 * 8) + 8).toNatClampNeg).toNatClampNeg).toNatClampNeg) 30 f114_29 rfl hro.1 rfl hc170 (zix (by decide) hc170 (n45 hc171)) (congrFun hro.2 _) ?_
                                            refine zw_istore_n _ 31 f114_30 rfl (by decide +kernel) rfl ?_
                                            refine zw_iinc 2 _ 34 f114_31 rfl (zl1_ne rfl rfl zl1_eq) (by decide +kernel) (by decide +kernel) rfl ?_
                                            refine zw_goto 4 f114_34 (by decide +kernel) ?_
                                            refine zw_iload_n 5 f114_4 rfl zl1_eq ?_
                                            refine zw_iconst 5 6 f114_5 rfl (by decide +kernel) ?_
                                            refine zw_ic_ge_f 9 37 f114_6 (by decide +kernel) rfl (by decide +kernel) ?_
                                            refine zw_iload_n 10 f114_9 rfl (zl1_ne rfl rfl zl1_eq) ?_
                                            refine zw_iconst 0 11 f114_10 rfl (by decide +kernel) ?_
                                            refine zw_iconst 4 12 f114_11 rfl (by decide +kernel) ?_
                                            refine zw_static_i 15 0 0 [.int (zka (zka (A 2 ((c - c / 8 * 8) + 8).toNatClampNeg).toNatClampNeg).toNatClampNeg), .int 0, .int 4] [] [(0, .int (zka (zka (A 2 ((c - c / 8 * 8) + 8).toNatClampNeg).toNatClampNeg).toNatClampNeg)), (1, .int 0), (2, .int 4)] f114_12 rfl k114_74_99 rfl (by decide +kernel) (Nat.le_of_ble_eq_true rfl) (Nat.le_of_ble_eq_true rfl) rfl rfl (by decide +kernel) (by decide +kernel) rfl (Nat.le_of_ble_eq_true rfl) rfl ?_
                                            refine zw_iload_n 1 f112_0 rfl rfl ?_
                                            refine zw_iload_n 2 f112_1 rfl rfl ?_
                                            refine zw_ic_lt 5 14 f112_2 (by decide +kernel) rfl (fun hc173 => ?_) (fun hc173 => ?_)
                                            · refine zw_iconst 0 15 f112_14 rfl (by decide +kernel) ?_
                                              refine zw_zreturn f112_15 r112 u112 (by decide +kernel) ⟨_, rfl, ?_⟩
                                              refine zw_if_eq_t 37 f114_15 (by decide +kernel) (by decide +kernel) ?_
                                              refine zw_iconst 0 38 f114_37 rfl (by decide +kernel) ?_
                                              refine zw_zreturn f114_38 r114 u114 (by decide +kernel) ⟨_, rfl, ?_⟩
                                              refine zw_if_eq_t 43 f109_32 (by decide +kernel) (by decide +kernel) ?_
                                              refine zw_aload_n 44 f109_43 rfl (zl1_ne rfl rfl rfl) ?_
                                              refine zw_bipush 11 46 f109_44 rfl (by decide +kernel) ?_
                                              refine zw_virtual_i 49 0 0 [.ref 0, .int 11] [(0, .ref 0), (1, .int 11)] f109_46 rfl n109_78 k109_78_11 rfl (hb_0 _ _ _ _) (by decide +kernel) (Nat.le_of_ble_eq_true rfl) rfl rfl (by decide +kernel) (by decide +kernel) rfl (Nat.le_of_ble_eq_true rfl) rfl ?_
                                              refine zw_aload_n 1 f105_0 rfl rfl ?_
                                              refine zw_iload_n 2 f105_1 rfl rfl ?_
                                              refine zw_put _ 5 f105_2 rfl g105_70_11 (hb_0 _ _ _ _) rfl (Nat.le_of_ble_eq_true rfl) (by decide +kernel) (hi_0_7 _ _ _ _ _) ?_
                                              refine zw_iconst (-1) 6 f105_5 rfl (by decide +kernel) ?_
                                              refine zw_ireturn f105_6 r105 u105 ⟨_, rfl, ?_⟩
                                              refine zw_ireturn f109_49 r109 u109 ⟨_, rfl, ?_⟩
                                              refine zw_ireturn f103_91 r103 u103 ?_
                                              exact ⟨_, _, _, _, rfl, (KP.i rfl KP.rf), ⟨⟨hI.1, hI.2.1, t, by omega, et⟩, PE.of10 rfl rfl rfl rfl rfl rfl rfl rfl rfl rfl⟩, _, rfl⟩
                                            · refine zw_iload_n 6 f112_5 rfl rfl ?_
                                              refine zw_iload_n 7 f112_6 rfl rfl ?_
                                              refine zw_ic_gt 10 14 f112_7 (by decide +kernel) rfl (fun hc174 => ?_) (fun hc174 => ?_)
                                              · refine zw_iconst 0 15 f112_14 rfl (by decide +kernel) ?_
                                                refine zw_zreturn f112_15 r112 u112 (by decide +kernel) ⟨_, rfl, ?_⟩
                                                refine zw_if_eq_t 37 f114_15 (by decide +kernel) (by decide +kernel) ?_
                                                refine zw_iconst 0 38 f114_37 rfl (by decide +kernel) ?_
                                                refine zw_zreturn f114_38 r114 u114 (by decide +kernel) ⟨_, rfl, ?_⟩
                                                refine zw_if_eq_t 43 f109_32 (by decide +kernel) (by decide +kernel) ?_
                                                refine zw_aload_n 44 f109_43 rfl (zl1_ne rfl rfl rfl) ?_
                                                refine zw_bipush 11 46 f109_44 rfl (by decide +kernel) ?_
                                                refine zw_virtual_i 49 0 0 [.ref 0, .int 11] [(0, .ref 0), (1, .int 11)] f109_46 rfl n109_78 k109_78_11 rfl (hb_0 _ _ _ _) (by decide +kernel) (Nat.le_of_ble_eq_true rfl) rfl rfl (by decide +kernel) (by decide +kernel) rfl (Nat.le_of_ble_eq_true rfl) rfl ?_
                                                refine zw_aload_n 1 f105_0 rfl rfl ?_
                                                refine zw_iload_n 2 f105_1 rfl rfl ?_
                                                refine zw_put _ 5 f105_2 rfl g105_70_11 (hb_0 _ _ _ _) rfl (Nat.le_of_ble_eq_true rfl) (by decide +kernel) (hi_0_7 _ _ _ _ _) ?_
                                                refine zw_iconst (-1) 6 f105_5 rfl (by decide +kernel) ?_
                                                refine zw_ireturn f105_6 r105 u105 ⟨_, rfl, ?_⟩
                                                refine zw_ireturn f109_49 r109 u109 ⟨_, rfl, ?_⟩
                                                refine zw_ireturn f103_91 r103 u103 ?_
                                                exact ⟨_, _, _, _, rfl, (KP.i rfl KP.rf), ⟨⟨hI.1, hI.2.1, t, by omega, et⟩, PE.of10 rfl rfl rfl rfl rfl rfl rfl rfl rfl rfl⟩, _, rfl⟩
                                              · refine zw_iconst 1 11 f112_10 rfl (by decide +kernel) ?_
                                                refine zw_goto 15 f112_11 (by decide +kernel) ?_
                                                refine zw_zreturn f112_15 r112 u112 (by decide +kernel) ⟨_, rfl, ?_⟩
                                                refine zw_if_eq_f 18 37 f114_15 (by decide +kernel) rfl (by decide +kernel) ?_
                                                refine zw_iload_n 19 f114_18 rfl (zl1_ne rfl rfl zl1_eq) ?_
                                                refine zw_iload_n 20 f114_19 rfl (zl1_ne rfl rfl (zl1_ne rfl rfl (zl1_ne rfl rfl (zl1_ne rfl rfl (zl1_ne rfl rfl (zl1_ne rfl rfl rfl)))))) ?_
                                                refine zw_ic_ne 23 25 f114_20 (by decide +kernel) rfl (fun hc175 => ?_) (fun hc175 => ?_)
                                                · refine zw_getstatic 28 f114_25 rfl (by decide +kernel) ?_
                                                  refine zw_iload_n 29 f114_28 rfl (zl1_ne rfl rfl zl1_eq) ?_
                                                  refine zw_iaload_f (zka (zka (A 2 ((c - c / 8 * 8) + 8).toNatClampNeg).toNatClampNeg).toNatClampNeg).toNatClampNeg 5 (zka (zka (zka (A 2 ((c - c / 8 * 8) + 8).toNatClampNeg).toNatClampNeg).toNatClampNeg).toNatClampNeg) 30 f114_29 rfl hro.1 rfl hc173 (zix (by decide) hc173 (n45 hc174)) (congrFun hro.2 _) ?_
                                                  refine zw_istore_n _ 31 f114_30 rfl (by decide +kernel) rfl ?_
                                                  refine zw_iinc 3 _ 34 f114_31 rfl (zl1_ne rfl rfl zl1_eq) (by decide +kernel) (by decide +kernel) rfl ?_
                                                  refine zw_goto 4 f114_34 (by decide +kernel) ?_
                                                  refine zw_iload_n 5 f114_4 rfl zl1_eq ?_
                                                  refine zw_iconst 5 6 f114_5 rfl (by decide +kernel) ?_
                                                  refine zw_ic_ge_f 9 37 f114_6 (by decide +kernel) rfl (by decide +kernel) ?_
                                                  refine zw_iload_n 10 f114_9 rfl (zl1_ne rfl rfl zl1_eq) ?_
                                                  refine zw_iconst 0 11 f114_10 rfl (by decide +kernel) ?_
                                                  refine zw_iconst 4 12 f114_11 rfl (by decide +kernel) ?_
                                                  refine zw_static_i 15 0 0 [.int (zka (zka (zka (A 2 ((c - c / 8 * 8) + 8).toNatClampNeg).toNatClampNeg).toNatClampNeg).toNatClampNeg), .int 0, .int 4] [] [(0, .int (zka (zka (zka (A 2 ((c - c / 8 * 8) + 8).toNatClampNeg).toNatClampNeg).toNatClampNeg).toNatClampNeg)), (1, .int 0), (2, .int 4)] f114_12 rfl k114_74_99 rfl (by decide +kernel) (Nat.le_of_ble_eq_true rfl) (Nat.le_of_ble_eq_true rfl) rfl rfl (by decide +kernel) (by decide +kernel) rfl (Nat.le_of_ble_eq_true rfl) rfl ?_
                                                  refine zw_iload_n 1 f112_0 rfl rfl ?_
                                                  refine zw_iload_n 2 f112_1 rfl rfl ?_
                                                  refine zw_ic_lt 5 14 f112_2 (by decide +kernel) rfl (fun hc176 => ?_) (fun hc176 => ?_)
                                                  · refine zw_iconst 0 15 f112_14 rfl (by decide +kernel) ?_
                                                    refine zw_zreturn f112_15 r112 u112 (by decide +kernel) ⟨_, rfl, ?_⟩
                                                    refine zw_if_eq_t 37 f114_15 (by decide +kernel) (by decide +kernel) ?_
                                                    refine zw_iconst 0 38 f114_37 rfl (by decide +kernel) ?_
                                                    refine zw_zreturn f114_38 r114 u114 (by decide +kernel) ⟨_, rfl, ?_⟩
                                                    refine zw_if_eq_t 43 f109_32 (by decide +kernel) (by decide +kernel) ?_
                                                    refine zw_aload_n 44 f109_43 rfl (zl1_ne rfl rfl rfl) ?_
                                                    refine zw_bipush 11 46 f109_44 rfl (by decide +kernel) ?_
                                                    refine zw_virtual_i 49 0 0 [.ref 0, .int 11] [(0, .ref 0), (1, .int 11)] f109_46 rfl n109_78 k109_78_11 rfl (hb_0 _ _ _ _) (by decide +kernel) (Nat.le_of_ble_eq_true rfl) rfl rfl (by decide +kernel) (by decide +kernel) rfl (Nat.le_of_ble_eq_true rfl) rfl ?_
                                                    refine zw_aload_n 1 f105_0 rfl rfl ?_
                                                    refine zw_iload_n 2 f105_1 rfl rfl ?_
                                                    refine zw_put _ 5 f105_2 rfl g105_70_11 (hb_0 _ _ _ _) rfl (Nat.le_of_ble_eq_true rfl) (by decide +kernel) (hi_0_7 _ _ _ _ _) ?_
                                                    refine zw_iconst (-1) 6 f105_5 rfl (by decide +kernel) ?_
                                                    refine zw_ireturn f105_6 r105 u105 ⟨_, rfl, ?_⟩
                                                    refine zw_ireturn f109_49 r109 u109 ⟨_, rfl, ?_⟩
                                                    refine zw_ireturn f103_91 r103 u103 ?_
                                                    exact ⟨_, _, _, _, rfl, (KP.i rfl KP.rf), ⟨⟨hI.1, hI.2.1, t, by omega, et⟩, PE.of10 rfl rfl rfl rfl rfl rfl rfl rfl rfl rfl⟩, _, rfl⟩
                                                  · refine zw_iload_n 6 f112_5 rfl rfl ?_
                                                    refine zw_iload_n 7 f112_6 rfl rfl ?_
                                                    refine zw_ic_gt 10 14 f112_7 (by decide +kernel) rfl (fun hc177 => ?_) (fun hc177 => ?_)
                                                    · refine zw_iconst 0 15 f112_14 rfl (by decide +kernel) ?_
                                                      refine zw_zreturn f112_15 r112 u112 (by decide +kernel) ⟨_, rfl, ?_⟩
                                                      refine zw_if_eq_t 37 f114_15 (by decide +kernel) (by decide +kernel) ?_
                                                      refine zw_iconst 0 38 f114_37 rfl (by decide +kernel) ?_
                                                      refine zw_zreturn f114_38 r114 u114 (by decide +kernel) ⟨_, rfl, ?_⟩
                                                      refine zw_if_eq_t 43 f109_32 (by decide +kernel) (by decide +kernel) ?_
                                                      refine zw_aload_n 44 f109_43 rfl (zl1_ne rfl rfl rfl) ?_
                                                      refine zw_bipush 11 46 f109_44 rfl (by decide +kernel) ?_
                                                      refine zw_virtual_i 49 0 0 [.ref 0, .int 11] [(0, .ref 0), (1, .int 11)] f109_46 rfl n109_78 k109_78_11 rfl (hb_0 _ _ _ _) (by decide +kernel) (Nat.le_of_ble_eq_true rfl) rfl rfl (by decide +kernel) (by decide +kernel) rfl (Nat.le_of_ble_eq_true rfl) rfl ?_
                                                      refine zw_aload_n 1 f105_0 rfl rfl ?_
                                                      refine zw_iload_n 2 f105_1 rfl rfl ?_
                                                      refine zw_put _ 5 f105_2 rfl g105_70_11 (hb_0 _ _ _ _) rfl (Nat.le_of_ble_eq_true rfl) (by decide +kernel) (hi_0_7 _ _ _ _ _) ?_
                                                      refine zw_iconst (-1) 6 f105_5 rfl (by decide +kernel) ?_
                                                      refine zw_ireturn f105_6 r105 u105 ⟨_, rfl, ?_⟩
                                                      refine zw_ireturn f109_49 r109 u109 ⟨_, rfl, ?_⟩
                                                      refine zw_ireturn f103_91 r103 u103 ?_
                                                      exact ⟨_, _, _, _, rfl, (KP.i rfl KP.rf), ⟨⟨hI.1, hI.2.1, t, by omega, et⟩, PE.of10 rfl rfl rfl rfl rfl rfl rfl rfl rfl rfl⟩, _, rfl⟩
                                                    · refine zw_iconst 1 11 f112_10 rfl (by decide +kernel) ?_
                                                      refine zw_goto 15 f112_11 (by decide +kernel) ?_
                                                      refine zw_zreturn f112_15 r112 u112 (by decide +kernel) ⟨_, rfl, ?_⟩
                                                      refine zw_if_eq_f 18 37 f114_15 (by decide +kernel) rfl (by decide +kernel) ?_
                                                      refine zw_iload_n 19 f114_18 rfl (zl1_ne rfl rfl zl1_eq) ?_
                                                      refine zw_iload_n 20 f114_19 rfl (zl1_ne rfl rfl (zl1_ne rfl rfl (zl1_ne rfl rfl (zl1_ne rfl rfl (zl1_ne rfl rfl (zl1_ne rfl rfl (zl1_ne rfl rfl (zl1_ne rfl rfl rfl)))))))) ?_
                                                      refine zw_ic_ne 23 25 f114_20 (by decide +kernel) rfl (fun hc178 => ?_) (fun hc178 => ?_)
                                                      · refine zw_getstatic 28 f114_25 rfl (by decide +kernel) ?_
                                                        refine zw_iload_n 29 f114_28 rfl (zl1_ne rfl rfl zl1_eq) ?_
                                                        refine zw_iaload_f (zka (zka (zka (A 2 ((c - c / 8 * 8) + 8).toNatClampNeg).toNatClampNeg).toNatClampNeg).toNatClampNeg).toNatClampNeg 5 (zka (zka (zka (zka (A 2 ((c - c / 8 * 8) + 8).toNatClampNeg).toNatClampNeg).toNatClampNeg).toNatClampNeg).toNatClampNeg) 30 f114_29 rfl hro.1 rfl hc176 (zix (by decide) hc176 (n45 hc177)) (congrFun hro.2 _) ?_
                                                        refine zw_istore_n _ 31 f114_30 rfl (by decide +kernel) rfl ?_
                                                        refine zw_iinc 4 _ 34 f114_31 rfl (zl1_ne rfl rfl zl1_eq) (by decide +kernel) (by decide +kernel) rfl ?_
                                                        refine zw_goto 4 f114_34 (by decide +kernel) ?_
                                                        refine zw_iload_n 5 f114_4 rfl zl1_eq ?_
                                                        refine zw_iconst 5 6 f114_5 rfl (by decide +kernel) ?_
                                                        refine zw_ic_ge_f 9 37 f114_6 (by decide +kernel) rfl (by decide +kernel) ?_
                                                        refine zw_iload_n 10 f114_9 rfl (zl1_ne rfl rfl zl1_eq) ?_
                                                        refine zw_iconst 0 11 f114_10 rfl (by decide +kernel) ?_
                                                        refine zw_iconst 4 12 f114_11 rfl (by decide +kernel) ?_
                                                        refine zw_static_i 15 0 0 [.int (zka (zka (zka (zka (A 2 ((c - c / 8 * 8) + 8).toNatClampNeg).toNatClampNeg).toNatClampNeg).toNatClampNeg).toNatClampNeg), .int 0, .int 4] [] [(0, .int (zka (zka (zka (zka (A 2 ((c - c / 8 * 8) + 8).toNatClampNeg).toNatClampNeg).toNatClampNeg).toNatClampNeg).toNatClampNeg)), (1, .int 0), (2, .int 4)] f114_12 rfl k114_74_99 rfl (by decide +kernel) (Nat.le_of_ble_eq_true rfl) (Nat.le_of_ble_eq_true rfl) rfl rfl (by decide +kernel) (by decide +kernel) rfl (Nat.le_of_ble_eq_true rfl) rfl ?_
                                                        refine zw_iload_n 1 f112_0 rfl rfl ?_
                                                        refine zw_iload_n 2 f112_1 rfl rfl ?_
                                                        refine zw_ic_lt 5 14 f112_2 (by decide +kernel) rfl (fun hc179 => ?_) (fun hc179 => ?_)
                                                        · refine zw_iconst 0 15 f112_14 rfl (by decide +kernel) ?_
                                                          refine zw_zreturn f112_15 r112 u112 (by decide +kernel) ⟨_, rfl, ?_⟩
                                                          refine zw_if_eq_t 37 f114_15 (by decide +kernel) (by decide +kernel) ?_
                                                          refine zw_iconst 0 38 f114_37 rfl (by decide +kernel) ?_
                                                          refine zw_zreturn f114_38 r114 u114 (by decide +kernel) ⟨_, rfl, ?_⟩
                                                          refine zw_if_eq_t 43 f109_32 (by decide +kernel) (by decide +kernel) ?_
                                                          refine zw_aload_n 44 f109_43 rfl (zl1_ne rfl rfl rfl) ?_
                                                          refine zw_bipush 11 46 f109_44 rfl (by decide +kernel) ?_
                                                          refine zw_virtual_i 49 0 0 [.ref 0, .int 11] [(0, .ref 0), (1, .int 11)] f109_46 rfl n109_78 k109_78_11 rfl (hb_0 _ _ _ _) (by decide +kernel) (Nat.le_of_ble_eq_true rfl) rfl rfl (by decide +kernel) (by decide +kernel) rfl (Nat.le_of_ble_eq_true rfl) rfl ?_
                                                          refine zw_aload_n 1 f105_0 rfl rfl ?_
                                                          refine zw_iload_n 2 f105_1 rfl rfl ?_
                                                          refine zw_put _ 5 f105_2 rfl g105_70_11 (hb_0 _ _ _ _) rfl (Nat.le_of_ble_eq_true rfl) (by decide +kernel) (hi_0_7 _ _ _ _ _) ?_
                                                          refine zw_iconst (-1) 6 f105_5 rfl (by decide +kernel) ?_
                                                          refine zw_ireturn f105_6 r105 u105 ⟨_, rfl, ?_⟩
                                                          refine zw_ireturn f109_49 r109 u109 ⟨_, rfl, ?_⟩
                                                          refine zw_ireturn f103_91 r103 u103 ?_
                                                          exact ⟨_, _, _, _, rfl, (KP.i rfl KP.rf), ⟨⟨hI.1, hI.2.1, t, by omega, et⟩, PE.of10 rfl rfl rfl rfl rfl rfl rfl rfl rfl rfl⟩, _, rfl⟩
                                                        · refine zw_iload_n 6 f112_5 rfl rfl ?_
                                                          refine zw_iload_n 7 f112_6 rfl rfl ?_
                                                          refine zw_ic_gt 10 14 f112_7 (by decide +kernel) rfl (fun hc180 => ?_) (fun hc180 => ?_)
                                                          · refine zw_iconst 0 15 f112_14 rfl (by decide +kernel) ?_
                                                            refine zw_zreturn f112_15 r112 u112 (by decide +kernel) ⟨_, rfl, ?_⟩
                                                            refine zw_if_eq_t 37 f114_15 (by decide +kernel) (by decide +kernel) ?_
                                                            refine zw_iconst 0 38 f114_37 rfl (by decide +kernel) ?_
                                                            refine zw_zreturn f114_38 r114 u114 (by decide +kernel) ⟨_, rfl, ?_⟩
                                                            refine zw_if_eq_t 43 f109_32 (by decide +kernel) (by decide +kernel) ?_
                                                            refine zw_aload_n 44 f109_43 rfl (zl1_ne rfl rfl rfl) ?_
                                                            refine zw_bipush 11 46 f109_44 rfl (by decide +kernel) ?_
                                                            refine zw_virtual_i 49 0 0 [.ref 0, .int 11] [(0, .ref 0), (1, .int 11)] f109_46 rfl n109_78 k109_78_11 rfl (hb_0 _ _ _ _) (by decide +kernel) (Nat.le_of_ble_eq_true rfl) rfl rfl (by decide +kernel) (by decide +kernel) rfl (Nat.le_of_ble_eq_true rfl) rfl ?_
                                                            refine zw_aload_n 1 f105_0 rfl rfl ?_
                                                            refine zw_iload_n 2 f105_1 rfl rfl ?_
                                                            refine zw_put _ 5 f105_2 rfl g105_70_11 (hb_0 _ _ _ _) rfl (Nat.le_of_ble_eq_true rfl) (by decide +kernel) (hi_0_7 _ _ _ _ _) ?_
                                                            refine zw_iconst (-1) 6 f105_5 rfl (by decide +kernel) ?_
                                                            refine zw_ireturn f105_6 r105 u105 ⟨_, rfl, ?_⟩
                                                            refine zw_ireturn f109_49 r109 u109 ⟨_, rfl, ?_⟩
                                                            refine zw_ireturn f103_91 r103 u103 ?_
                                                            exact ⟨_, _, _, _, rfl, (KP.i rfl KP.rf), ⟨⟨hI.1, hI.2.1, t, by omega, et⟩, PE.of10 rfl rfl rfl rfl rfl rfl rfl rfl rfl rfl⟩, _, rfl⟩
                                                          · refine zw_iconst 1 11 f112_10 rfl (by decide +kernel) ?_
                                                            refine zw_goto 15 f112_11 (by decide +kernel) ?_
                                                            refine zw_zreturn f112_15 r112 u112 (by decide +kernel) ⟨_, rfl, ?_⟩
                                                            refine zw_if_eq_f 18 37 f114_15 (by decide +kernel) rfl (by decide +kernel) ?_
                                                            refine zw_iload_n 19 f114_18 rfl (zl1_ne rfl rfl zl1_eq) ?_
                                                            refine zw_iload_n 20 f114_19 rfl (zl1_ne rfl rfl (zl1_ne rfl rfl (zl1_ne rfl rfl (zl1_ne rfl rfl (zl1_ne rfl rfl (zl1_ne rfl rfl (zl1_ne rfl rfl (zl1_ne rfl rfl (zl1_ne rfl rfl (zl1_ne rfl rfl rfl)))))))))) ?_
                                                            refine zw_ic_ne 23 25 f114_20 (by decide +kernel) rfl (fun hc181 => ?_) (fun hc181 => ?_)
                                                            · refine zw_getstatic 28 f114_25 rfl (by decide +kernel) ?_
                                                              refine zw_iload_n 29 f114_28 rfl (zl1_ne rfl rfl zl1_eq) ?_
                                                              refine zw_iaload_f (zka (zka (zka (zka (A 2 ((c - c / 8 * 8) + 8).toNatClampNeg).toNatClampNeg).toNatClampNeg).toNatClampNeg).toNatClampNeg).toNatClampNeg 5 (zka (zka (zka (zka (zka (A 2 ((c - c / 8 * 8) + 8).toNatClampNeg).toNatClampNeg).toNatClampNeg).toNatClampNeg).toNatClampNeg).toNatClampNeg) 30 f114_29 rfl hro.1 rfl hc179 (zix (by decide) hc179 (n45 hc180)) (congrFun hro.2 _) ?_
                                                              refine zw_istore_n _ 31 f114_30 rfl (by decide +kernel) rfl ?_
                                                              refine zw_iinc 5 _ 34 f114_31 rfl (zl1_ne rfl rfl zl1_eq) (by decide +kernel) (by decide +kernel) rfl ?_
                                                              refine zw_goto 4 f114_34 (by decide +kernel) ?_
                                                              refine zw_iload_n 5 f114_4 rfl zl1_eq ?_
                                                              refine zw_iconst 5 6 f114_5 rfl (by decide +kernel) ?_
                                                              refine zw_ic_ge_t 37 f114_6 (by decide +kernel) (by decide +kernel) ?_
                                                              refine zw_iconst 0 38 f114_37 rfl (by decide +kernel) ?_
                                                              refine zw_zreturn f114_38 r114 u114 (by decide +kernel) ⟨_, rfl, ?_⟩
                                                              refine zw_if_eq_t 43 f109_32 (by decide +kernel) (by decide +kernel) ?_
                                                              refine zw_aload_n 44 f109_43 rfl (zl1_ne rfl rfl rfl) ?_
                                                              refine zw_bipush 11 46 f109_44 rfl (by decide +kernel) ?_
                                                              refine zw_virtual_i 49 0 0 [.ref 0, .int 11] [(0, .ref 0), (1, .int 11)] f109_46 rfl n109_78 k109_78_11 rfl (hb_0 _ _ _ _) (by decide +kernel) (Nat.le_of_ble_eq_true rfl) rfl rfl (by decide +kernel) (by decide +kernel) rfl (Nat.le_of_ble_eq_true rfl) rfl ?_
                                                              refine zw_aload_n 1 f105_0 rfl rfl ?_
                                                              refine zw_iload_n 2 f105_1 rfl rfl ?_
                                                              refine zw_put _ 5 f105_2 rfl g105_70_11 (hb_0 _ _ _ _) rfl (Nat.le_of_ble_eq_true rfl) (by decide +kernel) (hi_0_7 _ _ _ _ _) ?_
                                                              refine zw_iconst (-1) 6 f105_5 rfl (by decide +kernel) ?_
                                                              refine zw_ireturn f105_6 r105 u105 ⟨_, rfl, ?_⟩
                                                              refine zw_ireturn f109_49 r109 u109 ⟨_, rfl, ?_⟩
                                                              refine zw_ireturn f103_91 r103 u103 ?_
                                                              exact ⟨_, _, _, _, rfl, (KP.i rfl KP.rf), ⟨⟨hI.1, hI.2.1, t, by omega, et⟩, PE.of10 rfl rfl rfl rfl rfl rfl rfl rfl rfl rfl⟩, _, rfl⟩
                                                            · refine zw_iconst 1 24 f114_23 rfl (by decide +kernel) ?_
                                                              refine zw_zreturn f114_24 r114 u114 (by decide +kernel) ⟨_, rfl, ?_⟩
                                                              refine zw_if_eq_f 35 43 f109_32 (by decide +kernel) rfl (by decide +kernel) ?_
                                                              refine zw_aload_n 36 f109_35 rfl (zl1_ne rfl rfl rfl) ?_
                                                              refine zw_iload_n 37 f109_36 rfl zl1_eq ?_
                                                              refine zw_virtual_i 40 0 0 [.ref 0, .int (A 2 ((c - c / 8 * 8) + 8).toNatClampNeg)] [(0, .ref 0), (1, .int (A 2 ((c - c / 8 * 8) + 8).toNatClampNeg))] f109_37 rfl n109_181 k109_181_11 rfl (hb_0 _ _ _ _) (by decide +kernel) (Nat.le_of_ble_eq_true rfl) rfl rfl (by decide +kernel) (by decide +kernel) rfl (Nat.le_of_ble_eq_true rfl) rfl ?_
                                                              refine zw_aload_n 1 f106_0 rfl rfl ?_
                                                              refine zw_iconst 0 2 f106_1 rfl (by decide +kernel) ?_
                                                              refine zw_put _ 5 f106_2 rfl g106_70_11 (hb_0 _ _ _ _) rfl (Nat.le_of_ble_eq_true rfl) (by decide +kernel) (hi_0_7 _ _ _ _ _) ?_
                                                              refine zw_iload_n 6 f106_5 rfl rfl ?_
                                                              refine zw_ireturn f106_6 r106 u106 ⟨_, rfl, ?_⟩
                                                              refine zw_goto 49 f109_40 (by decide +kernel) ?_
                                                              refine zw_ireturn f109_49 r109 u109 ⟨_, rfl, ?_⟩
                                                              refine zw_ireturn f103_91 r103 u103 ?_
                                                              exact ⟨_, _, _, _, rfl, (KP.i rfl KP.rf), ⟨⟨hI.1, hI.2.1, t, by omega, et⟩, PE.of10 rfl rfl rfl rfl rfl rfl rfl rfl rfl rfl⟩, _, rfl⟩
                                                      · refine zw_iconst 1 24 f114_23 rfl (by decide +kernel) ?_
                                                        refine zw_zreturn f114_24 r114 u114 (by decide +kernel) ⟨_, rfl, ?_⟩
                                                        refine zw_if_eq_f 35 43 f109_32 (by decide +kernel) rfl (by decide +kernel) ?_
                                                        refine zw_aload_n 36 f109_35 rfl (zl1_ne rfl rfl rfl) ?_
                                                        refine zw_iload_n 37 f109_36 rfl zl1_eq ?_
                                                        refine zw_virtual_i 40 0 0 [.ref 0, .int (A 2 ((c - c / 8 * 8) + 8).toNatClampNeg)] [(0, .ref 0), (1, .int (A 2 ((c - c / 8 * 8) + 8).toNatClampNeg))] f109_37 rfl n109_181 k109_181_11 rfl (hb_0 _ _ _ _) (by decide +kernel) (Nat.le_of_ble_eq_true rfl) rfl rfl (by decide +kernel) (by decide +kernel) rfl (Nat.le_of_ble_eq_true rfl) rfl ?_
                                                        refine zw_aload_n 1 f106_0 rfl rfl ?_
                                                        refine zw_iconst 0 2 f106_1 rfl (by decide +kernel) ?_
                                                        refine zw_put _ 5 f106_2 rfl g106_70_11 (hb_0 _ _ _ _) rfl (Nat.le_of_ble_eq_true rfl) (by decide +kernel) (hi_0_7 _ _ _ _ _) ?_
                                                        refine zw_iload_n 6 f106_5 rfl rfl ?_
                                                        refine zw_ireturn f106_6 r106 u106 ⟨_, rfl, ?_⟩
                                                        refine zw_goto 49 f109_40 (by decide +kernel) ?_
                                                        refine zw_ireturn f109_49 r109 u109 ⟨_, rfl, ?_⟩
                                                        refine zw_ireturn f103_91 r103 u103 ?_
                                                        exact ⟨_, _, _, _, rfl, (KP.i rfl KP.rf), ⟨⟨hI.1, hI.2.1, t, by omega, et⟩, PE.of10 rfl rfl rfl rfl rfl rfl rfl rfl rfl rfl⟩, _, rfl⟩
                                                · refine zw_iconst 1 24 f114_23 rfl (by decide +kernel) ?_
                                                  refine zw_zreturn f114_24 r114 u114 (by decide +kernel) ⟨_, rfl, ?_⟩
                                                  refine zw_if_eq_f 35 43 f109_32 (by decide +kernel) rfl (by decide +kernel) ?_
                                                  refine zw_aload_n 36 f109_35 rfl (zl1_ne rfl rfl rfl) ?_
                                                  refine zw_iload_n 37 f109_36 rfl zl1_eq ?_
                                                  refine zw_virtual_i 40 0 0 [.ref 0, .int (A 2 ((c - c / 8 * 8) + 8).toNatClampNeg)] [(0, .ref 0), (1, .int (A 2 ((c - c / 8 * 8) + 8).toNatClampNeg))] f109_37 rfl n109_181 k109_181_11 rfl (hb_0 _ _ _ _) (by decide +kernel) (Nat.le_of_ble_eq_true rfl) rfl rfl (by decide +kernel) (by decide +kernel) rfl (Nat.le_of_ble_eq_true rfl) rfl ?_
                                                  refine zw_aload_n 1 f106_0 rfl rfl ?_
                                                  refine zw_iconst 0 2 f106_1 rfl (by decide +kernel) ?_
                                                  refine zw_put _ 5 f106_2 rfl g106_70_11 (hb_0 _ _ _ _) rfl (Nat.le_of_ble_eq_true rfl) (by decide +kernel) (hi_0_7 _ _ _ _ _) ?_
                                                  refine zw_iload_n 6 f106_5 rfl rfl ?_
                                                  refine zw_ireturn f106_6 r106 u106 ⟨_, rfl, ?_⟩
                                                  refine zw_goto 49 f109_40 (by decide +kernel) ?_
                                                  refine zw_ireturn f109_49 r109 u109 ⟨_, rfl, ?_⟩
                                                  refine zw_ireturn f103_91 r103 u103 ?_
                                                  exact ⟨_, _, _, _, rfl, (KP.i rfl KP.rf), ⟨⟨hI.1, hI.2.1, t, by omega, et⟩, PE.of10 rfl rfl rfl rfl rfl rfl rfl rfl rfl rfl⟩, _, rfl⟩
                                          · refine zw_iconst 1 24 f114_23 rfl (by decide +kernel) ?_
                                            refine zw_zreturn f114_24 r114 u114 (by decide +kernel) ⟨_, rfl, ?_⟩
                                            refine zw_if_eq_f 35 43 f109_32 (by decide +kernel) rfl (by decide +kernel) ?_
                                            refine zw_aload_n 36 f109_35 rfl (zl1_ne rfl rfl rfl) ?_
                                            refine zw_iload_n 37 f109_36 rfl zl1_eq ?_
                                            refine zw_virtual_i 40 0 0 [.ref 0, .int (A 2 ((c - c / 8 * 8) + 8).toNatClampNeg)] [(0, .ref 0), (1, .int (A 2 ((c - c / 8 * 8) + 8).toNatClampNeg))] f109_37 rfl n109_181 k109_181_11 rfl (hb_0 _ _ _ _) (by decide +kernel) (Nat.le_of_ble_eq_true rfl) rfl rfl (by decide +kernel) (by decide +kernel) rfl (Nat.le_of_ble_eq_true rfl) rfl ?_
                                            refine zw_aload_n 1 f106_0 rfl rfl ?_
                                            refine zw_iconst 0 2 f106_1 rfl (by decide +kernel) ?_
                                            refine zw_put _ 5 f106_2 rfl g106_70_11 (hb_0 _ _ _ _) rfl (Nat.le_of_ble_eq_true rfl) (by decide +kernel) (hi_0_7 _ _ _ _ _) ?_
                                            refine zw_iload_n 6 f106_5 rfl rfl ?_
                                            refine zw_ireturn f106_6 r106 u106 ⟨_, rfl, ?_⟩
                                            refine zw_goto 49 f109_40 (by decide +kernel) ?_
                                            refine zw_ireturn f109_49 r109 u109 ⟨_, rfl, ?_⟩
                                            refine zw_ireturn f103_91 r103 u103 ?_
                                            exact ⟨_, _, _, _, rfl, (KP.i rfl KP.rf), ⟨⟨hI.1, hI.2.1, t, by omega, et⟩, PE.of10 rfl rfl rfl rfl rfl rfl rfl rfl rfl rfl⟩, _, rfl⟩
                                    · refine zw_iconst 1 24 f114_23 rfl (by decide +kernel) ?_
                                      refine zw_zreturn f114_24 r114 u114 (by decide +kernel) ⟨_, rfl, ?_⟩
                                      refine zw_if_eq_f 35 43 f109_32 (by decide +kernel) rfl (by decide +kernel) ?_
                                      refine zw_aload_n 36 f109_35 rfl (zl1_ne rfl rfl rfl) ?_
                                      refine zw_iload_n 37 f109_36 rfl zl1_eq ?_
                                      refine zw_virtual_i 40 0 0 [.ref 0, .int (A 2 ((c - c / 8 * 8) + 8).toNatClampNeg)] [(0, .ref 0), (1, .int (A 2 ((c - c / 8 * 8) + 8).toNatClampNeg))] f109_37 rfl n109_181 k109_181_11 rfl (hb_0 _ _ _ _) (by decide +kernel) (Nat.le_of_ble_eq_true rfl) rfl rfl (by decide +kernel) (by decide +kernel) rfl (Nat.le_of_ble_eq_true rfl) rfl ?_
                                      refine zw_aload_n 1 f106_0 rfl rfl ?_
                                      refine zw_iconst 0 2 f106_1 rfl (by decide +kernel) ?_
                                      refine zw_put _ 5 f106_2 rfl g106_70_11 (hb_0 _ _ _ _) rfl (Nat.le_of_ble_eq_true rfl) (by decide +kernel) (hi_0_7 _ _ _ _ _) ?_
                                      refine zw_iload_n 6 f106_5 rfl rfl ?_
                                      refine zw_ireturn f106_6 r106 u106 ⟨_, rfl, ?_⟩
                                      refine zw_goto 49 f109_40 (by decide +kernel) ?_
                                      refine zw_ireturn f109_49 r109 u109 ⟨_, rfl, ?_⟩
                                      refine zw_ireturn f103_91 r103 u103 ?_
                                      exact ⟨_, _, _, _, rfl, (KP.i rfl KP.rf), ⟨⟨hI.1, hI.2.1, t, by omega, et⟩, PE.of10 rfl rfl rfl rfl rfl rfl rfl rfl rfl rfl⟩, _, rfl⟩
                · refine zw_table_k 53 92 f103_39 hs7e (by decide +kernel) (by decide +kernel) (by decide +kernel) ?_
                  refine zw_iload_n 93 f103_92 rfl rfl ?_
                  refine zw_if_ge 96 105 f103_93 (by decide +kernel) rfl (fun hc182 => ?_) (fun hc182 => ?_)
                  · refine zw_aload_n 106 f103_105 rfl rfl ?_
                    refine zw_iload_n 107 f103_106 rfl rfl ?_
                    refine zw_virtual_i 110 0 0 [.ref 0, .int b] [(0, .ref 0), (1, .int b)] f103_107 rfl n103_181 k103_181_11 rfl (hb_0 _ _ _ _) (by decide +kernel) (Nat.le_of_ble_eq_true rfl) rfl rfl (by decide +kernel) (by decide +kernel) rfl (Nat.le_of_ble_eq_true rfl) rfl ?_
                    refine zw_aload_n 1 f106_0 rfl rfl ?_
                    refine zw_iconst 0 2 f106_1 rfl (by decide +kernel) ?_
                    refine zw_put _ 5 f106_2 rfl g106_70_11 (hb_0 _ _ _ _) rfl (Nat.le_of_ble_eq_true rfl) (by decide +kernel) (hi_0_7 _ _ _ _ _) ?_
                    refine zw_iload_n 6 f106_5 rfl rfl ?_
                    refine zw_ireturn f106_6 r106 u106 ⟨_, rfl, ?_⟩
                    refine zw_ireturn f103_110 r103 u103 ?_
                    exact ⟨_, _, _, _, rfl, (KP.i rfl KP.rf), ⟨⟨hI.1, hI.2.1, t, by omega, et⟩, PE.of10 rfl rfl rfl rfl rfl rfl rfl rfl rfl rfl⟩, _, rfl⟩
                  · refine zw_aload_n 97 f103_96 rfl rfl ?_
                    refine zw_bipush 13 99 f103_97 rfl (by decide +kernel) ?_
                    refine zw_virtual_i 102 0 0 [.ref 0, .int 13] [(0, .ref 0), (1, .int 13)] f103_99 rfl n103_78 k103_78_11 rfl (hb_0 _ _ _ _) (by decide +kernel) (Nat.le_of_ble_eq_true rfl) rfl rfl (by decide +kernel) (by decide +kernel) rfl (Nat.le_of_ble_eq_true rfl) rfl ?_
                    refine zw_aload_n 1 f105_0 rfl rfl ?_
                    refine zw_iload_n 2 f105_1 rfl rfl ?_
                    refine zw_put _ 5 f105_2 rfl g105_70_11 (hb_0 _ _ _ _) rfl (Nat.le_of_ble_eq_true rfl) (by decide +kernel) (hi_0_7 _ _ _ _ _) ?_
                    refine zw_iconst (-1) 6 f105_5 rfl (by decide +kernel) ?_
                    refine zw_ireturn f105_6 r105 u105 ⟨_, rfl, ?_⟩
                    refine zw_goto 110 f103_102 (by decide +kernel) ?_
                    refine zw_ireturn f103_110 r103 u103 ?_
                    exact ⟨_, _, _, _, rfl, (KP.i rfl KP.rf), ⟨⟨hI.1, hI.2.1, t, by omega, et⟩, PE.of10 rfl rfl rfl rfl rfl rfl rfl rfl rfl rfl⟩, _, rfl⟩
                · refine zw_table_k 72 111 f103_39 hs7e (by decide +kernel) (by decide +kernel) (by decide +kernel) ?_
                  refine zw_aload_n 112 f103_111 rfl rfl ?_
                  refine zw_getfield 115 f103_112 rfl g103_10_11 (hb_0 _ _ _ _) rfl ?_
                  refine zw_iload_n 116 f103_115 rfl rfl ?_
                  refine zw_virtual_i 119 0 0 [.ref 1, .int b] [(0, .ref 1), (1, .int b)] f103_116 rfl n103_89 k103_89_4 rfl (hb_1 _ _ _ _) (by decide +kernel) (Nat.le_of_ble_eq_true rfl) rfl rfl (by decide +kernel) (by decide +kernel) rfl (Nat.le_of_ble_eq_true rfl) rfl ?_
                  refine zw_iload_n 1 f13_0 rfl rfl ?_
                  refine zw_if_lt 4 22 f13_1 (by decide +kernel) rfl (fun hc183 => ?_) (fun hc183 => ?_)
                  · refine zw_iconst 0 23 f13_22 rfl (by decide +kernel) ?_
                    refine zw_zreturn f13_23 r13 u13 (by decide +kernel) ⟨_, rfl, ?_⟩
                    refine zw_if_eq_t 138 f103_119 (by decide +kernel) (by decide +kernel) ?_
                    refine zw_aload_n 139 f103_138 rfl rfl ?_
                    refine zw_bipush 12 141 f103_139 rfl (by decide +kernel) ?_
                    refine zw_virtual_i 144 0 0 [.ref 0, .int 12] [(0, .ref 0), (1, .int 12)] f103_141 rfl n103_78 k103_78_11 rfl (hb_0 _ _ _ _) (by decide +kernel) (Nat.le_of_ble_eq_true rfl) rfl rfl (by decide +kernel) (by decide +kernel) rfl (Nat.le_of_ble_eq_true rfl) rfl ?_
                    refine zw_aload_n 1 f105_0 rfl rfl ?_
                    refine zw_iload_n 2 f105_1 rfl rfl ?_
                    refine zw_put _ 5 f105_2 rfl g105_70_11 (hb_0 _ _ _ _) rfl (Nat.le_of_ble_eq_true rfl) (by decide +kernel) (hi_0_7 _ _ _ _ _) ?_
                    refine zw_iconst (-1) 6 f105_5 rfl (by decide +kernel) ?_
                    refine zw_ireturn f105_6 r105 u105 ⟨_, rfl, ?_⟩
                    refine zw_ireturn f103_144 r103 u103 ?_
                    exact ⟨_, _, _, _, rfl, (KP.i rfl KP.rf), ⟨⟨hI.1, hI.2.1, t, by omega, et⟩, PE.of10 rfl rfl rfl rfl rfl rfl rfl rfl rfl rfl⟩, _, rfl⟩
                  · refine zw_iload_n 5 f13_4 rfl rfl ?_
                    refine zw_aload_n 6 f13_5 rfl rfl ?_
                    refine zw_getI (nI nv) 9 f13_6 rfl g13_39_4 (hb_1 _ _ _ _) rfl hI.1.1.1 ?_
                    refine zw_ic_ge 12 22 f13_9 (by decide +kernel) rfl (fun hc184 => ?_) (fun hc184 => ?_)
                    · refine zw_iconst 0 23 f13_22 rfl (by decide +kernel) ?_
                      refine zw_zreturn f13_23 r13 u13 (by decide +kernel) ⟨_, rfl, ?_⟩
                      refine zw_if_eq_t 138 f103_119 (by decide +kernel) (by decide +kernel) ?_
                      refine zw_aload_n 139 f103_138 rfl rfl ?_
                      refine zw_bipush 12 141 f103_139 rfl (by decide +kernel) ?_
                      refine zw_virtual_i 144 0 0 [.ref 0, .int 12] [(0, .ref 0), (1, .int 12)] f103_141 rfl n103_78 k103_78_11 rfl (hb_0 _ _ _ _) (by decide +kernel) (Nat.le_of_ble_eq_true rfl) rfl rfl (by decide +kernel) (by decide +kernel) rfl (Nat.le_of_ble_eq_true rfl) rfl ?_
                      refine zw_aload_n 1 f105_0 rfl rfl ?_
                      refine zw_iload_n 2 f105_1 rfl rfl ?_
                      refine zw_put _ 5 f105_2 rfl g105_70_11 (hb_0 _ _ _ _) rfl (Nat.le_of_ble_eq_true rfl) (by decide +kernel) (hi_0_7 _ _ _ _ _) ?_
                      refine zw_iconst (-1) 6 f105_5 rfl (by decide +kernel) ?_
                      refine zw_ireturn f105_6 r105 u105 ⟨_, rfl, ?_⟩
                      refine zw_ireturn f103_144 r103 u103 ?_
                      exact ⟨_, _, _, _, rfl, (KP.i rfl KP.rf), ⟨⟨hI.1, hI.2.1, t, by omega, et⟩, PE.of10 rfl rfl rfl rfl rfl rfl rfl rfl rfl rfl⟩, _, rfl⟩
                    · refine zw_iload_n 13 f13_12 rfl rfl ?_
                      refine zw_bipush 8 15 f13_13 rfl (by decide +kernel) ?_
                      refine zw_ic_ge 18 22 f13_15 (by decide +kernel) rfl (fun hc185 => ?_) (fun hc185 => ?_)
                      · refine zw_iconst 0 23 f13_22 rfl (by decide +kernel) ?_
                        refine zw_zreturn f13_23 r13 u13 (by decide +kernel) ⟨_, rfl, ?_⟩
                        refine zw_if_eq_t 138 f103_119 (by decide +kernel) (by decide +kernel) ?_
                        refine zw_aload_n 139 f103_138 rfl rfl ?_
                        refine zw_bipush 12 141 f103_139 rfl (by decide +kernel) ?_
                        refine zw_virtual_i 144 0 0 [.ref 0, .int 12] [(0, .ref 0), (1, .int 12)] f103_141 rfl n103_78 k103_78_11 rfl (hb_0 _ _ _ _) (by decide +kernel) (Nat.le_of_ble_eq_true rfl) rfl rfl (by decide +kernel) (by decide +kernel) rfl (Nat.le_of_ble_eq_true rfl) rfl ?_
                        refine zw_aload_n 1 f105_0 rfl rfl ?_
                        refine zw_iload_n 2 f105_1 rfl rfl ?_
                        refine zw_put _ 5 f105_2 rfl g105_70_11 (hb_0 _ _ _ _) rfl (Nat.le_of_ble_eq_true rfl) (by decide +kernel) (hi_0_7 _ _ _ _ _) ?_
                        refine zw_iconst (-1) 6 f105_5 rfl (by decide +kernel) ?_
                        refine zw_ireturn f105_6 r105 u105 ⟨_, rfl, ?_⟩
                        refine zw_ireturn f103_144 r103 u103 ?_
                        exact ⟨_, _, _, _, rfl, (KP.i rfl KP.rf), ⟨⟨hI.1, hI.2.1, t, by omega, et⟩, PE.of10 rfl rfl rfl rfl rfl rfl rfl rfl rfl rfl⟩, _, rfl⟩
                      · refine zw_iconst 1 19 f13_18 rfl (by decide +kernel) ?_
                        refine zw_goto 23 f13_19 (by decide +kernel) ?_
                        refine zw_zreturn f13_23 r13 u13 (by decide +kernel) ⟨_, rfl, ?_⟩
                        refine zw_if_eq_f 122 138 f103_119 (by decide +kernel) rfl (by decide +kernel) ?_
                        refine zw_aload_n 123 f103_122 rfl rfl ?_
                        refine zw_aload_n 124 f103_123 rfl rfl ?_
                        refine zw_getfield 127 f103_124 rfl g103_10_11 (hb_0 _ _ _ _) rfl ?_
                        refine zw_getfield 130 f103_127 rfl g103_96_4 (hb_1 _ _ _ _) rfl ?_
                        refine zw_iload_n 131 f103_130 rfl rfl ?_
                        refine zw_iaload b.toNatClampNeg (A 3 b.toNatClampNeg) 132 f103_131 rfl (hb_3 _ _ _ _) rfl hc183 (zix (by decide) hc183 hc185) rfl ?_
                        refine zw_virtual_i 135 0 0 [.ref 0, .int (A 3 b.toNatClampNeg)] [(0, .ref 0), (1, .int (A 3 b.toNatClampNeg))] f103_132 rfl n103_181 k103_181_11 rfl (hb_0 _ _ _ _) (by decide +kernel) (Nat.le_of_ble_eq_true rfl) rfl rfl (by decide +kernel) (by decide +kernel) rfl (Nat.le_of_ble_eq_true rfl) rfl ?_
                        refine zw_aload_n 1 f106_0 rfl rfl ?_
                        refine zw_iconst 0 2 f106_1 rfl (by decide +kernel) ?_
                        refine zw_put _ 5 f106_2 rfl g106_70_11 (hb_0 _ _ _ _) rfl (Nat.le_of_ble_eq_true rfl) (by decide +kernel) (hi_0_7 _ _ _ _ _) ?_
                        refine zw_iload_n 6 f106_5 rfl rfl ?_
                        refine zw_ireturn f106_6 r106 u106 ⟨_, rfl, ?_⟩
                        refine zw_goto 144 f103_135 (by decide +kernel) ?_
                        refine zw_ireturn f103_144 r103 u103 ?_
                        exact ⟨_, _, _, _, rfl, (KP.i rfl KP.rf), ⟨⟨hI.1, hI.2.1, t, by omega, et⟩, PE.of10 rfl rfl rfl rfl rfl rfl rfl rfl rfl rfl⟩, _, rfl⟩
                · refine zw_table_k 106 145 f103_39 hs7e (by decide +kernel) (by decide +kernel) (by decide +kernel) ?_
                  refine zw_aload_n 146 f103_145 rfl rfl ?_
                  refine zw_iload_n 147 f103_146 rfl rfl ?_
                  refine zw_iload_n 148 f103_147 rfl rfl ?_
                  refine zw_virtual_i 151 0 0 [.ref 0, .int b, .int c] [(0, .ref 0), (1, .int b), (2, .int c)] f103_148 rfl n103_312 k103_312_11 rfl (hb_0 _ _ _ _) (by decide +kernel) (Nat.le_of_ble_eq_true rfl) rfl rfl (by decide +kernel) (by decide +kernel) rfl (Nat.le_of_ble_eq_true rfl) rfl ?_
                  refine zw_iload_n 1 f110_0 rfl rfl ?_
                  refine zw_if_lt 4 27 f110_1 (by decide +kernel) rfl (fun hc186 => ?_) (fun hc186 => ?_)
                  · refine zw_aload_n 28 f110_27 rfl rfl ?_
                    refine zw_bipush 12 30 f110_28 rfl (by decide +kernel) ?_
                    refine zw_virtual_i 33 0 0 [.ref 0, .int 12] [(0, .ref 0), (1, .int 12)] f110_30 rfl n110_78 k110_78_11 rfl (hb_0 _ _ _ _) (by decide +kernel) (Nat.le_of_ble_eq_true rfl) rfl rfl (by decide +kernel) (by decide +kernel) rfl (Nat.le_of_ble_eq_true rfl) rfl ?_
                    refine zw_aload_n 1 f105_0 rfl rfl ?_
                    refine zw_iload_n 2 f105_1 rfl rfl ?_
                    refine zw_put _ 5 f105_2 rfl g105_70_11 (hb_0 _ _ _ _) rfl (Nat.le_of_ble_eq_true rfl) (by decide +kernel) (hi_0_7 _ _ _ _ _) ?_
                    refine zw_iconst (-1) 6 f105_5 rfl (by decide +kernel) ?_
                    refine zw_ireturn f105_6 r105 u105 ⟨_, rfl, ?_⟩
                    refine zw_ireturn f110_33 r110 u110 ⟨_, rfl, ?_⟩
                    refine zw_ireturn f103_151 r103 u103 ?_
                    exact ⟨_, _, _, _, rfl, (KP.i rfl KP.rf), ⟨⟨hI.1, hI.2.1, t, by omega, et⟩, PE.of10 rfl rfl rfl rfl rfl rfl rfl rfl rfl rfl⟩, _, rfl⟩
                  · refine zw_iload_n 5 f110_4 rfl rfl ?_
                    refine zw_if_lt 8 27 f110_5 (by decide +kernel) rfl (fun hc187 => ?_) (fun hc187 => ?_)
                    · refine zw_aload_n 28 f110_27 rfl rfl ?_
                      refine zw_bipush 12 30 f110_28 rfl (by decide +kernel) ?_
                      refine zw_virtual_i 33 0 0 [.ref 0, .int 12] [(0, .ref 0), (1, .int 12)] f110_30 rfl n110_78 k110_78_11 rfl (hb_0 _ _ _ _) (by decide +kernel) (Nat.le_of_ble_eq_true rfl) rfl rfl (by decide +kernel) (by decide +kernel) rfl (Nat.le_of_ble_eq_true rfl) rfl ?_
                      refine zw_aload_n 1 f105_0 rfl rfl ?_
                      refine zw_iload_n 2 f105_1 rfl rfl ?_
                      refine zw_put _ 5 f105_2 rfl g105_70_11 (hb_0 _ _ _ _) rfl (Nat.le_of_ble_eq_true rfl) (by decide +kernel) (hi_0_7 _ _ _ _ _) ?_
                      refine zw_iconst (-1) 6 f105_5 rfl (by decide +kernel) ?_
                      refine zw_ireturn f105_6 r105 u105 ⟨_, rfl, ?_⟩
                      refine zw_ireturn f110_33 r110 u110 ⟨_, rfl, ?_⟩
                      refine zw_ireturn f103_151 r103 u103 ?_
                      exact ⟨_, _, _, _, rfl, (KP.i rfl KP.rf), ⟨⟨hI.1, hI.2.1, t, by omega, et⟩, PE.of10 rfl rfl rfl rfl rfl rfl rfl rfl rfl rfl⟩, _, rfl⟩
                    · refine zw_iload_n 9 f110_8 rfl rfl ?_
                      refine zw_bipush 6 11 f110_9 rfl (by decide +kernel) ?_
                      refine zw_ic_gt 14 27 f110_11 (by decide +kernel) rfl (fun hc188 => ?_) (fun hc188 => ?_)
                      · refine zw_aload_n 28 f110_27 rfl rfl ?_
                        refine zw_bipush 12 30 f110_28 rfl (by decide +kernel) ?_
                        refine zw_virtual_i 33 0 0 [.ref 0, .int 12] [(0, .ref 0), (1, .int 12)] f110_30 rfl n110_78 k110_78_11 rfl (hb_0 _ _ _ _) (by decide +kernel) (Nat.le_of_ble_eq_true rfl) rfl rfl (by decide +kernel) (by decide +kernel) rfl (Nat.le_of_ble_eq_true rfl) rfl ?_
                        refine zw_aload_n 1 f105_0 rfl rfl ?_
                        refine zw_iload_n 2 f105_1 rfl rfl ?_
                        refine zw_put _ 5 f105_2 rfl g105_70_11 (hb_0 _ _ _ _) rfl (Nat.le_of_ble_eq_true rfl) (by decide +kernel) (hi_0_7 _ _ _ _ _) ?_
                        refine zw_iconst (-1) 6 f105_5 rfl (by decide +kernel) ?_
                        refine zw_ireturn f105_6 r105 u105 ⟨_, rfl, ?_⟩
                        refine zw_ireturn f110_33 r110 u110 ⟨_, rfl, ?_⟩
                        refine zw_ireturn f103_151 r103 u103 ?_
                        exact ⟨_, _, _, _, rfl, (KP.i rfl KP.rf), ⟨⟨hI.1, hI.2.1, t, by omega, et⟩, PE.of10 rfl rfl rfl rfl rfl rfl rfl rfl rfl rfl⟩, _, rfl⟩
                      · refine zw_iload_n 15 f110_14 rfl rfl ?_
                        refine zw_iload_n 16 f110_15 rfl rfl ?_
                        refine zw_iadd (c + b) 17 f110_16 rfl rfl ?_
                        refine zw_aload_n 18 f110_17 rfl rfl ?_
                        refine zw_getfield 21 f110_18 rfl g110_10_11 (hb_0 _ _ _ _) rfl ?_
                        refine zw_getI (nI nv) 24 f110_21 rfl g110_250_4 (hb_1 _ _ _ _) rfl hI.1.1.1 ?_
                        refine zw_ic_le 27 34 f110_24 (by decide +kernel) rfl (fun hc189 => ?_) (fun hc189 => ?_)
                        · refine zw_iconst 0 35 f110_34 rfl (by decide +kernel) ?_
                          refine zw_istore_n _ 36 f110_35 rfl (by decide +kernel) rfl ?_
                          refine zw_iconst 0 37 f110_36 rfl (by decide +kernel) ?_
                          refine zw_istore _ 39 f110_37 rfl (by decide +kernel) rfl ?_
                          refine zw_iload 41 f110_39 rfl zl1_eq ?_
                          refine zw_iload_n 42 f110_41 rfl (zl1_ne rfl rfl (zl1_ne rfl rfl rfl)) ?_
                          refine zw_ic_ge 45 65 f110_42 (by decide +kernel) rfl (fun hc190 => ?_) (fun hc190 => ?_)
                          · refine zw_aload_n 66 f110_65 rfl (zl1_ne rfl rfl (zl1_ne rfl rfl rfl)) ?_
                            refine zw_iload_n 67 f110_66 rfl (zl1_ne rfl rfl zl1_eq) ?_
                            refine zw_virtual_i 70 0 0 [.ref 0, .int 0] [(0, .ref 0), (1, .int 0)] f110_67 rfl n110_181 k110_181_11 rfl (hb_0 _ _ _ _) (by decide +kernel) (Nat.le_of_ble_eq_true rfl) rfl rfl (by decide +kernel) (by decide +kernel) rfl (Nat.le_of_ble_eq_true rfl) rfl ?_
                            refine zw_aload_n 1 f106_0 rfl rfl ?_
                            refine zw_iconst 0 2 f106_1 rfl (by decide +kernel) ?_
                            refine zw_put _ 5 f106_2 rfl g106_70_11 (hb_0 _ _ _ _) rfl (Nat.le_of_ble_eq_true rfl) (by decide +kernel) (hi_0_7 _ _ _ _ _) ?_
                            refine zw_iload_n 6 f106_5 rfl rfl ?_
                            refine zw_ireturn f106_6 r106 u106 ⟨_, rfl, ?_⟩
                            refine zw_ireturn f110_70 r110 u110 ⟨_, rfl, ?_⟩
                            refine zw_ireturn f103_151 r103 u103 ?_
                            exact ⟨_, _, _, _, rfl, (KP.i rfl KP.rf), ⟨⟨hI.1, hI.2.1, t, by omega, et⟩, PE.of10 rfl rfl rfl rfl rfl rfl rfl rfl rfl rfl⟩, _, rfl⟩
                          · refine zw_iload_n 46 f110_45 rfl (zl1_ne rfl rfl zl1_eq) ?_
                            refine zw_aload_n 47 f110_46 rfl (zl1_ne rfl rfl (zl1_ne rfl rfl rfl)) ?_
                            refine zw_getfield 50 f110_47 rfl g110_10_11 (hb_0 _ _ _ _) rfl ?_
                            refine zw_iload_n 51 f110_50 rfl (zl1_ne rfl rfl (zl1_ne rfl rfl rfl)) ?_
                            refine zw_iload 53 f110_51 rfl zl1_eq ?_
                            refine zw_iadd (c + 0) 54 f110_53 rfl rfl ?_
                            refine zw_virtual_i 57 0 0 [.ref 1, .int (c + 0)] [(0, .ref 1), (1, .int (c + 0))] f110_54 rfl n110_330 k110_330_4 rfl (hb_1 _ _ _ _) (by decide +kernel) (Nat.le_of_ble_eq_true rfl) rfl rfl (by decide +kernel) (by decide +kernel) rfl (Nat.le_of_ble_eq_true rfl) rfl ?_
                            refine zWp.mono (cm_brimOf ro nv np cm _ _ _ _ hI hcm hQ (c + 0)) ?_
                            rintro r h1 ⟨rfl, w191, rfl⟩
                            refine ⟨_, rfl, ?_⟩
                            refine zw_iadd (0 + w191) 58 f110_57 rfl rfl ?_
                            refine zw_istore_n _ 59 f110_58 rfl (by decide +kernel) rfl ?_
                            refine zw_iinc 1 _ 62 f110_59 rfl (zl1_ne rfl rfl zl1_eq) (by decide +kernel) (by decide +kernel) rfl ?_
                            refine zw_goto 39 f110_62 (by decide +kernel) ?_
                            refine zw_iload 41 f110_39 rfl zl1_eq ?_
                            refine zw_iload_n 42 f110_41 rfl (zl1_ne rfl rfl (zl1_ne rfl rfl (zl1_ne rfl rfl (zl1_ne rfl rfl rfl)))) ?_
                            refine zw_ic_ge 45 65 f110_42 (by decide +kernel) rfl (fun hc192 => ?_) (fun hc192 => ?_)
                            · refine zw_aload_n 66 f110_65 rfl (zl1_ne rfl rfl (zl1_ne rfl rfl (zl1_ne rfl rfl (zl1_ne rfl rfl rfl)))) ?_
                              refine zw_iload_n 67 f110_66 rfl (zl1_ne rfl rfl zl1_eq) ?_
                              refine zw_virtual_i 70 0 0 [.ref 0, .int (0 + w191)] [(0, .ref 0), (1, .int (0 + w191))] f110_67 rfl n110_181 k110_181_11 rfl (hb_0 _ _ _ _) (by decide +kernel) (Nat.le_of_ble_eq_true rfl) rfl rfl (by decide +kernel) (by decide +kernel) rfl (Nat.le_of_ble_eq_true rfl) rfl ?_
                              refine zw_aload_n 1 f106_0 rfl rfl ?_
                              refine zw_iconst 0 2 f106_1 rfl (by decide +kernel) ?_
                              refine zw_put _ 5 f106_2 rfl g106_70_11 (hb_0 _ _ _ _) rfl (Nat.le_of_ble_eq_true rfl) (by decide +kernel) (hi_0_7 _ _ _ _ _) ?_
                              refine zw_iload_n 6 f106_5 rfl rfl ?_
                              refine zw_ireturn f106_6 r106 u106 ⟨_, rfl, ?_⟩
                              refine zw_ireturn f110_70 r110 u110 ⟨_, rfl, ?_⟩
                              refine zw_ireturn f103_151 r103 u103 ?_
                              exact ⟨_, _, _, _, rfl, (KP.i rfl KP.rf), ⟨⟨hI.1, hI.2.1, t, by omega, et⟩, PE.of10 rfl rfl rfl rfl rfl rfl rfl rfl rfl rfl⟩, _, rfl⟩
                            · refine zw_iload_n 46 f110_45 rfl (zl1_ne rfl rfl zl1_eq) ?_
                              refine zw_aload_n 47 f110_46 rfl (zl1_ne rfl rfl (zl1_ne rfl rfl (zl1_ne rfl rfl (zl1_ne rfl rfl rfl)))) ?_
                              refine zw_getfield 50 f110_47 rfl g110_10_11 (hb_0 _ _ _ _) rfl ?_
                              refine zw_iload_n 51 f110_50 rfl (zl1_ne rfl rfl (zl1_ne rfl rfl (zl1_ne rfl rfl (zl1_ne rfl rfl rfl)))) ?_
                              refine zw_iload 53 f110_51 rfl zl1_eq ?_
                              refine zw_iadd (c + 1) 54 f110_53 rfl rfl ?_
                              refine zw_virtual_i 57 0 0 [.ref 1, .int (c + 1)] [(0, .ref 1), (1, .int (c + 1))] f110_54 rfl n110_330 k110_330_4 rfl (hb_1 _ _ _ _) (by decide +kernel) (Nat.le_of_ble_eq_true rfl) rfl rfl (by decide +kernel) (by decide +kernel) rfl (Nat.le_of_ble_eq_true rfl) rfl ?_
                              refine zWp.mono (cm_brimOf ro nv np cm _ _ _ _ hI hcm hQ (c + 1)) ?_
                              rintro r h1 ⟨rfl, w193, rfl⟩
                              refine ⟨_, rfl, ?_⟩
                              refine zw_iadd ((0 + w191) + w193) 58 f110_57 rfl rfl ?_
                              refine zw_istore_n _ 59 f110_58 rfl (by decide +kernel) rfl ?_
                              refine zw_iinc 2 _ 62 f110_59 rfl (zl1_ne rfl rfl zl1_eq) (by decide +kernel) (by decide +kernel) rfl ?_
                              refine zw_goto 39 f110_62 (by decide +kernel) ?_
                              refine zw_iload 41 f110_39 rfl zl1_eq ?_
                              refine zw_iload_n 42 f110_41 rfl (zl1_ne rfl rfl (zl1_ne rfl rfl (zl1_ne rfl rfl (zl1_ne rfl rfl (zl1_ne rfl rfl (zl1_ne rfl rfl rfl)))))) ?_
                              refine zw_ic_ge 45 65 f110_42 (by decide +kernel) rfl (fun hc194 => ?_) (fun hc194 => ?_)
                              · refine zw_aload_n 66 f110_65 rfl (zl1_ne rfl rfl (zl1_ne rfl rfl (zl1_ne rfl rfl (zl1_ne rfl rfl (zl1_ne rfl rfl (zl1_ne rfl rfl rfl)))))) ?_
                                refine zw_iload_n 67 f110_66 rfl (zl1_ne rfl rfl zl1_eq) ?_
                                refine zw_virtual_i 70 0 0 [.ref 0, .int ((0 + w191) + w193)] [(0, .ref 0), (1, .int ((0 + w191) + w193))] f110_67 rfl n110_181 k110_181_11 rfl (hb_0 _ _ _ _) (by decide +kernel) (Nat.le_of_ble_eq_true rfl) rfl rfl (by decide +kernel) (by decide +kernel) rfl (Nat.le_of_ble_eq_true rfl) rfl ?_
                                refine zw_aload_n 1 f106_0 rfl rfl ?_
                                refine zw_iconst 0 2 f106_1 rfl (by decide +kernel) ?_
                                refine zw_put _ 5 f106_2 rfl g106_70_11 (hb_0 _ _ _ _) rfl (Nat.le_of_ble_eq_true rfl) (by decide +kernel) (hi_0_7 _ _ _ _ _) ?_
                                refine zw_iload_n 6 f106_5 rfl rfl ?_
                                refine zw_ireturn f106_6 r106 u106 ⟨_, rfl, ?_⟩
                                refine zw_ireturn f110_70 r110 u110 ⟨_, rfl, ?_⟩
                                refine zw_ireturn f103_151 r103 u103 ?_
                                exact ⟨_, _, _, _, rfl, (KP.i rfl KP.rf), ⟨⟨hI.1, hI.2.1, t, by omega, et⟩, PE.of10 rfl rfl rfl rfl rfl rfl rfl rfl rfl rfl⟩, _, rfl⟩
                              · refine zw_iload_n 46 f110_45 rfl (zl1_ne rfl rfl zl1_eq) ?_
                                refine zw_aload_n 47 f110_46 rfl (zl1_ne rfl rfl (zl1_ne rfl rfl (zl1_ne rfl rfl (zl1_ne rfl rfl (zl1_ne rfl rfl (zl1_ne rfl rfl rfl)))))) ?_
                                refine zw_getfield 50 f110_47 rfl g110_10_11 (hb_0 _ _ _ _) rfl ?_
                                refine zw_iload_n 51 f110_50 rfl (zl1_ne rfl rfl (zl1_ne rfl rfl (zl1_ne rfl rfl (zl1_ne rfl rfl (zl1_ne rfl rfl (zl1_ne rfl rfl rfl)))))) ?_
                                refine zw_iload 53 f110_51 rfl zl1_eq ?_
                                refine zw_iadd (c + 2) 54 f110_53 rfl rfl ?_
                                refine zw_virtual_i 57 0 0 [.ref 1, .int (c + 2)] [(0, .ref 1), (1, .int (c + 2))] f110_54 rfl n110_330 k110_330_4 rfl (hb_1 _ _ _ _) (by decide +kernel) (Nat.le_of_ble_eq_true rfl) rfl rfl (by decide +kernel) (by decide +kernel) rfl (Nat.le_of_ble_eq_true rfl) rfl ?_
                                refine zWp.mono (cm_brimOf ro nv np cm _ _ _ _ hI hcm hQ (c + 2)) ?_
                                rintro r h1 ⟨rfl, w195, rfl⟩
                                refine ⟨_, rfl, ?_⟩
                                refine zw_iadd (((0 + w191) + w193) + w195) 58 f110_57 rfl rfl ?_
                                refine zw_istore_n _ 59 f110_58 rfl (by decide +kernel) rfl ?_
                                refine zw_iinc 3 _ 62 f110_59 rfl (zl1_ne rfl rfl zl1_eq) (by decide +kernel) (by decide +kernel) rfl ?_
                                refine zw_goto 39 f110_62 (by decide +kernel) ?_
                                refine zw_iload 41 f110_39 rfl zl1_eq ?_
                                refine zw_iload_n 42 f110_41 rfl (zl1_ne rfl rfl (zl1_ne rfl rfl (zl1_ne rfl rfl (zl1_ne rfl rfl (zl1_ne rfl rfl (zl1_ne rfl rfl (zl1_ne rfl rfl (zl1_ne rfl rfl rfl)))))))) ?_
                                refine zw_ic_ge 45 65 f110_42 (by decide +kernel) rfl (fun hc196 => ?_) (fun hc196 => ?_)
                                · refine zw_aload_n 66 f110_65 rfl (zl1_ne rfl rfl (zl1_ne rfl rfl (zl1_ne rfl rfl (zl1_ne rfl rfl (zl1_ne rfl rfl (zl1_ne rfl rfl (zl1_ne rfl rfl (zl1_ne rfl rfl rfl)))))))) ?_
                                  refine zw_iload_n 67 f110_66 rfl (zl1_ne rfl rfl zl1_eq) ?_
                                  refine zw_virtual_i 70 0 0 [.ref 0, .int (((0 + w191) + w193) + w195)] [(0, .ref 0), (1, .int (((0 + w191) + w193) + w195))] f110_67 rfl n110_181 k110_181_11 rfl (hb_0 _ _ _ _) (by decide +kernel) (Nat.le_of_ble_eq_true rfl) rfl rfl (by decide +kernel) (by decide +kernel) rfl (Nat.le_of_ble_eq_true rfl) rfl ?_
                                  refine zw_aload_n 1 f106_0 rfl rfl ?_
                                  refine zw_iconst 0 2 f106_1 rfl (by decide +kernel) ?_
                                  refine zw_put _ 5 f106_2 rfl g106_70_11 (hb_0 _ _ _ _) rfl (Nat.le_of_ble_eq_true rfl) (by decide +kernel) (hi_0_7 _ _ _ _ _) ?_
                                  refine zw_iload_n 6 f106_5 rfl rfl ?_
                                  refine zw_ireturn f106_6 r106 u106 ⟨_, rfl, ?_⟩
                                  refine zw_ireturn f110_70 r110 u110 ⟨_, rfl, ?_⟩
                                  refine zw_ireturn f103_151 r103 u103 ?_
                                  exact ⟨_, _, _, _, rfl, (KP.i rfl KP.rf), ⟨⟨hI.1, hI.2.1, t, by omega, et⟩, PE.of10 rfl rfl rfl rfl rfl rfl rfl rfl rfl rfl⟩, _, rfl⟩
                                · refine zw_iload_n 46 f110_45 rfl (zl1_ne rfl rfl zl1_eq) ?_
                                  refine zw_aload_n 47 f110_46 rfl (zl1_ne rfl rfl (zl1_ne rfl rfl (zl1_ne rfl rfl (zl1_ne rfl rfl (zl1_ne rfl rfl (zl1_ne rfl rfl (zl1_ne rfl rfl (zl1_ne rfl rfl rfl)))))))) ?_
                                  refine zw_getfield 50 f110_47 rfl g110_10_11 (hb_0 _ _ _ _) rfl ?_
                                  refine zw_iload_n 51 f110_50 rfl (zl1_ne rfl rfl (zl1_ne rfl rfl (zl1_ne rfl rfl (zl1_ne rfl rfl (zl1_ne rfl rfl (zl1_ne rfl rfl (zl1_ne rfl rfl (zl1_ne rfl rfl rfl)))))))) ?_
                                  refine zw_iload 53 f110_51 rfl zl1_eq ?_
                                  refine zw_iadd (c + 3) 54 f110_53 rfl rfl ?_
                                  refine zw_virtual_i 57 0 0 [.ref 1, .int (c + 3)] [(0, .ref 1), (1, .int (c + 3))] f110_54 rfl n110_330 k110_330_4 rfl (hb_1 _ _ _ _) (by decide +kernel) (Nat.le_of_ble_eq_true rfl) rfl rfl (by decide +kernel) (by decide +kernel) rfl (Nat.le_of_ble_eq_true rfl) rfl ?_
                                  refine zWp.mono (cm_brimOf ro nv np cm _ _ _ _ hI hcm hQ (c + 3)) ?_
                                  rintro r h1 ⟨rfl, w197, rfl⟩
                                  refine ⟨_, rfl, ?_⟩
                                  refine zw_iadd ((((0 + w191) + w193) + w195) + w197) 58 f110_57 rfl rfl ?_
                                  refine zw_istore_n _ 59 f110_58 rfl (by decide +kernel) rfl ?_
                                  refine zw_iinc 4 _ 62 f110_59 rfl (zl1_ne rfl rfl zl1_eq) (by decide +kernel) (by decide +kernel) rfl ?_
                                  refine zw_goto 39 f110_62 (by decide +kernel) ?_
                                  refine zw_iload 41 f110_39 rfl zl1_eq ?_
                                  refine zw_iload_n 42 f110_41 rfl (zl1_ne rfl rfl (zl1_ne rfl rfl (zl1_ne rfl rfl (zl1_ne rfl rfl (zl1_ne rfl rfl (zl1_ne rfl rfl (zl1_ne rfl rfl (zl1_ne rfl rfl (zl1_ne rfl rfl (zl1_ne rfl rfl rfl)))))))))) ?_
                                  refine zw_ic_ge 45 65 f110_42 (by decide +kernel) rfl (fun hc198 => ?_) (fun hc198 => ?_)
                                  · refine zw_aload_n 66 f110_65 rfl (zl1_ne rfl rfl (zl1_ne rfl rfl (zl1_ne rfl rfl (zl1_ne rfl rfl (zl1_ne rfl rfl (zl1_ne rfl rfl (zl1_ne rfl rfl (zl1_ne rfl rfl (zl1_ne rfl rfl (zl1_ne rfl rfl rfl)))))))))) ?_
                                    refine zw_iload_n 67 f110_66 rfl (zl1_ne rfl rfl zl1_eq) ?_
                                    refine zw_virtual_i 70 0 0 [.ref 0, .int ((((0 + w191) + w193) + w195) + w197)] [(0, .ref 0), (1, .int ((((0 + w191) + w193) + w195) + w197))] f110_67 rfl n110_181 k110_181_11 rfl (hb_0 _ _ _ _) (by decide +kernel) (Nat.le_of_ble_eq_true rfl) rfl rfl (by decide +kernel) (by decide +kernel) rfl (Nat.le_of_ble_eq_true rfl) rfl ?_
                                    refine zw_aload_n 1 f106_0 rfl rfl ?_
                                    refine zw_iconst 0 2 f106_1 rfl (by decide +kernel) ?_
                                    refine zw_put _ 5 f106_2 rfl g106_70_11 (hb_0 _ _ _ _) rfl (Nat.le_of_ble_eq_true rfl) (by decide +kernel) (hi_0_7 _ _ _ _ _) ?_
                                    refine zw_iload_n 6 f106_5 rfl rfl ?_
                                    refine zw_ireturn f106_6 r106 u106 ⟨_, rfl, ?_⟩
                                    refine zw_ireturn f110_70 r110 u110 ⟨_, rfl, ?_⟩
                                    refine zw_ireturn f103_151 r103 u103 ?_
                                    exact ⟨_, _, _, _, rfl, (KP.i rfl KP.rf), ⟨⟨hI.1, hI.2.1, t, by omega, et⟩, PE.of10 rfl rfl rfl rfl rfl rfl rfl rfl rfl rfl⟩, _, rfl⟩
                                  · refine zw_iload_n 46 f110_45 rfl (zl1_ne rfl rfl zl1_eq) ?_
                                    refine zw_aload_n 47 f110_46 rfl (zl1_ne rfl rfl (zl1_ne rfl rfl (zl1_ne rfl rfl (zl1_ne rfl rfl (zl1_ne rfl rfl (zl1_ne rfl rfl (zl1_ne rfl rfl (zl1_ne rfl rfl (zl1_ne rfl rfl (zl1_ne rfl rfl rfl)))))))))) ?_
                                    refine zw_getfield 50 f110_47 rfl g110_10_11 (hb_0 _ _ _ _) rfl ?_
                                    refine zw_iload_n 51 f110_50 rfl (zl1_ne rfl rfl (zl1_ne rfl rfl (zl1_ne rfl rfl (zl1_ne rfl rfl (zl1_ne rfl rfl (zl1_ne rfl rfl (zl1_ne rfl rfl (zl1_ne rfl rfl (zl1_ne rfl rfl (zl1_ne rfl rfl rfl)))))))))) ?_
                                    refine zw_iload 53 f110_51 rfl zl1_eq ?_
                                    refine zw_iadd (c + 4) 54 f110_53 rfl rfl ?_
                                    refine zw_virtual_i 57 0 0 [.ref 1, .int (c + 4)] [(0, .ref 1), (1, .int (c + 4))] f110_54 rfl n110_330 k110_330_4 rfl (hb_1 _ _ _ _) (by decide +kernel) (Nat.le_of_ble_eq_true rfl) rfl rfl (by decide +kernel) (by decide +kernel) rfl (Nat.le_of_ble_eq_true rfl) rfl ?_
                                    refine zWp.mono (cm_brimOf ro nv np cm _ _ _ _ hI hcm hQ (c + 4)) ?_
                                    rintro r h1 ⟨rfl, w199, rfl⟩
                                    refine ⟨_, rfl, ?_⟩
                                    refine zw_iadd (((((0 + w191) + w193) + w195) + w197) + w199) 58 f110_57 rfl rfl ?_
                                    refine zw_istore_n _ 59 f110_58 rfl (by decide +kernel) rfl ?_
                                    refine zw_iinc 5 _ 62 f110_59 rfl (zl1_ne rfl rfl zl1_eq) (by decide +kernel) (by decide +kernel) rfl ?_
                                    refine zw_goto 39 f110_62 (by decide +kernel) ?_
                                    refine zw_iload 41 f110_39 rfl zl1_eq ?_
                                    refine zw_iload_n 42 f110_41 rfl (zl1_ne rfl rfl (zl1_ne rfl rfl (zl1_ne rfl rfl (zl1_ne rfl rfl (zl1_ne rfl rfl (zl1_ne rfl rfl (zl1_ne rfl rfl (zl1_ne rfl rfl (zl1_ne rfl rfl (zl1_ne rfl rfl (zl1_ne rfl rfl (zl1_ne rfl rfl rfl)))))))))))) ?_
                                    refine zw_ic_ge 45 65 f110_42 (by decide +kernel) rfl (fun hc200 => ?_) (fun hc200 => ?_)
                                    · refine zw_aload_n 66 f110_65 rfl (zl1_ne rfl rfl (zl1_ne rfl rfl (zl1_ne rfl rfl (zl1_ne rfl rfl (zl1_ne rfl rfl (zl1_ne rfl rfl (zl1_ne rfl rfl (zl1_ne rfl rfl (zl1_ne rfl rfl (zl1_ne rfl rfl (zl1_ne rfl rfl (zl1_ne rfl rfl rfl)))))))))))) ?_
                                      refine zw_iload_n 67 f110_66 rfl (zl1_ne rfl rfl zl1_eq) ?_
                                      refine zw_virtual_i 70 0 0 [.ref 0, .int (((((0 + w191) + w193) + w195) + w197) + w199)] [(0, .ref 0), (1, .int (((((0 + w191) + w193) + w195) + w197) + w199))] f110_67 rfl n110_181 k110_181_11 rfl (hb_0 _ _ _ _) (by decide +kernel) (Nat.le_of_ble_eq_true rfl) rfl rfl (by decide +kernel) (by decide +kernel) rfl (Nat.le_of_ble_eq_true rfl) rfl ?_
                                      refine zw_aload_n 1 f106_0 rfl rfl ?_
                                      refine zw_iconst 0 2 f106_1 rfl (by decide +kernel) ?_
                                      refine zw_put _ 5 f106_2 rfl g106_70_11 (hb_0 _ _ _ _) rfl (Nat.le_of_ble_eq_true rfl) (by decide +kernel) (hi_0_7 _ _ _ _ _) ?_
                                      refine zw_iload_n 6 f106_5 rfl rfl ?_
                                      refine zw_ireturn f106_6 r106 u106 ⟨_, rfl, ?_⟩
                                      refine zw_ireturn f110_70 r110 u110 ⟨_, rfl, ?_⟩
                                      refine zw_ireturn f103_151 r103 u103 ?_
                                      exact ⟨_, _, _, _, rfl, (KP.i rfl KP.rf), ⟨⟨hI.1, hI.2.1, t, by omega, et⟩, PE.of10 rfl rfl rfl rfl rfl rfl rfl rfl rfl rfl⟩, _, rfl⟩
                                    · refine zw_iload_n 46 f110_45 rfl (zl1_ne rfl rfl zl1_eq) ?_
                                      refine zw_aload_n 47 f110_46 rfl (zl1_ne rfl rfl (zl1_ne rfl rfl (zl1_ne rfl rfl (zl1_ne rfl rfl (zl1_ne rfl rfl (zl1_ne rfl rfl (zl1_ne rfl rfl (zl1_ne rfl rfl (zl1_ne rfl rfl (zl1_ne rfl rfl (zl1_ne rfl rfl (zl1_ne rfl rfl rfl)))))))))))) ?_
                                      refine zw_getfield 50 f110_47 rfl g110_10_11 (hb_0 _ _ _ _) rfl ?_
                                      refine zw_iload_n 51 f110_50 rfl (zl1_ne rfl rfl (zl1_ne rfl rfl (zl1_ne rfl rfl (zl1_ne rfl rfl (zl1_ne rfl rfl (zl1_ne rfl rfl (zl1_ne rfl rfl (zl1_ne rfl rfl (zl1_ne rfl rfl (zl1_ne rfl rfl (zl1_ne rfl rfl (zl1_ne rfl rfl rfl)))))))))))) ?_
                                      refine zw_iload 53 f110_51 rfl zl1_eq ?_
                                      refine zw_iadd (c + 5) 54 f110_53 rfl rfl ?_
                                      refine zw_virtual_i 57 0 0 [.ref 1, .int (c + 5)] [(0, .ref 1), (1, .int (c + 5))] f110_54 rfl n110_330 k110_330_4 rfl (hb_1 _ _ _ _) (by decide +kernel) (Nat.le_of_ble_eq_true rfl) rfl rfl (by decide +kernel) (by decide +kernel) rfl (Nat.le_of_ble_eq_true rfl) rfl ?_
                                      refine zWp.mono (cm_brimOf ro nv np cm _ _ _ _ hI hcm hQ (c + 5)) ?_
                                      rintro r h1 ⟨rfl, w201, rfl⟩
                                      refine ⟨_, rfl, ?_⟩
                                      refine zw_iadd ((((((0 + w191) + w193) + w195) + w197) + w199) + w201) 58 f110_57 rfl rfl ?_
                                      refine zw_istore_n _ 59 f110_58 rfl (by decide +kernel) rfl ?_
                                      refine zw_iinc 6 _ 62 f110_59 rfl (zl1_ne rfl rfl zl1_eq) (by decide +kernel) (by decide +kernel) rfl ?_
                                      refine zw_goto 39 f110_62 (by decide +kernel) ?_
                                      refine zw_iload 41 f110_39 rfl zl1_eq ?_
                                      refine zw_iload_n 42 f110_41 rfl (zl1_ne rfl rfl (zl1_ne rfl rfl (zl1_ne rfl rfl (zl1_ne rfl rfl (zl1_ne rfl rfl (zl1_ne rfl rfl (zl1_ne rfl rfl (zl1_ne rfl rfl (zl1_ne rfl rfl (zl1_ne rfl rfl (zl1_ne rfl rfl (zl1_ne rfl rfl (zl1_ne rfl rfl (zl1_ne rfl rfl rfl)))))))))))))) ?_
                                      refine zw_ic_ge_t 65 f110_42 (by decide +kernel) (Int32.not_lt.mp hc188) ?_
                                      refine zw_aload_n 66 f110_65 rfl (zl1_ne rfl rfl (zl1_ne rfl rfl (zl1_ne rfl rfl (zl1_ne rfl rfl (zl1_ne rfl rfl (zl1_ne rfl rfl (zl1_ne rfl rfl (zl1_ne rfl rfl (zl1_ne rfl rfl (zl1_ne rfl rfl (zl1_ne rfl rfl (zl1_ne rfl rfl (zl1_ne rfl rfl (zl1_ne rfl rfl rfl)))))))))))))) ?_
                                      refine zw_iload_n 67 f110_66 rfl (zl1_ne rfl rfl zl1_eq) ?_
                                      refine zw_virtual_i 70 0 0 [.ref 0, .int ((((((0 + w191) + w193) + w195) + w197) + w199) + w201)] [(0, .ref 0), (1, .int ((((((0 + w191) + w193) + w195) + w197) + w199) + w201))] f110_67 rfl n110_181 k110_181_11 rfl (hb_0 _ _ _ _) (by decide +kernel) (Nat.le_of_ble_eq_true rfl) rfl rfl (by decide +kernel) (by decide +kernel) rfl (Nat.le_of_ble_eq_true rfl) rfl ?_
                                      refine zw_aload_n 1 f106_0 rfl rfl ?_
                                      refine zw_iconst 0 2 f106_1 rfl (by decide +kernel) ?_
                                      refine zw_put _ 5 f106_2 rfl g106_70_11 (hb_0 _ _ _ _) rfl (Nat.le_of_ble_eq_true rfl) (by decide +kernel) (hi_0_7 _ _ _ _ _) ?_
                                      refine zw_iload_n 6 f106_5 rfl rfl ?_
                                      refine zw_ireturn f106_6 r106 u106 ⟨_, rfl, ?_⟩
                                      refine zw_ireturn f110_70 r110 u110 ⟨_, rfl, ?_⟩
                                      refine zw_ireturn f103_151 r103 u103 ?_
                                      exact ⟨_, _, _, _, rfl, (KP.i rfl KP.rf), ⟨⟨hI.1, hI.2.1, t, by omega, et⟩, PE.of10 rfl rfl rfl rfl rfl rfl rfl rfl rfl rfl⟩, _, rfl⟩
                        · refine zw_aload_n 28 f110_27 rfl rfl ?_
                          refine zw_bipush 12 30 f110_28 rfl (by decide +kernel) ?_
                          refine zw_virtual_i 33 0 0 [.ref 0, .int 12] [(0, .ref 0), (1, .int 12)] f110_30 rfl n110_78 k110_78_11 rfl (hb_0 _ _ _ _) (by decide +kernel) (Nat.le_of_ble_eq_true rfl) rfl rfl (by decide +kernel) (by decide +kernel) rfl (Nat.le_of_ble_eq_true rfl) rfl ?_
                          refine zw_aload_n 1 f105_0 rfl rfl ?_
                          refine zw_iload_n 2 f105_1 rfl rfl ?_
                          refine zw_put _ 5 f105_2 rfl g105_70_11 (hb_0 _ _ _ _) rfl (Nat.le_of_ble_eq_true rfl) (by decide +kernel) (hi_0_7 _ _ _ _ _) ?_
                          refine zw_iconst (-1) 6 f105_5 rfl (by decide +kernel) ?_
                          refine zw_ireturn f105_6 r105 u105 ⟨_, rfl, ?_⟩
                          refine zw_ireturn f110_33 r110 u110 ⟨_, rfl, ?_⟩
                          refine zw_ireturn f103_151 r103 u103 ?_
                          exact ⟨_, _, _, _, rfl, (KP.i rfl KP.rf), ⟨⟨hI.1, hI.2.1, t, by omega, et⟩, PE.of10 rfl rfl rfl rfl rfl rfl rfl rfl rfl rfl⟩, _, rfl⟩
                · refine zw_table_k 113 152 f103_39 hs7e (by decide +kernel) (by decide +kernel) (by decide +kernel) ?_
                  refine zw_aload_n 153 f103_152 rfl rfl ?_
                  refine zw_iload_n 154 f103_153 rfl rfl ?_
                  refine zw_bipush 8 156 f103_154 rfl (by decide +kernel) ?_
                  refine zw_static_i 159 0 0 [.int c, .int 8] [.ref 0] [(0, .int c), (1, .int 8)] f103_156 rfl k103_304_99 rfl (by decide +kernel) (Nat.le_of_ble_eq_true rfl) (Nat.le_of_ble_eq_true rfl) rfl rfl (by decide +kernel) (by decide +kernel) rfl (Nat.le_of_ble_eq_true rfl) rfl ?_
                  refine zw_iload_n 1 f186_0 rfl rfl ?_
                  refine zw_iload_n 2 f186_1 rfl rfl ?_
                  refine zw_irem (c - c / 8 * 8) 3 f186_2 rfl (by decide +kernel) rfl ?_
                  refine zw_istore_n _ 4 f186_3 rfl (by decide +kernel) rfl ?_
                  refine zw_iload_n 5 f186_4 rfl (zl1_ne rfl rfl rfl) ?_
                  refine zw_iload_n 6 f186_5 rfl (zl1_ne rfl rfl rfl) ?_
                  refine zw_ixor (c ^^^ 8) 7 f186_6 rfl rfl ?_
                  refine zw_if_ge 10 18 f186_7 (by decide +kernel) rfl (fun hc202 => ?_) (fun hc202 => ?_)
                  · refine zw_iload_n 19 f186_18 rfl zl1_eq ?_
                    refine zw_ireturn f186_19 r186 u186 ⟨_, rfl, ?_⟩
                    refine zw_virtual_i 162 0 0 [.ref 0, .int (c - c / 8 * 8)] [(0, .ref 0), (1, .int (c - c / 8 * 8))] f103_159 rfl n103_315 k103_315_11 rfl (hb_0 _ _ _ _) (by decide +kernel) (Nat.le_of_ble_eq_true rfl) rfl rfl (by decide +kernel) (by decide +kernel) rfl (Nat.le_of_ble_eq_true rfl) rfl ?_
                    refine zw_aload_n 1 f111_0 rfl rfl ?_
                    refine zw_getfield 4 f111_1 rfl g111_10_11 (hb_0 _ _ _ _) rfl ?_
                    refine zw_iload_n 5 f111_4 rfl rfl ?_
                    refine zw_virtual_i 8 0 0 [.ref 1, .int (c - c / 8 * 8)] [(0, .ref 1), (1, .int (c - c / 8 * 8))] f111_5 rfl n111_89 k111_89_4 rfl (hb_1 _ _ _ _) (by decide +kernel) (Nat.le_of_ble_eq_true rfl) rfl rfl (by decide +kernel) (by decide +kernel) rfl (Nat.le_of_ble_eq_true rfl) rfl ?_
                    refine zw_iload_n 1 f13_0 rfl rfl ?_
                    refine zw_if_lt 4 22 f13_1 (by decide +kernel) rfl (fun hc203 => ?_) (fun hc203 => ?_)
                    · refine zw_iconst 0 23 f13_22 rfl (by decide +kernel) ?_
                      refine zw_zreturn f13_23 r13 u13 (by decide +kernel) ⟨_, rfl, ?_⟩
                      refine zw_if_ne_f 11 17 f111_8 (by decide +kernel) rfl (by decide +kernel) ?_
                      refine zw_aload_n 12 f111_11 rfl rfl ?_
                      refine zw_iconst 0 13 f111_12 rfl (by decide +kernel) ?_
                      refine zw_virtual_i 16 0 0 [.ref 0, .int 0] [(0, .ref 0), (1, .int 0)] f111_13 rfl n111_181 k111_181_11 rfl (hb_0 _ _ _ _) (by decide +kernel) (Nat.le_of_ble_eq_true rfl) rfl rfl (by decide +kernel) (by decide +kernel) rfl (Nat.le_of_ble_eq_true rfl) rfl ?_
                      refine zw_aload_n 1 f106_0 rfl rfl ?_
                      refine zw_iconst 0 2 f106_1 rfl (by decide +kernel) ?_
                      refine zw_put _ 5 f106_2 rfl g106_70_11 (hb_0 _ _ _ _) rfl (Nat.le_of_ble_eq_true rfl) (by decide +kernel) (hi_0_7 _ _ _ _ _) ?_
                      refine zw_iload_n 6 f106_5 rfl rfl ?_
                      refine zw_ireturn f106_6 r106 u106 ⟨_, rfl, ?_⟩
                      refine zw_ireturn f111_16 r111 u111 ⟨_, rfl, ?_⟩
                      refine zw_ireturn f103_162 r103 u103 ?_
                      exact ⟨_, _, _, _, rfl, (KP.i rfl KP.rf), ⟨⟨hI.1, hI.2.1, t, by omega, et⟩, PE.of10 rfl rfl rfl rfl rfl rfl rfl rfl rfl rfl⟩, _, rfl⟩
                    · refine zw_iload_n 5 f13_4 rfl rfl ?_
                      refine zw_aload_n 6 f13_5 rfl rfl ?_
                      refine zw_getI (nI nv) 9 f13_6 rfl g13_39_4 (hb_1 _ _ _ _) rfl hI.1.1.1 ?_
                      refine zw_ic_ge 12 22 f13_9 (by decide +kernel) rfl (fun hc204 => ?_) (fun hc204 => ?_)
                      · refine zw_iconst 0 23 f13_22 rfl (by decide +kernel) ?_
                        refine zw_zreturn f13_23 r13 u13 (by decide +kernel) ⟨_, rfl, ?_⟩
                        refine zw_if_ne_f 11 17 f111_8 (by decide +kernel) rfl (by decide +kernel) ?_
                        refine zw_aload_n 12 f111_11 rfl rfl ?_
                        refine zw_iconst 0 13 f111_12 rfl (by decide +kernel) ?_
                        refine zw_virtual_i 16 0 0 [.ref 0, .int 0] [(0, .ref 0), (1, .int 0)] f111_13 rfl n111_181 k111_181_11 rfl (hb_0 _ _ _ _) (by decide +kernel) (Nat.le_of_ble_eq_true rfl) rfl rfl (by decide +kernel) (by decide +kernel) rfl (Nat.le_of_ble_eq_true rfl) rfl ?_
                        refine zw_aload_n 1 f106_0 rfl rfl ?_
                        refine zw_iconst 0 2 f106_1 rfl (by decide +kernel) ?_
                        refine zw_put _ 5 f106_2 rfl g106_70_11 (hb_0 _ _ _ _) rfl (Nat.le_of_ble_eq_true rfl) (by decide +kernel) (hi_0_7 _ _ _ _ _) ?_
                        refine zw_iload_n 6 f106_5 rfl rfl ?_
                        refine zw_ireturn f106_6 r106 u106 ⟨_, rfl, ?_⟩
                        refine zw_ireturn f111_16 r111 u111 ⟨_, rfl, ?_⟩
                        refine zw_ireturn f103_162 r103 u103 ?_
                        exact ⟨_, _, _, _, rfl, (KP.i rfl KP.rf), ⟨⟨hI.1, hI.2.1, t, by omega, et⟩, PE.of10 rfl rfl rfl rfl rfl rfl rfl rfl rfl rfl⟩, _, rfl⟩
                      · refine zw_iload_n 13 f13_12 rfl rfl ?_
                        refine zw_bipush 8 15 f13_13 rfl (by decide +kernel) ?_
                        refine zw_ic_ge 18 22 f13_15 (by decide +kernel) rfl (fun hc205 => ?_) (fun hc205 => ?_)
                        · refine zw_iconst 0 23 f13_22 rfl (by decide +kernel) ?_
                          refine zw_zreturn f13_23 r13 u13 (by decide +kernel) ⟨_, rfl, ?_⟩
                          refine zw_if_ne_f 11 17 f111_8 (by decide +kernel) rfl (by decide +kernel) ?_
                          refine zw_aload_n 12 f111_11 rfl rfl ?_
                          refine zw_iconst 0 13 f111_12 rfl (by decide +kernel) ?_
                          refine zw_virtual_i 16 0 0 [.ref 0, .int 0] [(0, .ref 0), (1, .int 0)] f111_13 rfl n111_181 k111_181_11 rfl (hb_0 _ _ _ _) (by decide +kernel) (Nat.le_of_ble_eq_true rfl) rfl rfl (by decide +kernel) (by decide +kernel) rfl (Nat.le_of_ble_eq_true rfl) rfl ?_
                          refine zw_aload_n 1 f106_0 rfl rfl ?_
                          refine zw_iconst 0 2 f106_1 rfl (by decide +kernel) ?_
                          refine zw_put _ 5 f106_2 rfl g106_70_11 (hb_0 _ _ _ _) rfl (Nat.le_of_ble_eq_true rfl) (by decide +kernel) (hi_0_7 _ _ _ _ _) ?_
                          refine zw_iload_n 6 f106_5 rfl rfl ?_
                          refine zw_ireturn f106_6 r106 u106 ⟨_, rfl, ?_⟩
                          refine zw_ireturn f111_16 r111 u111 ⟨_, rfl, ?_⟩
                          refine zw_ireturn f103_162 r103 u103 ?_
                          exact ⟨_, _, _, _, rfl, (KP.i rfl KP.rf), ⟨⟨hI.1, hI.2.1, t, by omega, et⟩, PE.of10 rfl rfl rfl rfl rfl rfl rfl rfl rfl rfl⟩, _, rfl⟩
                        · refine zw_iconst 1 19 f13_18 rfl (by decide +kernel) ?_
                          refine zw_goto 23 f13_19 (by decide +kernel) ?_
                          refine zw_zreturn f13_23 r13 u13 (by decide +kernel) ⟨_, rfl, ?_⟩
                          refine zw_if_ne_t 17 f111_8 (by decide +kernel) (by decide +kernel) ?_
                          refine zw_aload_n 18 f111_17 rfl rfl ?_
                          refine zw_getfield 21 f111_18 rfl g111_10_11 (hb_0 _ _ _ _) rfl ?_
                          refine zw_iload_n 22 f111_21 rfl rfl ?_
                          refine zw_virtual_i 25 0 0 [.ref 1, .int (c - c / 8 * 8)] [(0, .ref 1), (1, .int (c - c / 8 * 8))] f111_22 rfl n111_100 k111_100_4 rfl (hb_1 _ _ _ _) (by decide +kernel) (Nat.le_of_ble_eq_true rfl) rfl rfl (by decide +kernel) (by decide +kernel) rfl (Nat.le_of_ble_eq_true rfl) rfl ?_
                          refine zw_iload_n 1 f17_0 rfl rfl ?_
                          refine zw_if_lt_f 4 22 f17_1 (by decide +kernel) rfl hc203 ?_
                          refine zw_iload_n 5 f17_4 rfl rfl ?_
                          refine zw_aload_n 6 f17_5 rfl rfl ?_
                          refine zw_getI (nI nv) 9 f17_6 rfl g17_39_4 (hb_1 _ _ _ _) rfl hI.1.1.1 ?_
                          refine zw_ic_ge_f 12 22 f17_9 (by decide +kernel) rfl hc204 ?_
                          refine zw_iload_n 13 f17_12 rfl rfl ?_
                          refine zw_bipush 8 15 f17_13 rfl (by decide +kernel) ?_
                          refine zw_ic_ge_f 18 22 f17_15 (by decide +kernel) rfl hc205 ?_
                          refine zw_iconst 1 19 f17_18 rfl (by decide +kernel) ?_
                          refine zw_goto 23 f17_19 (by decide +kernel) ?_
                          refine zw_istore_n _ 24 f17_23 rfl (by decide +kernel) rfl ?_
                          refine zw_iload_n 25 f17_24 rfl zl1_eq ?_
                          refine zw_if_eq_f 28 52 f17_25 (by decide +kernel) rfl (by decide +kernel) ?_
                          refine zw_aload_n 29 f17_28 rfl (zl1_ne rfl rfl rfl) ?_
                          refine zw_getfield 32 f17_29 rfl g17_9_4 (hb_1 _ _ _ _) rfl ?_
                          refine zw_iload_n 33 f17_32 rfl (zl1_ne rfl rfl rfl) ?_
                          refine zw_iaload (c - c / 8 * 8).toNatClampNeg (A 2 (c - c / 8 * 8).toNatClampNeg) 34 f17_33 rfl (hb_2 _ _ _ _) rfl hc203 (zix (by decide) hc203 hc205) rfl ?_
                          refine zw_iconst 3 35 f17_34 rfl (by decide +kernel) ?_
                          refine zw_ic_eq 38 48 f17_35 (by decide +kernel) rfl (fun hc206 => ?_) (fun hc206 => ?_)
                          · refine zw_iconst 1 49 f17_48 rfl (by decide +kernel) ?_
                            refine zw_goto 53 f17_49 (by decide +kernel) ?_
                            refine zw_zreturn f17_53 r17 u17 (by decide +kernel) ⟨_, rfl, ?_⟩
                            refine zw_if_eq_f 28 43 f111_25 (by decide +kernel) rfl (by decide +kernel) ?_
                            refine zw_aload_n 29 f111_28 rfl rfl ?_
                            refine zw_aload_n 30 f111_29 rfl rfl ?_
                            refine zw_getfield 33 f111_30 rfl g111_10_11 (hb_0 _ _ _ _) rfl ?_
                            refine zw_iload_n 34 f111_33 rfl rfl ?_
                            refine zw_virtual_i 37 0 0 [.ref 1, .int (c - c / 8 * 8)] [(0, .ref 1), (1, .int (c - c / 8 * 8))] f111_34 rfl n111_330 k111_330_4 rfl (hb_1 _ _ _ _) (by decide +kernel) (Nat.le_of_ble_eq_true rfl) rfl rfl (by decide +kernel) (by decide +kernel) rfl (Nat.le_of_ble_eq_true rfl) rfl ?_
                            refine zWp.mono (cm_brimOf ro nv np cm _ _ _ _ hI hcm hQ (c - c / 8 * 8)) ?_
                            rintro r h1 ⟨rfl, w207, rfl⟩
                            refine ⟨_, rfl, ?_⟩
                            refine zw_virtual_i 40 0 0 [.ref 0, .int w207] [(0, .ref 0), (1, .int w207)] f111_37 rfl n111_181 k111_181_11 rfl (hb_0 _ _ _ _) (by decide +kernel) (Nat.le_of_ble_eq_true rfl) rfl rfl (by decide +kernel) (by decide +kernel) rfl (Nat.le_of_ble_eq_true rfl) rfl ?_
                            refine zw_aload_n 1 f106_0 rfl rfl ?_
                            refine zw_iconst 0 2 f106_1 rfl (by decide +kernel) ?_
                            refine zw_put _ 5 f106_2 rfl g106_70_11 (hb_0 _ _ _ _) rfl (Nat.le_of_ble_eq_true rfl) (by decide +kernel) (hi_0_7 _ _ _ _ _) ?_
                            refine zw_iload_n 6 f106_5 rfl rfl ?_
                            refine zw_ireturn f106_6 r106 u106 ⟨_, rfl, ?_⟩
                            refine zw_goto 49 f111_40 (by decide +kernel) ?_
                            refine zw_ireturn f111_49 r111 u111 ⟨_, rfl, ?_⟩
                            refine zw_ireturn f103_162 r103 u103 ?_
                            exact ⟨_, _, _, _, rfl, (KP.i rfl KP.rf), ⟨⟨hI.1, hI.2.1, t, by omega, et⟩, PE.of10 rfl rfl rfl rfl rfl rfl rfl rfl rfl rfl⟩, _, rfl⟩
                          · refine zw_aload_n 39 f17_38 rfl (zl1_ne rfl rfl rfl) ?_
                            refine zw_getfield 42 f17_39 rfl g17_9_4 (hb_1 _ _ _ _) rfl ?_
                            refine zw_iload_n 43 f17_42 rfl (zl1_ne rfl rfl rfl) ?_
                            refine zw_iaload (c - c / 8 * 8).toNatClampNeg (A 2 (c - c / 8 * 8).toNatClampNeg) 44 f17_43 rfl (hb_2 _ _ _ _) rfl hc203 (zix (by decide) hc203 hc205) rfl ?_
                            refine zw_iconst 4 45 f17_44 rfl (by decide +kernel) ?_
                            refine zw_ic_ne 48 52 f17_45 (by decide +kernel) rfl (fun hc208 => ?_) (fun hc208 => ?_)
                            · refine zw_iconst 0 53 f17_52 rfl (by decide +kernel) ?_
                              refine zw_zreturn f17_53 r17 u17 (by decide +kernel) ⟨_, rfl, ?_⟩
                              refine zw_if_eq_t 43 f111_25 (by decide +kernel) (by decide +kernel) ?_
                              refine zw_aload_n 44 f111_43 rfl rfl ?_
                              refine zw_bipush 14 46 f111_44 rfl (by decide +kernel) ?_
                              refine zw_virtual_i 49 0 0 [.ref 0, .int 14] [(0, .ref 0), (1, .int 14)] f111_46 rfl n111_78 k111_78_11 rfl (hb_0 _ _ _ _) (by decide +kernel) (Nat.le_of_ble_eq_true rfl) rfl rfl (by decide +kernel) (by decide +kernel) rfl (Nat.le_of_ble_eq_true rfl) rfl ?_
                              refine zw_aload_n 1 f105_0 rfl rfl ?_
                              refine zw_iload_n 2 f105_1 rfl rfl ?_
                              refine zw_put _ 5 f105_2 rfl g105_70_11 (hb_0 _ _ _ _) rfl (Nat.le_of_ble_eq_true rfl) (by decide +kernel) (hi_0_7 _ _ _ _ _) ?_
                              refine zw_iconst (-1) 6 f105_5 rfl (by decide +kernel) ?_
                              refine zw_ireturn f105_6 r105 u105 ⟨_, rfl, ?_⟩
                              refine zw_ireturn f111_49 r111 u111 ⟨_, rfl, ?_⟩
                              refine zw_ireturn f103_162 r103 u103 ?_
                              exact ⟨_, _, _, _, rfl, (KP.i rfl KP.rf), ⟨⟨hI.1, hI.2.1, t, by omega, et⟩, PE.of10 rfl rfl rfl rfl rfl rfl rfl rfl rfl rfl⟩, _, rfl⟩
                            · refine zw_iconst 1 49 f17_48 rfl (by decide +kernel) ?_
                              refine zw_goto 53 f17_49 (by decide +kernel) ?_
                              refine zw_zreturn f17_53 r17 u17 (by decide +kernel) ⟨_, rfl, ?_⟩
                              refine zw_if_eq_f 28 43 f111_25 (by decide +kernel) rfl (by decide +kernel) ?_
                              refine zw_aload_n 29 f111_28 rfl rfl ?_
                              refine zw_aload_n 30 f111_29 rfl rfl ?_
                              refine zw_getfield 33 f111_30 rfl g111_10_11 (hb_0 _ _ _ _) rfl ?_
                              refine zw_iload_n 34 f111_33 rfl rfl ?_
                              refine zw_virtual_i 37 0 0 [.ref 1, .int (c - c / 8 * 8)] [(0, .ref 1), (1, .int (c - c / 8 * 8))] f111_34 rfl n111_330 k111_330_4 rfl (hb_1 _ _ _ _) (by decide +kernel) (Nat.le_of_ble_eq_true rfl) rfl rfl (by decide +kernel) (by decide +kernel) rfl (Nat.le_of_ble_eq_true rfl) rfl ?_
                              refine zWp.mono (cm_brimOf ro nv np cm _ _ _ _ hI hcm hQ (c - c / 8 * 8)) ?_
                              rintro r h1 ⟨rfl, w209, rfl⟩
                              refine ⟨_, rfl, ?_⟩
                              refine zw_virtual_i 40 0 0 [.ref 0, .int w209] [(0, .ref 0), (1, .int w209)] f111_37 rfl n111_181 k111_181_11 rfl (hb_0 _ _ _ _) (by decide +kernel) (Nat.le_of_ble_eq_true rfl) rfl rfl (by decide +kernel) (by decide +kernel) rfl (Nat.le_of_ble_eq_true rfl) rfl ?_
                              refine zw_aload_n 1 f106_0 rfl rfl ?_
                              refine zw_iconst 0 2 f106_1 rfl (by decide +kernel) ?_
                              refine zw_put _ 5 f106_2 rfl g106_70_11 (hb_0 _ _ _ _) rfl (Nat.le_of_ble_eq_true rfl) (by decide +kernel) (hi_0_7 _ _ _ _ _) ?_
                              refine zw_iload_n 6 f106_5 rfl rfl ?_
                              refine zw_ireturn f106_6 r106 u106 ⟨_, rfl, ?_⟩
                              refine zw_goto 49 f111_40 (by decide +kernel) ?_
                              refine zw_ireturn f111_49 r111 u111 ⟨_, rfl, ?_⟩
                              refine zw_ireturn f103_162 r103 u103 ?_
                              exact ⟨_, _, _, _, rfl, (KP.i rfl KP.rf), ⟨⟨hI.1, hI.2.1, t, by omega, et⟩, PE.of10 rfl rfl rfl rfl rfl rfl rfl rfl rfl rfl⟩, _, rfl⟩
                  · refine zw_iload_n 11 f186_10 rfl zl1_eq ?_
                    refine zw_if_eq 14 18 f186_11 (by decide +kernel) rfl (fun hc210 => ?_) (fun hc210 => ?_)
                    · refine zw_iload_n 19 f186_18 rfl zl1_eq ?_
                      refine zw_ireturn f186_19 r186 u186 ⟨_, rfl, ?_⟩
                      refine zw_virtual_i 162 0 0 [.ref 0, .int (c - c / 8 * 8)] [(0, .ref 0), (1, .int (c - c / 8 * 8))] f103_159 rfl n103_315 k103_315_11 rfl (hb_0 _ _ _ _) (by decide +kernel) (Nat.le_of_ble_eq_true rfl) rfl rfl (by decide +kernel) (by decide +kernel) rfl (Nat.le_of_ble_eq_true rfl) rfl ?_
                      refine zw_aload_n 1 f111_0 rfl rfl ?_
                      refine zw_getfield 4 f111_1 rfl g111_10_11 (hb_0 _ _ _ _) rfl ?_
                      refine zw_iload_n 5 f111_4 rfl rfl ?_
                      refine zw_virtual_i 8 0 0 [.ref 1, .int (c - c / 8 * 8)] [(0, .ref 1), (1, .int (c - c / 8 * 8))] f111_5 rfl n111_89 k111_89_4 rfl (hb_1 _ _ _ _) (by decide +kernel) (Nat.le_of_ble_eq_true rfl) rfl rfl (by decide +kernel) (by decide +kernel) rfl (Nat.le_of_ble_eq_true rfl) rfl ?_
                      refine zw_iload_n 1 f13_0 rfl rfl ?_
                      refine zw_if_lt 4 22 f13_1 (by decide +kernel) rfl (fun hc211 => ?_) (fun hc211 => ?_)
                      · refine zw_iconst 0 23 f13_22 rfl (by decide +kernel) ?_
                        refine zw_zreturn f13_23 r13 u13 (by decide +kernel) ⟨_, rfl, ?_⟩
                        refine zw_if_ne_f 11 17 f111_8 (by decide +kernel) rfl (by decide +kernel) ?_
                        refine zw_aload_n 12 f111_11 rfl rfl ?_
                        refine zw_iconst 0 13 f111_12 rfl (by decide +kernel) ?_
                        refine zw_virtual_i 16 0 0 [.ref 0, .int 0] [(0, .ref 0), (1, .int 0)] f111_13 rfl n111_181 k111_181_11 rfl (hb_0 _ _ _ _) (by decide +kernel) (Nat.le_of_ble_eq_true rfl) rfl rfl (by decide +kernel) (by decide +kernel) rfl (Nat.le_of_ble_eq_true rfl) rfl ?_
                        refine zw_aload_n 1 f106_0 rfl rfl ?_
                        refine zw_iconst 0 2 f106_1 rfl (by decide +kernel) ?_
                        refine zw_put _ 5 f106_2 rfl g106_70_11 (hb_0 _ _ _ _) rfl (Nat.le_of_ble_eq_true rfl) (by decide +kernel) (hi_0_7 _ _ _ _ _) ?_
                        refine zw_iload_n 6 f106_5 rfl rfl ?_
                        refine zw_ireturn f106_6 r106 u106 ⟨_, rfl, ?_⟩
                        refine zw_ireturn f111_16 r111 u111 ⟨_, rfl, ?_⟩
                        refine zw_ireturn f103_162 r103 u103 ?_
                        exact ⟨_, _, _, _, rfl, (KP.i rfl KP.rf), ⟨⟨hI.1, hI.2.1, t, by omega, et⟩, PE.of10 rfl rfl rfl rfl rfl rfl rfl rfl rfl rfl⟩, _, rfl⟩
                      · refine zw_iload_n 5 f13_4 rfl rfl ?_
                        refine zw_aload_n 6 f13_5 rfl rfl ?_
                        refine zw_getI (nI nv) 9 f13_6 rfl g13_39_4 (hb_1 _ _ _ _) rfl hI.1.1.1 ?_
                        refine zw_ic_ge 12 22 f13_9 (by decide +kernel) rfl (fun hc212 => ?_) (fun hc212 => ?_)
                        · refine zw_iconst 0 23 f13_22 rfl (by decide +kernel) ?_
                          refine zw_zreturn f13_23 r13 u13 (by decide +kernel) ⟨_, rfl, ?_⟩
                          refine zw_if_ne_f 11 17 f111_8 (by decide +kernel) rfl (by decide +kernel) ?_
                          refine zw_aload_n 12 f111_11 rfl rfl ?_
                          refine zw_iconst 0 13 f111_12 rfl (by decide +kernel) ?_
                          refine zw_virtual_i 16 0 0 [.ref 0, .int 0] [(0, .ref 0), (1, .int 0)] f111_13 rfl n111_181 k111_181_11 rfl (hb_0 _ _ _ _) (by decide +kernel) (Nat.le_of_ble_eq_true rfl) rfl rfl (by decide +kernel) (by decide +kernel) rfl (Nat.le_of_ble_eq_true rfl) rfl ?_
                          refine zw_aload_n 1 f106_0 rfl rfl ?_
                          refine zw_iconst 0 2 f106_1 rfl (by decide +kernel) ?_
                          refine zw_put _ 5 f106_2 rfl g106_70_11 (hb_0 _ _ _ _) rfl (Nat.le_of_ble_eq_true rfl) (by decide +kernel) (hi_0_7 _ _ _ _ _) ?_
                          refine zw_iload_n 6 f106_5 rfl rfl ?_
                          refine zw_ireturn f106_6 r106 u106 ⟨_, rfl, ?_⟩
                          refine zw_ireturn f111_16 r111 u111 ⟨_, rfl, ?_⟩
                          refine zw_ireturn f103_162 r103 u103 ?_
                          exact ⟨_, _, _, _, rfl, (KP.i rfl KP.rf), ⟨⟨hI.1, hI.2.1, t, by omega, et⟩, PE.of10 rfl rfl rfl rfl rfl rfl rfl rfl rfl rfl⟩, _, rfl⟩
                        · refine zw_iload_n 13 f13_12 rfl rfl ?_
                          refine zw_bipush 8 15 f13_13 rfl (by decide +kernel) ?_
                          refine zw_ic_ge 18 22 f13_15 (by decide +kernel) rfl (fun hc213 => ?_) (fun hc213 => ?_)
                          · refine zw_iconst 0 23 f13_22 rfl (by decide +kernel) ?_
                            refine zw_zreturn f13_23 r13 u13 (by decide +kernel) ⟨_, rfl, ?_⟩
                            refine zw_if_ne_f 11 17 f111_8 (by decide +kernel) rfl (by decide +kernel) ?_
                            refine zw_aload_n 12 f111_11 rfl rfl ?_
                            refine zw_iconst 0 13 f111_12 rfl (by decide +kernel) ?_
                            refine zw_virtual_i 16 0 0 [.ref 0, .int 0] [(0, .ref 0), (1, .int 0)] f111_13 rfl n111_181 k111_181_11 rfl (hb_0 _ _ _ _) (by decide +kernel) (Nat.le_of_ble_eq_true rfl) rfl rfl (by decide +kernel) (by decide +kernel) rfl (Nat.le_of_ble_eq_true rfl) rfl ?_
                            refine zw_aload_n 1 f106_0 rfl rfl ?_
                            refine zw_iconst 0 2 f106_1 rfl (by decide +kernel) ?_
                            refine zw_put _ 5 f106_2 rfl g106_70_11 (hb_0 _ _ _ _) rfl (Nat.le_of_ble_eq_true rfl) (by decide +kernel) (hi_0_7 _ _ _ _ _) ?_
                            refine zw_iload_n 6 f106_5 rfl rfl ?_
                            refine zw_ireturn f106_6 r106 u106 ⟨_, rfl, ?_⟩
                            refine zw_ireturn f111_16 r111 u111 ⟨_, rfl, ?_⟩
                            refine zw_ireturn f103_162 r103 u103 ?_
                            exact ⟨_, _, _, _, rfl, (KP.i rfl KP.rf), ⟨⟨hI.1, hI.2.1, t, by omega, et⟩, PE.of10 rfl rfl rfl rfl rfl rfl rfl rfl rfl rfl⟩, _, rfl⟩
                          · refine zw_iconst 1 19 f13_18 rfl (by decide +kernel) ?_
                            refine zw_goto 23 f13_19 (by decide +kernel) ?_
                            refine zw_zreturn f13_23 r13 u13 (by decide +kernel) ⟨_, rfl, ?_⟩
                            refine zw_if_ne_t 17 f111_8 (by decide +kernel) (by decide +kernel) ?_
                            refine zw_aload_n 18 f111_17 rfl rfl ?_
                            refine zw_getfield 21 f111_18 rfl g111_10_11 (hb_0 _ _ _ _) rfl ?_
                            refine zw_iload_n 22 f111_21 rfl rfl ?_
                            refine zw_virtual_i 25 0 0 [.ref 1, .int (c - c / 8 * 8)] [(0, .ref 1), (1, .int (c - c / 8 * 8))] f111_22 rfl n111_100 k111_100_4 rfl (hb_1 _ _ _ _) (by decide +kernel) (Nat.le_of_ble_eq_true rfl) rfl rfl (by decide +kernel) (by decide +kernel) rfl (Nat.le_of_ble_eq_true rfl) rfl ?_
                            refine zw_iload_n 1 f17_0 rfl rfl ?_
                            refine zw_if_lt_f 4 22 f17_1 (by decide +kernel) rfl hc211 ?_
                            refine zw_iload_n 5 f17_4 rfl rfl ?_
                            refine zw_aload_n 6 f17_5 rfl rfl ?_
                            refine zw_getI (nI nv) 9 f17_6 rfl g17_39_4 (hb_1 _ _ _ _) rfl hI.1.1.1 ?_
                            refine zw_ic_ge_f 12 22 f17_9 (by decide +kernel) rfl hc212 ?_
                            refine zw_iload_n 13 f17_12 rfl rfl ?_
                            refine zw_bipush 8 15 f17_13 rfl (by decide +kernel) ?_
                            refine zw_ic_ge_f 18 22 f17_15 (by decide +kernel) rfl hc213 ?_
                            refine zw_iconst 1 19 f17_18 rfl (by decide +kernel) ?_
                            refine zw_goto 23 f17_19 (by decide +kernel) ?_
                            refine zw_istore_n _ 24 f17_23 rfl (by decide +kernel) rfl ?_
                            refine zw_iload_n 25 f17_24 rfl zl1_eq ?_
                            refine zw_if_eq_f 28 52 f17_25 (by decide +kernel) rfl (by decide +kernel) ?_
                            refine zw_aload_n 29 f17_28 rfl (zl1_ne rfl rfl rfl) ?_
                            refine zw_getfield 32 f17_29 rfl g17_9_4 (hb_1 _ _ _ _) rfl ?_
                            refine zw_iload_n 33 f17_32 rfl (zl1_ne rfl rfl rfl) ?_
                            refine zw_iaload (c - c / 8 * 8).toNatClampNeg (A 2 (c - c / 8 * 8).toNatClampNeg) 34 f17_33 rfl (hb_2 _ _ _ _) rfl hc211 (zix (by decide) hc211 hc213) rfl ?_
                            refine zw_iconst 3 35 f17_34 rfl (by decide +kernel) ?_
                            refine zw_ic_eq 38 48 f17_35 (by decide +kernel) rfl (fun hc214 => ?_) (fun hc214 => ?_)
                            · refine zw_iconst 1 49 f17_48 rfl (by decide +kernel) ?_
                              refine zw_goto 53 f17_49 (by decide +kernel) ?_
                              refine zw_zreturn f17_53 r17 u17 (by decide +kernel) ⟨_, rfl, ?_⟩
                              refine zw_if_eq_f 28 43 f111_25 (by decide +kernel) rfl (by decide +kernel) ?_
                              refine zw_aload_n 29 f111_28 rfl rfl ?_
                              refine zw_aload_n 30 f111_29 rfl rfl ?_
                              refine zw_getfield 33 f111_30 rfl g111_10_11 (hb_0 _ _ _ _) rfl ?_
                              refine zw_iload_n 34 f111_33 rfl rfl ?_
                              refine zw_virtual_i 37 0 0 [.ref 1, .int (c - c / 8 * 8)] [(0, .ref 1), (1, .int (c - c / 8 * 8))] f111_34 rfl n111_330 k111_330_4 rfl (hb_1 _ _ _ _) (by decide +kernel) (Nat.le_of_ble_eq_true rfl) rfl rfl (by decide +kernel) (by decide +kernel) rfl (Nat.le_of_ble_eq_true rfl) rfl ?_
                              refine zWp.mono (cm_brimOf ro nv np cm _ _ _ _ hI hcm hQ (c - c / 8 * 8)) ?_
                              rintro r h1 ⟨rfl, w215, rfl⟩
                              refine ⟨_, rfl, ?_⟩
                              refine zw_virtual_i 40 0 0 [.ref 0, .int w215] [(0, .ref 0), (1, .int w215)] f111_37 rfl n111_181 k111_181_11 rfl (hb_0 _ _ _ _) (by decide +kernel) (Nat.le_of_ble_eq_true rfl) rfl rfl (by decide +kernel) (by decide +kernel) rfl (Nat.le_of_ble_eq_true rfl) rfl ?_
                              refine zw_aload_n 1 f106_0 rfl rfl ?_
                              refine zw_iconst 0 2 f106_1 rfl (by decide +kernel) ?_
                              refine zw_put _ 5 f106_2 rfl g106_70_11 (hb_0 _ _ _ _) rfl (Nat.le_of_ble_eq_true rfl) (by decide +kernel) (hi_0_7 _ _ _ _ _) ?_
                              refine zw_iload_n 6 f106_5 rfl rfl ?_
                              refine zw_ireturn f106_6 r106 u106 ⟨_, rfl, ?_⟩
                              refine zw_goto 49 f111_40 (by decide +kernel) ?_
                              refine zw_ireturn f111_49 r111 u111 ⟨_, rfl, ?_⟩
                              refine zw_ireturn f103_162 r103 u103 ?_
                              exact ⟨_, _, _, _, rfl, (KP.i rfl KP.rf), ⟨⟨hI.1, hI.2.1, t, by omega, et⟩, PE.of10 rfl rfl rfl rfl rfl rfl rfl rfl rfl rfl⟩, _, rfl⟩
                            · refine zw_aload_n 39 f17_38 rfl (zl1_ne rfl rfl rfl) ?_
                              refine zw_getfield 42 f17_39 rfl g17_9_4 (hb_1 _ _ _ _) rfl ?_
                              refine zw_iload_n 43 f17_42 rfl (zl1_ne rfl rfl rfl) ?_
                              refine zw_iaload (c - c / 8 * 8).toNatClampNeg (A 2 (c - c / 8 * 8).toNatClampNeg) 44 f17_43 rfl (hb_2 _ _ _ _) rfl hc211 (zix (by decide) hc211 hc213) rfl ?_
                              refine zw_iconst 4 45 f17_44 rfl (by decide +kernel) ?_
                              refine zw_ic_ne 48 52 f17_45 (by decide +kernel) rfl (fun hc216 => ?_) (fun hc216 => ?_)
                              · refine zw_iconst 0 53 f17_52 rfl (by decide +kernel) ?_
                                refine zw_zreturn f17_53 r17 u17 (by decide +kernel) ⟨_, rfl, ?_⟩
                                refine zw_if_eq_t 43 f111_25 (by decide +kernel) (by decide +kernel) ?_
                                refine zw_aload_n 44 f111_43 rfl rfl ?_
                                refine zw_bipush 14 46 f111_44 rfl (by decide +kernel) ?_
                                refine zw_virtual_i 49 0 0 [.ref 0, .int 14] [(0, .ref 0), (1, .int 14)] f111_46 rfl n111_78 k111_78_11 rfl (hb_0 _ _ _ _) (by decide +kernel) (Nat.le_of_ble_eq_true rfl) rfl rfl (by decide +kernel) (by decide +kernel) rfl (Nat.le_of_ble_eq_true rfl) rfl ?_
                                refine zw_aload_n 1 f105_0 rfl rfl ?_
                                refine zw_iload_n 2 f105_1 rfl rfl ?_
                                refine zw_put _ 5 f105_2 rfl g105_70_11 (hb_0 _ _ _ _) rfl (Nat.le_of_ble_eq_true rfl) (by decide +kernel) (hi_0_7 _ _ _ _ _) ?_
                                refine zw_iconst (-1) 6 f105_5 rfl (by decide +kernel) ?_
                                refine zw_ireturn f105_6 r105 u105 ⟨_, rfl, ?_⟩
                                refine zw_ireturn f111_49 r111 u111 ⟨_, rfl, ?_⟩
                                refine zw_ireturn f103_162 r103 u103 ?_
                                exact ⟨_, _, _, _, rfl, (KP.i rfl KP.rf), ⟨⟨hI.1, hI.2.1, t, by omega, et⟩, PE.of10 rfl rfl rfl rfl rfl rfl rfl rfl rfl rfl⟩, _, rfl⟩
                              · refine zw_iconst 1 49 f17_48 rfl (by decide +kernel) ?_
                                refine zw_goto 53 f17_49 (by decide +kernel) ?_
                                refine zw_zreturn f17_53 r17 u17 (by decide +kernel) ⟨_, rfl, ?_⟩
                                refine zw_if_eq_f 28 43 f111_25 (by decide +kernel) rfl (by decide +kernel) ?_
                                refine zw_aload_n 29 f111_28 rfl rfl ?_
                                refine zw_aload_n 30 f111_29 rfl rfl ?_
                                refine zw_getfield 33 f111_30 rfl g111_10_11 (hb_0 _ _ _ _) rfl ?_
                                refine zw_iload_n 34 f111_33 rfl rfl ?_
                                refine zw_virtual_i 37 0 0 [.ref 1, .int (c - c / 8 * 8)] [(0, .ref 1), (1, .int (c - c / 8 * 8))] f111_34 rfl n111_330 k111_330_4 rfl (hb_1 _ _ _ _) (by decide +kernel) (Nat.le_of_ble_eq_true rfl) rfl rfl (by decide +kernel) (by decide +kernel) rfl (Nat.le_of_ble_eq_true rfl) rfl ?_
                                refine zWp.mono (cm_brimOf ro nv np cm _ _ _ _ hI hcm hQ (c - c / 8 * 8)) ?_
                                rintro r h1 ⟨rfl, w217, rfl⟩
                                refine ⟨_, rfl, ?_⟩
                                refine zw_virtual_i 40 0 0 [.ref 0, .int w217] [(0, .ref 0), (1, .int w217)] f111_37 rfl n111_181 k111_181_11 rfl (hb_0 _ _ _ _) (by decide +kernel) (Nat.le_of_ble_eq_true rfl) rfl rfl (by decide +kernel) (by decide +kernel) rfl (Nat.le_of_ble_eq_true rfl) rfl ?_
                                refine zw_aload_n 1 f106_0 rfl rfl ?_
                                refine zw_iconst 0 2 f106_1 rfl (by decide +kernel) ?_
                                refine zw_put _ 5 f106_2 rfl g106_70_11 (hb_0 _ _ _ _) rfl (Nat.le_of_ble_eq_true rfl) (by decide +kernel) (hi_0_7 _ _ _ _ _) ?_
                                refine zw_iload_n 6 f106_5 rfl rfl ?_
                                refine zw_ireturn f106_6 r106 u106 ⟨_, rfl, ?_⟩
                                refine zw_goto 49 f111_40 (by decide +kernel) ?_
                                refine zw_ireturn f111_49 r111 u111 ⟨_, rfl, ?_⟩
                                refine zw_ireturn f103_162 r103 u103 ?_
                                exact ⟨_, _, _, _, rfl, (KP.i rfl KP.rf), ⟨⟨hI.1, hI.2.1, t, by omega, et⟩, PE.of10 rfl rfl rfl rfl rfl rfl rfl rfl rfl rfl⟩, _, rfl⟩
                    · refine zw_iload_n 15 f186_14 rfl zl1_eq ?_
                      refine zw_iload_n 16 f186_15 rfl (zl1_ne rfl rfl rfl) ?_
                      refine zw_iadd ((c - c / 8 * 8) + 8) 17 f186_16 rfl rfl ?_
                      refine zw_ireturn f186_17 r186 u186 ⟨_, rfl, ?_⟩
                      refine zw_virtual_i 162 0 0 [.ref 0, .int ((c - c / 8 * 8) + 8)] [(0, .ref 0), (1, .int ((c - c / 8 * 8) + 8))] f103_159 rfl n103_315 k103_315_11 rfl (hb_0 _ _ _ _) (by decide +kernel) (Nat.le_of_ble_eq_true rfl) rfl rfl (by decide +kernel) (by decide +kernel) rfl (Nat.le_of_ble_eq_true rfl) rfl ?_
                      refine zw_aload_n 1 f111_0 rfl rfl ?_
                      refine zw_getfield 4 f111_1 rfl g111_10_11 (hb_0 _ _ _ _) rfl ?_
                      refine zw_iload_n 5 f111_4 rfl rfl ?_
                      refine zw_virtual_i 8 0 0 [.ref 1, .int ((c - c / 8 * 8) + 8)] [(0, .ref 1), (1, .int ((c - c / 8 * 8) + 8))] f111_5 rfl n111_89 k111_89_4 rfl (hb_1 _ _ _ _) (by decide +kernel) (Nat.le_of_ble_eq_true rfl) rfl rfl (by decide +kernel) (by decide +kernel) rfl (Nat.le_of_ble_eq_true rfl) rfl ?_
                      refine zw_iload_n 1 f13_0 rfl rfl ?_
                      refine zw_if_lt 4 22 f13_1 (by decide +kernel) rfl (fun hc218 => ?_) (fun hc218 => ?_)
                      · refine zw_iconst 0 23 f13_22 rfl (by decide +kernel) ?_
                        refine zw_zreturn f13_23 r13 u13 (by decide +kernel) ⟨_, rfl, ?_⟩
                        refine zw_if_ne_f 11 17 f111_8 (by decide +kernel) rfl (by decide +kernel) ?_
                        refine zw_aload_n 12 f111_11 rfl rfl ?_
                        refine zw_iconst 0 13 f111_12 rfl (by decide +kernel) ?_
                        refine zw_virtual_i 16 0 0 [.ref 0, .int 0] [(0, .ref 0), (1, .int 0)] f111_13 rfl n111_181 k111_181_11 rfl (hb_0 _ _ _ _) (by decide +kernel) (Nat.le_of_ble_eq_true rfl) rfl rfl (by decide +kernel) (by decide +kernel) rfl (Nat.le_of_ble_eq_true rfl) rfl ?_
                        refine zw_aload_n 1 f106_0 rfl rfl ?_
                        refine zw_iconst 0 2 f106_1 rfl (by decide +kernel) ?_
                        refine zw_put _ 5 f106_2 rfl g106_70_11 (hb_0 _ _ _ _) rfl (Nat.le_of_ble_eq_true rfl) (by decide +kernel) (hi_0_7 _ _ _ _ _) ?_
                        refine zw_iload_n 6 f106_5 rfl rfl ?_
                        refine zw_ireturn f106_6 r106 u106 ⟨_, rfl, ?_⟩
                        refine zw_ireturn f111_16 r111 u111 ⟨_, rfl, ?_⟩
                        refine zw_ireturn f103_162 r103 u103 ?_
                        exact ⟨_, _, _, _, rfl, (KP.i rfl KP.rf), ⟨⟨hI.1, hI.2.1, t, by omega, et⟩, PE.of10 rfl rfl rfl rfl rfl rfl rfl rfl rfl rfl⟩, _, rfl⟩
                      · refine zw_iload_n 5 f13_4 rfl rfl ?_
                        refine zw_aload_n 6 f13_5 rfl rfl ?_
                        refine zw_getI (nI nv) 9 f13_6 rfl g13_39_4 (hb_1 _ _ _ _) rfl hI.1.1.1 ?_
                        refine zw_ic_ge 12 22 f13_9 (by decide +kernel) rfl (fun hc219 => ?_) (fun hc219 => ?_)
                        · refine zw_iconst 0 23 f13_22 rfl (by decide +kernel) ?_
                          refine zw_zreturn f13_23 r13 u13 (by decide +kernel) ⟨_, rfl, ?_⟩
                          refine zw_if_ne_f 11 17 f111_8 (by decide +kernel) rfl (by decide +kernel) ?_
                          refine zw_aload_n 12 f111_11 rfl rfl ?_
                          refine zw_iconst 0 13 f111_12 rfl (by decide +kernel) ?_
                          refine zw_virtual_i 16 0 0 [.ref 0, .int 0] [(0, .ref 0), (1, .int 0)] f111_13 rfl n111_181 k111_181_11 rfl (hb_0 _ _ _ _) (by decide +kernel) (Nat.le_of_ble_eq_true rfl) rfl rfl (by decide +kernel) (by decide +kernel) rfl (Nat.le_of_ble_eq_true rfl) rfl ?_
                          refine zw_aload_n 1 f106_0 rfl rfl ?_
                          refine zw_iconst 0 2 f106_1 rfl (by decide +kernel) ?_
                          refine zw_put _ 5 f106_2 rfl g106_70_11 (hb_0 _ _ _ _) rfl (Nat.le_of_ble_eq_true rfl) (by decide +kernel) (hi_0_7 _ _ _ _ _) ?_
                          refine zw_iload_n 6 f106_5 rfl rfl ?_
                          refine zw_ireturn f106_6 r106 u106 ⟨_, rfl, ?_⟩
                          refine zw_ireturn f111_16 r111 u111 ⟨_, rfl, ?_⟩
                          refine zw_ireturn f103_162 r103 u103 ?_
                          exact ⟨_, _, _, _, rfl, (KP.i rfl KP.rf), ⟨⟨hI.1, hI.2.1, t, by omega, et⟩, PE.of10 rfl rfl rfl rfl rfl rfl rfl rfl rfl rfl⟩, _, rfl⟩
                        · refine zw_iload_n 13 f13_12 rfl rfl ?_
                          refine zw_bipush 8 15 f13_13 rfl (by decide +kernel) ?_
                          refine zw_ic_ge 18 22 f13_15 (by decide +kernel) rfl (fun hc220 => ?_) (fun hc220 => ?_)
                          · refine zw_iconst 0 23 f13_22 rfl (by decide +kernel) ?_
                            refine zw_zreturn f13_23 r13 u13 (by decide +kernel) ⟨_, rfl, ?_⟩
                            refine zw_if_ne_f 11 17 f111_8 (by decide +kernel) rfl (by decide +kernel) ?_
                            refine zw_aload_n 12 f111_11 rfl rfl ?_
                            refine zw_iconst 0 13 f111_12 rfl (by decide +kernel) ?_
                            refine zw_virtual_i 16 0 0 [.ref 0, .int 0] [(0, .ref 0), (1, .int 0)] f111_13 rfl n111_181 k111_181_11 rfl (hb_0 _ _ _ _) (by decide +kernel) (Nat.le_of_ble_eq_true rfl) rfl rfl (by decide +kernel) (by decide +kernel) rfl (Nat.le_of_ble_eq_true rfl) rfl ?_
                            refine zw_aload_n 1 f106_0 rfl rfl ?_
                            refine zw_iconst 0 2 f106_1 rfl (by decide +kernel) ?_
                            refine zw_put _ 5 f106_2 rfl g106_70_11 (hb_0 _ _ _ _) rfl (Nat.le_of_ble_eq_true rfl) (by decide +kernel) (hi_0_7 _ _ _ _ _) ?_
                            refine zw_iload_n 6 f106_5 rfl rfl ?_
                            refine zw_ireturn f106_6 r106 u106 ⟨_, rfl, ?_⟩
                            refine zw_ireturn f111_16 r111 u111 ⟨_, rfl, ?_⟩
                            refine zw_ireturn f103_162 r103 u103 ?_
                            exact ⟨_, _, _, _, rfl, (KP.i rfl KP.rf), ⟨⟨hI.1, hI.2.1, t, by omega, et⟩, PE.of10 rfl rfl rfl rfl rfl rfl rfl rfl rfl rfl⟩, _, rfl⟩
                          · refine zw_iconst 1 19 f13_18 rfl (by decide +kernel) ?_
                            refine zw_goto 23 f13_19 (by decide +kernel) ?_
                            refine zw_zreturn f13_23 r13 u13 (by decide +kernel) ⟨_, rfl, ?_⟩
                            refine zw_if_ne_t 17 f111_8 (by decide +kernel) (by decide +kernel) ?_
                            refine zw_aload_n 18 f111_17 rfl rfl ?_
                            refine zw_getfield 21 f111_18 rfl g111_10_11 (hb_0 _ _ _ _) rfl ?_
                            refine zw_iload_n 22 f111_21 rfl rfl ?_
                            refine zw_virtual_i 25 0 0 [.ref 1, .int ((c - c / 8 * 8) + 8)] [(0, .ref 1), (1, .int ((c - c / 8 * 8) + 8))] f111_22 rfl n111_100 k111_100_4 rfl (hb_1 _ _ _ _) (by decide +kernel) (Nat.le_of_ble_eq_true rfl) rfl rfl (by decide +kernel) (by decide +kernel) rfl (Nat.le_of_ble_eq_true rfl) rfl ?_
                            refine zw_iload_n 1 f17_0 rfl rfl ?_
                            refine zw_if_lt_f 4 22 f17_1 (by decide +kernel) rfl hc218 ?_
                            refine zw_iload_n 5 f17_4 rfl rfl ?_
                            refine zw_aload_n 6 f17_5 rfl rfl ?_
                            refine zw_getI (nI nv) 9 f17_6 rfl g17_39_4 (hb_1 _ _ _ _) rfl hI.1.1.1 ?_
                            refine zw_ic_ge_f 12 22 f17_9 (by decide +kernel) rfl hc219 ?_
                            refine zw_iload_n 13 f17_12 rfl rfl ?_
                            refine zw_bipush 8 15 f17_13 rfl (by decide +kernel) ?_
                            refine zw_ic_ge_f 18 22 f17_15 (by decide +kernel) rfl hc220 ?_
                            refine zw_iconst 1 19 f17_18 rfl (by decide +kernel) ?_
                            refine zw_goto 23 f17_19 (by decide +kernel) ?_
                            refine zw_istore_n _ 24 f17_23 rfl (by decide +kernel) rfl ?_
                            refine zw_iload_n 25 f17_24 rfl zl1_eq ?_
                            refine zw_if_eq_f 28 52 f17_25 (by decide +kernel) rfl (by decide +kernel) ?_
                            refine zw_aload_n 29 f17_28 rfl (zl1_ne rfl rfl rfl) ?_
                            refine zw_getfield 32 f17_29 rfl g17_9_4 (hb_1 _ _ _ _) rfl ?_
                            refine zw_iload_n 33 f17_32 rfl (zl1_ne rfl rfl rfl) ?_
                            refine zw_iaload ((c - c / 8 * 8) + 8).toNatClampNeg (A 2 ((c - c / 8 * 8) + 8).toNatClampNeg) 34 f17_33 rfl (hb_2 _ _ _ _) rfl hc218 (zix (by decide) hc218 hc220) rfl ?_
                            refine zw_iconst 3 35 f17_34 rfl (by decide +kernel) ?_
                            refine zw_ic_eq 38 48 f17_35 (by decide +kernel) rfl (fun hc221 => ?_) (fun hc221 => ?_)
                            · refine zw_iconst 1 49 f17_48 rfl (by decide +kernel) ?_
                              refine zw_goto 53 f17_49 (by decide +kernel) ?_
                              refine zw_zreturn f17_53 r17 u17 (by decide +kernel) ⟨_, rfl, ?_⟩
                              refine zw_if_eq_f 28 43 f111_25 (by decide +kernel) rfl (by decide +kernel) ?_
                              refine zw_aload_n 29 f111_28 rfl rfl ?_
                              refine zw_aload_n 30 f111_29 rfl rfl ?_
                              refine zw_getfield 33 f111_30 rfl g111_10_11 (hb_0 _ _ _ _) rfl ?_
                              refine zw_iload_n 34 f111_33 rfl rfl ?_
                              refine zw_virtual_i 37 0 0 [.ref 1, .int ((c - c / 8 * 8) + 8)] [(0, .ref 1), (1, .int ((c - c / 8 * 8) + 8))] f111_34 rfl n111_330 k111_330_4 rfl (hb_1 _ _ _ _) (by decide +kernel) (Nat.le_of_ble_eq_true rfl) rfl rfl (by decide +kernel) (by decide +kernel) rfl (Nat.le_of_ble_eq_true rfl) rfl ?_
                              refine zWp.mono (cm_brimOf ro nv np cm _ _ _ _ hI hcm hQ ((c - c / 8 * 8) + 8)) ?_
                              rintro r h1 ⟨rfl, w222, rfl⟩
                              refine ⟨_, rfl, ?_⟩
                              refine zw_virtual_i 40 0 0 [.ref 0, .int w222] [(0, .ref 0), (1, .int w222)] f111_37 rfl n111_181 k111_181_11 rfl (hb_0 _ _ _ _) (by decide +kernel) (Nat.le_of_ble_eq_true rfl) rfl rfl (by decide +kernel) (by decide +kernel) rfl (Nat.le_of_ble_eq_true rfl) rfl ?_
                              refine zw_aload_n 1 f106_0 rfl rfl ?_
                              refine zw_iconst 0 2 f106_1 rfl (by decide +kernel) ?_
                              refine zw_put _ 5 f106_2 rfl g106_70_11 (hb_0 _ _ _ _) rfl (Nat.le_of_ble_eq_true rfl) (by decide +kernel) (hi_0_7 _ _ _ _ _) ?_
                              refine zw_iload_n 6 f106_5 rfl rfl ?_
                              refine zw_ireturn f106_6 r106 u106 ⟨_, rfl, ?_⟩
                              refine zw_goto 49 f111_40 (by decide +kernel) ?_
                              refine zw_ireturn f111_49 r111 u111 ⟨_, rfl, ?_⟩
                              refine zw_ireturn f103_162 r103 u103 ?_
                              exact ⟨_, _, _, _, rfl, (KP.i rfl KP.rf), ⟨⟨hI.1, hI.2.1, t, by omega, et⟩, PE.of10 rfl rfl rfl rfl rfl rfl rfl rfl rfl rfl⟩, _, rfl⟩
                            · refine zw_aload_n 39 f17_38 rfl (zl1_ne rfl rfl rfl) ?_
                              refine zw_getfield 42 f17_39 rfl g17_9_4 (hb_1 _ _ _ _) rfl ?_
                              refine zw_iload_n 43 f17_42 rfl (zl1_ne rfl rfl rfl) ?_
                              refine zw_iaload ((c - c / 8 * 8) + 8).toNatClampNeg (A 2 ((c - c / 8 * 8) + 8).toNatClampNeg) 44 f17_43 rfl (hb_2 _ _ _ _) rfl hc218 (zix (by decide) hc218 hc220) rfl ?_
                              refine zw_iconst 4 45 f17_44 rfl (by decide +kernel) ?_
                              refine zw_ic_ne 48 52 f17_45 (by decide +kernel) rfl (fun hc223 => ?_) (fun hc223 => ?_)
                              · refine zw_iconst 0 53 f17_52 rfl (by decide +kernel) ?_
                                refine zw_zreturn f17_53 r17 u17 (by decide +kernel) ⟨_, rfl, ?_⟩
                                refine zw_if_eq_t 43 f111_25 (by decide +kernel) (by decide +kernel) ?_
                                refine zw_aload_n 44 f111_43 rfl rfl ?_
                                refine zw_bipush 14 46 f111_44 rfl (by decide +kernel) ?_
                                refine zw_virtual_i 49 0 0 [.ref 0, .int 14] [(0, .ref 0), (1, .int 14)] f111_46 rfl n111_78 k111_78_11 rfl (hb_0 _ _ _ _) (by decide +kernel) (Nat.le_of_ble_eq_true rfl) rfl rfl (by decide +kernel) (by decide +kernel) rfl (Nat.le_of_ble_eq_true rfl) rfl ?_
                                refine zw_aload_n 1 f105_0 rfl rfl ?_
                                refine zw_iload_n 2 f105_1 rfl rfl ?_
                                refine zw_put _ 5 f105_2 rfl g105_70_11 (hb_0 _ _ _ _) rfl (Nat.le_of_ble_eq_true rfl) (by decide +kernel) (hi_0_7 _ _ _ _ _) ?_
                                refine zw_iconst (-1) 6 f105_5 rfl (by decide +kernel) ?_
                                refine zw_ireturn f105_6 r105 u105 ⟨_, rfl, ?_⟩
                                refine zw_ireturn f111_49 r111 u111 ⟨_, rfl, ?_⟩
                                refine zw_ireturn f103_162 r103 u103 ?_
                                exact ⟨_, _, _, _, rfl, (KP.i rfl KP.rf), ⟨⟨hI.1, hI.2.1, t, by omega, et⟩, PE.of10 rfl rfl rfl rfl rfl rfl rfl rfl rfl rfl⟩, _, rfl⟩
                              · refine zw_iconst 1 49 f17_48 rfl (by decide +kernel) ?_
                                refine zw_goto 53 f17_49 (by decide +kernel) ?_
                                refine zw_zreturn f17_53 r17 u17 (by decide +kernel) ⟨_, rfl, ?_⟩
                                refine zw_if_eq_f 28 43 f111_25 (by decide +kernel) rfl (by decide +kernel) ?_
                                refine zw_aload_n 29 f111_28 rfl rfl ?_
                                refine zw_aload_n 30 f111_29 rfl rfl ?_
                                refine zw_getfield 33 f111_30 rfl g111_10_11 (hb_0 _ _ _ _) rfl ?_
                                refine zw_iload_n 34 f111_33 rfl rfl ?_
                                refine zw_virtual_i 37 0 0 [.ref 1, .int ((c - c / 8 * 8) + 8)] [(0, .ref 1), (1, .int ((c - c / 8 * 8) + 8))] f111_34 rfl n111_330 k111_330_4 rfl (hb_1 _ _ _ _) (by decide +kernel) (Nat.le_of_ble_eq_true rfl) rfl rfl (by decide +kernel) (by decide +kernel) rfl (Nat.le_of_ble_eq_true rfl) rfl ?_
                                refine zWp.mono (cm_brimOf ro nv np cm _ _ _ _ hI hcm hQ ((c - c / 8 * 8) + 8)) ?_
                                rintro r h1 ⟨rfl, w224, rfl⟩
                                refine ⟨_, rfl, ?_⟩
                                refine zw_virtual_i 40 0 0 [.ref 0, .int w224] [(0, .ref 0), (1, .int w224)] f111_37 rfl n111_181 k111_181_11 rfl (hb_0 _ _ _ _) (by decide +kernel) (Nat.le_of_ble_eq_true rfl) rfl rfl (by decide +kernel) (by decide +kernel) rfl (Nat.le_of_ble_eq_true rfl) rfl ?_
                                refine zw_aload_n 1 f106_0 rfl rfl ?_
                                refine zw_iconst 0 2 f106_1 rfl (by decide +kernel) ?_
                                refine zw_put _ 5 f106_2 rfl g106_70_11 (hb_0 _ _ _ _) rfl (Nat.le_of_ble_eq_true rfl) (by decide +kernel) (hi_0_7 _ _ _ _ _) ?_
                                refine zw_iload_n 6 f106_5 rfl rfl ?_
                                refine zw_ireturn f106_6 r106 u106 ⟨_, rfl, ?_⟩
                                refine zw_goto 49 f111_40 (by decide +kernel) ?_
                                refine zw_ireturn f111_49 r111 u111 ⟨_, rfl, ?_⟩
                                refine zw_ireturn f103_162 r103 u103 ?_
                                exact ⟨_, _, _, _, rfl, (KP.i rfl KP.rf), ⟨⟨hI.1, hI.2.1, t, by omega, et⟩, PE.of10 rfl rfl rfl rfl rfl rfl rfl rfl rfl rfl⟩, _, rfl⟩
                · refine zw_table_k 124 163 f103_39 hs7e (by decide +kernel) (by decide +kernel) (by decide +kernel) ?_
                  refine zw_iload_n 164 f103_163 rfl rfl ?_
                  refine zw_if_ne 167 176 f103_164 (by decide +kernel) rfl (fun hc225 => ?_) (fun hc225 => ?_)
                  · refine zw_aload_n 177 f103_176 rfl rfl ?_
                    refine zw_sipush 1000 180 f103_177 rfl (by decide +kernel) ?_
                    refine zw_iload_n 181 f103_180 rfl rfl ?_
                    refine zw_idiv (1000 / b) 182 f103_181 rfl hc225 rfl ?_
                    refine zw_virtual_i 185 0 0 [.ref 0, .int (1000 / b)] [(0, .ref 0), (1, .int (1000 / b))] f103_182 rfl n103_181 k103_181_11 rfl (hb_0 _ _ _ _) (by decide +kernel) (Nat.le_of_ble_eq_true rfl) rfl rfl (by decide +kernel) (by decide +kernel) rfl (Nat.le_of_ble_eq_true rfl) rfl ?_
                    refine zw_aload_n 1 f106_0 rfl rfl ?_
                    refine zw_iconst 0 2 f106_1 rfl (by decide +kernel) ?_
                    refine zw_put _ 5 f106_2 rfl g106_70_11 (hb_0 _ _ _ _) rfl (Nat.le_of_ble_eq_true rfl) (by decide +kernel) (hi_0_7 _ _ _ _ _) ?_
                    refine zw_iload_n 6 f106_5 rfl rfl ?_
                    refine zw_ireturn f106_6 r106 u106 ⟨_, rfl, ?_⟩
                    refine zw_ireturn f103_185 r103 u103 ?_
                    exact ⟨_, _, _, _, rfl, (KP.i rfl KP.rf), ⟨⟨hI.1, hI.2.1, t, by omega, et⟩, PE.of10 rfl rfl rfl rfl rfl rfl rfl rfl rfl rfl⟩, _, rfl⟩
                  · refine zw_aload_n 168 f103_167 rfl rfl ?_
                    refine zw_bipush 15 170 f103_168 rfl (by decide +kernel) ?_
                    refine zw_virtual_i 173 0 0 [.ref 0, .int 15] [(0, .ref 0), (1, .int 15)] f103_170 rfl n103_78 k103_78_11 rfl (hb_0 _ _ _ _) (by decide +kernel) (Nat.le_of_ble_eq_true rfl) rfl rfl (by decide +kernel) (by decide +kernel) rfl (Nat.le_of_ble_eq_true rfl) rfl ?_
                    refine zw_aload_n 1 f105_0 rfl rfl ?_
                    refine zw_iload_n 2 f105_1 rfl rfl ?_
                    refine zw_put _ 5 f105_2 rfl g105_70_11 (hb_0 _ _ _ _) rfl (Nat.le_of_ble_eq_true rfl) (by decide +kernel) (hi_0_7 _ _ _ _ _) ?_
                    refine zw_iconst (-1) 6 f105_5 rfl (by decide +kernel) ?_
                    refine zw_ireturn f105_6 r105 u105 ⟨_, rfl, ?_⟩
                    refine zw_goto 185 f103_173 (by decide +kernel) ?_
                    refine zw_ireturn f103_185 r103 u103 ?_
                    exact ⟨_, _, _, _, rfl, (KP.i rfl KP.rf), ⟨⟨hI.1, hI.2.1, t, by omega, et⟩, PE.of10 rfl rfl rfl rfl rfl rfl rfl rfl rfl rfl⟩, _, rfl⟩
theorem rng1 {x : Int32} (h1 : ¬ x < 1) (h2 : ¬ 20 < x) : x = nI x.toNatClampNeg ∧ 1 ≤ x.toNatClampNeg ∧ x.toNatClampNeg ≤ 20 := by
  have q := qRg.i (l := 1) (h := 20) (by decide) (by decide) ⟨h1, h2⟩
  have e4 : x.toNatClampNeg = x.toInt.toNat := rfl
  refine ⟨?_, by omega, by omega⟩
  apply Int32.toInt_inj.mp
  rw [nI_toInt (by omega)]; omega
set_option maxRecDepth 100000 in
set_option maxHeartbeats 0 in
theorem lcm_tune (ro : UInt32 → Nat × (Nat → Int32)) (nv np cm : Nat) (I : Nat → Nat → Int32) (G : Nat → Nat → Int64) (A : Nat → Nat → Int32) (B : Nat → Nat → Int64) (hI : CV nv np cm I) (hcm : cm < 900000000) (hQ : qKd nv (cP A)) (p ve wh : Int32) (b : Nat) (hb : b ≤ 20) (p0 : ¬ p < 0) (p1 : ¬ 14 ≤ p) : ∀ (n c : Nat) (ls : List (Nat × Value)) (I1 : Nat → Nat → Int32) (G1 : Nat → Nat → Int64) (A1 : Nat → Nat → Int32) (B1 : Nat → Nat → Int64), KP pX I G A B I1 G1 A1 B1 → CV nv np cm I1 → PE (cP A1) (cP A) → zld ls 0 = some (.ref 0) → zld ls 1 = some (.int p) → zld ls 3 = some (.int (nI b)) → zld ls 4 = some (.int ve) → zld ls 5 = some (.int wh) → zld ls 6 = some (.int (nI c)) → c ≤ 41 → 42 ≤ c + n → zWp ro 100 72 ls [] (hS I1 G1 A1 B1) 0 0 (fun r h1 => ∃ I2 G2 A2 B2, h1 = hS I2 G2 A2 B2 ∧ KP pX I G A B I2 G2 A2 B2 ∧ cSt nv np cm (cP A) I2 A2 ∧ ∃ v : Int32, r = some (.int v)) := by
  have h8 := hI.1.1.2
  have h14 := hI.1.2.1.2
  obtain ⟨t, ht, et⟩ := hI.2.2
  intro n
  induction n with
  | zero =>
    intro c ls I1 G1 A1 B1 KK hJ hE h0 h1 h3 h4 h5 h6 a b
    exact absurd b (by omega)
  | succ n ih =>
    intro c ls I1 G1 A1 B1 KK hJ hE h0 h1 h3 h4 h5 h6 hc1 hc2
    refine zw_iload 74 f100_72 rfl h6 ?_
    refine zw_iload_n 75 f100_74 rfl h3 ?_
    refine zw_ic_gt 78 133 f100_75 (by decide +kernel) rfl (fun hc1 => ?_) (fun hc1 => ?_)
    · have hn_hc1 : b < c := zn_lt (by omega) (by omega) (Int32.not_le.mpr hc1)
      refine zw_aload_n 134 f100_133 rfl h0 ?_
      refine zw_iconst 3 135 f100_134 rfl (by decide +kernel) ?_
      refine zw_virtual_i 138 0 0 [.ref 0, .int 3] [(0, .ref 0), (1, .int 3)] f100_135 rfl n100_78 k100_78_11 rfl (hb_0 _ _ _ _) (by decide +kernel) (Nat.le_of_ble_eq_true rfl) rfl rfl (by decide +kernel) (by decide +kernel) rfl (Nat.le_of_ble_eq_true rfl) rfl ?_
      refine zw_aload_n 1 f105_0 rfl rfl ?_
      refine zw_iload_n 2 f105_1 rfl rfl ?_
      refine zw_put _ 5 f105_2 rfl g105_70_11 (hb_0 _ _ _ _) rfl (Nat.le_of_ble_eq_true rfl) (by decide +kernel) (hi_0_7 _ _ _ _ _) ?_
      refine zw_iconst (-1) 6 f105_5 rfl (by decide +kernel) ?_
      refine zw_ireturn f105_6 r105 u105 ⟨_, rfl, ?_⟩
      refine zw_ireturn f100_138 r100 u100 ?_
      exact ⟨_, _, _, _, rfl, (KP.i rfl KK), ⟨hJ, PE.of10 (hE 53 (by omega) (by omega)) (hE 54 (by omega) (by omega)) (hE 55 (by omega) (by omega)) (hE 56 (by omega) (by omega)) (hE 57 (by omega) (by omega)) (hE 58 (by omega) (by omega)) (hE 59 (by omega) (by omega)) (hE 60 (by omega) (by omega)) (hE 61 (by omega) (by omega)) (hE 62 (by omega) (by omega))⟩, _, rfl⟩
    · have hn_hc1 : c ≤ b := zn_ge (by omega) (by omega) (Int32.not_lt.mp hc1)
      refine zw_aload_n 79 f100_78 rfl h0 ?_
      refine zw_getfield 82 f100_79 rfl g100_25_11 (hb_0 _ _ _ _) rfl ?_
      refine zw_getfield 85 f100_82 rfl g100_134_10 (hb_22 _ _ _ _) rfl ?_
      refine zw_aload_n 86 f100_85 rfl h0 ?_
      refine zw_getfield 89 f100_86 rfl g100_21_11 (hb_0 _ _ _ _) rfl ?_
      refine zw_getfield 92 f100_89 rfl g100_134_10 (hb_11 _ _ _ _) rfl ?_
      refine zw_virtual_v 95 0 0 [.ref 23, .ref 12] [(0, .ref 23), (1, .ref 12)] f100_92 rfl n100_269 k100_269_9 rfl (hb_23 _ _ _ _) (by decide +kernel) (Nat.le_of_ble_eq_true rfl) rfl rfl (by decide +kernel) (by decide +kernel) rfl (Nat.le_of_ble_eq_true rfl) rfl ?_
      refine zWp.mono (cv_X9_takeOver_23 ro nv np cm _ _ _ _ hJ (by omega)) ?_
      rintro r h1 ⟨I_2, G_2, A_2, B_2, rfl, K_2, C_2, rfl⟩
      refine ⟨rfl, ?_⟩
      refine zw_aload_n 96 f100_95 rfl h0 ?_
      refine zw_getfield 99 f100_96 rfl g100_25_11 (hb_0 _ _ _ _) rfl ?_
      refine zw_getfield 102 f100_99 rfl g100_134_10 (hb_22 _ _ _ _) rfl ?_
      refine zw_getfield 105 f100_102 rfl g100_138_9 (hb_23 _ _ _ _) rfl ?_
      refine zw_iload_n 106 f100_105 rfl h1 ?_
      refine zw_iload 108 f100_106 rfl h6 ?_
      refine zw_ast p.toNatClampNeg _ 109 f100_108 rfl (hb_26 _ _ _ _) rfl p0 (zix (by decide) p0 p1) (ha_26 _ _ _ _ _) ?_
      refine zw_aload_n 110 f100_109 rfl h0 ?_
      refine zw_iload 112 f100_110 rfl h4 ?_
      refine zw_iload 114 f100_112 rfl h5 ?_
      refine zw_virtual_i 117 0 0 [.ref 0, .int ve, .int wh] [(0, .ref 0), (1, .int ve), (2, .int wh)] f100_114 rfl n100_282 k100_282_11 rfl (hb_0 _ _ _ _) (by decide +kernel) (Nat.le_of_ble_eq_true rfl) rfl rfl (by decide +kernel) (by decide +kernel) rfl (Nat.le_of_ble_eq_true rfl) rfl ?_
      refine zWp.mono (cv_X11_firstShutsAt ro nv np cm _ _ _ _ C_2 (by omega) ve wh) ?_
      rintro r h1 ⟨I_3, G_3, A_3, B_3, rfl, K_3, C_3, w4, rfl, hw4⟩
      refine ⟨_, rfl, ?_⟩
      refine zw_if_eq 120 127 f100_117 (by decide +kernel) rfl (fun hc5 => ?_) (fun hc5 => ?_)
      · refine zw_iinc (nI (c + 1)) _ 130 f100_127 rfl h6 (by decide +kernel) (nI_1 _) rfl ?_
        refine zw_goto 72 f100_130 (by decide +kernel) ?_
        exact ih (c + 1) _ _ _ _ _ (KP.tr (KP.a rfl (KP.tr KK (KP.wk K_2 pNX))) (KP.wk K_3 pNX)) C_3 (PE.of10 ((((K_3.2.2.1 2 rfl).trans (K_2.2.2.1 2 rfl))).trans (hE 53 (by omega) (by omega))) ((((K_3.2.2.1 3 rfl).trans (K_2.2.2.1 3 rfl))).trans (hE 54 (by omega) (by omega))) ((((K_3.2.2.1 4 rfl).trans (K_2.2.2.1 4 rfl))).trans (hE 55 (by omega) (by omega))) ((((K_3.2.2.1 5 rfl).trans (K_2.2.2.1 5 rfl))).trans (hE 56 (by omega) (by omega))) ((((K_3.2.2.1 6 rfl).trans (K_2.2.2.1 6 rfl))).trans (hE 57 (by omega) (by omega))) ((((K_3.2.2.1 7 rfl).trans (K_2.2.2.1 7 rfl))).trans (hE 58 (by omega) (by omega))) ((((K_3.2.2.1 8 rfl).trans (K_2.2.2.1 8 rfl))).trans (hE 59 (by omega) (by omega))) ((((K_3.2.2.1 9 rfl).trans (K_2.2.2.1 9 rfl))).trans (hE 60 (by omega) (by omega))) ((((K_3.2.2.1 10 rfl).trans (K_2.2.2.1 10 rfl))).trans (hE 61 (by omega) (by omega))) ((((K_3.2.2.1 15 rfl).trans (K_2.2.2.1 15 rfl))).trans (hE 62 (by omega) (by omega)))) (zl1_ne rfl rfl h0) (zl1_ne rfl rfl h1) (zl1_ne rfl rfl h3) (zl1_ne rfl rfl h4) (zl1_ne rfl rfl h5) zl1_eq (by omega) (by omega)
      · refine zw_aload_n 121 f100_120 rfl h0 ?_
        refine zw_iload 123 f100_121 rfl h6 ?_
        refine zw_virtual_i 126 0 0 [.ref 0, .int (nI c)] [(0, .ref 0), (1, .int (nI c))] f100_123 rfl n100_181 k100_181_11 rfl (hb_0 _ _ _ _) (by decide +kernel) (Nat.le_of_ble_eq_true rfl) rfl rfl (by decide +kernel) (by decide +kernel) rfl (Nat.le_of_ble_eq_true rfl) rfl ?_
        refine zw_aload_n 1 f106_0 rfl rfl ?_
        refine zw_iconst 0 2 f106_1 rfl (by decide +kernel) ?_
        refine zw_put _ 5 f106_2 rfl g106_70_11 (hb_0 _ _ _ _) rfl (Nat.le_of_ble_eq_true rfl) (by decide +kernel) (hi_0_7 _ _ _ _ _) ?_
        refine zw_iload_n 6 f106_5 rfl rfl ?_
        refine zw_ireturn f106_6 r106 u106 ⟨_, rfl, ?_⟩
        refine zw_ireturn f100_126 r100 u100 ?_
        exact ⟨_, _, _, _, rfl, (KP.i rfl (KP.tr (KP.a rfl (KP.tr KK (KP.wk K_2 pNX))) (KP.wk K_3 pNX))), ⟨C_3, PE.of10 ((((K_3.2.2.1 2 rfl).trans (K_2.2.2.1 2 rfl))).trans (hE 53 (by omega) (by omega))) ((((K_3.2.2.1 3 rfl).trans (K_2.2.2.1 3 rfl))).trans (hE 54 (by omega) (by omega))) ((((K_3.2.2.1 4 rfl).trans (K_2.2.2.1 4 rfl))).trans (hE 55 (by omega) (by omega))) ((((K_3.2.2.1 5 rfl).trans (K_2.2.2.1 5 rfl))).trans (hE 56 (by omega) (by omega))) ((((K_3.2.2.1 6 rfl).trans (K_2.2.2.1 6 rfl))).trans (hE 57 (by omega) (by omega))) ((((K_3.2.2.1 7 rfl).trans (K_2.2.2.1 7 rfl))).trans (hE 58 (by omega) (by omega))) ((((K_3.2.2.1 8 rfl).trans (K_2.2.2.1 8 rfl))).trans (hE 59 (by omega) (by omega))) ((((K_3.2.2.1 9 rfl).trans (K_2.2.2.1 9 rfl))).trans (hE 60 (by omega) (by omega))) ((((K_3.2.2.1 10 rfl).trans (K_2.2.2.1 10 rfl))).trans (hE 61 (by omega) (by omega))) ((((K_3.2.2.1 15 rfl).trans (K_2.2.2.1 15 rfl))).trans (hE 62 (by omega) (by omega)))⟩, _, rfl⟩
set_option maxRecDepth 100000 in
set_option maxHeartbeats 0 in
theorem cm_tune (ro : UInt32 → Nat × (Nat → Int32)) (nv np cm : Nat) (I : Nat → Nat → Int32) (G : Nat → Nat → Int64) (A : Nat → Nat → Int32) (B : Nat → Nat → Int64) (hI : CV nv np cm I) (hcm : cm < 900000000) (hQ : qKd nv (cP A)) (p lo hi ve wh : Int32) : zWp ro 100 0 [(0, .ref 0), (1, .int p), (2, .int lo), (3, .int hi), (4, .int ve), (5, .int wh)] [] (hS I G A B) 0 0 (fun r h1 => ∃ I2 G2 A2 B2, h1 = hS I2 G2 A2 B2 ∧ KP pX I G A B I2 G2 A2 B2 ∧ cSt nv np cm (cP A) I2 A2 ∧ ∃ v : Int32, r = some (.int v)) := by
  have h8 := hI.1.1.2
  have h14 := hI.1.2.1.2
  obtain ⟨t, ht, et⟩ := hI.2.2
  refine zw_aload_n 1 f100_0 rfl rfl ?_
  refine zw_getfield 4 f100_1 rfl g100_10_11 (hb_0 _ _ _ _) rfl ?_
  refine zw_iload_n 5 f100_4 rfl rfl ?_
  refine zw_virtual_i 8 0 0 [.ref 1, .int p] [(0, .ref 1), (1, .int p)] f100_5 rfl n100_109 k100_109_4 rfl (hb_1 _ _ _ _) (by decide +kernel) (Nat.le_of_ble_eq_true rfl) rfl rfl (by decide +kernel) (by decide +kernel) rfl (Nat.le_of_ble_eq_true rfl) rfl ?_
  refine zw_iload_n 1 f14_0 rfl rfl ?_
  refine zw_if_lt 4 22 f14_1 (by decide +kernel) rfl (fun hc1 => ?_) (fun hc1 => ?_)
  · refine zw_iconst 0 23 f14_22 rfl (by decide +kernel) ?_
    refine zw_zreturn f14_23 r14 u14 (by decide +kernel) ⟨_, rfl, ?_⟩
    refine zw_if_eq_t 63 f100_8 (by decide +kernel) (by decide +kernel) ?_
    refine zw_aload_n 64 f100_63 rfl rfl ?_
    refine zw_iconst 1 65 f100_64 rfl (by decide +kernel) ?_
    refine zw_virtual_i 68 0 0 [.ref 0, .int 1] [(0, .ref 0), (1, .int 1)] f100_65 rfl n100_78 k100_78_11 rfl (hb_0 _ _ _ _) (by decide +kernel) (Nat.le_of_ble_eq_true rfl) rfl rfl (by decide +kernel) (by decide +kernel) rfl (Nat.le_of_ble_eq_true rfl) rfl ?_
    refine zw_aload_n 1 f105_0 rfl rfl ?_
    refine zw_iload_n 2 f105_1 rfl rfl ?_
    refine zw_put _ 5 f105_2 rfl g105_70_11 (hb_0 _ _ _ _) rfl (Nat.le_of_ble_eq_true rfl) (by decide +kernel) (hi_0_7 _ _ _ _ _) ?_
    refine zw_iconst (-1) 6 f105_5 rfl (by decide +kernel) ?_
    refine zw_ireturn f105_6 r105 u105 ⟨_, rfl, ?_⟩
    refine zw_ireturn f100_68 r100 u100 ?_
    exact ⟨_, _, _, _, rfl, (KP.i rfl KP.rf), ⟨⟨hI.1, hI.2.1, t, by omega, et⟩, PE.of10 rfl rfl rfl rfl rfl rfl rfl rfl rfl rfl⟩, _, rfl⟩
  · refine zw_iload_n 5 f14_4 rfl rfl ?_
    refine zw_aload_n 6 f14_5 rfl rfl ?_
    refine zw_getI (nI np) 9 f14_6 rfl g14_43_4 (hb_1 _ _ _ _) rfl hI.1.2.1.1 ?_
    refine zw_ic_ge 12 22 f14_9 (by decide +kernel) rfl (fun hc2 => ?_) (fun hc2 => ?_)
    · refine zw_iconst 0 23 f14_22 rfl (by decide +kernel) ?_
      refine zw_zreturn f14_23 r14 u14 (by decide +kernel) ⟨_, rfl, ?_⟩
      refine zw_if_eq_t 63 f100_8 (by decide +kernel) (by decide +kernel) ?_
      refine zw_aload_n 64 f100_63 rfl rfl ?_
      refine zw_iconst 1 65 f100_64 rfl (by decide +kernel) ?_
      refine zw_virtual_i 68 0 0 [.ref 0, .int 1] [(0, .ref 0), (1, .int 1)] f100_65 rfl n100_78 k100_78_11 rfl (hb_0 _ _ _ _) (by decide +kernel) (Nat.le_of_ble_eq_true rfl) rfl rfl (by decide +kernel) (by decide +kernel) rfl (Nat.le_of_ble_eq_true rfl) rfl ?_
      refine zw_aload_n 1 f105_0 rfl rfl ?_
      refine zw_iload_n 2 f105_1 rfl rfl ?_
      refine zw_put _ 5 f105_2 rfl g105_70_11 (hb_0 _ _ _ _) rfl (Nat.le_of_ble_eq_true rfl) (by decide +kernel) (hi_0_7 _ _ _ _ _) ?_
      refine zw_iconst (-1) 6 f105_5 rfl (by decide +kernel) ?_
      refine zw_ireturn f105_6 r105 u105 ⟨_, rfl, ?_⟩
      refine zw_ireturn f100_68 r100 u100 ?_
      exact ⟨_, _, _, _, rfl, (KP.i rfl KP.rf), ⟨⟨hI.1, hI.2.1, t, by omega, et⟩, PE.of10 rfl rfl rfl rfl rfl rfl rfl rfl rfl rfl⟩, _, rfl⟩
    · refine zw_iload_n 13 f14_12 rfl rfl ?_
      refine zw_bipush 14 15 f14_13 rfl (by decide +kernel) ?_
      refine zw_ic_ge 18 22 f14_15 (by decide +kernel) rfl (fun hc3 => ?_) (fun hc3 => ?_)
      · refine zw_iconst 0 23 f14_22 rfl (by decide +kernel) ?_
        refine zw_zreturn f14_23 r14 u14 (by decide +kernel) ⟨_, rfl, ?_⟩
        refine zw_if_eq_t 63 f100_8 (by decide +kernel) (by decide +kernel) ?_
        refine zw_aload_n 64 f100_63 rfl rfl ?_
        refine zw_iconst 1 65 f100_64 rfl (by decide +kernel) ?_
        refine zw_virtual_i 68 0 0 [.ref 0, .int 1] [(0, .ref 0), (1, .int 1)] f100_65 rfl n100_78 k100_78_11 rfl (hb_0 _ _ _ _) (by decide +kernel) (Nat.le_of_ble_eq_true rfl) rfl rfl (by decide +kernel) (by decide +kernel) rfl (Nat.le_of_ble_eq_true rfl) rfl ?_
        refine zw_aload_n 1 f105_0 rfl rfl ?_
        refine zw_iload_n 2 f105_1 rfl rfl ?_
        refine zw_put _ 5 f105_2 rfl g105_70_11 (hb_0 _ _ _ _) rfl (Nat.le_of_ble_eq_true rfl) (by decide +kernel) (hi_0_7 _ _ _ _ _) ?_
        refine zw_iconst (-1) 6 f105_5 rfl (by decide +kernel) ?_
        refine zw_ireturn f105_6 r105 u105 ⟨_, rfl, ?_⟩
        refine zw_ireturn f100_68 r100 u100 ?_
        exact ⟨_, _, _, _, rfl, (KP.i rfl KP.rf), ⟨⟨hI.1, hI.2.1, t, by omega, et⟩, PE.of10 rfl rfl rfl rfl rfl rfl rfl rfl rfl rfl⟩, _, rfl⟩
      · refine zw_iconst 1 19 f14_18 rfl (by decide +kernel) ?_
        refine zw_goto 23 f14_19 (by decide +kernel) ?_
        refine zw_zreturn f14_23 r14 u14 (by decide +kernel) ⟨_, rfl, ?_⟩
        refine zw_if_eq_f 11 63 f100_8 (by decide +kernel) rfl (by decide +kernel) ?_
        refine zw_iload_n 12 f100_11 rfl rfl ?_
        refine zw_iconst 1 13 f100_12 rfl (by decide +kernel) ?_
        refine zw_bipush 20 15 f100_13 rfl (by decide +kernel) ?_
        refine zw_static_i 18 0 0 [.int lo, .int 1, .int 20] [] [(0, .int lo), (1, .int 1), (2, .int 20)] f100_15 rfl k100_74_99 rfl (by decide +kernel) (Nat.le_of_ble_eq_true rfl) (Nat.le_of_ble_eq_true rfl) rfl rfl (by decide +kernel) (by decide +kernel) rfl (Nat.le_of_ble_eq_true rfl) rfl ?_
        refine zw_iload_n 1 f112_0 rfl rfl ?_
        refine zw_iload_n 2 f112_1 rfl rfl ?_
        refine zw_ic_lt 5 14 f112_2 (by decide +kernel) rfl (fun hc4 => ?_) (fun hc4 => ?_)
        · refine zw_iconst 0 15 f112_14 rfl (by decide +kernel) ?_
          refine zw_zreturn f112_15 r112 u112 (by decide +kernel) ⟨_, rfl, ?_⟩
          refine zw_if_eq_t 63 f100_18 (by decide +kernel) (by decide +kernel) ?_
          refine zw_aload_n 64 f100_63 rfl rfl ?_
          refine zw_iconst 1 65 f100_64 rfl (by decide +kernel) ?_
          refine zw_virtual_i 68 0 0 [.ref 0, .int 1] [(0, .ref 0), (1, .int 1)] f100_65 rfl n100_78 k100_78_11 rfl (hb_0 _ _ _ _) (by decide +kernel) (Nat.le_of_ble_eq_true rfl) rfl rfl (by decide +kernel) (by decide +kernel) rfl (Nat.le_of_ble_eq_true rfl) rfl ?_
          refine zw_aload_n 1 f105_0 rfl rfl ?_
          refine zw_iload_n 2 f105_1 rfl rfl ?_
          refine zw_put _ 5 f105_2 rfl g105_70_11 (hb_0 _ _ _ _) rfl (Nat.le_of_ble_eq_true rfl) (by decide +kernel) (hi_0_7 _ _ _ _ _) ?_
          refine zw_iconst (-1) 6 f105_5 rfl (by decide +kernel) ?_
          refine zw_ireturn f105_6 r105 u105 ⟨_, rfl, ?_⟩
          refine zw_ireturn f100_68 r100 u100 ?_
          exact ⟨_, _, _, _, rfl, (KP.i rfl KP.rf), ⟨⟨hI.1, hI.2.1, t, by omega, et⟩, PE.of10 rfl rfl rfl rfl rfl rfl rfl rfl rfl rfl⟩, _, rfl⟩
        · refine zw_iload_n 6 f112_5 rfl rfl ?_
          refine zw_iload_n 7 f112_6 rfl rfl ?_
          refine zw_ic_gt 10 14 f112_7 (by decide +kernel) rfl (fun hc5 => ?_) (fun hc5 => ?_)
          · refine zw_iconst 0 15 f112_14 rfl (by decide +kernel) ?_
            refine zw_zreturn f112_15 r112 u112 (by decide +kernel) ⟨_, rfl, ?_⟩
            refine zw_if_eq_t 63 f100_18 (by decide +kernel) (by decide +kernel) ?_
            refine zw_aload_n 64 f100_63 rfl rfl ?_
            refine zw_iconst 1 65 f100_64 rfl (by decide +kernel) ?_
            refine zw_virtual_i 68 0 0 [.ref 0, .int 1] [(0, .ref 0), (1, .int 1)] f100_65 rfl n100_78 k100_78_11 rfl (hb_0 _ _ _ _) (by decide +kernel) (Nat.le_of_ble_eq_true rfl) rfl rfl (by decide +kernel) (by decide +kernel) rfl (Nat.le_of_ble_eq_true rfl) rfl ?_
            refine zw_aload_n 1 f105_0 rfl rfl ?_
            refine zw_iload_n 2 f105_1 rfl rfl ?_
            refine zw_put _ 5 f105_2 rfl g105_70_11 (hb_0 _ _ _ _) rfl (Nat.le_of_ble_eq_true rfl) (by decide +kernel) (hi_0_7 _ _ _ _ _) ?_
            refine zw_iconst (-1) 6 f105_5 rfl (by decide +kernel) ?_
            refine zw_ireturn f105_6 r105 u105 ⟨_, rfl, ?_⟩
            refine zw_ireturn f100_68 r100 u100 ?_
            exact ⟨_, _, _, _, rfl, (KP.i rfl KP.rf), ⟨⟨hI.1, hI.2.1, t, by omega, et⟩, PE.of10 rfl rfl rfl rfl rfl rfl rfl rfl rfl rfl⟩, _, rfl⟩
          · refine zw_iconst 1 11 f112_10 rfl (by decide +kernel) ?_
            refine zw_goto 15 f112_11 (by decide +kernel) ?_
            refine zw_zreturn f112_15 r112 u112 (by decide +kernel) ⟨_, rfl, ?_⟩
            refine zw_if_eq_f 21 63 f100_18 (by decide +kernel) rfl (by decide +kernel) ?_
            refine zw_iload_n 22 f100_21 rfl rfl ?_
            refine zw_iconst 1 23 f100_22 rfl (by decide +kernel) ?_
            refine zw_bipush 20 25 f100_23 rfl (by decide +kernel) ?_
            refine zw_static_i 28 0 0 [.int hi, .int 1, .int 20] [] [(0, .int hi), (1, .int 1), (2, .int 20)] f100_25 rfl k100_74_99 rfl (by decide +kernel) (Nat.le_of_ble_eq_true rfl) (Nat.le_of_ble_eq_true rfl) rfl rfl (by decide +kernel) (by decide +kernel) rfl (Nat.le_of_ble_eq_true rfl) rfl ?_
            refine zw_iload_n 1 f112_0 rfl rfl ?_
            refine zw_iload_n 2 f112_1 rfl rfl ?_
            refine zw_ic_lt 5 14 f112_2 (by decide +kernel) rfl (fun hc6 => ?_) (fun hc6 => ?_)
            · refine zw_iconst 0 15 f112_14 rfl (by decide +kernel) ?_
              refine zw_zreturn f112_15 r112 u112 (by decide +kernel) ⟨_, rfl, ?_⟩
              refine zw_if_eq_t 63 f100_28 (by decide +kernel) (by decide +kernel) ?_
              refine zw_aload_n 64 f100_63 rfl rfl ?_
              refine zw_iconst 1 65 f100_64 rfl (by decide +kernel) ?_
              refine zw_virtual_i 68 0 0 [.ref 0, .int 1] [(0, .ref 0), (1, .int 1)] f100_65 rfl n100_78 k100_78_11 rfl (hb_0 _ _ _ _) (by decide +kernel) (Nat.le_of_ble_eq_true rfl) rfl rfl (by decide +kernel) (by decide +kernel) rfl (Nat.le_of_ble_eq_true rfl) rfl ?_
              refine zw_aload_n 1 f105_0 rfl rfl ?_
              refine zw_iload_n 2 f105_1 rfl rfl ?_
              refine zw_put _ 5 f105_2 rfl g105_70_11 (hb_0 _ _ _ _) rfl (Nat.le_of_ble_eq_true rfl) (by decide +kernel) (hi_0_7 _ _ _ _ _) ?_
              refine zw_iconst (-1) 6 f105_5 rfl (by decide +kernel) ?_
              refine zw_ireturn f105_6 r105 u105 ⟨_, rfl, ?_⟩
              refine zw_ireturn f100_68 r100 u100 ?_
              exact ⟨_, _, _, _, rfl, (KP.i rfl KP.rf), ⟨⟨hI.1, hI.2.1, t, by omega, et⟩, PE.of10 rfl rfl rfl rfl rfl rfl rfl rfl rfl rfl⟩, _, rfl⟩
            · refine zw_iload_n 6 f112_5 rfl rfl ?_
              refine zw_iload_n 7 f112_6 rfl rfl ?_
              refine zw_ic_gt 10 14 f112_7 (by decide +kernel) rfl (fun hc7 => ?_) (fun hc7 => ?_)
              · refine zw_iconst 0 15 f112_14 rfl (by decide +kernel) ?_
                refine zw_zreturn f112_15 r112 u112 (by decide +kernel) ⟨_, rfl, ?_⟩
                refine zw_if_eq_t 63 f100_28 (by decide +kernel) (by decide +kernel) ?_
                refine zw_aload_n 64 f100_63 rfl rfl ?_
                refine zw_iconst 1 65 f100_64 rfl (by decide +kernel) ?_
                refine zw_virtual_i 68 0 0 [.ref 0, .int 1] [(0, .ref 0), (1, .int 1)] f100_65 rfl n100_78 k100_78_11 rfl (hb_0 _ _ _ _) (by decide +kernel) (Nat.le_of_ble_eq_true rfl) rfl rfl (by decide +kernel) (by decide +kernel) rfl (Nat.le_of_ble_eq_true rfl) rfl ?_
                refine zw_aload_n 1 f105_0 rfl rfl ?_
                refine zw_iload_n 2 f105_1 rfl rfl ?_
                refine zw_put _ 5 f105_2 rfl g105_70_11 (hb_0 _ _ _ _) rfl (Nat.le_of_ble_eq_true rfl) (by decide +kernel) (hi_0_7 _ _ _ _ _) ?_
                refine zw_iconst (-1) 6 f105_5 rfl (by decide +kernel) ?_
                refine zw_ireturn f105_6 r105 u105 ⟨_, rfl, ?_⟩
                refine zw_ireturn f100_68 r100 u100 ?_
                exact ⟨_, _, _, _, rfl, (KP.i rfl KP.rf), ⟨⟨hI.1, hI.2.1, t, by omega, et⟩, PE.of10 rfl rfl rfl rfl rfl rfl rfl rfl rfl rfl⟩, _, rfl⟩
              · refine zw_iconst 1 11 f112_10 rfl (by decide +kernel) ?_
                refine zw_goto 15 f112_11 (by decide +kernel) ?_
                refine zw_zreturn f112_15 r112 u112 (by decide +kernel) ⟨_, rfl, ?_⟩
                refine zw_if_eq_f 31 63 f100_28 (by decide +kernel) rfl (by decide +kernel) ?_
                refine zw_aload_n 32 f100_31 rfl rfl ?_
                refine zw_getfield 35 f100_32 rfl g100_10_11 (hb_0 _ _ _ _) rfl ?_
                refine zw_iload 37 f100_35 rfl rfl ?_
                refine zw_virtual_i 40 0 0 [.ref 1, .int ve] [(0, .ref 1), (1, .int ve)] f100_37 rfl n100_100 k100_100_4 rfl (hb_1 _ _ _ _) (by decide +kernel) (Nat.le_of_ble_eq_true rfl) rfl rfl (by decide +kernel) (by decide +kernel) rfl (Nat.le_of_ble_eq_true rfl) rfl ?_
                refine zw_iload_n 1 f17_0 rfl rfl ?_
                refine zw_if_lt 4 22 f17_1 (by decide +kernel) rfl (fun hc8 => ?_) (fun hc8 => ?_)
                · refine zw_iconst 0 23 f17_22 rfl (by decide +kernel) ?_
                  refine zw_istore_n _ 24 f17_23 rfl (by decide +kernel) rfl ?_
                  refine zw_iload_n 25 f17_24 rfl zl1_eq ?_
                  refine zw_if_eq_t 52 f17_25 (by decide +kernel) (by decide +kernel) ?_
                  refine zw_iconst 0 53 f17_52 rfl (by decide +kernel) ?_
                  refine zw_zreturn f17_53 r17 u17 (by decide +kernel) ⟨_, rfl, ?_⟩
                  refine zw_if_eq_t 63 f100_40 (by decide +kernel) (by decide +kernel) ?_
                  refine zw_aload_n 64 f100_63 rfl rfl ?_
                  refine zw_iconst 1 65 f100_64 rfl (by decide +kernel) ?_
                  refine zw_virtual_i 68 0 0 [.ref 0, .int 1] [(0, .ref 0), (1, .int 1)] f100_65 rfl n100_78 k100_78_11 rfl (hb_0 _ _ _ _) (by decide +kernel) (Nat.le_of_ble_eq_true rfl) rfl rfl (by decide +kernel) (by decide +kernel) rfl (Nat.le_of_ble_eq_true rfl) rfl ?_
                  refine zw_aload_n 1 f105_0 rfl rfl ?_
                  refine zw_iload_n 2 f105_1 rfl rfl ?_
                  refine zw_put _ 5 f105_2 rfl g105_70_11 (hb_0 _ _ _ _) rfl (Nat.le_of_ble_eq_true rfl) (by decide +kernel) (hi_0_7 _ _ _ _ _) ?_
                  refine zw_iconst (-1) 6 f105_5 rfl (by decide +kernel) ?_
                  refine zw_ireturn f105_6 r105 u105 ⟨_, rfl, ?_⟩
                  refine zw_ireturn f100_68 r100 u100 ?_
                  exact ⟨_, _, _, _, rfl, (KP.i rfl KP.rf), ⟨⟨hI.1, hI.2.1, t, by omega, et⟩, PE.of10 rfl rfl rfl rfl rfl rfl rfl rfl rfl rfl⟩, _, rfl⟩
                · refine zw_iload_n 5 f17_4 rfl rfl ?_
                  refine zw_aload_n 6 f17_5 rfl rfl ?_
                  refine zw_getI (nI nv) 9 f17_6 rfl g17_39_4 (hb_1 _ _ _ _) rfl hI.1.1.1 ?_
                  refine zw_ic_ge 12 22 f17_9 (by decide +kernel) rfl (fun hc9 => ?_) (fun hc9 => ?_)
                  · refine zw_iconst 0 23 f17_22 rfl (by decide +kernel) ?_
                    refine zw_istore_n _ 24 f17_23 rfl (by decide +kernel) rfl ?_
                    refine zw_iload_n 25 f17_24 rfl zl1_eq ?_
                    refine zw_if_eq_t 52 f17_25 (by decide +kernel) (by decide +kernel) ?_
                    refine zw_iconst 0 53 f17_52 rfl (by decide +kernel) ?_
                    refine zw_zreturn f17_53 r17 u17 (by decide +kernel) ⟨_, rfl, ?_⟩
                    refine zw_if_eq_t 63 f100_40 (by decide +kernel) (by decide +kernel) ?_
                    refine zw_aload_n 64 f100_63 rfl rfl ?_
                    refine zw_iconst 1 65 f100_64 rfl (by decide +kernel) ?_
                    refine zw_virtual_i 68 0 0 [.ref 0, .int 1] [(0, .ref 0), (1, .int 1)] f100_65 rfl n100_78 k100_78_11 rfl (hb_0 _ _ _ _) (by decide +kernel) (Nat.le_of_ble_eq_true rfl) rfl rfl (by decide +kernel) (by decide +kernel) rfl (Nat.le_of_ble_eq_true rfl) rfl ?_
                    refine zw_aload_n 1 f105_0 rfl rfl ?_
                    refine zw_iload_n 2 f105_1 rfl rfl ?_
                    refine zw_put _ 5 f105_2 rfl g105_70_11 (hb_0 _ _ _ _) rfl (Nat.le_of_ble_eq_true rfl) (by decide +kernel) (hi_0_7 _ _ _ _ _) ?_
                    refine zw_iconst (-1) 6 f105_5 rfl (by decide +kernel) ?_
                    refine zw_ireturn f105_6 r105 u105 ⟨_, rfl, ?_⟩
                    refine zw_ireturn f100_68 r100 u100 ?_
                    exact ⟨_, _, _, _, rfl, (KP.i rfl KP.rf), ⟨⟨hI.1, hI.2.1, t, by omega, et⟩, PE.of10 rfl rfl rfl rfl rfl rfl rfl rfl rfl rfl⟩, _, rfl⟩
                  · refine zw_iload_n 13 f17_12 rfl rfl ?_
                    refine zw_bipush 8 15 f17_13 rfl (by decide +kernel) ?_
                    refine zw_ic_ge 18 22 f17_15 (by decide +kernel) rfl (fun hc10 => ?_) (fun hc10 => ?_)
                    · refine zw_iconst 0 23 f17_22 rfl (by decide +kernel) ?_
                      refine zw_istore_n _ 24 f17_23 rfl (by decide +kernel) rfl ?_
                      refine zw_iload_n 25 f17_24 rfl zl1_eq ?_
                      refine zw_if_eq_t 52 f17_25 (by decide +kernel) (by decide +kernel) ?_
                      refine zw_iconst 0 53 f17_52 rfl (by decide +kernel) ?_
                      refine zw_zreturn f17_53 r17 u17 (by decide +kernel) ⟨_, rfl, ?_⟩
                      refine zw_if_eq_t 63 f100_40 (by decide +kernel) (by decide +kernel) ?_
                      refine zw_aload_n 64 f100_63 rfl rfl ?_
                      refine zw_iconst 1 65 f100_64 rfl (by decide +kernel) ?_
                      refine zw_virtual_i 68 0 0 [.ref 0, .int 1] [(0, .ref 0), (1, .int 1)] f100_65 rfl n100_78 k100_78_11 rfl (hb_0 _ _ _ _) (by decide +kernel) (Nat.le_of_ble_eq_true rfl) rfl rfl (by decide +kernel) (by decide +kernel) rfl (Nat.le_of_ble_eq_true rfl) rfl ?_
                      refine zw_aload_n 1 f105_0 rfl rfl ?_
                      refine zw_iload_n 2 f105_1 rfl rfl ?_
                      refine zw_put _ 5 f105_2 rfl g105_70_11 (hb_0 _ _ _ _) rfl (Nat.le_of_ble_eq_true rfl) (by decide +kernel) (hi_0_7 _ _ _ _ _) ?_
                      refine zw_iconst (-1) 6 f105_5 rfl (by decide +kernel) ?_
                      refine zw_ireturn f105_6 r105 u105 ⟨_, rfl, ?_⟩
                      refine zw_ireturn f100_68 r100 u100 ?_
                      exact ⟨_, _, _, _, rfl, (KP.i rfl KP.rf), ⟨⟨hI.1, hI.2.1, t, by omega, et⟩, PE.of10 rfl rfl rfl rfl rfl rfl rfl rfl rfl rfl⟩, _, rfl⟩
                    · refine zw_iconst 1 19 f17_18 rfl (by decide +kernel) ?_
                      refine zw_goto 23 f17_19 (by decide +kernel) ?_
                      refine zw_istore_n _ 24 f17_23 rfl (by decide +kernel) rfl ?_
                      refine zw_iload_n 25 f17_24 rfl zl1_eq ?_
                      refine zw_if_eq_f 28 52 f17_25 (by decide +kernel) rfl (by decide +kernel) ?_
                      refine zw_aload_n 29 f17_28 rfl (zl1_ne rfl rfl rfl) ?_
                      refine zw_getfield 32 f17_29 rfl g17_9_4 (hb_1 _ _ _ _) rfl ?_
                      refine zw_iload_n 33 f17_32 rfl (zl1_ne rfl rfl rfl) ?_
                      refine zw_iaload ve.toNatClampNeg (A 2 ve.toNatClampNeg) 34 f17_33 rfl (hb_2 _ _ _ _) rfl hc8 (zix (by decide) hc8 hc10) rfl ?_
                      refine zw_iconst 3 35 f17_34 rfl (by decide +kernel) ?_
                      refine zw_ic_eq 38 48 f17_35 (by decide +kernel) rfl (fun hc11 => ?_) (fun hc11 => ?_)
                      · refine zw_iconst 1 49 f17_48 rfl (by decide +kernel) ?_
                        refine zw_goto 53 f17_49 (by decide +kernel) ?_
                        refine zw_zreturn f17_53 r17 u17 (by decide +kernel) ⟨_, rfl, ?_⟩
                        refine zw_if_eq_f 43 63 f100_40 (by decide +kernel) rfl (by decide +kernel) ?_
                        refine zw_iload 45 f100_43 rfl rfl ?_
                        refine zw_sipush 10000 48 f100_45 rfl (by decide +kernel) ?_
                        refine zw_ic_gt 51 63 f100_48 (by decide +kernel) rfl (fun hc12 => ?_) (fun hc12 => ?_)
                        · refine zw_aload_n 64 f100_63 rfl rfl ?_
                          refine zw_iconst 1 65 f100_64 rfl (by decide +kernel) ?_
                          refine zw_virtual_i 68 0 0 [.ref 0, .int 1] [(0, .ref 0), (1, .int 1)] f100_65 rfl n100_78 k100_78_11 rfl (hb_0 _ _ _ _) (by decide +kernel) (Nat.le_of_ble_eq_true rfl) rfl rfl (by decide +kernel) (by decide +kernel) rfl (Nat.le_of_ble_eq_true rfl) rfl ?_
                          refine zw_aload_n 1 f105_0 rfl rfl ?_
                          refine zw_iload_n 2 f105_1 rfl rfl ?_
                          refine zw_put _ 5 f105_2 rfl g105_70_11 (hb_0 _ _ _ _) rfl (Nat.le_of_ble_eq_true rfl) (by decide +kernel) (hi_0_7 _ _ _ _ _) ?_
                          refine zw_iconst (-1) 6 f105_5 rfl (by decide +kernel) ?_
                          refine zw_ireturn f105_6 r105 u105 ⟨_, rfl, ?_⟩
                          refine zw_ireturn f100_68 r100 u100 ?_
                          exact ⟨_, _, _, _, rfl, (KP.i rfl KP.rf), ⟨⟨hI.1, hI.2.1, t, by omega, et⟩, PE.of10 rfl rfl rfl rfl rfl rfl rfl rfl rfl rfl⟩, _, rfl⟩
                        · refine zw_aload_n 52 f100_51 rfl rfl ?_
                          refine zw_getfield 55 f100_52 rfl g100_21_11 (hb_0 _ _ _ _) rfl ?_
                          refine zw_iload 57 f100_55 rfl rfl ?_
                          refine zw_virtual_i 60 0 0 [.ref 11, .int wh] [(0, .ref 11), (1, .int wh)] f100_57 rfl n100_279 k100_279_10 rfl (hb_11 _ _ _ _) (by decide +kernel) (Nat.le_of_ble_eq_true rfl) rfl rfl (by decide +kernel) (by decide +kernel) rfl (Nat.le_of_ble_eq_true rfl) rfl ?_
                          refine zw_iload_n 1 f64_0 rfl rfl ?_
                          refine zw_i2l (Int32.toInt64 wh) 2 f64_1 rfl rfl ?_
                          refine zw_aload_n 3 f64_2 rfl rfl ?_
                          refine zw_getfield 6 f64_3 rfl g64_12_10 (hb_11 _ _ _ _) rfl ?_
                          refine zw_getG (G 12 0) 9 f64_6 rfl g64_109_9 (hb_12 _ _ _ _) rfl rfl ?_
                          refine zw_lmul ((Int32.toInt64 wh) * (G 12 0)) 10 f64_9 rfl rfl ?_
                          refine zw_aload_n 11 f64_10 rfl rfl ?_
                          refine zw_getfield 14 f64_11 rfl g64_12_10 (hb_11 _ _ _ _) rfl ?_
                          refine zw_getG (G 12 1) 17 f64_14 rfl g64_151_9 (hb_12 _ _ _ _) rfl rfl ?_
                          refine zw_lcmp (lg_cmp ((Int32.toInt64 wh) * (G 12 0)) (G 12 1)) 18 f64_17 rfl rfl ?_
                          refine zw_if_le 21 25 f64_18 (by decide +kernel) rfl (fun hc13 => ?_) (fun hc13 => ?_)
                          · refine zw_iconst 0 26 f64_25 rfl (by decide +kernel) ?_
                            refine zw_zreturn f64_26 r64 u64 (by decide +kernel) ⟨_, rfl, ?_⟩
                            refine zw_if_ne_f 63 69 f100_60 (by decide +kernel) rfl (by decide +kernel) ?_
                            refine zw_aload_n 64 f100_63 rfl rfl ?_
                            refine zw_iconst 1 65 f100_64 rfl (by decide +kernel) ?_
                            refine zw_virtual_i 68 0 0 [.ref 0, .int 1] [(0, .ref 0), (1, .int 1)] f100_65 rfl n100_78 k100_78_11 rfl (hb_0 _ _ _ _) (by decide +kernel) (Nat.le_of_ble_eq_true rfl) rfl rfl (by decide +kernel) (by decide +kernel) rfl (Nat.le_of_ble_eq_true rfl) rfl ?_
                            refine zw_aload_n 1 f105_0 rfl rfl ?_
                            refine zw_iload_n 2 f105_1 rfl rfl ?_
                            refine zw_put _ 5 f105_2 rfl g105_70_11 (hb_0 _ _ _ _) rfl (Nat.le_of_ble_eq_true rfl) (by decide +kernel) (hi_0_7 _ _ _ _ _) ?_
                            refine zw_iconst (-1) 6 f105_5 rfl (by decide +kernel) ?_
                            refine zw_ireturn f105_6 r105 u105 ⟨_, rfl, ?_⟩
                            refine zw_ireturn f100_68 r100 u100 ?_
                            exact ⟨_, _, _, _, rfl, (KP.i rfl KP.rf), ⟨⟨hI.1, hI.2.1, t, by omega, et⟩, PE.of10 rfl rfl rfl rfl rfl rfl rfl rfl rfl rfl⟩, _, rfl⟩
                          · refine zw_iconst 1 22 f64_21 rfl (by decide +kernel) ?_
                            refine zw_goto 26 f64_22 (by decide +kernel) ?_
                            refine zw_zreturn f64_26 r64 u64 (by decide +kernel) ⟨_, rfl, ?_⟩
                            refine zw_if_ne_t 69 f100_60 (by decide +kernel) (by decide +kernel) ?_
                            refine zw_iload_n 70 f100_69 rfl rfl ?_
                            refine zw_istore _ 72 f100_70 rfl (by decide +kernel) rfl ?_
                            obtain ⟨el, l1, l2⟩ := rng1 hc4 hc5
                            obtain ⟨eh, m1, m2⟩ := rng1 hc6 hc7
                            exact lcm_tune ro nv np cm I G A B hI hcm hQ p ve wh hi.toNatClampNeg m2 hc1 hc3 41 lo.toNatClampNeg _ _ _ _ _ KP.rf hI PE.rf (zl1_ne rfl rfl rfl) (zl1_ne rfl rfl rfl) (by rw [← eh]; exact (zl1_ne rfl rfl rfl)) (zl1_ne rfl rfl rfl) (zl1_ne rfl rfl rfl) (by rw [← el]; exact zl1_eq) (by omega) (by omega)
                      · refine zw_aload_n 39 f17_38 rfl (zl1_ne rfl rfl rfl) ?_
                        refine zw_getfield 42 f17_39 rfl g17_9_4 (hb_1 _ _ _ _) rfl ?_
                        refine zw_iload_n 43 f17_42 rfl (zl1_ne rfl rfl rfl) ?_
                        refine zw_iaload ve.toNatClampNeg (A 2 ve.toNatClampNeg) 44 f17_43 rfl (hb_2 _ _ _ _) rfl hc8 (zix (by decide) hc8 hc10) rfl ?_
                        refine zw_iconst 4 45 f17_44 rfl (by decide +kernel) ?_
                        refine zw_ic_ne 48 52 f17_45 (by decide +kernel) rfl (fun hc14 => ?_) (fun hc14 => ?_)
                        · refine zw_iconst 0 53 f17_52 rfl (by decide +kernel) ?_
                          refine zw_zreturn f17_53 r17 u17 (by decide +kernel) ⟨_, rfl, ?_⟩
                          refine zw_if_eq_t 63 f100_40 (by decide +kernel) (by decide +kernel) ?_
                          refine zw_aload_n 64 f100_63 rfl rfl ?_
                          refine zw_iconst 1 65 f100_64 rfl (by decide +kernel) ?_
                          refine zw_virtual_i 68 0 0 [.ref 0, .int 1] [(0, .ref 0), (1, .int 1)] f100_65 rfl n100_78 k100_78_11 rfl (hb_0 _ _ _ _) (by decide +kernel) (Nat.le_of_ble_eq_true rfl) rfl rfl (by decide +kernel) (by decide +kernel) rfl (Nat.le_of_ble_eq_true rfl) rfl ?_
                          refine zw_aload_n 1 f105_0 rfl rfl ?_
                          refine zw_iload_n 2 f105_1 rfl rfl ?_
                          refine zw_put _ 5 f105_2 rfl g105_70_11 (hb_0 _ _ _ _) rfl (Nat.le_of_ble_eq_true rfl) (by decide +kernel) (hi_0_7 _ _ _ _ _) ?_
                          refine zw_iconst (-1) 6 f105_5 rfl (by decide +kernel) ?_
                          refine zw_ireturn f105_6 r105 u105 ⟨_, rfl, ?_⟩
                          refine zw_ireturn f100_68 r100 u100 ?_
                          exact ⟨_, _, _, _, rfl, (KP.i rfl KP.rf), ⟨⟨hI.1, hI.2.1, t, by omega, et⟩, PE.of10 rfl rfl rfl rfl rfl rfl rfl rfl rfl rfl⟩, _, rfl⟩
                        · refine zw_iconst 1 49 f17_48 rfl (by decide +kernel) ?_
                          refine zw_goto 53 f17_49 (by decide +kernel) ?_
                          refine zw_zreturn f17_53 r17 u17 (by decide +kernel) ⟨_, rfl, ?_⟩
                          refine zw_if_eq_f 43 63 f100_40 (by decide +kernel) rfl (by decide +kernel) ?_
                          refine zw_iload 45 f100_43 rfl rfl ?_
                          refine zw_sipush 10000 48 f100_45 rfl (by decide +kernel) ?_
                          refine zw_ic_gt 51 63 f100_48 (by decide +kernel) rfl (fun hc15 => ?_) (fun hc15 => ?_)
                          · refine zw_aload_n 64 f100_63 rfl rfl ?_
                            refine zw_iconst 1 65 f100_64 rfl (by decide +kernel) ?_
                            refine zw_virtual_i 68 0 0 [.ref 0, .int 1] [(0, .ref 0), (1, .int 1)] f100_65 rfl n100_78 k100_78_11 rfl (hb_0 _ _ _ _) (by decide +kernel) (Nat.le_of_ble_eq_true rfl) rfl rfl (by decide +kernel) (by decide +kernel) rfl (Nat.le_of_ble_eq_true rfl) rfl ?_
                            refine zw_aload_n 1 f105_0 rfl rfl ?_
                            refine zw_iload_n 2 f105_1 rfl rfl ?_
                            refine zw_put _ 5 f105_2 rfl g105_70_11 (hb_0 _ _ _ _) rfl (Nat.le_of_ble_eq_true rfl) (by decide +kernel) (hi_0_7 _ _ _ _ _) ?_
                            refine zw_iconst (-1) 6 f105_5 rfl (by decide +kernel) ?_
                            refine zw_ireturn f105_6 r105 u105 ⟨_, rfl, ?_⟩
                            refine zw_ireturn f100_68 r100 u100 ?_
                            exact ⟨_, _, _, _, rfl, (KP.i rfl KP.rf), ⟨⟨hI.1, hI.2.1, t, by omega, et⟩, PE.of10 rfl rfl rfl rfl rfl rfl rfl rfl rfl rfl⟩, _, rfl⟩
                          · refine zw_aload_n 52 f100_51 rfl rfl ?_
                            refine zw_getfield 55 f100_52 rfl g100_21_11 (hb_0 _ _ _ _) rfl ?_
                            refine zw_iload 57 f100_55 rfl rfl ?_
                            refine zw_virtual_i 60 0 0 [.ref 11, .int wh] [(0, .ref 11), (1, .int wh)] f100_57 rfl n100_279 k100_279_10 rfl (hb_11 _ _ _ _) (by decide +kernel) (Nat.le_of_ble_eq_true rfl) rfl rfl (by decide +kernel) (by decide +kernel) rfl (Nat.le_of_ble_eq_true rfl) rfl ?_
                            refine zw_iload_n 1 f64_0 rfl rfl ?_
                            refine zw_i2l (Int32.toInt64 wh) 2 f64_1 rfl rfl ?_
                            refine zw_aload_n 3 f64_2 rfl rfl ?_
                            refine zw_getfield 6 f64_3 rfl g64_12_10 (hb_11 _ _ _ _) rfl ?_
                            refine zw_getG (G 12 0) 9 f64_6 rfl g64_109_9 (hb_12 _ _ _ _) rfl rfl ?_
                            refine zw_lmul ((Int32.toInt64 wh) * (G 12 0)) 10 f64_9 rfl rfl ?_
                            refine zw_aload_n 11 f64_10 rfl rfl ?_
                            refine zw_getfield 14 f64_11 rfl g64_12_10 (hb_11 _ _ _ _) rfl ?_
                            refine zw_getG (G 12 1) 17 f64_14 rfl g64_151_9 (hb_12 _ _ _ _) rfl rfl ?_
                            refine zw_lcmp (lg_cmp ((Int32.toInt64 wh) * (G 12 0)) (G 12 1)) 18 f64_17 rfl rfl ?_
                            refine zw_if_le 21 25 f64_18 (by decide +kernel) rfl (fun hc16 => ?_) (fun hc16 => ?_)
                            · refine zw_iconst 0 26 f64_25 rfl (by decide +kernel) ?_
                              refine zw_zreturn f64_26 r64 u64 (by decide +kernel) ⟨_, rfl, ?_⟩
                              refine zw_if_ne_f 63 69 f100_60 (by decide +kernel) rfl (by decide +kernel) ?_
                              refine zw_aload_n 64 f100_63 rfl rfl ?_
                              refine zw_iconst 1 65 f100_64 rfl (by decide +kernel) ?_
                              refine zw_virtual_i 68 0 0 [.ref 0, .int 1] [(0, .ref 0), (1, .int 1)] f100_65 rfl n100_78 k100_78_11 rfl (hb_0 _ _ _ _) (by decide +kernel) (Nat.le_of_ble_eq_true rfl) rfl rfl (by decide +kernel) (by decide +kernel) rfl (Nat.le_of_ble_eq_true rfl) rfl ?_
                              refine zw_aload_n 1 f105_0 rfl rfl ?_
                              refine zw_iload_n 2 f105_1 rfl rfl ?_
                              refine zw_put _ 5 f105_2 rfl g105_70_11 (hb_0 _ _ _ _) rfl (Nat.le_of_ble_eq_true rfl) (by decide +kernel) (hi_0_7 _ _ _ _ _) ?_
                              refine zw_iconst (-1) 6 f105_5 rfl (by decide +kernel) ?_
                              refine zw_ireturn f105_6 r105 u105 ⟨_, rfl, ?_⟩
                              refine zw_ireturn f100_68 r100 u100 ?_
                              exact ⟨_, _, _, _, rfl, (KP.i rfl KP.rf), ⟨⟨hI.1, hI.2.1, t, by omega, et⟩, PE.of10 rfl rfl rfl rfl rfl rfl rfl rfl rfl rfl⟩, _, rfl⟩
                            · refine zw_iconst 1 22 f64_21 rfl (by decide +kernel) ?_
                              refine zw_goto 26 f64_22 (by decide +kernel) ?_
                              refine zw_zreturn f64_26 r64 u64 (by decide +kernel) ⟨_, rfl, ?_⟩
                              refine zw_if_ne_t 69 f100_60 (by decide +kernel) (by decide +kernel) ?_
                              refine zw_iload_n 70 f100_69 rfl rfl ?_
                              refine zw_istore _ 72 f100_70 rfl (by decide +kernel) rfl ?_
                              obtain ⟨el, l1, l2⟩ := rng1 hc4 hc5
                              obtain ⟨eh, m1, m2⟩ := rng1 hc6 hc7
                              exact lcm_tune ro nv np cm I G A B hI hcm hQ p ve wh hi.toNatClampNeg m2 hc1 hc3 41 lo.toNatClampNeg _ _ _ _ _ KP.rf hI PE.rf (zl1_ne rfl rfl rfl) (zl1_ne rfl rfl rfl) (by rw [← eh]; exact (zl1_ne rfl rfl rfl)) (zl1_ne rfl rfl rfl) (zl1_ne rfl rfl rfl) (by rw [← el]; exact zl1_eq) (by omega) (by omega)
