noncomputable def an_event (L : qLog) (a b : Int32) : Int32 := cI (qE L a) (cI (b = 0) (L.2.1 a.toNatClampNeg) (cI (b = 1) (L.2.2.1 a.toNatClampNeg) (cI (b = 2) (Int64.toInt32 (rAb (L.2.2.2.1 a.toNatClampNeg) (L.2.2.2.2.1 a.toNatClampNeg))) (cI (b = 3) (Int64.toInt32 (rBe (L.2.2.2.1 a.toNatClampNeg) (L.2.2.2.2.1 a.toNatClampNeg))) (-1))))) (-1)
set_option maxRecDepth 100000 in
set_option maxHeartbeats 0 in
theorem cq_event (ro : UInt32 → Nat × (Nat → Int32)) (nv np : Nat) (P : Nat → Nat → Int32) (W : qW) (L : qLog) (K : Int) (I : Nat → Nat → Int32) (G : Nat → Nat → Int64) (A : Nat → Nat → Int32) (B : Nat → Nat → Int64) (hR : cRS 11 nv np P W I G A B) (hp : MPa nv np P) (hq : qOw nv np P) (hW : wInv nv 10000 K P W) (hQ : qKd nv P) (hL : cLg L I A) (hn : L.1 < 900000000) (a : Int32) (b : Int32) : zWp ro 97 0 [(0, .ref 0), (1, .int a), (2, .int b)] [] (hS I G A B) 0 0 (fun r h1 => ∃ I2 G2 A2 B2, h1 = hS I2 G2 A2 B2 ∧ KQ fNe pNe I G A B I2 G2 A2 B2 ∧ r = some (.int (an_event L a b))) := by
  have h8 := hp.1
  have h14 := hp.2.1
  have hg0 : 0 < W.1.toInt := hW.1.1.1.1
  have ht0 : 0 ≤ W.2.1.toInt := hW.1.2.1.1
  refine zw_aload_n 1 f97_0 rfl rfl ?_
  refine zw_getfield 4 f97_1 rfl g97_31_11 (hb_0 _ _ _ _) rfl ?_
  refine zw_iload_n 5 f97_4 rfl rfl ?_
  refine zw_iload_n 6 f97_5 rfl rfl ?_
  refine zw_virtual_i 9 0 0 [.ref 33, .int a, .int b] [(0, .ref 33), (1, .int a), (2, .int b)] f97_6 rfl n97_259 k97_259_3 rfl (hb_33 _ _ _ _) (by decide +kernel) (Nat.le_of_ble_eq_true rfl) rfl rfl (by decide +kernel) (by decide +kernel) rfl (Nat.le_of_ble_eq_true rfl) rfl ?_
  refine zw_iload_n 1 f11_0 rfl rfl ?_
  refine zw_if_lt 4 19 f11_1 (by decide +kernel) rfl (fun hc1 => ?_) (fun hc1 => ?_)
  · refine zw_iconst (-1) 20 f11_19 rfl (by decide +kernel) ?_
    refine zw_ireturn f11_20 r11 u11 ⟨_, rfl, ?_⟩
    refine zw_ireturn f97_9 r97 u97 ?_
    exact ⟨_, _, _, _, rfl, KQ.rf, by rw [show an_event L a b = (-1) from (cI_n (fun q => q.1 hc1))]⟩
  · refine zw_iload_n 5 f11_4 rfl rfl ?_
    refine zw_aload_n 6 f11_5 rfl rfl ?_
    refine zw_getI (nI L.1) 9 f11_6 rfl g11_30_3 (hb_33 _ _ _ _) rfl hL.1 ?_
    refine zw_ic_ge 12 19 f11_9 (by decide +kernel) rfl (fun hc2 => ?_) (fun hc2 => ?_)
    · refine zw_iconst (-1) 20 f11_19 rfl (by decide +kernel) ?_
      refine zw_ireturn f11_20 r11 u11 ⟨_, rfl, ?_⟩
      refine zw_ireturn f97_9 r97 u97 ?_
      exact ⟨_, _, _, _, rfl, KQ.rf, by rw [show an_event L a b = (-1) from (cI_n (fun q => q.2.1 hc2))]⟩
    · refine zw_iload_n 13 f11_12 rfl rfl ?_
      refine zw_sipush 400 16 f11_13 rfl (by decide +kernel) ?_
      refine zw_ic_lt 19 21 f11_16 (by decide +kernel) rfl (fun hc3 => ?_) (fun hc3 => ?_)
      · have ex := qE_lt hn hc1 hc2 (Int32.not_le.mpr hc3)
        have el := hL.2 _ ex.1 ex.2
        refine zw_iload_n 22 f11_21 rfl rfl ?_
        rcases zl_sw 3 (by decide) b with hs4 | ⟨hs4k, hs4l, hs4e⟩
        · refine zw_table_o 80 f11_22 hs4 (by decide +kernel) ?_
          refine zw_iconst (-1) 81 f11_80 rfl (by decide +kernel) ?_
          refine zw_ireturn f11_81 r11 u11 ⟨_, rfl, ?_⟩
          refine zw_ireturn f97_9 r97 u97 ?_
          exact ⟨_, _, _, _, rfl, KQ.rf, by rw [show an_event L a b = (-1) from ((cI_y ⟨hc1, hc2, (Int32.not_le.mpr hc3)⟩).trans ((cI_n (sw_ne hs4 (by decide))).trans ((cI_n (sw_ne hs4 (by decide))).trans ((cI_n (sw_ne hs4 (by decide))).trans ((cI_n (sw_ne hs4 (by decide))).trans rfl)))))]⟩
        · rcases (show hs4k = 0 ∨ hs4k = 1 ∨ hs4k = 2 ∨ hs4k = 3 by omega) with rfl | rfl | rfl | rfl
          · refine zw_table_k 30 52 f11_22 hs4e (by decide +kernel) (by decide +kernel) (by decide +kernel) ?_
            refine zw_aload_n 53 f11_52 rfl rfl ?_
            refine zw_getfield 56 f11_53 rfl g11_9_3 (hb_33 _ _ _ _) rfl ?_
            refine zw_iload_n 57 f11_56 rfl rfl ?_
            refine zw_iaload a.toNatClampNeg (L.2.1 a.toNatClampNeg) 58 f11_57 rfl (hb_34 _ _ _ _) rfl hc1 (zix (by decide) hc1 (Int32.not_le.mpr hc3)) el.1 ?_
            refine zw_ireturn f11_58 r11 u11 ⟨_, rfl, ?_⟩
            refine zw_ireturn f97_9 r97 u97 ?_
            exact ⟨_, _, _, _, rfl, KQ.rf, by rw [show an_event L a b = (L.2.1 a.toNatClampNeg) from ((cI_y ⟨hc1, hc2, (Int32.not_le.mpr hc3)⟩).trans ((cI_y (show b = 0 from hs4e)).trans rfl))]⟩
          · refine zw_table_k 37 59 f11_22 hs4e (by decide +kernel) (by decide +kernel) (by decide +kernel) ?_
            refine zw_aload_n 60 f11_59 rfl rfl ?_
            refine zw_getfield 63 f11_60 rfl g11_15_3 (hb_33 _ _ _ _) rfl ?_
            refine zw_iload_n 64 f11_63 rfl rfl ?_
            refine zw_iaload a.toNatClampNeg (L.2.2.1 a.toNatClampNeg) 65 f11_64 rfl (hb_35 _ _ _ _) rfl hc1 (zix (by decide) hc1 (Int32.not_le.mpr hc3)) el.2.1 ?_
            refine zw_ireturn f11_65 r11 u11 ⟨_, rfl, ?_⟩
            refine zw_ireturn f97_9 r97 u97 ?_
            exact ⟨_, _, _, _, rfl, KQ.rf, by rw [show an_event L a b = (L.2.2.1 a.toNatClampNeg) from ((cI_y ⟨hc1, hc2, (Int32.not_le.mpr hc3)⟩).trans ((cI_n (kne (show b = 1 from hs4e) (by decide))).trans ((cI_y (show b = 1 from hs4e)).trans rfl)))]⟩
          · refine zw_table_k 44 66 f11_22 hs4e (by decide +kernel) (by decide +kernel) (by decide +kernel) ?_
            refine zw_aload_n 67 f11_66 rfl rfl ?_
            refine zw_getfield 70 f11_67 rfl g11_18_3 (hb_33 _ _ _ _) rfl ?_
            refine zw_iload_n 71 f11_70 rfl rfl ?_
            refine zw_iaload a.toNatClampNeg (Int64.toInt32 (rAb (L.2.2.2.1 a.toNatClampNeg) (L.2.2.2.2.1 a.toNatClampNeg))) 72 f11_71 rfl (hb_36 _ _ _ _) rfl hc1 (zix (by decide) hc1 (Int32.not_le.mpr hc3)) el.2.2.1 ?_
            refine zw_ireturn f11_72 r11 u11 ⟨_, rfl, ?_⟩
            refine zw_ireturn f97_9 r97 u97 ?_
            exact ⟨_, _, _, _, rfl, KQ.rf, by rw [show an_event L a b = (Int64.toInt32 (rAb (L.2.2.2.1 a.toNatClampNeg) (L.2.2.2.2.1 a.toNatClampNeg))) from ((cI_y ⟨hc1, hc2, (Int32.not_le.mpr hc3)⟩).trans ((cI_n (kne (show b = 2 from hs4e) (by decide))).trans ((cI_n (kne (show b = 2 from hs4e) (by decide))).trans ((cI_y (show b = 2 from hs4e)).trans rfl))))]⟩
          · refine zw_table_k 51 73 f11_22 hs4e (by decide +kernel) (by decide +kernel) (by decide +kernel) ?_
            refine zw_aload_n 74 f11_73 rfl rfl ?_
            refine zw_getfield 77 f11_74 rfl g11_21_3 (hb_33 _ _ _ _) rfl ?_
            refine zw_iload_n 78 f11_77 rfl rfl ?_
            refine zw_iaload a.toNatClampNeg (Int64.toInt32 (rBe (L.2.2.2.1 a.toNatClampNeg) (L.2.2.2.2.1 a.toNatClampNeg))) 79 f11_78 rfl (hb_37 _ _ _ _) rfl hc1 (zix (by decide) hc1 (Int32.not_le.mpr hc3)) el.2.2.2 ?_
            refine zw_ireturn f11_79 r11 u11 ⟨_, rfl, ?_⟩
            refine zw_ireturn f97_9 r97 u97 ?_
            exact ⟨_, _, _, _, rfl, KQ.rf, by rw [show an_event L a b = (Int64.toInt32 (rBe (L.2.2.2.1 a.toNatClampNeg) (L.2.2.2.2.1 a.toNatClampNeg))) from ((cI_y ⟨hc1, hc2, (Int32.not_le.mpr hc3)⟩).trans ((cI_n (kne (show b = 3 from hs4e) (by decide))).trans ((cI_n (kne (show b = 3 from hs4e) (by decide))).trans ((cI_n (kne (show b = 3 from hs4e) (by decide))).trans ((cI_y (show b = 3 from hs4e)).trans rfl)))))]⟩
      · refine zw_iconst (-1) 20 f11_19 rfl (by decide +kernel) ?_
        refine zw_ireturn f11_20 r11 u11 ⟨_, rfl, ?_⟩
        refine zw_ireturn f97_9 r97 u97 ?_
        exact ⟨_, _, _, _, rfl, KQ.rf, by rw [show an_event L a b = (-1) from (cI_n (fun q => q.2.2 (Int32.not_lt.mp hc3)))]⟩
set_option maxRecDepth 100000 in
set_option maxHeartbeats 0 in
theorem mx_event (ro : UInt32 → Nat × (Nat → Int32)) (nv np : Nat) (P : Nat → Nat → Int32) (W : qW) (L : qLog) (I : Nat → Nat → Int32) (G : Nat → Nat → Int64) (A : Nat → Nat → Int32) (B : Nat → Nat → Int64) (K : Int) (hR : mRS nv np P W L I G A B) (hp : MPa nv np P) (hW : wInv nv 10000 K P W) (hn : L.1 < 900000000) (hg : qLG L) (hi : mId I) (a : Int32) (b : Int32) : zWp ro 163 0 [(0, .ref 52), (1, .int a), (2, .int b)] [] (hS I G A B) 0 0 (fun r h1 => ∃ I2 G2 A2 B2, h1 = hS I2 G2 A2 B2 ∧ KQ fQu pQu I G A B I2 G2 A2 B2 ∧ mId I2 ∧ r = some (.int (an_event L a b))) := by
  have h8 := hp.1
  have h14 := hp.2.1
  obtain ⟨t, ht, et⟩ := hi.2.2
  refine zw_aload_n 1 f163_0 rfl rfl ?_
  refine zw_getI (nI L.1) 4 f163_1 rfl g163_183_12 (hb_52 _ _ _ _) rfl hR.2.2.2.1 ?_
  refine zw_sipush 400 7 f163_4 rfl (by decide +kernel) ?_
  refine zw_ic_ge 10 17 f163_7 (by decide +kernel) rfl (fun hc1 => ?_) (fun hc1 => ?_)
  · have hn_hc1 : 400 ≤ L.1 := zn_ge (by omega) (by omega) hc1
    refine zw_sipush 400 20 f163_17 rfl (by decide +kernel) ?_
    refine zw_istore_n _ 21 f163_20 rfl (by decide +kernel) rfl ?_
    refine zw_iload_n 22 f163_21 rfl (zl1_ne rfl rfl rfl) ?_
    refine zw_iconst 0 23 f163_22 rfl (by decide +kernel) ?_
    refine zw_iload_n 24 f163_23 rfl zl1_eq ?_
    refine zw_iconst 1 25 f163_24 rfl (by decide +kernel) ?_
    refine zw_isub 399 26 f163_25 rfl (by decide +kernel) ?_
    refine zw_static_i 29 0 0 [.int a, .int 0, .int 399] [] [(0, .int a), (1, .int 0), (2, .int 399)] f163_26 rfl k163_117_99 rfl (by decide +kernel) (Nat.le_of_ble_eq_true rfl) (Nat.le_of_ble_eq_true rfl) rfl rfl (by decide +kernel) (by decide +kernel) rfl (Nat.le_of_ble_eq_true rfl) rfl ?_
    refine zw_iload_n 1 f120_0 rfl rfl ?_
    refine zw_iload_n 2 f120_1 rfl rfl ?_
    refine zw_ic_lt 5 14 f120_2 (by decide +kernel) rfl (fun hc2 => ?_) (fun hc2 => ?_)
    · refine zw_iconst 0 15 f120_14 rfl (by decide +kernel) ?_
      refine zw_zreturn f120_15 r120 u120 (by decide +kernel) ⟨_, rfl, ?_⟩
      refine zw_if_eq_t 41 f163_29 (by decide +kernel) (by decide +kernel) ?_
      refine zw_iconst (-1) 42 f163_41 rfl (by decide +kernel) ?_
      refine zw_ireturn f163_42 r163 u163 ?_
      exact ⟨_, _, _, _, rfl, KQ.rf, ⟨hi.1, hi.2.1, t, by omega, et⟩, by rw [show an_event L a b = (-1) from (cI_n (fun q => q.1 hc2))]⟩
    · refine zw_iload_n 6 f120_5 rfl rfl ?_
      refine zw_iload_n 7 f120_6 rfl rfl ?_
      refine zw_ic_gt 10 14 f120_7 (by decide +kernel) rfl (fun hc3 => ?_) (fun hc3 => ?_)
      · refine zw_iconst 0 15 f120_14 rfl (by decide +kernel) ?_
        refine zw_zreturn f120_15 r120 u120 (by decide +kernel) ⟨_, rfl, ?_⟩
        refine zw_if_eq_t 41 f163_29 (by decide +kernel) (by decide +kernel) ?_
        refine zw_iconst (-1) 42 f163_41 rfl (by decide +kernel) ?_
        refine zw_ireturn f163_42 r163 u163 ?_
        exact ⟨_, _, _, _, rfl, KQ.rf, ⟨hi.1, hi.2.1, t, by omega, et⟩, by rw [show an_event L a b = (-1) from (cI_n (qE_n2 hc3))]⟩
      · have ex := ev_ix (by omega) hc2 (Or.inr ⟨hc3, (Int32.not_lt.mpr hc1)⟩)
        refine zw_iconst 1 11 f120_10 rfl (by decide +kernel) ?_
        refine zw_goto 15 f120_11 (by decide +kernel) ?_
        refine zw_zreturn f120_15 r120 u120 (by decide +kernel) ⟨_, rfl, ?_⟩
        refine zw_if_eq_f 32 41 f163_29 (by decide +kernel) rfl (by decide +kernel) ?_
        refine zw_iload_n 33 f163_32 rfl (zl1_ne rfl rfl rfl) ?_
        refine zw_iconst 0 34 f163_33 rfl (by decide +kernel) ?_
        refine zw_iconst 3 35 f163_34 rfl (by decide +kernel) ?_
        refine zw_static_i 38 0 0 [.int b, .int 0, .int 3] [] [(0, .int b), (1, .int 0), (2, .int 3)] f163_35 rfl k163_117_99 rfl (by decide +kernel) (Nat.le_of_ble_eq_true rfl) (Nat.le_of_ble_eq_true rfl) rfl rfl (by decide +kernel) (by decide +kernel) rfl (Nat.le_of_ble_eq_true rfl) rfl ?_
        refine zw_iload_n 1 f120_0 rfl rfl ?_
        refine zw_iload_n 2 f120_1 rfl rfl ?_
        refine zw_ic_lt 5 14 f120_2 (by decide +kernel) rfl (fun hc4 => ?_) (fun hc4 => ?_)
        · refine zw_iconst 0 15 f120_14 rfl (by decide +kernel) ?_
          refine zw_zreturn f120_15 r120 u120 (by decide +kernel) ⟨_, rfl, ?_⟩
          refine zw_if_ne_f 41 43 f163_38 (by decide +kernel) rfl (by decide +kernel) ?_
          refine zw_iconst (-1) 42 f163_41 rfl (by decide +kernel) ?_
          refine zw_ireturn f163_42 r163 u163 ?_
          exact ⟨_, _, _, _, rfl, KQ.rf, ⟨hi.1, hi.2.1, t, by omega, et⟩, by rw [show an_event L a b = (-1) from ((cI_y (qE_of hn hc2 ex)).trans ((cI_n (rg_ne (n := 3) (Or.inl hc4) (by decide))).trans ((cI_n (rg_ne (n := 3) (Or.inl hc4) (by decide))).trans ((cI_n (rg_ne (n := 3) (Or.inl hc4) (by decide))).trans ((cI_n (rg_ne (n := 3) (Or.inl hc4) (by decide))).trans rfl)))))]⟩
        · refine zw_iload_n 6 f120_5 rfl rfl ?_
          refine zw_iload_n 7 f120_6 rfl rfl ?_
          refine zw_ic_gt 10 14 f120_7 (by decide +kernel) rfl (fun hc5 => ?_) (fun hc5 => ?_)
          · refine zw_iconst 0 15 f120_14 rfl (by decide +kernel) ?_
            refine zw_zreturn f120_15 r120 u120 (by decide +kernel) ⟨_, rfl, ?_⟩
            refine zw_if_ne_f 41 43 f163_38 (by decide +kernel) rfl (by decide +kernel) ?_
            refine zw_iconst (-1) 42 f163_41 rfl (by decide +kernel) ?_
            refine zw_ireturn f163_42 r163 u163 ?_
            exact ⟨_, _, _, _, rfl, KQ.rf, ⟨hi.1, hi.2.1, t, by omega, et⟩, by rw [show an_event L a b = (-1) from ((cI_y (qE_of hn hc2 ex)).trans ((cI_n (rg_ne (n := 3) (Or.inr hc5) (by decide))).trans ((cI_n (rg_ne (n := 3) (Or.inr hc5) (by decide))).trans ((cI_n (rg_ne (n := 3) (Or.inr hc5) (by decide))).trans ((cI_n (rg_ne (n := 3) (Or.inr hc5) (by decide))).trans rfl)))))]⟩
          · refine zw_iconst 1 11 f120_10 rfl (by decide +kernel) ?_
            refine zw_goto 15 f120_11 (by decide +kernel) ?_
            refine zw_zreturn f120_15 r120 u120 (by decide +kernel) ⟨_, rfl, ?_⟩
            refine zw_if_ne_t 43 f163_38 (by decide +kernel) (by decide +kernel) ?_
            refine zw_iload_n 44 f163_43 rfl (zl1_ne rfl rfl rfl) ?_
            refine zw_if_ne 47 56 f163_44 (by decide +kernel) rfl (fun hc6 => ?_) (fun hc6 => ?_)
            · refine zw_iload_n 57 f163_56 rfl (zl1_ne rfl rfl rfl) ?_
              refine zw_iconst 1 58 f163_57 rfl (by decide +kernel) ?_
              refine zw_ic_ne 61 70 f163_58 (by decide +kernel) rfl (fun hc7 => ?_) (fun hc7 => ?_)
              · refine zw_aload_n 71 f163_70 rfl (zl1_ne rfl rfl rfl) ?_
                refine zw_getfield 74 f163_71 rfl g163_68_12 (hb_52 _ _ _ _) rfl ?_
                refine zw_iload_n 75 f163_74 rfl (zl1_ne rfl rfl rfl) ?_
                refine zw_laload a.toNatClampNeg (L.2.2.2.1 a.toNatClampNeg) 76 f163_75 rfl (hb_69 _ _ _ _) rfl hc2 (zix (by decide) hc2 ex.1) (congrFun (hR.2.2.2.2.2.2.1) a.toNatClampNeg) ?_
                refine zw_aload_n 77 f163_76 rfl (zl1_ne rfl rfl rfl) ?_
                refine zw_getfield 80 f163_77 rfl g163_71_12 (hb_52 _ _ _ _) rfl ?_
                refine zw_iload_n 81 f163_80 rfl (zl1_ne rfl rfl rfl) ?_
                refine zw_laload a.toNatClampNeg (L.2.2.2.2.1 a.toNatClampNeg) 82 f163_81 rfl (hb_70 _ _ _ _) rfl hc2 (zix (by decide) hc2 ex.1) (congrFun (hR.2.2.2.2.2.2.2.1) a.toNatClampNeg) ?_
                refine zw_iload_n 83 f163_82 rfl (zl1_ne rfl rfl rfl) ?_
                refine zw_iconst 2 84 f163_83 rfl (by decide +kernel) ?_
                refine zw_isub (b - 2) 85 f163_84 rfl rfl ?_
                refine zw_static_l 88 0 0 [.long (L.2.2.2.1 a.toNatClampNeg), .long (L.2.2.2.2.1 a.toNatClampNeg), .int (b - 2)] [] [(0, .long (L.2.2.2.1 a.toNatClampNeg)), (2, .long (L.2.2.2.2.1 a.toNatClampNeg)), (4, .int (b - 2))] f163_85 rfl k163_239_99 rfl (by decide +kernel) (Nat.le_of_ble_eq_true rfl) (Nat.le_of_ble_eq_true rfl) rfl rfl (by decide +kernel) (by decide +kernel) rfl (Nat.le_of_ble_eq_true rfl) rfl ?_
                refine zw_lload_n 1 f153_0 rfl rfl ?_
                refine zw_lload_n 2 f153_1 rfl rfl ?_
                refine zw_static_l 5 0 0 [.long (L.2.2.2.1 a.toNatClampNeg), .long (L.2.2.2.2.1 a.toNatClampNeg)] [] [(0, .long (L.2.2.2.1 a.toNatClampNeg)), (2, .long (L.2.2.2.2.1 a.toNatClampNeg))] f153_2 rfl k153_164_99 rfl (by decide +kernel) (Nat.le_of_ble_eq_true rfl) (Nat.le_of_ble_eq_true rfl) rfl rfl (by decide +kernel) (by decide +kernel) rfl (Nat.le_of_ble_eq_true rfl) rfl ?_
                refine zWp.mono (mm_divisor ro _ (L.2.2.2.1 a.toNatClampNeg) (L.2.2.2.2.1 a.toNatClampNeg)) ?_
                rintro r h1 ⟨rfl, rfl⟩
                refine ⟨_, rfl, ?_⟩
                refine zw_lstore _ 7 f153_5 rfl (by decide +kernel) rfl ?_
                refine zw_iload 9 f153_7 rfl (zl2_ne rfl rfl rfl) ?_
                refine zw_if_ne 12 19 f153_9 (by decide +kernel) rfl (fun hc8 => ?_) (fun hc8 => ?_)
                · refine zw_lload_n 20 f153_19 rfl (zl2_ne rfl rfl rfl) ?_
                  refine zw_lload 22 f153_20 rfl zl2_eq ?_
                  refine zw_ldiv ((L.2.2.2.2.1 a.toNatClampNeg) / (mD (L.2.2.2.1 a.toNatClampNeg) (L.2.2.2.2.1 a.toNatClampNeg))) 23 f153_22 rfl (mD_ne0 (i64_ne0 (hg _ ex.2.1 ex.2.2))) rfl ?_
                  refine zw_lreturn f153_23 r153 u153 ⟨_, rfl, ?_⟩
                  refine zw_l2i (Int64.toInt32 ((L.2.2.2.2.1 a.toNatClampNeg) / (mD (L.2.2.2.1 a.toNatClampNeg) (L.2.2.2.2.1 a.toNatClampNeg)))) 89 f163_88 rfl rfl ?_
                  refine zw_ireturn f163_89 r163 u163 ?_
                  exact ⟨_, _, _, _, rfl, KQ.rf, ⟨hi.1, hi.2.1, t, by omega, et⟩, by rw [show an_event L a b = (Int64.toInt32 ((L.2.2.2.2.1 a.toNatClampNeg) / (mD (L.2.2.2.1 a.toNatClampNeg) (L.2.2.2.2.1 a.toNatClampNeg)))) from ((cI_y (qE_of hn hc2 ex)).trans ((cI_n (kne (b_3of ⟨hc4, hc5⟩ hc6 hc7 hc8) (by decide))).trans ((cI_n (kne (b_3of ⟨hc4, hc5⟩ hc6 hc7 hc8) (by decide))).trans ((cI_n (kne (b_3of ⟨hc4, hc5⟩ hc6 hc7 hc8) (by decide))).trans (cI_y (b_3of ⟨hc4, hc5⟩ hc6 hc7 hc8))))))]⟩
                · refine zw_lload_n 13 f153_12 rfl (zl2_ne rfl rfl rfl) ?_
                  refine zw_lload 15 f153_13 rfl zl2_eq ?_
                  refine zw_ldiv ((L.2.2.2.1 a.toNatClampNeg) / (mD (L.2.2.2.1 a.toNatClampNeg) (L.2.2.2.2.1 a.toNatClampNeg))) 16 f153_15 rfl (mD_ne0 (i64_ne0 (hg _ ex.2.1 ex.2.2))) rfl ?_
                  refine zw_goto 23 f153_16 (by decide +kernel) ?_
                  refine zw_lreturn f153_23 r153 u153 ⟨_, rfl, ?_⟩
                  refine zw_l2i (Int64.toInt32 ((L.2.2.2.1 a.toNatClampNeg) / (mD (L.2.2.2.1 a.toNatClampNeg) (L.2.2.2.2.1 a.toNatClampNeg)))) 89 f163_88 rfl rfl ?_
                  refine zw_ireturn f163_89 r163 u163 ?_
                  exact ⟨_, _, _, _, rfl, KQ.rf, ⟨hi.1, hi.2.1, t, by omega, et⟩, by rw [show an_event L a b = (Int64.toInt32 ((L.2.2.2.1 a.toNatClampNeg) / (mD (L.2.2.2.1 a.toNatClampNeg) (L.2.2.2.2.1 a.toNatClampNeg)))) from ((cI_y (qE_of hn hc2 ex)).trans ((cI_n (kne (b_2of (Decidable.of_not_not hc8)) (by decide))).trans ((cI_n (kne (b_2of (Decidable.of_not_not hc8)) (by decide))).trans (cI_y (b_2of (Decidable.of_not_not hc8))))))]⟩
              · refine zw_aload_n 62 f163_61 rfl (zl1_ne rfl rfl rfl) ?_
                refine zw_getfield 65 f163_62 rfl g163_65_12 (hb_52 _ _ _ _) rfl ?_
                refine zw_iload_n 66 f163_65 rfl (zl1_ne rfl rfl rfl) ?_
                refine zw_iaload a.toNatClampNeg (L.2.2.1 a.toNatClampNeg) 67 f163_66 rfl (hb_68 _ _ _ _) rfl hc2 (zix (by decide) hc2 ex.1) (congrFun (hR.2.2.2.2.2.1) a.toNatClampNeg) ?_
                refine zw_goto 89 f163_67 (by decide +kernel) ?_
                refine zw_ireturn f163_89 r163 u163 ?_
                exact ⟨_, _, _, _, rfl, KQ.rf, ⟨hi.1, hi.2.1, t, by omega, et⟩, by rw [show an_event L a b = (L.2.2.1 a.toNatClampNeg) from ((cI_y (qE_of hn hc2 ex)).trans ((cI_n (kne (Decidable.of_not_not hc7) (by decide))).trans (cI_y (Decidable.of_not_not hc7))))]⟩
            · refine zw_aload_n 48 f163_47 rfl (zl1_ne rfl rfl rfl) ?_
              refine zw_getfield 51 f163_48 rfl g163_62_12 (hb_52 _ _ _ _) rfl ?_
              refine zw_iload_n 52 f163_51 rfl (zl1_ne rfl rfl rfl) ?_
              refine zw_iaload a.toNatClampNeg (L.2.1 a.toNatClampNeg) 53 f163_52 rfl (hb_67 _ _ _ _) rfl hc2 (zix (by decide) hc2 ex.1) (congrFun (hR.2.2.2.2.1) a.toNatClampNeg) ?_
              refine zw_goto 89 f163_53 (by decide +kernel) ?_
              refine zw_ireturn f163_89 r163 u163 ?_
              exact ⟨_, _, _, _, rfl, KQ.rf, ⟨hi.1, hi.2.1, t, by omega, et⟩, by rw [show an_event L a b = (L.2.1 a.toNatClampNeg) from ((cI_y (qE_of hn hc2 ex)).trans (cI_y (Decidable.of_not_not hc6)))]⟩
  · have hn_hc1 : L.1 < 400 := zn_lt (by omega) (by omega) hc1
    refine zw_aload_n 11 f163_10 rfl rfl ?_
    refine zw_getI (nI L.1) 14 f163_11 rfl g163_183_12 (hb_52 _ _ _ _) rfl hR.2.2.2.1 ?_
    refine zw_goto 20 f163_14 (by decide +kernel) ?_
    refine zw_istore_n _ 21 f163_20 rfl (by decide +kernel) rfl ?_
    refine zw_iload_n 22 f163_21 rfl (zl1_ne rfl rfl rfl) ?_
    refine zw_iconst 0 23 f163_22 rfl (by decide +kernel) ?_
    refine zw_iload_n 24 f163_23 rfl zl1_eq ?_
    refine zw_iconst 1 25 f163_24 rfl (by decide +kernel) ?_
    refine zw_isub ((nI L.1) - 1) 26 f163_25 rfl rfl ?_
    refine zw_static_i 29 0 0 [.int a, .int 0, .int ((nI L.1) - 1)] [] [(0, .int a), (1, .int 0), (2, .int ((nI L.1) - 1))] f163_26 rfl k163_117_99 rfl (by decide +kernel) (Nat.le_of_ble_eq_true rfl) (Nat.le_of_ble_eq_true rfl) rfl rfl (by decide +kernel) (by decide +kernel) rfl (Nat.le_of_ble_eq_true rfl) rfl ?_
    refine zw_iload_n 1 f120_0 rfl rfl ?_
    refine zw_iload_n 2 f120_1 rfl rfl ?_
    refine zw_ic_lt 5 14 f120_2 (by decide +kernel) rfl (fun hc9 => ?_) (fun hc9 => ?_)
    · refine zw_iconst 0 15 f120_14 rfl (by decide +kernel) ?_
      refine zw_zreturn f120_15 r120 u120 (by decide +kernel) ⟨_, rfl, ?_⟩
      refine zw_if_eq_t 41 f163_29 (by decide +kernel) (by decide +kernel) ?_
      refine zw_iconst (-1) 42 f163_41 rfl (by decide +kernel) ?_
      refine zw_ireturn f163_42 r163 u163 ?_
      exact ⟨_, _, _, _, rfl, KQ.rf, ⟨hi.1, hi.2.1, t, by omega, et⟩, by rw [show an_event L a b = (-1) from (cI_n (fun q => q.1 hc9))]⟩
    · refine zw_iload_n 6 f120_5 rfl rfl ?_
      refine zw_iload_n 7 f120_6 rfl rfl ?_
      refine zw_ic_gt 10 14 f120_7 (by decide +kernel) rfl (fun hc10 => ?_) (fun hc10 => ?_)
      · refine zw_iconst 0 15 f120_14 rfl (by decide +kernel) ?_
        refine zw_zreturn f120_15 r120 u120 (by decide +kernel) ⟨_, rfl, ?_⟩
        refine zw_if_eq_t 41 f163_29 (by decide +kernel) (by decide +kernel) ?_
        refine zw_iconst (-1) 42 f163_41 rfl (by decide +kernel) ?_
        refine zw_ireturn f163_42 r163 u163 ?_
        exact ⟨_, _, _, _, rfl, KQ.rf, ⟨hi.1, hi.2.1, t, by omega, et⟩, by rw [show an_event L a b = (-1) from (cI_n (qE_n1 hn hc10))]⟩
      · have ex := ev_ix (by omega) hc9 (Or.inl ⟨hc10, (Int32.not_le.mp hc1)⟩)
        refine zw_iconst 1 11 f120_10 rfl (by decide +kernel) ?_
        refine zw_goto 15 f120_11 (by decide +kernel) ?_
        refine zw_zreturn f120_15 r120 u120 (by decide +kernel) ⟨_, rfl, ?_⟩
        refine zw_if_eq_f 32 41 f163_29 (by decide +kernel) rfl (by decide +kernel) ?_
        refine zw_iload_n 33 f163_32 rfl (zl1_ne rfl rfl rfl) ?_
        refine zw_iconst 0 34 f163_33 rfl (by decide +kernel) ?_
        refine zw_iconst 3 35 f163_34 rfl (by decide +kernel) ?_
        refine zw_static_i 38 0 0 [.int b, .int 0, .int 3] [] [(0, .int b), (1, .int 0), (2, .int 3)] f163_35 rfl k163_117_99 rfl (by decide +kernel) (Nat.le_of_ble_eq_true rfl) (Nat.le_of_ble_eq_true rfl) rfl rfl (by decide +kernel) (by decide +kernel) rfl (Nat.le_of_ble_eq_true rfl) rfl ?_
        refine zw_iload_n 1 f120_0 rfl rfl ?_
        refine zw_iload_n 2 f120_1 rfl rfl ?_
        refine zw_ic_lt 5 14 f120_2 (by decide +kernel) rfl (fun hc11 => ?_) (fun hc11 => ?_)
        · refine zw_iconst 0 15 f120_14 rfl (by decide +kernel) ?_
          refine zw_zreturn f120_15 r120 u120 (by decide +kernel) ⟨_, rfl, ?_⟩
          refine zw_if_ne_f 41 43 f163_38 (by decide +kernel) rfl (by decide +kernel) ?_
          refine zw_iconst (-1) 42 f163_41 rfl (by decide +kernel) ?_
          refine zw_ireturn f163_42 r163 u163 ?_
          exact ⟨_, _, _, _, rfl, KQ.rf, ⟨hi.1, hi.2.1, t, by omega, et⟩, by rw [show an_event L a b = (-1) from ((cI_y (qE_of hn hc9 ex)).trans ((cI_n (rg_ne (n := 3) (Or.inl hc11) (by decide))).trans ((cI_n (rg_ne (n := 3) (Or.inl hc11) (by decide))).trans ((cI_n (rg_ne (n := 3) (Or.inl hc11) (by decide))).trans ((cI_n (rg_ne (n := 3) (Or.inl hc11) (by decide))).trans rfl)))))]⟩
        · refine zw_iload_n 6 f120_5 rfl rfl ?_
          refine zw_iload_n 7 f120_6 rfl rfl ?_
          refine zw_ic_gt 10 14 f120_7 (by decide +kernel) rfl (fun hc12 => ?_) (fun hc12 => ?_)
          · refine zw_iconst 0 15 f120_14 rfl (by decide +kernel) ?_
            refine zw_zreturn f120_15 r120 u120 (by decide +kernel) ⟨_, rfl, ?_⟩
            refine zw_if_ne_f 41 43 f163_38 (by decide +kernel) rfl (by decide +kernel) ?_
            refine zw_iconst (-1) 42 f163_41 rfl (by decide +kernel) ?_
            refine zw_ireturn f163_42 r163 u163 ?_
            exact ⟨_, _, _, _, rfl, KQ.rf, ⟨hi.1, hi.2.1, t, by omega, et⟩, by rw [show an_event L a b = (-1) from ((cI_y (qE_of hn hc9 ex)).trans ((cI_n (rg_ne (n := 3) (Or.inr hc12) (by decide))).trans ((cI_n (rg_ne (n := 3) (Or.inr hc12) (by decide))).trans ((cI_n (rg_ne (n := 3) (Or.inr hc12) (by decide))).trans ((cI_n (rg_ne (n := 3) (Or.inr hc12) (by decide))).trans rfl)))))]⟩
          · refine zw_iconst 1 11 f120_10 rfl (by decide +kernel) ?_
            refine zw_goto 15 f120_11 (by decide +kernel) ?_
            refine zw_zreturn f120_15 r120 u120 (by decide +kernel) ⟨_, rfl, ?_⟩
            refine zw_if_ne_t 43 f163_38 (by decide +kernel) (by decide +kernel) ?_
            refine zw_iload_n 44 f163_43 rfl (zl1_ne rfl rfl rfl) ?_
            refine zw_if_ne 47 56 f163_44 (by decide +kernel) rfl (fun hc13 => ?_) (fun hc13 => ?_)
            · refine zw_iload_n 57 f163_56 rfl (zl1_ne rfl rfl rfl) ?_
              refine zw_iconst 1 58 f163_57 rfl (by decide +kernel) ?_
              refine zw_ic_ne 61 70 f163_58 (by decide +kernel) rfl (fun hc14 => ?_) (fun hc14 => ?_)
              · refine zw_aload_n 71 f163_70 rfl (zl1_ne rfl rfl rfl) ?_
                refine zw_getfield 74 f163_71 rfl g163_68_12 (hb_52 _ _ _ _) rfl ?_
                refine zw_iload_n 75 f163_74 rfl (zl1_ne rfl rfl rfl) ?_
                refine zw_laload a.toNatClampNeg (L.2.2.2.1 a.toNatClampNeg) 76 f163_75 rfl (hb_69 _ _ _ _) rfl hc9 (zix (by decide) hc9 ex.1) (congrFun (hR.2.2.2.2.2.2.1) a.toNatClampNeg) ?_
                refine zw_aload_n 77 f163_76 rfl (zl1_ne rfl rfl rfl) ?_
                refine zw_getfield 80 f163_77 rfl g163_71_12 (hb_52 _ _ _ _) rfl ?_
                refine zw_iload_n 81 f163_80 rfl (zl1_ne rfl rfl rfl) ?_
                refine zw_laload a.toNatClampNeg (L.2.2.2.2.1 a.toNatClampNeg) 82 f163_81 rfl (hb_70 _ _ _ _) rfl hc9 (zix (by decide) hc9 ex.1) (congrFun (hR.2.2.2.2.2.2.2.1) a.toNatClampNeg) ?_
                refine zw_iload_n 83 f163_82 rfl (zl1_ne rfl rfl rfl) ?_
                refine zw_iconst 2 84 f163_83 rfl (by decide +kernel) ?_
                refine zw_isub (b - 2) 85 f163_84 rfl rfl ?_
                refine zw_static_l 88 0 0 [.long (L.2.2.2.1 a.toNatClampNeg), .long (L.2.2.2.2.1 a.toNatClampNeg), .int (b - 2)] [] [(0, .long (L.2.2.2.1 a.toNatClampNeg)), (2, .long (L.2.2.2.2.1 a.toNatClampNeg)), (4, .int (b - 2))] f163_85 rfl k163_239_99 rfl (by decide +kernel) (Nat.le_of_ble_eq_true rfl) (Nat.le_of_ble_eq_true rfl) rfl rfl (by decide +kernel) (by decide +kernel) rfl (Nat.le_of_ble_eq_true rfl) rfl ?_
                refine zw_lload_n 1 f153_0 rfl rfl ?_
                refine zw_lload_n 2 f153_1 rfl rfl ?_
                refine zw_static_l 5 0 0 [.long (L.2.2.2.1 a.toNatClampNeg), .long (L.2.2.2.2.1 a.toNatClampNeg)] [] [(0, .long (L.2.2.2.1 a.toNatClampNeg)), (2, .long (L.2.2.2.2.1 a.toNatClampNeg))] f153_2 rfl k153_164_99 rfl (by decide +kernel) (Nat.le_of_ble_eq_true rfl) (Nat.le_of_ble_eq_true rfl) rfl rfl (by decide +kernel) (by decide +kernel) rfl (Nat.le_of_ble_eq_true rfl) rfl ?_
                refine zWp.mono (mm_divisor ro _ (L.2.2.2.1 a.toNatClampNeg) (L.2.2.2.2.1 a.toNatClampNeg)) ?_
                rintro r h1 ⟨rfl, rfl⟩
                refine ⟨_, rfl, ?_⟩
                refine zw_lstore _ 7 f153_5 rfl (by decide +kernel) rfl ?_
                refine zw_iload 9 f153_7 rfl (zl2_ne rfl rfl rfl) ?_
                refine zw_if_ne 12 19 f153_9 (by decide +kernel) rfl (fun hc15 => ?_) (fun hc15 => ?_)
                · refine zw_lload_n 20 f153_19 rfl (zl2_ne rfl rfl rfl) ?_
                  refine zw_lload 22 f153_20 rfl zl2_eq ?_
                  refine zw_ldiv ((L.2.2.2.2.1 a.toNatClampNeg) / (mD (L.2.2.2.1 a.toNatClampNeg) (L.2.2.2.2.1 a.toNatClampNeg))) 23 f153_22 rfl (mD_ne0 (i64_ne0 (hg _ ex.2.1 ex.2.2))) rfl ?_
                  refine zw_lreturn f153_23 r153 u153 ⟨_, rfl, ?_⟩
                  refine zw_l2i (Int64.toInt32 ((L.2.2.2.2.1 a.toNatClampNeg) / (mD (L.2.2.2.1 a.toNatClampNeg) (L.2.2.2.2.1 a.toNatClampNeg)))) 89 f163_88 rfl rfl ?_
                  refine zw_ireturn f163_89 r163 u163 ?_
                  exact ⟨_, _, _, _, rfl, KQ.rf, ⟨hi.1, hi.2.1, t, by omega, et⟩, by rw [show an_event L a b = (Int64.toInt32 ((L.2.2.2.2.1 a.toNatClampNeg) / (mD (L.2.2.2.1 a.toNatClampNeg) (L.2.2.2.2.1 a.toNatClampNeg)))) from ((cI_y (qE_of hn hc9 ex)).trans ((cI_n (kne (b_3of ⟨hc11, hc12⟩ hc13 hc14 hc15) (by decide))).trans ((cI_n (kne (b_3of ⟨hc11, hc12⟩ hc13 hc14 hc15) (by decide))).trans ((cI_n (kne (b_3of ⟨hc11, hc12⟩ hc13 hc14 hc15) (by decide))).trans (cI_y (b_3of ⟨hc11, hc12⟩ hc13 hc14 hc15))))))]⟩
                · refine zw_lload_n 13 f153_12 rfl (zl2_ne rfl rfl rfl) ?_
                  refine zw_lload 15 f153_13 rfl zl2_eq ?_
                  refine zw_ldiv ((L.2.2.2.1 a.toNatClampNeg) / (mD (L.2.2.2.1 a.toNatClampNeg) (L.2.2.2.2.1 a.toNatClampNeg))) 16 f153_15 rfl (mD_ne0 (i64_ne0 (hg _ ex.2.1 ex.2.2))) rfl ?_
                  refine zw_goto 23 f153_16 (by decide +kernel) ?_
                  refine zw_lreturn f153_23 r153 u153 ⟨_, rfl, ?_⟩
                  refine zw_l2i (Int64.toInt32 ((L.2.2.2.1 a.toNatClampNeg) / (mD (L.2.2.2.1 a.toNatClampNeg) (L.2.2.2.2.1 a.toNatClampNeg)))) 89 f163_88 rfl rfl ?_
                  refine zw_ireturn f163_89 r163 u163 ?_
                  exact ⟨_, _, _, _, rfl, KQ.rf, ⟨hi.1, hi.2.1, t, by omega, et⟩, by rw [show an_event L a b = (Int64.toInt32 ((L.2.2.2.1 a.toNatClampNeg) / (mD (L.2.2.2.1 a.toNatClampNeg) (L.2.2.2.2.1 a.toNatClampNeg)))) from ((cI_y (qE_of hn hc9 ex)).trans ((cI_n (kne (b_2of (Decidable.of_not_not hc15)) (by decide))).trans ((cI_n (kne (b_2of (Decidable.of_not_not hc15)) (by decide))).trans (cI_y (b_2of (Decidable.of_not_not hc15))))))]⟩
              · refine zw_aload_n 62 f163_61 rfl (zl1_ne rfl rfl rfl) ?_
                refine zw_getfield 65 f163_62 rfl g163_65_12 (hb_52 _ _ _ _) rfl ?_
                refine zw_iload_n 66 f163_65 rfl (zl1_ne rfl rfl rfl) ?_
                refine zw_iaload a.toNatClampNeg (L.2.2.1 a.toNatClampNeg) 67 f163_66 rfl (hb_68 _ _ _ _) rfl hc9 (zix (by decide) hc9 ex.1) (congrFun (hR.2.2.2.2.2.1) a.toNatClampNeg) ?_
                refine zw_goto 89 f163_67 (by decide +kernel) ?_
                refine zw_ireturn f163_89 r163 u163 ?_
                exact ⟨_, _, _, _, rfl, KQ.rf, ⟨hi.1, hi.2.1, t, by omega, et⟩, by rw [show an_event L a b = (L.2.2.1 a.toNatClampNeg) from ((cI_y (qE_of hn hc9 ex)).trans ((cI_n (kne (Decidable.of_not_not hc14) (by decide))).trans (cI_y (Decidable.of_not_not hc14))))]⟩
            · refine zw_aload_n 48 f163_47 rfl (zl1_ne rfl rfl rfl) ?_
              refine zw_getfield 51 f163_48 rfl g163_62_12 (hb_52 _ _ _ _) rfl ?_
              refine zw_iload_n 52 f163_51 rfl (zl1_ne rfl rfl rfl) ?_
              refine zw_iaload a.toNatClampNeg (L.2.1 a.toNatClampNeg) 53 f163_52 rfl (hb_67 _ _ _ _) rfl hc9 (zix (by decide) hc9 ex.1) (congrFun (hR.2.2.2.2.1) a.toNatClampNeg) ?_
              refine zw_goto 89 f163_53 (by decide +kernel) ?_
              refine zw_ireturn f163_89 r163 u163 ?_
              exact ⟨_, _, _, _, rfl, KQ.rf, ⟨hi.1, hi.2.1, t, by omega, et⟩, by rw [show an_event L a b = (L.2.1 a.toNatClampNeg) from ((cI_y (qE_of hn hc9 ex)).trans (cI_y (Decidable.of_not_not hc13)))]⟩
set_option maxHeartbeats 0 in
theorem pairX_eventx (ro : UInt32 → Nat × (Nat → Int32)) (k : Nat) (I : Nat → Nat → Int32) (G : Nat → Nat → Int64) (A : Nat → Nat → Int32) (B : Nat → Nat → Int64) (h : zCx k I G A B) (hk : k < 512) (a : Int32) (b : Int32) : zWp ro 97 0 [(0, .ref 0), (1, .int a), (2, .int b)] [] (hS I G A B) 0 0 (zPX ro 163 [(0, .ref 52), (1, .int a), (2, .int b)] k (fun v w => v = w)) := by
  obtain ⟨nv, np, W, L, F, R, ow, kd, lw, lg⟩ := h
  have fn := F.2.2.2.2.2
  refine zWp.mono (cq_event ro nv np A W L (242600 * k) I G A B R F.2.1 ow F.2.2.1 kd lg (by omega) a b) ?_
  rintro r h1 ⟨I1, G1, A1, B1, rfl, K1, rfl⟩
  have F1 := F.kq K1 fNe_52 pNe_52
  have e1 : PE A A1 := fun k _ _ => (K1.2.2.1 k (pNe_52 k (by omega))).symm
  have R1 := R.k K1 ⟨rfl, rfl⟩ (fun j h1 h2 => by simp only [fNe, decide_eq_false_iff_not]; omega) (fun k h1 h2 => by simp only [pNe, decide_eq_false_iff_not]; omega)
  have g1 := lg.k K1 rfl rfl rfl rfl rfl
  refine ⟨_, rfl, zWp.mono (mx_event ro nv np A W L I1 G1 A1 B1 (242600 * k) ⟨F1.1.1, e1.sy, F1.1.2.2⟩ F.2.1 F.2.2.1 (by omega) F1.2.2.2.1 F1.2.2.2.2.1 a b) ?_⟩
  rintro r2 h2 ⟨I2, G2, A2, B2, rfl, K2, id2, rfl⟩
  have R2 := F1.1.k K2 fQu_R pQu_R
  refine ⟨_, rfl, ?_, rfl⟩
  exact zCx.mk (zRf.of R2 F1.2.1 F1.2.2.1 F1.2.2.2.1 id2 fn) (by omega) (by omega) R1 (e1.tr R2.2.1.sy) K2 fQu_c pQu_c ow kd lw g1
theorem pair2_eventx (ro : UInt32 → Nat × (Nat → Int32)) (k : Nat) (I : Nat → Nat → Int32) (G : Nat → Nat → Int64) (A : Nat → Nat → Int32) (B : Nat → Nat → Int64) (h : zL2 k I G A B) (hk : k < 512) (a : Int32) (b : Int32) : zWp ro 97 0 [(0, .ref 0), (1, .int a), (2, .int b)] [] (hS I G A B) 0 0 (zP2 ro 163 [(0, .ref 52), (1, .int a), (2, .int b)] k (fun v w => v = w)) := by
  obtain ⟨h1, I3, G3, A3, B3, eh, hx⟩ := h
  have p1 := pair_event ro k I G A B h1 hk a b
  have p2 := pairX_eventx ro k I3 G3 A3 B3 hx hk a b
  rw [← eh] at p2
  exact zP_and p1 p2
