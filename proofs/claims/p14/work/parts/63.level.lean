noncomputable def an_level (nv : Nat) (W : qW) (a b : Int32) : Int32 := cI (qV nv a ∧ qRg b 0 1) (cI (b = 0) (Int64.toInt32 (rAb (W.2.2.2.2.1 a.toNatClampNeg) W.1)) (Int64.toInt32 (rBe (W.2.2.2.2.1 a.toNatClampNeg) W.1))) (-1)
set_option maxRecDepth 100000 in
set_option maxHeartbeats 0 in
theorem cq_level (ro : UInt32 → Nat × (Nat → Int32)) (nv np : Nat) (P : Nat → Nat → Int32) (W : qW) (L : qLog) (K : Int) (I : Nat → Nat → Int32) (G : Nat → Nat → Int64) (A : Nat → Nat → Int32) (B : Nat → Nat → Int64) (hR : cRS 11 nv np P W I G A B) (hp : MPa nv np P) (hq : qOw nv np P) (hW : wInv nv 10000 K P W) (hQ : qKd nv P) (hL : cLg L I A) (hn : L.1 < 900000000) (a : Int32) (b : Int32) : zWp ro 90 0 [(0, .ref 0), (1, .int a), (2, .int b)] [] (hS I G A B) 0 0 (fun r h1 => ∃ I2 G2 A2 B2, h1 = hS I2 G2 A2 B2 ∧ KQ fNe pNe I G A B I2 G2 A2 B2 ∧ r = some (.int (an_level nv W a b))) := by
  have h8 := hp.1
  have h14 := hp.2.1
  have hg0 : 0 < W.1.toInt := hW.1.1.1.1
  have ht0 : 0 ≤ W.2.1.toInt := hW.1.2.1.1
  refine zw_aload_n 1 f90_0 rfl rfl ?_
  refine zw_getfield 4 f90_1 rfl g90_10_11 (hb_0 _ _ _ _) rfl ?_
  refine zw_iload_n 5 f90_4 rfl rfl ?_
  refine zw_virtual_i 8 0 0 [.ref 1, .int a] [(0, .ref 1), (1, .int a)] f90_5 rfl n90_89 k90_89_4 rfl (hb_1 _ _ _ _) (by decide +kernel) (Nat.le_of_ble_eq_true rfl) rfl rfl (by decide +kernel) (by decide +kernel) rfl (Nat.le_of_ble_eq_true rfl) rfl ?_
  refine zw_iload_n 1 f13_0 rfl rfl ?_
  refine zw_if_lt 4 22 f13_1 (by decide +kernel) rfl (fun hc1 => ?_) (fun hc1 => ?_)
  · refine zw_iconst 0 23 f13_22 rfl (by decide +kernel) ?_
    refine zw_zreturn f13_23 r13 u13 (by decide +kernel) ⟨_, rfl, ?_⟩
    refine zw_if_eq_t 20 f90_8 (by decide +kernel) (by decide +kernel) ?_
    refine zw_iconst (-1) 21 f90_20 rfl (by decide +kernel) ?_
    refine zw_ireturn f90_21 r90 u90 ?_
    exact ⟨_, _, _, _, rfl, KQ.rf, by rw [show an_level nv W a b = (-1) from (cI_n (fun q => (qV.n0 (by omega) hc1) q.1))]⟩
  · refine zw_iload_n 5 f13_4 rfl rfl ?_
    refine zw_aload_n 6 f13_5 rfl rfl ?_
    refine zw_getI (nI nv) 9 f13_6 rfl g13_39_4 (hb_1 _ _ _ _) rfl hR.1.1 ?_
    refine zw_ic_ge 12 22 f13_9 (by decide +kernel) rfl (fun hc2 => ?_) (fun hc2 => ?_)
    · refine zw_iconst 0 23 f13_22 rfl (by decide +kernel) ?_
      refine zw_zreturn f13_23 r13 u13 (by decide +kernel) ⟨_, rfl, ?_⟩
      refine zw_if_eq_t 20 f90_8 (by decide +kernel) (by decide +kernel) ?_
      refine zw_iconst (-1) 21 f90_20 rfl (by decide +kernel) ?_
      refine zw_ireturn f90_21 r90 u90 ?_
      exact ⟨_, _, _, _, rfl, KQ.rf, by rw [show an_level nv W a b = (-1) from (cI_n (fun q => (qV.n2 (by omega) hc2) q.1))]⟩
    · refine zw_iload_n 13 f13_12 rfl rfl ?_
      refine zw_bipush 8 15 f13_13 rfl (by decide +kernel) ?_
      refine zw_ic_ge 18 22 f13_15 (by decide +kernel) rfl (fun hc3 => ?_) (fun hc3 => ?_)
      · refine zw_iconst 0 23 f13_22 rfl (by decide +kernel) ?_
        refine zw_zreturn f13_23 r13 u13 (by decide +kernel) ⟨_, rfl, ?_⟩
        refine zw_if_eq_t 20 f90_8 (by decide +kernel) (by decide +kernel) ?_
        refine zw_iconst (-1) 21 f90_20 rfl (by decide +kernel) ?_
        refine zw_ireturn f90_21 r90 u90 ?_
        exact ⟨_, _, _, _, rfl, KQ.rf, by rw [show an_level nv W a b = (-1) from (cI_n (fun q => (qV.n3 (m := 8) (N := 8) (by omega) (by omega) (by decide) hc3) q.1))]⟩
      · refine zw_iconst 1 19 f13_18 rfl (by decide +kernel) ?_
        refine zw_goto 23 f13_19 (by decide +kernel) ?_
        refine zw_zreturn f13_23 r13 u13 (by decide +kernel) ⟨_, rfl, ?_⟩
        refine zw_if_eq_f 11 20 f90_8 (by decide +kernel) rfl (by decide +kernel) ?_
        refine zw_iload_n 12 f90_11 rfl rfl ?_
        refine zw_iconst 0 13 f90_12 rfl (by decide +kernel) ?_
        refine zw_iconst 1 14 f90_13 rfl (by decide +kernel) ?_
        refine zw_static_i 17 0 0 [.int b, .int 0, .int 1] [] [(0, .int b), (1, .int 0), (2, .int 1)] f90_14 rfl k90_74_99 rfl (by decide +kernel) (Nat.le_of_ble_eq_true rfl) (Nat.le_of_ble_eq_true rfl) rfl rfl (by decide +kernel) (by decide +kernel) rfl (Nat.le_of_ble_eq_true rfl) rfl ?_
        refine zw_iload_n 1 f112_0 rfl rfl ?_
        refine zw_iload_n 2 f112_1 rfl rfl ?_
        refine zw_ic_lt 5 14 f112_2 (by decide +kernel) rfl (fun hc4 => ?_) (fun hc4 => ?_)
        · refine zw_iconst 0 15 f112_14 rfl (by decide +kernel) ?_
          refine zw_zreturn f112_15 r112 u112 (by decide +kernel) ⟨_, rfl, ?_⟩
          refine zw_if_ne_f 20 22 f90_17 (by decide +kernel) rfl (by decide +kernel) ?_
          refine zw_iconst (-1) 21 f90_20 rfl (by decide +kernel) ?_
          refine zw_ireturn f90_21 r90 u90 ?_
          exact ⟨_, _, _, _, rfl, KQ.rf, by rw [show an_level nv W a b = (-1) from (cI_n (fun q => (fun q => q.1 hc4) q.2))]⟩
        · refine zw_iload_n 6 f112_5 rfl rfl ?_
          refine zw_iload_n 7 f112_6 rfl rfl ?_
          refine zw_ic_gt 10 14 f112_7 (by decide +kernel) rfl (fun hc5 => ?_) (fun hc5 => ?_)
          · refine zw_iconst 0 15 f112_14 rfl (by decide +kernel) ?_
            refine zw_zreturn f112_15 r112 u112 (by decide +kernel) ⟨_, rfl, ?_⟩
            refine zw_if_ne_f 20 22 f90_17 (by decide +kernel) rfl (by decide +kernel) ?_
            refine zw_iconst (-1) 21 f90_20 rfl (by decide +kernel) ?_
            refine zw_ireturn f90_21 r90 u90 ?_
            exact ⟨_, _, _, _, rfl, KQ.rf, by rw [show an_level nv W a b = (-1) from (cI_n (fun q => (fun q => q.2 hc5) q.2))]⟩
          · refine zw_iconst 1 11 f112_10 rfl (by decide +kernel) ?_
            refine zw_goto 15 f112_11 (by decide +kernel) ?_
            refine zw_zreturn f112_15 r112 u112 (by decide +kernel) ⟨_, rfl, ?_⟩
            refine zw_if_ne_t 22 f90_17 (by decide +kernel) (by decide +kernel) ?_
            refine zw_aload_n 23 f90_22 rfl rfl ?_
            refine zw_getfield 26 f90_23 rfl g90_21_11 (hb_0 _ _ _ _) rfl ?_
            refine zw_getfield 29 f90_26 rfl g90_134_10 (hb_11 _ _ _ _) rfl ?_
            refine zw_getfield 32 f90_29 rfl g90_214_9 (hb_12 _ _ _ _) rfl ?_
            refine zw_iload_n 33 f90_32 rfl rfl ?_
            refine zw_laload a.toNatClampNeg ((W.2.2.2.2.1) a.toNatClampNeg) 34 f90_33 rfl (hb_13 _ _ _ _) rfl hc1 (zix (by decide) hc1 hc3) (congrFun (hR.2.2.2.1) a.toNatClampNeg) ?_
            refine zw_aload_n 35 f90_34 rfl rfl ?_
            refine zw_getfield 38 f90_35 rfl g90_21_11 (hb_0 _ _ _ _) rfl ?_
            refine zw_getfield 41 f90_38 rfl g90_134_10 (hb_11 _ _ _ _) rfl ?_
            refine zw_getG W.1 44 f90_41 rfl g90_151_9 (hb_12 _ _ _ _) rfl hR.2.2.1.1 ?_
            refine zw_iload_n 45 f90_44 rfl rfl ?_
            refine zw_static_l 48 0 0 [.long ((W.2.2.2.2.1) a.toNatClampNeg), .long W.1, .int b] [] [(0, .long ((W.2.2.2.2.1) a.toNatClampNeg)), (2, .long W.1), (4, .int b)] f90_45 rfl k90_210_99 rfl (by decide +kernel) (Nat.le_of_ble_eq_true rfl) (Nat.le_of_ble_eq_true rfl) rfl rfl (by decide +kernel) (by decide +kernel) rfl (Nat.le_of_ble_eq_true rfl) rfl ?_
            refine zw_iload 2 f118_0 rfl rfl ?_
            refine zw_if_ne 5 13 f118_2 (by decide +kernel) rfl (fun hc6 => ?_) (fun hc6 => ?_)
            · refine zw_lload_n 14 f118_13 rfl rfl ?_
              refine zw_lload_n 15 f118_14 rfl rfl ?_
              refine zw_static_l 18 0 0 [.long ((W.2.2.2.2.1) a.toNatClampNeg), .long W.1] [] [(0, .long ((W.2.2.2.2.1) a.toNatClampNeg)), (2, .long W.1)] f118_15 rfl k118_198_99 rfl (by decide +kernel) (Nat.le_of_ble_eq_true rfl) (Nat.le_of_ble_eq_true rfl) rfl rfl (by decide +kernel) (by decide +kernel) rfl (Nat.le_of_ble_eq_true rfl) rfl ?_
              refine zw_lload_n 1 f117_0 rfl rfl ?_
              refine zw_lload_n 2 f117_1 rfl rfl ?_
              refine zw_static_l 5 0 0 [.long ((W.2.2.2.2.1) a.toNatClampNeg), .long W.1] [] [(0, .long ((W.2.2.2.2.1) a.toNatClampNeg)), (2, .long W.1)] f117_2 rfl k117_336_99 rfl (by decide +kernel) (Nat.le_of_ble_eq_true rfl) (Nat.le_of_ble_eq_true rfl) rfl rfl (by decide +kernel) (by decide +kernel) rfl (Nat.le_of_ble_eq_true rfl) rfl ?_
              refine zWp.mono (cx_gcd ro _ ((W.2.2.2.2.1) a.toNatClampNeg) W.1) ?_
              rintro r h1 ⟨rfl, rfl⟩
              refine ⟨_, rfl, ?_⟩
              refine zw_lstore _ 7 f117_5 rfl (by decide +kernel) rfl ?_
              refine zw_lload 9 f117_7 rfl zl2_eq ?_
              refine zw_lconst 0 10 f117_9 rfl (by decide +kernel) ?_
              refine zw_lcmp (lg_cmp (cGc ((W.2.2.2.2.1) a.toNatClampNeg) W.1) 0) 11 f117_10 rfl rfl ?_
              refine zw_if_ne_t 18 f117_11 (by decide +kernel) (fun q => cGc_ne0 ((lg_cmp_eq _ _).mp q)) ?_
              refine zw_lload_n 19 f117_18 rfl (zl2_ne rfl rfl rfl) ?_
              refine zw_lload 21 f117_19 rfl zl2_eq ?_
              refine zw_ldiv (W.1 / (cGc ((W.2.2.2.2.1) a.toNatClampNeg) W.1)) 22 f117_21 rfl cGc_ne0 rfl ?_
              refine zw_lreturn f117_22 r117 u117 ⟨_, rfl, ?_⟩
              refine zw_lreturn f118_18 r118 u118 ⟨_, rfl, ?_⟩
              refine zw_l2i (Int64.toInt32 (W.1 / (cGc ((W.2.2.2.2.1) a.toNatClampNeg) W.1))) 49 f90_48 rfl rfl ?_
              refine zw_ireturn f90_49 r90 u90 ?_
              exact ⟨_, _, _, _, rfl, KQ.rf, by rw [show an_level nv W a b = (Int64.toInt32 (W.1 / (cGc ((W.2.2.2.2.1) a.toNatClampNeg) W.1))) from ((cI_y ⟨(qV.ofc (by omega) hc1 hc2), ⟨hc4, hc5⟩⟩).trans ((cI_n hc6).trans (congrArg Int64.toInt32 (rAb_c (hW.1.1.2.1 _ ((qV.ofc (by omega) hc1 hc2)).1).1 hg0).2.symm)))]⟩
            · refine zw_lload_n 6 f118_5 rfl rfl ?_
              refine zw_lload_n 7 f118_6 rfl rfl ?_
              refine zw_static_l 10 0 0 [.long ((W.2.2.2.2.1) a.toNatClampNeg), .long W.1] [] [(0, .long ((W.2.2.2.2.1) a.toNatClampNeg)), (2, .long W.1)] f118_7 rfl k118_194_99 rfl (by decide +kernel) (Nat.le_of_ble_eq_true rfl) (Nat.le_of_ble_eq_true rfl) rfl rfl (by decide +kernel) (by decide +kernel) rfl (Nat.le_of_ble_eq_true rfl) rfl ?_
              refine zw_lload_n 1 f116_0 rfl rfl ?_
              refine zw_lload_n 2 f116_1 rfl rfl ?_
              refine zw_static_l 5 0 0 [.long ((W.2.2.2.2.1) a.toNatClampNeg), .long W.1] [] [(0, .long ((W.2.2.2.2.1) a.toNatClampNeg)), (2, .long W.1)] f116_2 rfl k116_336_99 rfl (by decide +kernel) (Nat.le_of_ble_eq_true rfl) (Nat.le_of_ble_eq_true rfl) rfl rfl (by decide +kernel) (by decide +kernel) rfl (Nat.le_of_ble_eq_true rfl) rfl ?_
              refine zWp.mono (cx_gcd ro _ ((W.2.2.2.2.1) a.toNatClampNeg) W.1) ?_
              rintro r h1 ⟨rfl, rfl⟩
              refine ⟨_, rfl, ?_⟩
              refine zw_lstore _ 7 f116_5 rfl (by decide +kernel) rfl ?_
              refine zw_lload 9 f116_7 rfl zl2_eq ?_
              refine zw_lconst 0 10 f116_9 rfl (by decide +kernel) ?_
              refine zw_lcmp (lg_cmp (cGc ((W.2.2.2.2.1) a.toNatClampNeg) W.1) 0) 11 f116_10 rfl rfl ?_
              refine zw_if_ne_t 18 f116_11 (by decide +kernel) (fun q => cGc_ne0 ((lg_cmp_eq _ _).mp q)) ?_
              refine zw_lload_n 19 f116_18 rfl (zl2_ne rfl rfl rfl) ?_
              refine zw_lload 21 f116_19 rfl zl2_eq ?_
              refine zw_ldiv (((W.2.2.2.2.1) a.toNatClampNeg) / (cGc ((W.2.2.2.2.1) a.toNatClampNeg) W.1)) 22 f116_21 rfl cGc_ne0 rfl ?_
              refine zw_lreturn f116_22 r116 u116 ⟨_, rfl, ?_⟩
              refine zw_goto 18 f118_10 (by decide +kernel) ?_
              refine zw_lreturn f118_18 r118 u118 ⟨_, rfl, ?_⟩
              refine zw_l2i (Int64.toInt32 (((W.2.2.2.2.1) a.toNatClampNeg) / (cGc ((W.2.2.2.2.1) a.toNatClampNeg) W.1))) 49 f90_48 rfl rfl ?_
              refine zw_ireturn f90_49 r90 u90 ?_
              exact ⟨_, _, _, _, rfl, KQ.rf, by rw [show an_level nv W a b = (Int64.toInt32 (((W.2.2.2.2.1) a.toNatClampNeg) / (cGc ((W.2.2.2.2.1) a.toNatClampNeg) W.1))) from ((cI_y ⟨(qV.ofc (by omega) hc1 hc2), ⟨hc4, hc5⟩⟩).trans ((cI_y (Decidable.of_not_not hc6)).trans (congrArg Int64.toInt32 (rAb_c (hW.1.1.2.1 _ ((qV.ofc (by omega) hc1 hc2)).1).1 hg0).1.symm)))]⟩
set_option maxRecDepth 100000 in
set_option maxHeartbeats 0 in
theorem mx_level (ro : UInt32 → Nat × (Nat → Int32)) (nv np : Nat) (P : Nat → Nat → Int32) (W : qW) (L : qLog) (I : Nat → Nat → Int32) (G : Nat → Nat → Int64) (A : Nat → Nat → Int32) (B : Nat → Nat → Int64) (K : Int) (hR : mRS nv np P W L I G A B) (hp : MPa nv np P) (hW : wInv nv 10000 K P W) (hn : L.1 < 900000000) (hg : qLG L) (hi : mId I) (a : Int32) (b : Int32) : zWp ro 156 0 [(0, .ref 52), (1, .int a), (2, .int b)] [] (hS I G A B) 0 0 (fun r h1 => ∃ I2 G2 A2 B2, h1 = hS I2 G2 A2 B2 ∧ KQ fQu pQu I G A B I2 G2 A2 B2 ∧ mId I2 ∧ r = some (.int (an_level nv W a b))) := by
  have h8 := hp.1
  have h14 := hp.2.1
  obtain ⟨t, ht, et⟩ := hi.2.2
  refine zw_aload_n 1 f156_0 rfl rfl ?_
  refine zw_iload_n 2 f156_1 rfl rfl ?_
  refine zw_virtual_i 5 0 0 [.ref 52, .int a] [(0, .ref 52), (1, .int a)] f156_2 rfl n156_215 k156_215_12 rfl (hb_52 _ _ _ _) (by decide +kernel) (Nat.le_of_ble_eq_true rfl) rfl rfl (by decide +kernel) (by decide +kernel) rfl (Nat.le_of_ble_eq_true rfl) rfl ?_
  refine zw_iload_n 1 f123_0 rfl rfl ?_
  refine zw_iconst 0 2 f123_1 rfl (by decide +kernel) ?_
  refine zw_aload_n 3 f123_2 rfl rfl ?_
  refine zw_getI (nI nv) 6 f123_3 rfl g123_114_12 (hb_52 _ _ _ _) rfl hR.1.1 ?_
  refine zw_iconst 1 7 f123_6 rfl (by decide +kernel) ?_
  refine zw_isub ((nI nv) - 1) 8 f123_7 rfl rfl ?_
  refine zw_static_i 11 0 0 [.int a, .int 0, .int ((nI nv) - 1)] [] [(0, .int a), (1, .int 0), (2, .int ((nI nv) - 1))] f123_8 rfl k123_117_99 rfl (by decide +kernel) (Nat.le_of_ble_eq_true rfl) (Nat.le_of_ble_eq_true rfl) rfl rfl (by decide +kernel) (by decide +kernel) rfl (Nat.le_of_ble_eq_true rfl) rfl ?_
  refine zw_iload_n 1 f120_0 rfl rfl ?_
  refine zw_iload_n 2 f120_1 rfl rfl ?_
  refine zw_ic_lt 5 14 f120_2 (by decide +kernel) rfl (fun hc1 => ?_) (fun hc1 => ?_)
  · refine zw_iconst 0 15 f120_14 rfl (by decide +kernel) ?_
    refine zw_zreturn f120_15 r120 u120 (by decide +kernel) ⟨_, rfl, ?_⟩
    refine zw_zreturn f123_11 r123 u123 (by decide +kernel) ⟨_, rfl, ?_⟩
    refine zw_if_eq_t 35 f156_5 (by decide +kernel) (by decide +kernel) ?_
    refine zw_iconst (-1) 36 f156_35 rfl (by decide +kernel) ?_
    refine zw_ireturn f156_36 r156 u156 ?_
    exact ⟨_, _, _, _, rfl, KQ.rf, ⟨hi.1, hi.2.1, t, by omega, et⟩, by rw [show an_level nv W a b = (-1) from (cI_n (fun q => (qV.n0 (by omega) hc1) q.1))]⟩
  · refine zw_iload_n 6 f120_5 rfl rfl ?_
    refine zw_iload_n 7 f120_6 rfl rfl ?_
    refine zw_ic_gt 10 14 f120_7 (by decide +kernel) rfl (fun hc2 => ?_) (fun hc2 => ?_)
    · refine zw_iconst 0 15 f120_14 rfl (by decide +kernel) ?_
      refine zw_zreturn f120_15 r120 u120 (by decide +kernel) ⟨_, rfl, ?_⟩
      refine zw_zreturn f123_11 r123 u123 (by decide +kernel) ⟨_, rfl, ?_⟩
      refine zw_if_eq_t 35 f156_5 (by decide +kernel) (by decide +kernel) ?_
      refine zw_iconst (-1) 36 f156_35 rfl (by decide +kernel) ?_
      refine zw_ireturn f156_36 r156 u156 ?_
      exact ⟨_, _, _, _, rfl, KQ.rf, ⟨hi.1, hi.2.1, t, by omega, et⟩, by rw [show an_level nv W a b = (-1) from (cI_n (fun q => (qV.n1 (by omega) hc2) q.1))]⟩
    · refine zw_iconst 1 11 f120_10 rfl (by decide +kernel) ?_
      refine zw_goto 15 f120_11 (by decide +kernel) ?_
      refine zw_zreturn f120_15 r120 u120 (by decide +kernel) ⟨_, rfl, ?_⟩
      refine zw_zreturn f123_11 r123 u123 (by decide +kernel) ⟨_, rfl, ?_⟩
      refine zw_if_eq_f 8 35 f156_5 (by decide +kernel) rfl (by decide +kernel) ?_
      refine zw_iload_n 9 f156_8 rfl rfl ?_
      refine zw_iconst 0 10 f156_9 rfl (by decide +kernel) ?_
      refine zw_iconst 1 11 f156_10 rfl (by decide +kernel) ?_
      refine zw_static_i 14 0 0 [.int b, .int 0, .int 1] [] [(0, .int b), (1, .int 0), (2, .int 1)] f156_11 rfl k156_117_99 rfl (by decide +kernel) (Nat.le_of_ble_eq_true rfl) (Nat.le_of_ble_eq_true rfl) rfl rfl (by decide +kernel) (by decide +kernel) rfl (Nat.le_of_ble_eq_true rfl) rfl ?_
      refine zw_iload_n 1 f120_0 rfl rfl ?_
      refine zw_iload_n 2 f120_1 rfl rfl ?_
      refine zw_ic_lt 5 14 f120_2 (by decide +kernel) rfl (fun hc3 => ?_) (fun hc3 => ?_)
      · refine zw_iconst 0 15 f120_14 rfl (by decide +kernel) ?_
        refine zw_zreturn f120_15 r120 u120 (by decide +kernel) ⟨_, rfl, ?_⟩
        refine zw_if_eq_t 35 f156_14 (by decide +kernel) (by decide +kernel) ?_
        refine zw_iconst (-1) 36 f156_35 rfl (by decide +kernel) ?_
        refine zw_ireturn f156_36 r156 u156 ?_
        exact ⟨_, _, _, _, rfl, KQ.rf, ⟨hi.1, hi.2.1, t, by omega, et⟩, by rw [show an_level nv W a b = (-1) from (cI_n (fun q => (fun q => q.1 hc3) q.2))]⟩
      · refine zw_iload_n 6 f120_5 rfl rfl ?_
        refine zw_iload_n 7 f120_6 rfl rfl ?_
        refine zw_ic_gt 10 14 f120_7 (by decide +kernel) rfl (fun hc4 => ?_) (fun hc4 => ?_)
        · refine zw_iconst 0 15 f120_14 rfl (by decide +kernel) ?_
          refine zw_zreturn f120_15 r120 u120 (by decide +kernel) ⟨_, rfl, ?_⟩
          refine zw_if_eq_t 35 f156_14 (by decide +kernel) (by decide +kernel) ?_
          refine zw_iconst (-1) 36 f156_35 rfl (by decide +kernel) ?_
          refine zw_ireturn f156_36 r156 u156 ?_
          exact ⟨_, _, _, _, rfl, KQ.rf, ⟨hi.1, hi.2.1, t, by omega, et⟩, by rw [show an_level nv W a b = (-1) from (cI_n (fun q => (fun q => q.2 hc4) q.2))]⟩
        · refine zw_iconst 1 11 f120_10 rfl (by decide +kernel) ?_
          refine zw_goto 15 f120_11 (by decide +kernel) ?_
          refine zw_zreturn f120_15 r120 u120 (by decide +kernel) ⟨_, rfl, ?_⟩
          refine zw_if_eq_f 17 35 f156_14 (by decide +kernel) rfl (by decide +kernel) ?_
          refine zw_aload_n 18 f156_17 rfl rfl ?_
          refine zw_getfield 21 f156_18 rfl g156_44_12 (hb_52 _ _ _ _) rfl ?_
          refine zw_iload_n 22 f156_21 rfl rfl ?_
          refine zw_laload a.toNatClampNeg ((W.2.2.2.2.1) a.toNatClampNeg) 23 f156_22 rfl (hb_63 _ _ _ _) rfl hc1 (zix (by decide) hc1 (show ¬ 8 ≤ a from ix_le hp.1 (by decide) (by decide) hc1 hc2)) (congrFun (hR.lev) a.toNatClampNeg) ?_
          refine zw_aload_n 24 f156_23 rfl rfl ?_
          refine zw_getG W.1 27 f156_24 rfl g156_40_12 (hb_52 _ _ _ _) rfl hR.g ?_
          refine zw_iload_n 28 f156_27 rfl rfl ?_
          refine zw_static_l 31 0 0 [.long ((W.2.2.2.2.1) a.toNatClampNeg), .long W.1, .int b] [] [(0, .long ((W.2.2.2.2.1) a.toNatClampNeg)), (2, .long W.1), (4, .int b)] f156_28 rfl k156_239_99 rfl (by decide +kernel) (Nat.le_of_ble_eq_true rfl) (Nat.le_of_ble_eq_true rfl) rfl rfl (by decide +kernel) (by decide +kernel) rfl (Nat.le_of_ble_eq_true rfl) rfl ?_
          refine zw_lload_n 1 f153_0 rfl rfl ?_
          refine zw_lload_n 2 f153_1 rfl rfl ?_
          refine zw_static_l 5 0 0 [.long ((W.2.2.2.2.1) a.toNatClampNeg), .long W.1] [] [(0, .long ((W.2.2.2.2.1) a.toNatClampNeg)), (2, .long W.1)] f153_2 rfl k153_164_99 rfl (by decide +kernel) (Nat.le_of_ble_eq_true rfl) (Nat.le_of_ble_eq_true rfl) rfl rfl (by decide +kernel) (by decide +kernel) rfl (Nat.le_of_ble_eq_true rfl) rfl ?_
          refine zWp.mono (mm_divisor ro _ ((W.2.2.2.2.1) a.toNatClampNeg) W.1) ?_
          rintro r h1 ⟨rfl, rfl⟩
          refine ⟨_, rfl, ?_⟩
          refine zw_lstore _ 7 f153_5 rfl (by decide +kernel) rfl ?_
          refine zw_iload 9 f153_7 rfl (zl2_ne rfl rfl rfl) ?_
          refine zw_if_ne 12 19 f153_9 (by decide +kernel) rfl (fun hc5 => ?_) (fun hc5 => ?_)
          · refine zw_lload_n 20 f153_19 rfl (zl2_ne rfl rfl rfl) ?_
            refine zw_lload 22 f153_20 rfl zl2_eq ?_
            refine zw_ldiv (W.1 / (mD ((W.2.2.2.2.1) a.toNatClampNeg) W.1)) 23 f153_22 rfl (mD_ne0 (i64_ne0 hW.1.1.1.1)) rfl ?_
            refine zw_lreturn f153_23 r153 u153 ⟨_, rfl, ?_⟩
            refine zw_l2i (Int64.toInt32 (W.1 / (mD ((W.2.2.2.2.1) a.toNatClampNeg) W.1))) 32 f156_31 rfl rfl ?_
            refine zw_goto 36 f156_32 (by decide +kernel) ?_
            refine zw_ireturn f156_36 r156 u156 ?_
            exact ⟨_, _, _, _, rfl, KQ.rf, ⟨hi.1, hi.2.1, t, by omega, et⟩, by rw [show an_level nv W a b = (Int64.toInt32 (W.1 / (mD ((W.2.2.2.2.1) a.toNatClampNeg) W.1))) from ((cI_y ⟨(qV.of (by omega) hc1 hc2), ⟨hc3, hc4⟩⟩).trans ((cI_n hc5).trans rfl))]⟩
          · refine zw_lload_n 13 f153_12 rfl (zl2_ne rfl rfl rfl) ?_
            refine zw_lload 15 f153_13 rfl zl2_eq ?_
            refine zw_ldiv (((W.2.2.2.2.1) a.toNatClampNeg) / (mD ((W.2.2.2.2.1) a.toNatClampNeg) W.1)) 16 f153_15 rfl (mD_ne0 (i64_ne0 hW.1.1.1.1)) rfl ?_
            refine zw_goto 23 f153_16 (by decide +kernel) ?_
            refine zw_lreturn f153_23 r153 u153 ⟨_, rfl, ?_⟩
            refine zw_l2i (Int64.toInt32 (((W.2.2.2.2.1) a.toNatClampNeg) / (mD ((W.2.2.2.2.1) a.toNatClampNeg) W.1))) 32 f156_31 rfl rfl ?_
            refine zw_goto 36 f156_32 (by decide +kernel) ?_
            refine zw_ireturn f156_36 r156 u156 ?_
            exact ⟨_, _, _, _, rfl, KQ.rf, ⟨hi.1, hi.2.1, t, by omega, et⟩, by rw [show an_level nv W a b = (Int64.toInt32 (((W.2.2.2.2.1) a.toNatClampNeg) / (mD ((W.2.2.2.2.1) a.toNatClampNeg) W.1))) from ((cI_y ⟨(qV.of (by omega) hc1 hc2), ⟨hc3, hc4⟩⟩).trans ((cI_y (Decidable.of_not_not hc5)).trans rfl))]⟩
set_option maxHeartbeats 0 in
theorem pairX_levelx (ro : UInt32 → Nat × (Nat → Int32)) (k : Nat) (I : Nat → Nat → Int32) (G : Nat → Nat → Int64) (A : Nat → Nat → Int32) (B : Nat → Nat → Int64) (h : zCx k I G A B) (hk : k < 512) (a : Int32) (b : Int32) : zWp ro 90 0 [(0, .ref 0), (1, .int a), (2, .int b)] [] (hS I G A B) 0 0 (zPX ro 156 [(0, .ref 52), (1, .int a), (2, .int b)] k (fun v w => v = w)) := by
  obtain ⟨nv, np, W, L, F, R, ow, kd, lw, lg⟩ := h
  have fn := F.2.2.2.2.2
  refine zWp.mono (cq_level ro nv np A W L (242600 * k) I G A B R F.2.1 ow F.2.2.1 kd lg (by omega) a b) ?_
  rintro r h1 ⟨I1, G1, A1, B1, rfl, K1, rfl⟩
  have F1 := F.kq K1 fNe_52 pNe_52
  have e1 : PE A A1 := fun k _ _ => (K1.2.2.1 k (pNe_52 k (by omega))).symm
  have R1 := R.k K1 ⟨rfl, rfl⟩ (fun j h1 h2 => by simp only [fNe, decide_eq_false_iff_not]; omega) (fun k h1 h2 => by simp only [pNe, decide_eq_false_iff_not]; omega)
  have g1 := lg.k K1 rfl rfl rfl rfl rfl
  refine ⟨_, rfl, zWp.mono (mx_level ro nv np A W L I1 G1 A1 B1 (242600 * k) ⟨F1.1.1, e1.sy, F1.1.2.2⟩ F.2.1 F.2.2.1 (by omega) F1.2.2.2.1 F1.2.2.2.2.1 a b) ?_⟩
  rintro r2 h2 ⟨I2, G2, A2, B2, rfl, K2, id2, rfl⟩
  have R2 := F1.1.k K2 fQu_R pQu_R
  refine ⟨_, rfl, ?_, rfl⟩
  exact zCx.mk (zRf.of R2 F1.2.1 F1.2.2.1 F1.2.2.2.1 id2 fn) (by omega) (by omega) R1 (e1.tr R2.2.1.sy) K2 fQu_c pQu_c ow kd lw g1
theorem pair2_levelx (ro : UInt32 → Nat × (Nat → Int32)) (k : Nat) (I : Nat → Nat → Int32) (G : Nat → Nat → Int64) (A : Nat → Nat → Int32) (B : Nat → Nat → Int64) (h : zL2 k I G A B) (hk : k < 512) (a : Int32) (b : Int32) : zWp ro 90 0 [(0, .ref 0), (1, .int a), (2, .int b)] [] (hS I G A B) 0 0 (zP2 ro 156 [(0, .ref 52), (1, .int a), (2, .int b)] k (fun v w => v = w)) := by
  obtain ⟨h1, I3, G3, A3, B3, eh, hx⟩ := h
  have p1 := pair_level ro k I G A B h1 hk a b
  have p2 := pairX_levelx ro k I3 G3 A3 B3 hx hk a b
  rw [← eh] at p2
  exact zP_and p1 p2
