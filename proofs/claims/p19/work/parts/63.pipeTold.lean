noncomputable def an_pipeTold (nv np : Nat) (P : Nat → Nat → Int32) (W : qW) (a b : Int32) : Int32 := cI (qV np a) (cI (b = 0) (P 60 a.toNatClampNeg) (cI (b = 1) (P 61 a.toNatClampNeg) (cI (b = 2) (P 62 a.toNatClampNeg) (cI (b = 3) (W.2.2.2.2.2.2.1 a.toNatClampNeg) (cI (b = 4) (wRun nv P W a.toNatClampNeg) (-2)))))) (-2)
set_option maxRecDepth 100000 in
set_option maxHeartbeats 0 in
theorem cq_pipeTold (ro : UInt32 → Nat × (Nat → Int32)) (nv np : Nat) (P : Nat → Nat → Int32) (W : qW) (L : qLog) (K : Int) (I : Nat → Nat → Int32) (G : Nat → Nat → Int64) (A : Nat → Nat → Int32) (B : Nat → Nat → Int64) (hR : cRS 11 nv np P W I G A B) (hp : MPa nv np P) (hq : qOw nv np P) (hW : wInv nv 10000 K P W) (hQ : qKd nv P) (hL : cLg L I A) (hn : L.1 < 900000000) (a : Int32) (b : Int32) : zWp ro 95 0 [(0, .ref 0), (1, .int a), (2, .int b)] [] (hS I G A B) 0 0 (fun r h1 => ∃ I2 G2 A2 B2, h1 = hS I2 G2 A2 B2 ∧ KQ fNe pNe I G A B I2 G2 A2 B2 ∧ r = some (.int (an_pipeTold nv np P W a b))) := by
  have h8 := hp.1
  have h14 := hp.2.1
  have hg0 : 0 < W.1.toInt := hW.1.1.1.1
  have ht0 : 0 ≤ W.2.1.toInt := hW.1.2.1.1
  refine zw_aload_n 1 f95_0 rfl rfl ?_
  refine zw_getfield 4 f95_1 rfl g95_10_11 (hb_0 _ _ _ _) rfl ?_
  refine zw_iload_n 5 f95_4 rfl rfl ?_
  refine zw_virtual_i 8 0 0 [.ref 1, .int a] [(0, .ref 1), (1, .int a)] f95_5 rfl n95_109 k95_109_4 rfl (hb_1 _ _ _ _) (by decide +kernel) (Nat.le_of_ble_eq_true rfl) rfl rfl (by decide +kernel) (by decide +kernel) rfl (Nat.le_of_ble_eq_true rfl) rfl ?_
  refine zw_iload_n 1 f14_0 rfl rfl ?_
  refine zw_if_lt 4 22 f14_1 (by decide +kernel) rfl (fun hc1 => ?_) (fun hc1 => ?_)
  · refine zw_iconst 0 23 f14_22 rfl (by decide +kernel) ?_
    refine zw_zreturn f14_23 r14 u14 (by decide +kernel) ⟨_, rfl, ?_⟩
    refine zw_if_ne_f 11 14 f95_8 (by decide +kernel) rfl (by decide +kernel) ?_
    refine zw_bipush (-2) 13 f95_11 rfl (by decide +kernel) ?_
    refine zw_ireturn f95_13 r95 u95 ?_
    exact ⟨_, _, _, _, rfl, KQ.rf, by rw [show an_pipeTold nv np P W a b = (-2) from (cI_n (qV.n0 (by omega) hc1))]⟩
  · refine zw_iload_n 5 f14_4 rfl rfl ?_
    refine zw_aload_n 6 f14_5 rfl rfl ?_
    refine zw_getI (nI np) 9 f14_6 rfl g14_43_4 (hb_1 _ _ _ _) rfl hR.1.2 ?_
    refine zw_ic_ge 12 22 f14_9 (by decide +kernel) rfl (fun hc2 => ?_) (fun hc2 => ?_)
    · refine zw_iconst 0 23 f14_22 rfl (by decide +kernel) ?_
      refine zw_zreturn f14_23 r14 u14 (by decide +kernel) ⟨_, rfl, ?_⟩
      refine zw_if_ne_f 11 14 f95_8 (by decide +kernel) rfl (by decide +kernel) ?_
      refine zw_bipush (-2) 13 f95_11 rfl (by decide +kernel) ?_
      refine zw_ireturn f95_13 r95 u95 ?_
      exact ⟨_, _, _, _, rfl, KQ.rf, by rw [show an_pipeTold nv np P W a b = (-2) from (cI_n (qV.n2 (by omega) hc2))]⟩
    · refine zw_iload_n 13 f14_12 rfl rfl ?_
      refine zw_bipush 14 15 f14_13 rfl (by decide +kernel) ?_
      refine zw_ic_ge 18 22 f14_15 (by decide +kernel) rfl (fun hc3 => ?_) (fun hc3 => ?_)
      · refine zw_iconst 0 23 f14_22 rfl (by decide +kernel) ?_
        refine zw_zreturn f14_23 r14 u14 (by decide +kernel) ⟨_, rfl, ?_⟩
        refine zw_if_ne_f 11 14 f95_8 (by decide +kernel) rfl (by decide +kernel) ?_
        refine zw_bipush (-2) 13 f95_11 rfl (by decide +kernel) ?_
        refine zw_ireturn f95_13 r95 u95 ?_
        exact ⟨_, _, _, _, rfl, KQ.rf, by rw [show an_pipeTold nv np P W a b = (-2) from (cI_n (qV.n3 (m := 14) (N := 14) (by omega) (by omega) (by decide) hc3))]⟩
      · refine zw_iconst 1 19 f14_18 rfl (by decide +kernel) ?_
        refine zw_goto 23 f14_19 (by decide +kernel) ?_
        refine zw_zreturn f14_23 r14 u14 (by decide +kernel) ⟨_, rfl, ?_⟩
        refine zw_if_ne_t 14 f95_8 (by decide +kernel) (by decide +kernel) ?_
        refine zw_iload_n 15 f95_14 rfl rfl ?_
        rcases zl_sw 4 (by decide) b with hs4 | ⟨hs4k, hs4l, hs4e⟩
        · refine zw_table_o 108 f95_15 hs4 (by decide +kernel) ?_
          refine zw_bipush (-2) 110 f95_108 rfl (by decide +kernel) ?_
          refine zw_ireturn f95_110 r95 u95 ?_
          exact ⟨_, _, _, _, rfl, KQ.rf, by rw [show an_pipeTold nv np P W a b = (-2) from ((cI_y (qV.ofc (by omega) hc1 hc2)).trans ((cI_n (sw_ne hs4 (by decide))).trans ((cI_n (sw_ne hs4 (by decide))).trans ((cI_n (sw_ne hs4 (by decide))).trans ((cI_n (sw_ne hs4 (by decide))).trans ((cI_n (sw_ne hs4 (by decide))).trans rfl))))))]⟩
        · rcases (show hs4k = 0 ∨ hs4k = 1 ∨ hs4k = 2 ∨ hs4k = 3 ∨ hs4k = 4 by omega) with rfl | rfl | rfl | rfl | rfl
          · refine zw_table_k 33 48 f95_15 hs4e (by decide +kernel) (by decide +kernel) (by decide +kernel) ?_
            refine zw_aload_n 49 f95_48 rfl rfl ?_
            refine zw_getfield 52 f95_49 rfl g95_10_11 (hb_0 _ _ _ _) rfl ?_
            refine zw_getfield 55 f95_52 rfl g95_115_4 (hb_1 _ _ _ _) rfl ?_
            refine zw_iload_n 56 f95_55 rfl rfl ?_
            refine zw_iaload a.toNatClampNeg (P 60 a.toNatClampNeg) 57 f95_56 rfl (hb_9 _ _ _ _) rfl hc1 (zix (by decide) hc1 hc3) (congrFun ((hR.2.1 60 (by omega) (by omega))) a.toNatClampNeg) ?_
            refine zw_ireturn f95_57 r95 u95 ?_
            exact ⟨_, _, _, _, rfl, KQ.rf, by rw [show an_pipeTold nv np P W a b = (P 60 a.toNatClampNeg) from ((cI_y (qV.ofc (by omega) hc1 hc2)).trans ((cI_y (show b = 0 from hs4e)).trans rfl))]⟩
          · refine zw_table_k 43 58 f95_15 hs4e (by decide +kernel) (by decide +kernel) (by decide +kernel) ?_
            refine zw_aload_n 59 f95_58 rfl rfl ?_
            refine zw_getfield 62 f95_59 rfl g95_10_11 (hb_0 _ _ _ _) rfl ?_
            refine zw_getfield 65 f95_62 rfl g95_244_4 (hb_1 _ _ _ _) rfl ?_
            refine zw_iload_n 66 f95_65 rfl rfl ?_
            refine zw_iaload a.toNatClampNeg (P 61 a.toNatClampNeg) 67 f95_66 rfl (hb_10 _ _ _ _) rfl hc1 (zix (by decide) hc1 hc3) (congrFun ((hR.2.1 61 (by omega) (by omega))) a.toNatClampNeg) ?_
            refine zw_ireturn f95_67 r95 u95 ?_
            exact ⟨_, _, _, _, rfl, KQ.rf, by rw [show an_pipeTold nv np P W a b = (P 61 a.toNatClampNeg) from ((cI_y (qV.ofc (by omega) hc1 hc2)).trans ((cI_n (kne (show b = 1 from hs4e) (by decide))).trans ((cI_y (show b = 1 from hs4e)).trans rfl)))]⟩
          · refine zw_table_k 53 68 f95_15 hs4e (by decide +kernel) (by decide +kernel) (by decide +kernel) ?_
            refine zw_aload_n 69 f95_68 rfl rfl ?_
            refine zw_getfield 72 f95_69 rfl g95_21_11 (hb_0 _ _ _ _) rfl ?_
            refine zw_getfield 75 f95_72 rfl g95_134_10 (hb_11 _ _ _ _) rfl ?_
            refine zw_getfield 78 f95_75 rfl g95_138_9 (hb_12 _ _ _ _) rfl ?_
            refine zw_iload_n 79 f95_78 rfl rfl ?_
            refine zw_iaload a.toNatClampNeg (P 62 a.toNatClampNeg) 80 f95_79 rfl (hb_15 _ _ _ _) rfl hc1 (zix (by decide) hc1 hc3) (congrFun ((hR.2.1 62 (by omega) (by omega))) a.toNatClampNeg) ?_
            refine zw_ireturn f95_80 r95 u95 ?_
            exact ⟨_, _, _, _, rfl, KQ.rf, by rw [show an_pipeTold nv np P W a b = (P 62 a.toNatClampNeg) from ((cI_y (qV.ofc (by omega) hc1 hc2)).trans ((cI_n (kne (show b = 2 from hs4e) (by decide))).trans ((cI_n (kne (show b = 2 from hs4e) (by decide))).trans ((cI_y (show b = 2 from hs4e)).trans rfl))))]⟩
          · refine zw_table_k 66 81 f95_15 hs4e (by decide +kernel) (by decide +kernel) (by decide +kernel) ?_
            refine zw_aload_n 82 f95_81 rfl rfl ?_
            refine zw_getfield 85 f95_82 rfl g95_21_11 (hb_0 _ _ _ _) rfl ?_
            refine zw_getfield 88 f95_85 rfl g95_134_10 (hb_11 _ _ _ _) rfl ?_
            refine zw_iload_n 89 f95_88 rfl rfl ?_
            refine zw_virtual_i 92 0 0 [.ref 12, .int a] [(0, .ref 12), (1, .int a)] f95_89 rfl n95_158 k95_158_9 rfl (hb_12 _ _ _ _) (by decide +kernel) (Nat.le_of_ble_eq_true rfl) rfl rfl (by decide +kernel) (by decide +kernel) rfl (Nat.le_of_ble_eq_true rfl) rfl ?_
            have va_zisOpen := (qV.ofc (by omega) hc1 hc2)
            have vn_zisOpen := va_zisOpen.1
            have io_zisOpen : zWp ro 43 0 [(0, .ref 12), (1, .int a)] [] (hS I G A B) 0 0 (fun r h1 => h1 = hS I G A B ∧ r = some (.int (W.2.2.2.2.2.2.1 a.toNatClampNeg))) := by
              have q := cx_isOpen_11 ro nv np P W I G A B hR hp hW.2.1 a.toNatClampNeg (by omega)
              rw [← va_zisOpen.2] at q
              exact q
            refine zWp.mono io_zisOpen ?_
            rintro r h1 ⟨rfl, rfl⟩
            refine ⟨_, rfl, ?_⟩
            refine zw_static_i 95 0 0 [.int (W.2.2.2.2.2.2.1 a.toNatClampNeg)] [] [(0, .int (W.2.2.2.2.2.2.1 a.toNatClampNeg))] f95_92 rfl k95_234_99 rfl (by decide +kernel) (Nat.le_of_ble_eq_true rfl) (Nat.le_of_ble_eq_true rfl) rfl rfl (by decide +kernel) (by decide +kernel) rfl (Nat.le_of_ble_eq_true rfl) rfl ?_
            refine zw_iload_n 1 f113_0 rfl rfl ?_
            refine zw_if_eq 4 8 f113_1 (by decide +kernel) rfl (fun hc5 => ?_) (fun hc5 => ?_)
            · refine zw_iconst 0 9 f113_8 rfl (by decide +kernel) ?_
              refine zw_ireturn f113_9 r113 u113 ⟨_, rfl, ?_⟩
              refine zw_ireturn f95_95 r95 u95 ?_
              exact ⟨_, _, _, _, rfl, KQ.rf, by rw [show an_pipeTold nv np P W a b = 0 from ((cI_y (qV.ofc (by omega) hc1 hc2)).trans ((cI_n (kne (show b = 3 from hs4e) (by decide))).trans ((cI_n (kne (show b = 3 from hs4e) (by decide))).trans ((cI_n (kne (show b = 3 from hs4e) (by decide))).trans ((cI_y (show b = 3 from hs4e)).trans hc5)))))]⟩
            · refine zw_iconst 1 5 f113_4 rfl (by decide +kernel) ?_
              refine zw_goto 9 f113_5 (by decide +kernel) ?_
              refine zw_ireturn f113_9 r113 u113 ⟨_, rfl, ?_⟩
              refine zw_ireturn f95_95 r95 u95 ?_
              exact ⟨_, _, _, _, rfl, KQ.rf, by rw [show an_pipeTold nv np P W a b = 1 from ((cI_y (qV.ofc (by omega) hc1 hc2)).trans ((cI_n (kne (show b = 3 from hs4e) (by decide))).trans ((cI_n (kne (show b = 3 from hs4e) (by decide))).trans ((cI_n (kne (show b = 3 from hs4e) (by decide))).trans ((cI_y (show b = 3 from hs4e)).trans ((hW.2.1.1 a.toNatClampNeg (by have q := ((qV.ofc (by omega) hc1 hc2)).1; omega)).resolve_left hc5))))))]⟩
          · refine zw_table_k 81 96 f95_15 hs4e (by decide +kernel) (by decide +kernel) (by decide +kernel) ?_
            refine zw_aload_n 97 f95_96 rfl rfl ?_
            refine zw_getfield 100 f95_97 rfl g95_21_11 (hb_0 _ _ _ _) rfl ?_
            refine zw_iload_n 101 f95_100 rfl rfl ?_
            refine zw_virtual_i 104 0 0 [.ref 11, .int a] [(0, .ref 11), (1, .int a)] f95_101 rfl n95_247 k95_247_10 rfl (hb_11 _ _ _ _) (by decide +kernel) (Nat.le_of_ble_eq_true rfl) rfl rfl (by decide +kernel) (by decide +kernel) rfl (Nat.le_of_ble_eq_true rfl) rfl ?_
            have va_zruns := (qV.ofc (by omega) hc1 hc2)
            have vn_zruns := va_zruns.1
            have io_zruns : zWp ro 48 0 [(0, .ref 11), (1, .int a)] [] (hS I G A B) 0 0 (fun r h1 => h1 = hS I G A B ∧ r = some (.int (wRun nv P W a.toNatClampNeg))) := by
              have q := cx_runs_11 ro nv np P W I G A B hR hp hW.2.1 hq a.toNatClampNeg (by omega)
              rw [← va_zruns.2] at q
              exact q
            refine zWp.mono io_zruns ?_
            rintro r h1 ⟨rfl, rfl⟩
            refine ⟨_, rfl, ?_⟩
            refine zw_static_i 107 0 0 [.int (wRun nv P W a.toNatClampNeg)] [] [(0, .int (wRun nv P W a.toNatClampNeg))] f95_104 rfl k95_234_99 rfl (by decide +kernel) (Nat.le_of_ble_eq_true rfl) (Nat.le_of_ble_eq_true rfl) rfl rfl (by decide +kernel) (by decide +kernel) rfl (Nat.le_of_ble_eq_true rfl) rfl ?_
            refine zw_iload_n 1 f113_0 rfl rfl ?_
            refine zw_if_eq 4 8 f113_1 (by decide +kernel) rfl (fun hc6 => ?_) (fun hc6 => ?_)
            · refine zw_iconst 0 9 f113_8 rfl (by decide +kernel) ?_
              refine zw_ireturn f113_9 r113 u113 ⟨_, rfl, ?_⟩
              refine zw_ireturn f95_107 r95 u95 ?_
              exact ⟨_, _, _, _, rfl, KQ.rf, by rw [show an_pipeTold nv np P W a b = 0 from ((cI_y (qV.ofc (by omega) hc1 hc2)).trans ((cI_n (kne (show b = 4 from hs4e) (by decide))).trans ((cI_n (kne (show b = 4 from hs4e) (by decide))).trans ((cI_n (kne (show b = 4 from hs4e) (by decide))).trans ((cI_n (kne (show b = 4 from hs4e) (by decide))).trans ((cI_y (show b = 4 from hs4e)).trans hc6))))))]⟩
            · refine zw_iconst 1 5 f113_4 rfl (by decide +kernel) ?_
              refine zw_goto 9 f113_5 (by decide +kernel) ?_
              refine zw_ireturn f113_9 r113 u113 ⟨_, rfl, ?_⟩
              refine zw_ireturn f95_107 r95 u95 ?_
              exact ⟨_, _, _, _, rfl, KQ.rf, by rw [show an_pipeTold nv np P W a b = 1 from ((cI_y (qV.ofc (by omega) hc1 hc2)).trans ((cI_n (kne (show b = 4 from hs4e) (by decide))).trans ((cI_n (kne (show b = 4 from hs4e) (by decide))).trans ((cI_n (kne (show b = 4 from hs4e) (by decide))).trans ((cI_n (kne (show b = 4 from hs4e) (by decide))).trans ((cI_y (show b = 4 from hs4e)).trans ((mRun_Z (hW.2.1.1 a.toNatClampNeg (by have q := ((qV.ofc (by omega) hc1 hc2)).1; omega)) nv).resolve_left hc6)))))))]⟩
set_option maxRecDepth 100000 in
set_option maxHeartbeats 0 in
theorem mx_pipeTold (ro : UInt32 → Nat × (Nat → Int32)) (nv np : Nat) (P : Nat → Nat → Int32) (W : qW) (L : qLog) (I : Nat → Nat → Int32) (G : Nat → Nat → Int64) (A : Nat → Nat → Int32) (B : Nat → Nat → Int64) (K : Int) (hR : mRS nv np P W L I G A B) (hp : MPa nv np P) (hW : wInv nv 10000 K P W) (hn : L.1 < 900000000) (hg : qLG L) (hi : mId I) (a : Int32) (b : Int32) : zWp ro 161 0 [(0, .ref 52), (1, .int a), (2, .int b)] [] (hS I G A B) 0 0 (fun r h1 => ∃ I2 G2 A2 B2, h1 = hS I2 G2 A2 B2 ∧ KQ fQu pQu I G A B I2 G2 A2 B2 ∧ mId I2 ∧ r = some (.int (an_pipeTold nv np P W a b))) := by
  have h8 := hp.1
  have h14 := hp.2.1
  obtain ⟨t, ht, et⟩ := hi.2.2
  refine zw_aload_n 1 f161_0 rfl rfl ?_
  refine zw_iload_n 2 f161_1 rfl rfl ?_
  refine zw_virtual_i 5 0 0 [.ref 52, .int a] [(0, .ref 52), (1, .int a)] f161_2 rfl n161_218 k161_218_12 rfl (hb_52 _ _ _ _) (by decide +kernel) (Nat.le_of_ble_eq_true rfl) rfl rfl (by decide +kernel) (by decide +kernel) rfl (Nat.le_of_ble_eq_true rfl) rfl ?_
  refine zw_iload_n 1 f124_0 rfl rfl ?_
  refine zw_iconst 0 2 f124_1 rfl (by decide +kernel) ?_
  refine zw_aload_n 3 f124_2 rfl rfl ?_
  refine zw_getI (nI np) 6 f124_3 rfl g124_121_12 (hb_52 _ _ _ _) rfl hR.1.2 ?_
  refine zw_iconst 1 7 f124_6 rfl (by decide +kernel) ?_
  refine zw_isub ((nI np) - 1) 8 f124_7 rfl rfl ?_
  refine zw_static_i 11 0 0 [.int a, .int 0, .int ((nI np) - 1)] [] [(0, .int a), (1, .int 0), (2, .int ((nI np) - 1))] f124_8 rfl k124_117_99 rfl (by decide +kernel) (Nat.le_of_ble_eq_true rfl) (Nat.le_of_ble_eq_true rfl) rfl rfl (by decide +kernel) (by decide +kernel) rfl (Nat.le_of_ble_eq_true rfl) rfl ?_
  refine zw_iload_n 1 f120_0 rfl rfl ?_
  refine zw_iload_n 2 f120_1 rfl rfl ?_
  refine zw_ic_lt 5 14 f120_2 (by decide +kernel) rfl (fun hc1 => ?_) (fun hc1 => ?_)
  · refine zw_iconst 0 15 f120_14 rfl (by decide +kernel) ?_
    refine zw_zreturn f120_15 r120 u120 (by decide +kernel) ⟨_, rfl, ?_⟩
    refine zw_zreturn f124_11 r124 u124 (by decide +kernel) ⟨_, rfl, ?_⟩
    refine zw_if_ne_f 8 11 f161_5 (by decide +kernel) rfl (by decide +kernel) ?_
    refine zw_bipush (-2) 10 f161_8 rfl (by decide +kernel) ?_
    refine zw_ireturn f161_10 r161 u161 ?_
    exact ⟨_, _, _, _, rfl, KQ.rf, ⟨hi.1, hi.2.1, t, by omega, et⟩, by rw [show an_pipeTold nv np P W a b = (-2) from (cI_n (qV.n0 (by omega) hc1))]⟩
  · refine zw_iload_n 6 f120_5 rfl rfl ?_
    refine zw_iload_n 7 f120_6 rfl rfl ?_
    refine zw_ic_gt 10 14 f120_7 (by decide +kernel) rfl (fun hc2 => ?_) (fun hc2 => ?_)
    · refine zw_iconst 0 15 f120_14 rfl (by decide +kernel) ?_
      refine zw_zreturn f120_15 r120 u120 (by decide +kernel) ⟨_, rfl, ?_⟩
      refine zw_zreturn f124_11 r124 u124 (by decide +kernel) ⟨_, rfl, ?_⟩
      refine zw_if_ne_f 8 11 f161_5 (by decide +kernel) rfl (by decide +kernel) ?_
      refine zw_bipush (-2) 10 f161_8 rfl (by decide +kernel) ?_
      refine zw_ireturn f161_10 r161 u161 ?_
      exact ⟨_, _, _, _, rfl, KQ.rf, ⟨hi.1, hi.2.1, t, by omega, et⟩, by rw [show an_pipeTold nv np P W a b = (-2) from (cI_n (qV.n1 (by omega) hc2))]⟩
    · refine zw_iconst 1 11 f120_10 rfl (by decide +kernel) ?_
      refine zw_goto 15 f120_11 (by decide +kernel) ?_
      refine zw_zreturn f120_15 r120 u120 (by decide +kernel) ⟨_, rfl, ?_⟩
      refine zw_zreturn f124_11 r124 u124 (by decide +kernel) ⟨_, rfl, ?_⟩
      refine zw_if_ne_t 11 f161_5 (by decide +kernel) (by decide +kernel) ?_
      refine zw_iload_n 12 f161_11 rfl rfl ?_
      rcases zl_sw 4 (by decide) b with hs3 | ⟨hs3k, hs3l, hs3e⟩
      · refine zw_table_o 98 f161_12 hs3 (by decide +kernel) ?_
        refine zw_bipush (-2) 100 f161_98 rfl (by decide +kernel) ?_
        refine zw_ireturn f161_100 r161 u161 ?_
        exact ⟨_, _, _, _, rfl, KQ.rf, ⟨hi.1, hi.2.1, t, by omega, et⟩, by rw [show an_pipeTold nv np P W a b = (-2) from ((cI_y (qV.of (by omega) hc1 hc2)).trans ((cI_n (sw_ne hs3 (by decide))).trans ((cI_n (sw_ne hs3 (by decide))).trans ((cI_n (sw_ne hs3 (by decide))).trans ((cI_n (sw_ne hs3 (by decide))).trans ((cI_n (sw_ne hs3 (by decide))).trans rfl))))))]⟩
      · rcases (show hs3k = 0 ∨ hs3k = 1 ∨ hs3k = 2 ∨ hs3k = 3 ∨ hs3k = 4 by omega) with rfl | rfl | rfl | rfl | rfl
        · refine zw_table_k 36 48 f161_12 hs3e (by decide +kernel) (by decide +kernel) (by decide +kernel) ?_
          refine zw_aload_n 49 f161_48 rfl rfl ?_
          refine zw_getfield 52 f161_49 rfl g161_31_12 (hb_52 _ _ _ _) rfl ?_
          refine zw_iload_n 53 f161_52 rfl rfl ?_
          refine zw_iaload a.toNatClampNeg (P 60 a.toNatClampNeg) 54 f161_53 rfl (hb_60 _ _ _ _) rfl hc1 (zix (by decide) hc1 (show ¬ 14 ≤ a from ix_le hp.2.1 (by decide) (by decide) hc1 hc2)) (congrFun ((hR.2.1 60 (by omega) (by omega))) a.toNatClampNeg) ?_
          refine zw_ireturn f161_54 r161 u161 ?_
          exact ⟨_, _, _, _, rfl, KQ.rf, ⟨hi.1, hi.2.1, t, by omega, et⟩, by rw [show an_pipeTold nv np P W a b = (P 60 a.toNatClampNeg) from ((cI_y (qV.of (by omega) hc1 hc2)).trans ((cI_y (show b = 0 from hs3e)).trans rfl))]⟩
        · refine zw_table_k 43 55 f161_12 hs3e (by decide +kernel) (by decide +kernel) (by decide +kernel) ?_
          refine zw_aload_n 56 f161_55 rfl rfl ?_
          refine zw_getfield 59 f161_56 rfl g161_34_12 (hb_52 _ _ _ _) rfl ?_
          refine zw_iload_n 60 f161_59 rfl rfl ?_
          refine zw_iaload a.toNatClampNeg (P 61 a.toNatClampNeg) 61 f161_60 rfl (hb_61 _ _ _ _) rfl hc1 (zix (by decide) hc1 (show ¬ 14 ≤ a from ix_le hp.2.1 (by decide) (by decide) hc1 hc2)) (congrFun ((hR.2.1 61 (by omega) (by omega))) a.toNatClampNeg) ?_
          refine zw_ireturn f161_61 r161 u161 ?_
          exact ⟨_, _, _, _, rfl, KQ.rf, ⟨hi.1, hi.2.1, t, by omega, et⟩, by rw [show an_pipeTold nv np P W a b = (P 61 a.toNatClampNeg) from ((cI_y (qV.of (by omega) hc1 hc2)).trans ((cI_n (kne (show b = 1 from hs3e) (by decide))).trans ((cI_y (show b = 1 from hs3e)).trans rfl)))]⟩
        · refine zw_table_k 50 62 f161_12 hs3e (by decide +kernel) (by decide +kernel) (by decide +kernel) ?_
          refine zw_aload_n 63 f161_62 rfl rfl ?_
          refine zw_getfield 66 f161_63 rfl g161_37_12 (hb_52 _ _ _ _) rfl ?_
          refine zw_iload_n 67 f161_66 rfl rfl ?_
          refine zw_iaload a.toNatClampNeg (P 62 a.toNatClampNeg) 68 f161_67 rfl (hb_62 _ _ _ _) rfl hc1 (zix (by decide) hc1 (show ¬ 14 ≤ a from ix_le hp.2.1 (by decide) (by decide) hc1 hc2)) (congrFun ((hR.2.1 62 (by omega) (by omega))) a.toNatClampNeg) ?_
          refine zw_ireturn f161_68 r161 u161 ?_
          exact ⟨_, _, _, _, rfl, KQ.rf, ⟨hi.1, hi.2.1, t, by omega, et⟩, by rw [show an_pipeTold nv np P W a b = (P 62 a.toNatClampNeg) from ((cI_y (qV.of (by omega) hc1 hc2)).trans ((cI_n (kne (show b = 2 from hs3e) (by decide))).trans ((cI_n (kne (show b = 2 from hs3e) (by decide))).trans ((cI_y (show b = 2 from hs3e)).trans rfl))))]⟩
        · refine zw_table_k 57 69 f161_12 hs3e (by decide +kernel) (by decide +kernel) (by decide +kernel) ?_
          refine zw_aload_n 70 f161_69 rfl rfl ?_
          refine zw_getfield 73 f161_70 rfl g161_48_12 (hb_52 _ _ _ _) rfl ?_
          refine zw_iload_n 74 f161_73 rfl rfl ?_
          refine zw_baload a.toNatClampNeg ((W.2.2.2.2.2.2.1) a.toNatClampNeg) 75 f161_74 rfl (hb_64 _ _ _ _) rfl hc1 (zix (by decide) hc1 (show ¬ 14 ≤ a from ix_le hp.2.1 (by decide) (by decide) hc1 hc2)) (congrFun (hR.opn) a.toNatClampNeg) ?_
          refine zw_if_eq 78 82 f161_75 (by decide +kernel) rfl (fun hc4 => ?_) (fun hc4 => ?_)
          · refine zw_iconst 0 83 f161_82 rfl (by decide +kernel) ?_
            refine zw_ireturn f161_83 r161 u161 ?_
            exact ⟨_, _, _, _, rfl, KQ.rf, ⟨hi.1, hi.2.1, t, by omega, et⟩, by rw [show an_pipeTold nv np P W a b = 0 from ((cI_y (qV.of (by omega) hc1 hc2)).trans ((cI_n (kne (show b = 3 from hs3e) (by decide))).trans ((cI_n (kne (show b = 3 from hs3e) (by decide))).trans ((cI_n (kne (show b = 3 from hs3e) (by decide))).trans ((cI_y (show b = 3 from hs3e)).trans hc4)))))]⟩
          · refine zw_iconst 1 79 f161_78 rfl (by decide +kernel) ?_
            refine zw_goto 83 f161_79 (by decide +kernel) ?_
            refine zw_ireturn f161_83 r161 u161 ?_
            exact ⟨_, _, _, _, rfl, KQ.rf, ⟨hi.1, hi.2.1, t, by omega, et⟩, by rw [show an_pipeTold nv np P W a b = 1 from ((cI_y (qV.of (by omega) hc1 hc2)).trans ((cI_n (kne (show b = 3 from hs3e) (by decide))).trans ((cI_n (kne (show b = 3 from hs3e) (by decide))).trans ((cI_n (kne (show b = 3 from hs3e) (by decide))).trans ((cI_y (show b = 3 from hs3e)).trans ((hW.2.1.1 a.toNatClampNeg (by have q := ((qV.of (by omega) hc1 hc2)).1; omega)).resolve_left hc4))))))]⟩
        · refine zw_table_k 72 84 f161_12 hs3e (by decide +kernel) (by decide +kernel) (by decide +kernel) ?_
          refine zw_aload_n 85 f161_84 rfl rfl ?_
          refine zw_iload_n 86 f161_85 rfl rfl ?_
          refine zw_virtual_i 89 0 0 [.ref 52, .int a] [(0, .ref 52), (1, .int a)] f161_86 rfl n161_130 k161_130_12 rfl (hb_52 _ _ _ _) (by decide +kernel) (Nat.le_of_ble_eq_true rfl) rfl rfl (by decide +kernel) (by decide +kernel) rfl (Nat.le_of_ble_eq_true rfl) rfl ?_
          have ev := qV.of (by omega) hc1 hc2
          have er := mm_runs ro nv a.toNatClampNeg I G A B hR.1.1 h8 (by have := ev.1; omega) ((hR.mb hW.2.1).1 _ (by have := ev.1; omega))
          rw [← ev.2, mRn_w hR] at er
          refine zWp.mono er ?_
          rintro r h1 ⟨rfl, rfl⟩
          refine ⟨_, rfl, ?_⟩
          refine zw_if_eq 92 96 f161_89 (by decide +kernel) rfl (fun hc5 => ?_) (fun hc5 => ?_)
          · refine zw_iconst 0 97 f161_96 rfl (by decide +kernel) ?_
            refine zw_ireturn f161_97 r161 u161 ?_
            exact ⟨_, _, _, _, rfl, KQ.rf, ⟨hi.1, hi.2.1, t, by omega, et⟩, by rw [show an_pipeTold nv np P W a b = 0 from ((cI_y (qV.of (by omega) hc1 hc2)).trans ((cI_n (kne (show b = 4 from hs3e) (by decide))).trans ((cI_n (kne (show b = 4 from hs3e) (by decide))).trans ((cI_n (kne (show b = 4 from hs3e) (by decide))).trans ((cI_n (kne (show b = 4 from hs3e) (by decide))).trans ((cI_y (show b = 4 from hs3e)).trans hc5))))))]⟩
          · refine zw_iconst 1 93 f161_92 rfl (by decide +kernel) ?_
            refine zw_goto 97 f161_93 (by decide +kernel) ?_
            refine zw_ireturn f161_97 r161 u161 ?_
            exact ⟨_, _, _, _, rfl, KQ.rf, ⟨hi.1, hi.2.1, t, by omega, et⟩, by rw [show an_pipeTold nv np P W a b = 1 from ((cI_y (qV.of (by omega) hc1 hc2)).trans ((cI_n (kne (show b = 4 from hs3e) (by decide))).trans ((cI_n (kne (show b = 4 from hs3e) (by decide))).trans ((cI_n (kne (show b = 4 from hs3e) (by decide))).trans ((cI_n (kne (show b = 4 from hs3e) (by decide))).trans ((cI_y (show b = 4 from hs3e)).trans ((mRun_Z (hW.2.1.1 a.toNatClampNeg (by have q := ((qV.of (by omega) hc1 hc2)).1; omega)) nv).resolve_left hc5)))))))]⟩
set_option maxHeartbeats 0 in
theorem pairX_pipeToldx (ro : UInt32 → Nat × (Nat → Int32)) (k : Nat) (I : Nat → Nat → Int32) (G : Nat → Nat → Int64) (A : Nat → Nat → Int32) (B : Nat → Nat → Int64) (h : zCx k I G A B) (hk : k < 512) (a : Int32) (b : Int32) : zWp ro 95 0 [(0, .ref 0), (1, .int a), (2, .int b)] [] (hS I G A B) 0 0 (zPX ro 161 [(0, .ref 52), (1, .int a), (2, .int b)] k (fun v w => v = w)) := by
  obtain ⟨nv, np, W, L, F, R, ow, kd, lw, lg⟩ := h
  have fn := F.2.2.2.2.2
  refine zWp.mono (cq_pipeTold ro nv np A W L (242600 * k) I G A B R F.2.1 ow F.2.2.1 kd lg (by omega) a b) ?_
  rintro r h1 ⟨I1, G1, A1, B1, rfl, K1, rfl⟩
  have F1 := F.kq K1 fNe_52 pNe_52
  have e1 : PE A A1 := fun k _ _ => (K1.2.2.1 k (pNe_52 k (by omega))).symm
  have R1 := R.k K1 ⟨rfl, rfl⟩ (fun j h1 h2 => by simp only [fNe, decide_eq_false_iff_not]; omega) (fun k h1 h2 => by simp only [pNe, decide_eq_false_iff_not]; omega)
  have g1 := lg.k K1 rfl rfl rfl rfl rfl
  refine ⟨_, rfl, zWp.mono (mx_pipeTold ro nv np A W L I1 G1 A1 B1 (242600 * k) ⟨F1.1.1, e1.sy, F1.1.2.2⟩ F.2.1 F.2.2.1 (by omega) F1.2.2.2.1 F1.2.2.2.2.1 a b) ?_⟩
  rintro r2 h2 ⟨I2, G2, A2, B2, rfl, K2, id2, rfl⟩
  have R2 := F1.1.k K2 fQu_R pQu_R
  refine ⟨_, rfl, ?_, rfl⟩
  exact zCx.mk (zRf.of R2 F1.2.1 F1.2.2.1 F1.2.2.2.1 id2 fn) (by omega) (by omega) R1 (e1.tr R2.2.1.sy) K2 fQu_c pQu_c ow kd lw g1
theorem pair2_pipeToldx (ro : UInt32 → Nat × (Nat → Int32)) (k : Nat) (I : Nat → Nat → Int32) (G : Nat → Nat → Int64) (A : Nat → Nat → Int32) (B : Nat → Nat → Int64) (h : zL2 k I G A B) (hk : k < 512) (a : Int32) (b : Int32) : zWp ro 95 0 [(0, .ref 0), (1, .int a), (2, .int b)] [] (hS I G A B) 0 0 (zP2 ro 161 [(0, .ref 52), (1, .int a), (2, .int b)] k (fun v w => v = w)) := by
  obtain ⟨h1, I3, G3, A3, B3, eh, hx⟩ := h
  have p1 := pair_pipeTold ro k I G A B h1 hk a b
  have p2 := pairX_pipeToldx ro k I3 G3 A3 B3 hx hk a b
  rw [← eh] at p2
  exact zP_and p1 p2
