noncomputable def an_to (P : Nat → Nat → Int32) (W : qW) (t : Nat) (b : Int32) : Int32 := cI (b = 0) (P 53 t) (cI (b = 1) (P 54 t) (cI (b = 2) (cI (P 53 t = 0 ∨ P 53 t = 2) (-1) (P 55 t)) (cI (b = 3) (cI (P 53 t = 3 ∨ P 53 t = 4) (P 56 t) (-1)) (cI (b = 4) (P 57 t) (cI (b = 5) (P 58 t) (cI (b = 6) (P 59 t) (cI (b = 7) (cI (P 53 t = 1) (W.2.2.2.2.2.1 t) (-1)) (cI (b = 8) (cI (P 53 t = 4) (W.2.2.2.2.2.2.2 t) (-1)) (-1)))))))))
noncomputable def an_told (nv : Nat) (P : Nat → Nat → Int32) (W : qW) (a b : Int32) : Int32 := cI (qV nv a) (an_to P W a.toNatClampNeg b) (-1)
set_option maxRecDepth 100000 in
set_option maxHeartbeats 0 in
theorem cq_told (ro : UInt32 → Nat × (Nat → Int32)) (nv np : Nat) (P : Nat → Nat → Int32) (W : qW) (L : qLog) (K : Int) (I : Nat → Nat → Int32) (G : Nat → Nat → Int64) (A : Nat → Nat → Int32) (B : Nat → Nat → Int64) (hR : cRS 11 nv np P W I G A B) (hp : MPa nv np P) (hq : qOw nv np P) (hW : wInv nv 10000 K P W) (hQ : qKd nv P) (hL : cLg L I A) (hn : L.1 < 900000000) (a : Int32) (b : Int32) : zWp ro 94 0 [(0, .ref 0), (1, .int a), (2, .int b)] [] (hS I G A B) 0 0 (fun r h1 => ∃ I2 G2 A2 B2, h1 = hS I2 G2 A2 B2 ∧ KQ fNe pNe I G A B I2 G2 A2 B2 ∧ r = some (.int (an_told nv P W a b))) := by
  have h8 := hp.1
  have h14 := hp.2.1
  have hg0 : 0 < W.1.toInt := hW.1.1.1.1
  have ht0 : 0 ≤ W.2.1.toInt := hW.1.2.1.1
  refine zw_aload_n 1 f94_0 rfl rfl ?_
  refine zw_getfield 4 f94_1 rfl g94_10_11 (hb_0 _ _ _ _) rfl ?_
  refine zw_iload_n 5 f94_4 rfl rfl ?_
  refine zw_virtual_i 8 0 0 [.ref 1, .int a] [(0, .ref 1), (1, .int a)] f94_5 rfl n94_89 k94_89_4 rfl (hb_1 _ _ _ _) (by decide +kernel) (Nat.le_of_ble_eq_true rfl) rfl rfl (by decide +kernel) (by decide +kernel) rfl (Nat.le_of_ble_eq_true rfl) rfl ?_
  refine zw_iload_n 1 f13_0 rfl rfl ?_
  refine zw_if_lt 4 22 f13_1 (by decide +kernel) rfl (fun hc1 => ?_) (fun hc1 => ?_)
  · refine zw_iconst 0 23 f13_22 rfl (by decide +kernel) ?_
    refine zw_zreturn f13_23 r13 u13 (by decide +kernel) ⟨_, rfl, ?_⟩
    refine zw_if_ne_f 11 13 f94_8 (by decide +kernel) rfl (by decide +kernel) ?_
    refine zw_iconst (-1) 12 f94_11 rfl (by decide +kernel) ?_
    refine zw_ireturn f94_12 r94 u94 ?_
    exact ⟨_, _, _, _, rfl, KQ.rf, by rw [show an_told nv P W a b = (-1) from (cI_n (qV.n0 (by omega) hc1))]⟩
  · refine zw_iload_n 5 f13_4 rfl rfl ?_
    refine zw_aload_n 6 f13_5 rfl rfl ?_
    refine zw_getI (nI nv) 9 f13_6 rfl g13_39_4 (hb_1 _ _ _ _) rfl hR.1.1 ?_
    refine zw_ic_ge 12 22 f13_9 (by decide +kernel) rfl (fun hc2 => ?_) (fun hc2 => ?_)
    · refine zw_iconst 0 23 f13_22 rfl (by decide +kernel) ?_
      refine zw_zreturn f13_23 r13 u13 (by decide +kernel) ⟨_, rfl, ?_⟩
      refine zw_if_ne_f 11 13 f94_8 (by decide +kernel) rfl (by decide +kernel) ?_
      refine zw_iconst (-1) 12 f94_11 rfl (by decide +kernel) ?_
      refine zw_ireturn f94_12 r94 u94 ?_
      exact ⟨_, _, _, _, rfl, KQ.rf, by rw [show an_told nv P W a b = (-1) from (cI_n (qV.n2 (by omega) hc2))]⟩
    · refine zw_iload_n 13 f13_12 rfl rfl ?_
      refine zw_bipush 8 15 f13_13 rfl (by decide +kernel) ?_
      refine zw_ic_ge 18 22 f13_15 (by decide +kernel) rfl (fun hc3 => ?_) (fun hc3 => ?_)
      · refine zw_iconst 0 23 f13_22 rfl (by decide +kernel) ?_
        refine zw_zreturn f13_23 r13 u13 (by decide +kernel) ⟨_, rfl, ?_⟩
        refine zw_if_ne_f 11 13 f94_8 (by decide +kernel) rfl (by decide +kernel) ?_
        refine zw_iconst (-1) 12 f94_11 rfl (by decide +kernel) ?_
        refine zw_ireturn f94_12 r94 u94 ?_
        exact ⟨_, _, _, _, rfl, KQ.rf, by rw [show an_told nv P W a b = (-1) from (cI_n (qV.n3 (m := 8) (N := 8) (by omega) (by omega) (by decide) hc3))]⟩
      · refine zw_iconst 1 19 f13_18 rfl (by decide +kernel) ?_
        refine zw_goto 23 f13_19 (by decide +kernel) ?_
        refine zw_zreturn f13_23 r13 u13 (by decide +kernel) ⟨_, rfl, ?_⟩
        refine zw_if_ne_t 13 f94_8 (by decide +kernel) (by decide +kernel) ?_
        refine zw_iload_n 14 f94_13 rfl rfl ?_
        by_cases hs4 : b = 7
        · refine zw_lookup_k (off := 26) 40 f94_14 hs4 (by decide +kernel) (by decide +kernel) (by decide +kernel) ?_
          refine zw_aload_n 41 f94_40 rfl rfl ?_
          refine zw_getfield 44 f94_41 rfl g94_10_11 (hb_0 _ _ _ _) rfl ?_
          refine zw_iload_n 45 f94_44 rfl rfl ?_
          refine zw_virtual_i 48 0 0 [.ref 1, .int a] [(0, .ref 1), (1, .int a)] f94_45 rfl n94_112 k94_112_4 rfl (hb_1 _ _ _ _) (by decide +kernel) (Nat.le_of_ble_eq_true rfl) rfl rfl (by decide +kernel) (by decide +kernel) rfl (Nat.le_of_ble_eq_true rfl) rfl ?_
          refine zw_iload_n 1 f15_0 rfl rfl ?_
          refine zw_if_lt_f 4 27 f15_1 (by decide +kernel) rfl hc1 ?_
          refine zw_iload_n 5 f15_4 rfl rfl ?_
          refine zw_aload_n 6 f15_5 rfl rfl ?_
          refine zw_getI (nI nv) 9 f15_6 rfl g15_39_4 (hb_1 _ _ _ _) rfl hR.1.1 ?_
          refine zw_ic_ge_f 12 27 f15_9 (by decide +kernel) rfl hc2 ?_
          refine zw_iload_n 13 f15_12 rfl rfl ?_
          refine zw_bipush 8 15 f15_13 rfl (by decide +kernel) ?_
          refine zw_ic_ge_f 18 27 f15_15 (by decide +kernel) rfl hc3 ?_
          refine zw_aload_n 19 f15_18 rfl rfl ?_
          refine zw_getfield 22 f15_19 rfl g15_9_4 (hb_1 _ _ _ _) rfl ?_
          refine zw_iload_n 23 f15_22 rfl rfl ?_
          refine zw_iaload a.toNatClampNeg (P 53 a.toNatClampNeg) 24 f15_23 rfl (hb_2 _ _ _ _) rfl hc1 (zix (by decide) hc1 hc3) (congrFun ((hR.2.1 53 (by omega) (by omega))) a.toNatClampNeg) ?_
          refine zw_goto 28 f15_24 (by decide +kernel) ?_
          refine zw_ireturn f15_28 r15 u15 ⟨_, rfl, ?_⟩
          refine zw_iconst 1 49 f94_48 rfl (by decide +kernel) ?_
          refine zw_ic_ne 52 69 f94_49 (by decide +kernel) rfl (fun hc5 => ?_) (fun hc5 => ?_)
          · refine zw_iconst (-1) 70 f94_69 rfl (by decide +kernel) ?_
            refine zw_ireturn f94_70 r94 u94 ?_
            exact ⟨_, _, _, _, rfl, KQ.rf, by rw [show an_told nv P W a b = (-1) from ((cI_y (qV.ofc (by omega) hc1 hc2)).trans ((cI_n (kne (show b = 7 from hs4) (by decide))).trans ((cI_n (kne (show b = 7 from hs4) (by decide))).trans ((cI_n (kne (show b = 7 from hs4) (by decide))).trans ((cI_n (kne (show b = 7 from hs4) (by decide))).trans ((cI_n (kne (show b = 7 from hs4) (by decide))).trans ((cI_n (kne (show b = 7 from hs4) (by decide))).trans ((cI_n (kne (show b = 7 from hs4) (by decide))).trans ((cI_y (show b = 7 from hs4)).trans (cI_n hc5))))))))))]⟩
          · refine zw_aload_n 53 f94_52 rfl rfl ?_
            refine zw_getfield 56 f94_53 rfl g94_21_11 (hb_0 _ _ _ _) rfl ?_
            refine zw_getfield 59 f94_56 rfl g94_134_10 (hb_11 _ _ _ _) rfl ?_
            refine zw_iload_n 60 f94_59 rfl rfl ?_
            refine zw_virtual_i 63 0 0 [.ref 12, .int a] [(0, .ref 12), (1, .int a)] f94_60 rfl n94_231 k94_231_9 rfl (hb_12 _ _ _ _) (by decide +kernel) (Nat.le_of_ble_eq_true rfl) rfl rfl (by decide +kernel) (by decide +kernel) rfl (Nat.le_of_ble_eq_true rfl) rfl ?_
            have va_zisSiphoning := (qV.ofc (by omega) hc1 hc2)
            have vn_zisSiphoning := va_zisSiphoning.1
            have io_zisSiphoning : zWp ro 45 0 [(0, .ref 12), (1, .int a)] [] (hS I G A B) 0 0 (fun r h1 => h1 = hS I G A B ∧ r = some (.int (W.2.2.2.2.2.1 a.toNatClampNeg))) := by
              have q := cx_isSiphoning_11 ro nv np P W I G A B hR hp hW.2.1 a.toNatClampNeg (by omega)
              rw [← va_zisSiphoning.2] at q
              exact q
            refine zWp.mono io_zisSiphoning ?_
            rintro r h1 ⟨rfl, rfl⟩
            refine ⟨_, rfl, ?_⟩
            refine zw_static_i 66 0 0 [.int (W.2.2.2.2.2.1 a.toNatClampNeg)] [] [(0, .int (W.2.2.2.2.2.1 a.toNatClampNeg))] f94_63 rfl k94_234_99 rfl (by decide +kernel) (Nat.le_of_ble_eq_true rfl) (Nat.le_of_ble_eq_true rfl) rfl rfl (by decide +kernel) (by decide +kernel) rfl (Nat.le_of_ble_eq_true rfl) rfl ?_
            refine zw_iload_n 1 f113_0 rfl rfl ?_
            refine zw_if_eq 4 8 f113_1 (by decide +kernel) rfl (fun hc6 => ?_) (fun hc6 => ?_)
            · refine zw_iconst 0 9 f113_8 rfl (by decide +kernel) ?_
              refine zw_ireturn f113_9 r113 u113 ⟨_, rfl, ?_⟩
              refine zw_goto 70 f94_66 (by decide +kernel) ?_
              refine zw_ireturn f94_70 r94 u94 ?_
              exact ⟨_, _, _, _, rfl, KQ.rf, by rw [show an_told nv P W a b = 0 from ((cI_y (qV.ofc (by omega) hc1 hc2)).trans ((cI_n (kne (show b = 7 from hs4) (by decide))).trans ((cI_n (kne (show b = 7 from hs4) (by decide))).trans ((cI_n (kne (show b = 7 from hs4) (by decide))).trans ((cI_n (kne (show b = 7 from hs4) (by decide))).trans ((cI_n (kne (show b = 7 from hs4) (by decide))).trans ((cI_n (kne (show b = 7 from hs4) (by decide))).trans ((cI_n (kne (show b = 7 from hs4) (by decide))).trans ((cI_y (show b = 7 from hs4)).trans ((cI_y (Decidable.of_not_not hc5)).trans hc6))))))))))]⟩
            · refine zw_iconst 1 5 f113_4 rfl (by decide +kernel) ?_
              refine zw_goto 9 f113_5 (by decide +kernel) ?_
              refine zw_ireturn f113_9 r113 u113 ⟨_, rfl, ?_⟩
              refine zw_goto 70 f94_66 (by decide +kernel) ?_
              refine zw_ireturn f94_70 r94 u94 ?_
              exact ⟨_, _, _, _, rfl, KQ.rf, by rw [show an_told nv P W a b = 1 from ((cI_y (qV.ofc (by omega) hc1 hc2)).trans ((cI_n (kne (show b = 7 from hs4) (by decide))).trans ((cI_n (kne (show b = 7 from hs4) (by decide))).trans ((cI_n (kne (show b = 7 from hs4) (by decide))).trans ((cI_n (kne (show b = 7 from hs4) (by decide))).trans ((cI_n (kne (show b = 7 from hs4) (by decide))).trans ((cI_n (kne (show b = 7 from hs4) (by decide))).trans ((cI_n (kne (show b = 7 from hs4) (by decide))).trans ((cI_y (show b = 7 from hs4)).trans ((cI_y (Decidable.of_not_not hc5)).trans ((hW.2.1.2 a.toNatClampNeg (by have q := ((qV.ofc (by omega) hc1 hc2)).1; omega)).resolve_left hc6)))))))))))]⟩
        by_cases hs7 : b = 8
        · refine zw_lookup_k (off := 57) 71 f94_14 hs7 (by decide +kernel) (by decide +kernel) (by decide +kernel) ?_
          refine zw_aload_n 72 f94_71 rfl rfl ?_
          refine zw_getfield 75 f94_72 rfl g94_10_11 (hb_0 _ _ _ _) rfl ?_
          refine zw_iload_n 76 f94_75 rfl rfl ?_
          refine zw_virtual_i 79 0 0 [.ref 1, .int a] [(0, .ref 1), (1, .int a)] f94_76 rfl n94_112 k94_112_4 rfl (hb_1 _ _ _ _) (by decide +kernel) (Nat.le_of_ble_eq_true rfl) rfl rfl (by decide +kernel) (by decide +kernel) rfl (Nat.le_of_ble_eq_true rfl) rfl ?_
          refine zw_iload_n 1 f15_0 rfl rfl ?_
          refine zw_if_lt_f 4 27 f15_1 (by decide +kernel) rfl hc1 ?_
          refine zw_iload_n 5 f15_4 rfl rfl ?_
          refine zw_aload_n 6 f15_5 rfl rfl ?_
          refine zw_getI (nI nv) 9 f15_6 rfl g15_39_4 (hb_1 _ _ _ _) rfl hR.1.1 ?_
          refine zw_ic_ge_f 12 27 f15_9 (by decide +kernel) rfl hc2 ?_
          refine zw_iload_n 13 f15_12 rfl rfl ?_
          refine zw_bipush 8 15 f15_13 rfl (by decide +kernel) ?_
          refine zw_ic_ge_f 18 27 f15_15 (by decide +kernel) rfl hc3 ?_
          refine zw_aload_n 19 f15_18 rfl rfl ?_
          refine zw_getfield 22 f15_19 rfl g15_9_4 (hb_1 _ _ _ _) rfl ?_
          refine zw_iload_n 23 f15_22 rfl rfl ?_
          refine zw_iaload a.toNatClampNeg (P 53 a.toNatClampNeg) 24 f15_23 rfl (hb_2 _ _ _ _) rfl hc1 (zix (by decide) hc1 hc3) (congrFun ((hR.2.1 53 (by omega) (by omega))) a.toNatClampNeg) ?_
          refine zw_goto 28 f15_24 (by decide +kernel) ?_
          refine zw_ireturn f15_28 r15 u15 ⟨_, rfl, ?_⟩
          refine zw_iconst 4 80 f94_79 rfl (by decide +kernel) ?_
          refine zw_ic_ne 83 98 f94_80 (by decide +kernel) rfl (fun hc8 => ?_) (fun hc8 => ?_)
          · refine zw_iconst (-1) 99 f94_98 rfl (by decide +kernel) ?_
            refine zw_ireturn f94_99 r94 u94 ?_
            exact ⟨_, _, _, _, rfl, KQ.rf, by rw [show an_told nv P W a b = (-1) from ((cI_y (qV.ofc (by omega) hc1 hc2)).trans ((cI_n (kne (show b = 8 from hs7) (by decide))).trans ((cI_n (kne (show b = 8 from hs7) (by decide))).trans ((cI_n (kne (show b = 8 from hs7) (by decide))).trans ((cI_n (kne (show b = 8 from hs7) (by decide))).trans ((cI_n (kne (show b = 8 from hs7) (by decide))).trans ((cI_n (kne (show b = 8 from hs7) (by decide))).trans ((cI_n (kne (show b = 8 from hs7) (by decide))).trans ((cI_n (kne (show b = 8 from hs7) (by decide))).trans ((cI_y (show b = 8 from hs7)).trans (cI_n hc8)))))))))))]⟩
          · refine zw_aload_n 84 f94_83 rfl rfl ?_
            refine zw_getfield 87 f94_84 rfl g94_21_11 (hb_0 _ _ _ _) rfl ?_
            refine zw_getfield 90 f94_87 rfl g94_134_10 (hb_11 _ _ _ _) rfl ?_
            refine zw_getfield 93 f94_90 rfl g94_238_9 (hb_12 _ _ _ _) rfl ?_
            refine zw_iload_n 94 f94_93 rfl rfl ?_
            refine zw_iaload a.toNatClampNeg (W.2.2.2.2.2.2.2 a.toNatClampNeg) 95 f94_94 rfl (hb_14 _ _ _ _) rfl hc1 (zix (by decide) hc1 hc3) (hR.2.2.2.2.2.2 _ (fun _ => (Decidable.of_not_not hc8))) ?_
            refine zw_goto 99 f94_95 (by decide +kernel) ?_
            refine zw_ireturn f94_99 r94 u94 ?_
            exact ⟨_, _, _, _, rfl, KQ.rf, by rw [show an_told nv P W a b = (W.2.2.2.2.2.2.2 a.toNatClampNeg) from ((cI_y (qV.ofc (by omega) hc1 hc2)).trans ((cI_n (kne (show b = 8 from hs7) (by decide))).trans ((cI_n (kne (show b = 8 from hs7) (by decide))).trans ((cI_n (kne (show b = 8 from hs7) (by decide))).trans ((cI_n (kne (show b = 8 from hs7) (by decide))).trans ((cI_n (kne (show b = 8 from hs7) (by decide))).trans ((cI_n (kne (show b = 8 from hs7) (by decide))).trans ((cI_n (kne (show b = 8 from hs7) (by decide))).trans ((cI_n (kne (show b = 8 from hs7) (by decide))).trans ((cI_y (show b = 8 from hs7)).trans (cI_y (Decidable.of_not_not hc8))))))))))))]⟩
        refine zw_lookup (off := 86) 100 f94_14 (by decide +kernel) ((lv_osw hs4 (by decide)).trans ((lv_osw hs7 (by decide)).trans rfl)) (by decide +kernel) ?_
        refine zw_aload_n 101 f94_100 rfl rfl ?_
        refine zw_getfield 104 f94_101 rfl g94_10_11 (hb_0 _ _ _ _) rfl ?_
        refine zw_iload_n 105 f94_104 rfl rfl ?_
        refine zw_iload_n 106 f94_105 rfl rfl ?_
        refine zw_virtual_i 109 0 0 [.ref 1, .int a, .int b] [(0, .ref 1), (1, .int a), (2, .int b)] f94_106 rfl n94_241 k94_241_4 rfl (hb_1 _ _ _ _) (by decide +kernel) (Nat.le_of_ble_eq_true rfl) rfl rfl (by decide +kernel) (by decide +kernel) rfl (Nat.le_of_ble_eq_true rfl) rfl ?_
        refine zw_iload_n 1 f23_0 rfl rfl ?_
        rcases zl_sw 6 (by decide) b with hs9 | ⟨hs9k, hs9l, hs9e⟩
        · refine zw_table_o 117 f23_1 hs9 (by decide +kernel) ?_
          refine zw_iconst (-1) 118 f23_117 rfl (by decide +kernel) ?_
          refine zw_ireturn f23_118 r23 u23 ⟨_, rfl, ?_⟩
          refine zw_ireturn f94_109 r94 u94 ?_
          exact ⟨_, _, _, _, rfl, KQ.rf, by rw [show an_told nv P W a b = (-1) from ((cI_y (qV.ofc (by omega) hc1 hc2)).trans ((cI_n (sw_ne hs9 (by decide))).trans ((cI_n (sw_ne hs9 (by decide))).trans ((cI_n (sw_ne hs9 (by decide))).trans ((cI_n (sw_ne hs9 (by decide))).trans ((cI_n (sw_ne hs9 (by decide))).trans ((cI_n (sw_ne hs9 (by decide))).trans ((cI_n (sw_ne hs9 (by decide))).trans ((cI_n hs4).trans ((cI_n hs7).trans rfl))))))))))]⟩
        · rcases (show hs9k = 0 ∨ hs9k = 1 ∨ hs9k = 2 ∨ hs9k = 3 ∨ hs9k = 4 ∨ hs9k = 5 ∨ hs9k = 6 by omega) with rfl | rfl | rfl | rfl | rfl | rfl | rfl
          · refine zw_table_k 43 44 f23_1 hs9e (by decide +kernel) (by decide +kernel) (by decide +kernel) ?_
            refine zw_aload_n 45 f23_44 rfl rfl ?_
            refine zw_getfield 48 f23_45 rfl g23_9_4 (hb_1 _ _ _ _) rfl ?_
            refine zw_iload_n 49 f23_48 rfl rfl ?_
            refine zw_iaload a.toNatClampNeg (P 53 a.toNatClampNeg) 50 f23_49 rfl (hb_2 _ _ _ _) rfl hc1 (zix (by decide) hc1 hc3) (congrFun ((hR.2.1 53 (by omega) (by omega))) a.toNatClampNeg) ?_
            refine zw_ireturn f23_50 r23 u23 ⟨_, rfl, ?_⟩
            refine zw_ireturn f94_109 r94 u94 ?_
            exact ⟨_, _, _, _, rfl, KQ.rf, by rw [show an_told nv P W a b = (P 53 a.toNatClampNeg) from ((cI_y (qV.ofc (by omega) hc1 hc2)).trans ((cI_y (show b = 0 from hs9e)).trans rfl))]⟩
          · refine zw_table_k 50 51 f23_1 hs9e (by decide +kernel) (by decide +kernel) (by decide +kernel) ?_
            refine zw_aload_n 52 f23_51 rfl rfl ?_
            refine zw_getfield 55 f23_52 rfl g23_15_4 (hb_1 _ _ _ _) rfl ?_
            refine zw_iload_n 56 f23_55 rfl rfl ?_
            refine zw_iaload a.toNatClampNeg (P 54 a.toNatClampNeg) 57 f23_56 rfl (hb_3 _ _ _ _) rfl hc1 (zix (by decide) hc1 hc3) (congrFun ((hR.2.1 54 (by omega) (by omega))) a.toNatClampNeg) ?_
            refine zw_ireturn f23_57 r23 u23 ⟨_, rfl, ?_⟩
            refine zw_ireturn f94_109 r94 u94 ?_
            exact ⟨_, _, _, _, rfl, KQ.rf, by rw [show an_told nv P W a b = (P 54 a.toNatClampNeg) from ((cI_y (qV.ofc (by omega) hc1 hc2)).trans ((cI_n (kne (show b = 1 from hs9e) (by decide))).trans ((cI_y (show b = 1 from hs9e)).trans rfl)))]⟩
          · refine zw_table_k 57 58 f23_1 hs9e (by decide +kernel) (by decide +kernel) (by decide +kernel) ?_
            refine zw_aload_n 59 f23_58 rfl rfl ?_
            refine zw_iload_n 60 f23_59 rfl rfl ?_
            refine zw_virtual_i 63 0 0 [.ref 1, .int a] [(0, .ref 1), (1, .int a)] f23_60 rfl n23_57 k23_57_4 rfl (hb_1 _ _ _ _) (by decide +kernel) (Nat.le_of_ble_eq_true rfl) rfl rfl (by decide +kernel) (by decide +kernel) rfl (Nat.le_of_ble_eq_true rfl) rfl ?_
            refine zw_aload_n 1 f18_0 rfl rfl ?_
            refine zw_iload_n 2 f18_1 rfl rfl ?_
            refine zw_virtual_i 5 0 0 [.ref 1, .int a] [(0, .ref 1), (1, .int a)] f18_2 rfl n18_50 k18_50_4 rfl (hb_1 _ _ _ _) (by decide +kernel) (Nat.le_of_ble_eq_true rfl) rfl rfl (by decide +kernel) (by decide +kernel) rfl (Nat.le_of_ble_eq_true rfl) rfl ?_
            refine zw_iload_n 1 f15_0 rfl rfl ?_
            refine zw_if_lt_f 4 27 f15_1 (by decide +kernel) rfl hc1 ?_
            refine zw_iload_n 5 f15_4 rfl rfl ?_
            refine zw_aload_n 6 f15_5 rfl rfl ?_
            refine zw_getI (nI nv) 9 f15_6 rfl g15_39_4 (hb_1 _ _ _ _) rfl hR.1.1 ?_
            refine zw_ic_ge_f 12 27 f15_9 (by decide +kernel) rfl hc2 ?_
            refine zw_iload_n 13 f15_12 rfl rfl ?_
            refine zw_bipush 8 15 f15_13 rfl (by decide +kernel) ?_
            refine zw_ic_ge_f 18 27 f15_15 (by decide +kernel) rfl hc3 ?_
            refine zw_aload_n 19 f15_18 rfl rfl ?_
            refine zw_getfield 22 f15_19 rfl g15_9_4 (hb_1 _ _ _ _) rfl ?_
            refine zw_iload_n 23 f15_22 rfl rfl ?_
            refine zw_iaload a.toNatClampNeg (P 53 a.toNatClampNeg) 24 f15_23 rfl (hb_2 _ _ _ _) rfl hc1 (zix (by decide) hc1 hc3) (congrFun ((hR.2.1 53 (by omega) (by omega))) a.toNatClampNeg) ?_
            refine zw_goto 28 f15_24 (by decide +kernel) ?_
            refine zw_ireturn f15_28 r15 u15 ⟨_, rfl, ?_⟩
            refine zw_iconst 1 6 f18_5 rfl (by decide +kernel) ?_
            refine zw_ic_eq 9 17 f18_6 (by decide +kernel) rfl (fun hc10 => ?_) (fun hc10 => ?_)
            · refine zw_iconst 1 18 f18_17 rfl (by decide +kernel) ?_
              refine zw_goto 22 f18_18 (by decide +kernel) ?_
              refine zw_zreturn f18_22 r18 u18 (by decide +kernel) ⟨_, rfl, ?_⟩
              refine zw_if_eq_f 66 75 f23_63 (by decide +kernel) rfl (by decide +kernel) ?_
              refine zw_aload_n 67 f23_66 rfl rfl ?_
              refine zw_getfield 70 f23_67 rfl g23_18_4 (hb_1 _ _ _ _) rfl ?_
              refine zw_iload_n 71 f23_70 rfl rfl ?_
              refine zw_iaload a.toNatClampNeg (P 55 a.toNatClampNeg) 72 f23_71 rfl (hb_4 _ _ _ _) rfl hc1 (zix (by decide) hc1 hc3) (congrFun ((hR.2.1 55 (by omega) (by omega))) a.toNatClampNeg) ?_
              refine zw_goto 76 f23_72 (by decide +kernel) ?_
              refine zw_ireturn f23_76 r23 u23 ⟨_, rfl, ?_⟩
              refine zw_ireturn f94_109 r94 u94 ?_
              exact ⟨_, _, _, _, rfl, KQ.rf, by rw [show an_told nv P W a b = (P 55 a.toNatClampNeg) from ((cI_y (qV.ofc (by omega) hc1 hc2)).trans ((cI_n (kne (show b = 2 from hs9e) (by decide))).trans ((cI_n (kne (show b = 2 from hs9e) (by decide))).trans ((cI_y (show b = 2 from hs9e)).trans (cI_n (fun q => q.elim (kne hc10 (by decide)) (kne hc10 (by decide))))))))]⟩
            · refine zw_aload_n 10 f18_9 rfl rfl ?_
              refine zw_iload_n 11 f18_10 rfl rfl ?_
              refine zw_virtual_i 14 0 0 [.ref 1, .int a] [(0, .ref 1), (1, .int a)] f18_11 rfl n18_54 k18_54_4 rfl (hb_1 _ _ _ _) (by decide +kernel) (Nat.le_of_ble_eq_true rfl) rfl rfl (by decide +kernel) (by decide +kernel) rfl (Nat.le_of_ble_eq_true rfl) rfl ?_
              refine zw_iload_n 1 f17_0 rfl rfl ?_
              refine zw_if_lt_f 4 22 f17_1 (by decide +kernel) rfl hc1 ?_
              refine zw_iload_n 5 f17_4 rfl rfl ?_
              refine zw_aload_n 6 f17_5 rfl rfl ?_
              refine zw_getI (nI nv) 9 f17_6 rfl g17_39_4 (hb_1 _ _ _ _) rfl hR.1.1 ?_
              refine zw_ic_ge_f 12 22 f17_9 (by decide +kernel) rfl hc2 ?_
              refine zw_iload_n 13 f17_12 rfl rfl ?_
              refine zw_bipush 8 15 f17_13 rfl (by decide +kernel) ?_
              refine zw_ic_ge_f 18 22 f17_15 (by decide +kernel) rfl hc3 ?_
              refine zw_iconst 1 19 f17_18 rfl (by decide +kernel) ?_
              refine zw_goto 23 f17_19 (by decide +kernel) ?_
              refine zw_istore_n _ 24 f17_23 rfl (by decide +kernel) rfl ?_
              refine zw_iload_n 25 f17_24 rfl zl1_eq ?_
              refine zw_if_eq_f 28 52 f17_25 (by decide +kernel) rfl (by decide +kernel) ?_
              refine zw_aload_n 29 f17_28 rfl (zl1_ne rfl rfl rfl) ?_
              refine zw_getfield 32 f17_29 rfl g17_9_4 (hb_1 _ _ _ _) rfl ?_
              refine zw_iload_n 33 f17_32 rfl (zl1_ne rfl rfl rfl) ?_
              refine zw_iaload a.toNatClampNeg (P 53 a.toNatClampNeg) 34 f17_33 rfl (hb_2 _ _ _ _) rfl hc1 (zix (by decide) hc1 hc3) (congrFun ((hR.2.1 53 (by omega) (by omega))) a.toNatClampNeg) ?_
              refine zw_iconst 3 35 f17_34 rfl (by decide +kernel) ?_
              refine zw_ic_eq 38 48 f17_35 (by decide +kernel) rfl (fun hc11 => ?_) (fun hc11 => ?_)
              · refine zw_iconst 1 49 f17_48 rfl (by decide +kernel) ?_
                refine zw_goto 53 f17_49 (by decide +kernel) ?_
                refine zw_zreturn f17_53 r17 u17 (by decide +kernel) ⟨_, rfl, ?_⟩
                refine zw_if_eq_f 17 21 f18_14 (by decide +kernel) rfl (by decide +kernel) ?_
                refine zw_iconst 1 18 f18_17 rfl (by decide +kernel) ?_
                refine zw_goto 22 f18_18 (by decide +kernel) ?_
                refine zw_zreturn f18_22 r18 u18 (by decide +kernel) ⟨_, rfl, ?_⟩
                refine zw_if_eq_f 66 75 f23_63 (by decide +kernel) rfl (by decide +kernel) ?_
                refine zw_aload_n 67 f23_66 rfl rfl ?_
                refine zw_getfield 70 f23_67 rfl g23_18_4 (hb_1 _ _ _ _) rfl ?_
                refine zw_iload_n 71 f23_70 rfl rfl ?_
                refine zw_iaload a.toNatClampNeg (P 55 a.toNatClampNeg) 72 f23_71 rfl (hb_4 _ _ _ _) rfl hc1 (zix (by decide) hc1 hc3) (congrFun ((hR.2.1 55 (by omega) (by omega))) a.toNatClampNeg) ?_
                refine zw_goto 76 f23_72 (by decide +kernel) ?_
                refine zw_ireturn f23_76 r23 u23 ⟨_, rfl, ?_⟩
                refine zw_ireturn f94_109 r94 u94 ?_
                exact ⟨_, _, _, _, rfl, KQ.rf, by rw [show an_told nv P W a b = (P 55 a.toNatClampNeg) from ((cI_y (qV.ofc (by omega) hc1 hc2)).trans ((cI_n (kne (show b = 2 from hs9e) (by decide))).trans ((cI_n (kne (show b = 2 from hs9e) (by decide))).trans ((cI_y (show b = 2 from hs9e)).trans (cI_n (fun q => q.elim (kne hc11 (by decide)) (kne hc11 (by decide))))))))]⟩
              · refine zw_aload_n 39 f17_38 rfl (zl1_ne rfl rfl rfl) ?_
                refine zw_getfield 42 f17_39 rfl g17_9_4 (hb_1 _ _ _ _) rfl ?_
                refine zw_iload_n 43 f17_42 rfl (zl1_ne rfl rfl rfl) ?_
                refine zw_iaload a.toNatClampNeg (P 53 a.toNatClampNeg) 44 f17_43 rfl (hb_2 _ _ _ _) rfl hc1 (zix (by decide) hc1 hc3) (congrFun ((hR.2.1 53 (by omega) (by omega))) a.toNatClampNeg) ?_
                refine zw_iconst 4 45 f17_44 rfl (by decide +kernel) ?_
                refine zw_ic_ne 48 52 f17_45 (by decide +kernel) rfl (fun hc12 => ?_) (fun hc12 => ?_)
                · refine zw_iconst 0 53 f17_52 rfl (by decide +kernel) ?_
                  refine zw_zreturn f17_53 r17 u17 (by decide +kernel) ⟨_, rfl, ?_⟩
                  refine zw_if_eq_t 21 f18_14 (by decide +kernel) (by decide +kernel) ?_
                  refine zw_iconst 0 22 f18_21 rfl (by decide +kernel) ?_
                  refine zw_zreturn f18_22 r18 u18 (by decide +kernel) ⟨_, rfl, ?_⟩
                  refine zw_if_eq_t 75 f23_63 (by decide +kernel) (by decide +kernel) ?_
                  refine zw_iconst (-1) 76 f23_75 rfl (by decide +kernel) ?_
                  refine zw_ireturn f23_76 r23 u23 ⟨_, rfl, ?_⟩
                  refine zw_ireturn f94_109 r94 u94 ?_
                  exact ⟨_, _, _, _, rfl, KQ.rf, by rw [show an_told nv P W a b = (-1) from ((cI_y (qV.ofc (by omega) hc1 hc2)).trans ((cI_n (kne (show b = 2 from hs9e) (by decide))).trans ((cI_n (kne (show b = 2 from hs9e) (by decide))).trans ((cI_y (show b = 2 from hs9e)).trans (cI_y (k02y (hQ.1 _ ((qV.ofc (by omega) hc1 hc2)).1) hc10 hc11 hc12))))))]⟩
                · refine zw_iconst 1 49 f17_48 rfl (by decide +kernel) ?_
                  refine zw_goto 53 f17_49 (by decide +kernel) ?_
                  refine zw_zreturn f17_53 r17 u17 (by decide +kernel) ⟨_, rfl, ?_⟩
                  refine zw_if_eq_f 17 21 f18_14 (by decide +kernel) rfl (by decide +kernel) ?_
                  refine zw_iconst 1 18 f18_17 rfl (by decide +kernel) ?_
                  refine zw_goto 22 f18_18 (by decide +kernel) ?_
                  refine zw_zreturn f18_22 r18 u18 (by decide +kernel) ⟨_, rfl, ?_⟩
                  refine zw_if_eq_f 66 75 f23_63 (by decide +kernel) rfl (by decide +kernel) ?_
                  refine zw_aload_n 67 f23_66 rfl rfl ?_
                  refine zw_getfield 70 f23_67 rfl g23_18_4 (hb_1 _ _ _ _) rfl ?_
                  refine zw_iload_n 71 f23_70 rfl rfl ?_
                  refine zw_iaload a.toNatClampNeg (P 55 a.toNatClampNeg) 72 f23_71 rfl (hb_4 _ _ _ _) rfl hc1 (zix (by decide) hc1 hc3) (congrFun ((hR.2.1 55 (by omega) (by omega))) a.toNatClampNeg) ?_
                  refine zw_goto 76 f23_72 (by decide +kernel) ?_
                  refine zw_ireturn f23_76 r23 u23 ⟨_, rfl, ?_⟩
                  refine zw_ireturn f94_109 r94 u94 ?_
                  exact ⟨_, _, _, _, rfl, KQ.rf, by rw [show an_told nv P W a b = (P 55 a.toNatClampNeg) from ((cI_y (qV.ofc (by omega) hc1 hc2)).trans ((cI_n (kne (show b = 2 from hs9e) (by decide))).trans ((cI_n (kne (show b = 2 from hs9e) (by decide))).trans ((cI_y (show b = 2 from hs9e)).trans (cI_n (fun q => q.elim (kne (Decidable.of_not_not hc12) (by decide)) (kne (Decidable.of_not_not hc12) (by decide))))))))]⟩
          · refine zw_table_k 76 77 f23_1 hs9e (by decide +kernel) (by decide +kernel) (by decide +kernel) ?_
            refine zw_aload_n 78 f23_77 rfl rfl ?_
            refine zw_iload_n 79 f23_78 rfl rfl ?_
            refine zw_virtual_i 82 0 0 [.ref 1, .int a] [(0, .ref 1), (1, .int a)] f23_79 rfl n23_54 k23_54_4 rfl (hb_1 _ _ _ _) (by decide +kernel) (Nat.le_of_ble_eq_true rfl) rfl rfl (by decide +kernel) (by decide +kernel) rfl (Nat.le_of_ble_eq_true rfl) rfl ?_
            refine zw_iload_n 1 f17_0 rfl rfl ?_
            refine zw_if_lt_f 4 22 f17_1 (by decide +kernel) rfl hc1 ?_
            refine zw_iload_n 5 f17_4 rfl rfl ?_
            refine zw_aload_n 6 f17_5 rfl rfl ?_
            refine zw_getI (nI nv) 9 f17_6 rfl g17_39_4 (hb_1 _ _ _ _) rfl hR.1.1 ?_
            refine zw_ic_ge_f 12 22 f17_9 (by decide +kernel) rfl hc2 ?_
            refine zw_iload_n 13 f17_12 rfl rfl ?_
            refine zw_bipush 8 15 f17_13 rfl (by decide +kernel) ?_
            refine zw_ic_ge_f 18 22 f17_15 (by decide +kernel) rfl hc3 ?_
            refine zw_iconst 1 19 f17_18 rfl (by decide +kernel) ?_
            refine zw_goto 23 f17_19 (by decide +kernel) ?_
            refine zw_istore_n _ 24 f17_23 rfl (by decide +kernel) rfl ?_
            refine zw_iload_n 25 f17_24 rfl zl1_eq ?_
            refine zw_if_eq_f 28 52 f17_25 (by decide +kernel) rfl (by decide +kernel) ?_
            refine zw_aload_n 29 f17_28 rfl (zl1_ne rfl rfl rfl) ?_
            refine zw_getfield 32 f17_29 rfl g17_9_4 (hb_1 _ _ _ _) rfl ?_
            refine zw_iload_n 33 f17_32 rfl (zl1_ne rfl rfl rfl) ?_
            refine zw_iaload a.toNatClampNeg (P 53 a.toNatClampNeg) 34 f17_33 rfl (hb_2 _ _ _ _) rfl hc1 (zix (by decide) hc1 hc3) (congrFun ((hR.2.1 53 (by omega) (by omega))) a.toNatClampNeg) ?_
            refine zw_iconst 3 35 f17_34 rfl (by decide +kernel) ?_
            refine zw_ic_eq 38 48 f17_35 (by decide +kernel) rfl (fun hc13 => ?_) (fun hc13 => ?_)
            · refine zw_iconst 1 49 f17_48 rfl (by decide +kernel) ?_
              refine zw_goto 53 f17_49 (by decide +kernel) ?_
              refine zw_zreturn f17_53 r17 u17 (by decide +kernel) ⟨_, rfl, ?_⟩
              refine zw_if_eq_f 85 94 f23_82 (by decide +kernel) rfl (by decide +kernel) ?_
              refine zw_aload_n 86 f23_85 rfl rfl ?_
              refine zw_getfield 89 f23_86 rfl g23_21_4 (hb_1 _ _ _ _) rfl ?_
              refine zw_iload_n 90 f23_89 rfl rfl ?_
              refine zw_iaload a.toNatClampNeg (P 56 a.toNatClampNeg) 91 f23_90 rfl (hb_5 _ _ _ _) rfl hc1 (zix (by decide) hc1 hc3) (congrFun ((hR.2.1 56 (by omega) (by omega))) a.toNatClampNeg) ?_
              refine zw_goto 95 f23_91 (by decide +kernel) ?_
              refine zw_ireturn f23_95 r23 u23 ⟨_, rfl, ?_⟩
              refine zw_ireturn f94_109 r94 u94 ?_
              exact ⟨_, _, _, _, rfl, KQ.rf, by rw [show an_told nv P W a b = (P 56 a.toNatClampNeg) from ((cI_y (qV.ofc (by omega) hc1 hc2)).trans ((cI_n (kne (show b = 3 from hs9e) (by decide))).trans ((cI_n (kne (show b = 3 from hs9e) (by decide))).trans ((cI_n (kne (show b = 3 from hs9e) (by decide))).trans ((cI_y (show b = 3 from hs9e)).trans (cI_y (Or.inl hc13)))))))]⟩
            · refine zw_aload_n 39 f17_38 rfl (zl1_ne rfl rfl rfl) ?_
              refine zw_getfield 42 f17_39 rfl g17_9_4 (hb_1 _ _ _ _) rfl ?_
              refine zw_iload_n 43 f17_42 rfl (zl1_ne rfl rfl rfl) ?_
              refine zw_iaload a.toNatClampNeg (P 53 a.toNatClampNeg) 44 f17_43 rfl (hb_2 _ _ _ _) rfl hc1 (zix (by decide) hc1 hc3) (congrFun ((hR.2.1 53 (by omega) (by omega))) a.toNatClampNeg) ?_
              refine zw_iconst 4 45 f17_44 rfl (by decide +kernel) ?_
              refine zw_ic_ne 48 52 f17_45 (by decide +kernel) rfl (fun hc14 => ?_) (fun hc14 => ?_)
              · refine zw_iconst 0 53 f17_52 rfl (by decide +kernel) ?_
                refine zw_zreturn f17_53 r17 u17 (by decide +kernel) ⟨_, rfl, ?_⟩
                refine zw_if_eq_t 94 f23_82 (by decide +kernel) (by decide +kernel) ?_
                refine zw_iconst (-1) 95 f23_94 rfl (by decide +kernel) ?_
                refine zw_ireturn f23_95 r23 u23 ⟨_, rfl, ?_⟩
                refine zw_ireturn f94_109 r94 u94 ?_
                exact ⟨_, _, _, _, rfl, KQ.rf, by rw [show an_told nv P W a b = (-1) from ((cI_y (qV.ofc (by omega) hc1 hc2)).trans ((cI_n (kne (show b = 3 from hs9e) (by decide))).trans ((cI_n (kne (show b = 3 from hs9e) (by decide))).trans ((cI_n (kne (show b = 3 from hs9e) (by decide))).trans ((cI_y (show b = 3 from hs9e)).trans (cI_n (fun q => q.elim hc13 hc14)))))))]⟩
              · refine zw_iconst 1 49 f17_48 rfl (by decide +kernel) ?_
                refine zw_goto 53 f17_49 (by decide +kernel) ?_
                refine zw_zreturn f17_53 r17 u17 (by decide +kernel) ⟨_, rfl, ?_⟩
                refine zw_if_eq_f 85 94 f23_82 (by decide +kernel) rfl (by decide +kernel) ?_
                refine zw_aload_n 86 f23_85 rfl rfl ?_
                refine zw_getfield 89 f23_86 rfl g23_21_4 (hb_1 _ _ _ _) rfl ?_
                refine zw_iload_n 90 f23_89 rfl rfl ?_
                refine zw_iaload a.toNatClampNeg (P 56 a.toNatClampNeg) 91 f23_90 rfl (hb_5 _ _ _ _) rfl hc1 (zix (by decide) hc1 hc3) (congrFun ((hR.2.1 56 (by omega) (by omega))) a.toNatClampNeg) ?_
                refine zw_goto 95 f23_91 (by decide +kernel) ?_
                refine zw_ireturn f23_95 r23 u23 ⟨_, rfl, ?_⟩
                refine zw_ireturn f94_109 r94 u94 ?_
                exact ⟨_, _, _, _, rfl, KQ.rf, by rw [show an_told nv P W a b = (P 56 a.toNatClampNeg) from ((cI_y (qV.ofc (by omega) hc1 hc2)).trans ((cI_n (kne (show b = 3 from hs9e) (by decide))).trans ((cI_n (kne (show b = 3 from hs9e) (by decide))).trans ((cI_n (kne (show b = 3 from hs9e) (by decide))).trans ((cI_y (show b = 3 from hs9e)).trans (cI_y (Or.inr (Decidable.of_not_not hc14))))))))]⟩
          · refine zw_table_k 95 96 f23_1 hs9e (by decide +kernel) (by decide +kernel) (by decide +kernel) ?_
            refine zw_aload_n 97 f23_96 rfl rfl ?_
            refine zw_getfield 100 f23_97 rfl g23_24_4 (hb_1 _ _ _ _) rfl ?_
            refine zw_iload_n 101 f23_100 rfl rfl ?_
            refine zw_iaload a.toNatClampNeg (P 57 a.toNatClampNeg) 102 f23_101 rfl (hb_6 _ _ _ _) rfl hc1 (zix (by decide) hc1 hc3) (congrFun ((hR.2.1 57 (by omega) (by omega))) a.toNatClampNeg) ?_
            refine zw_ireturn f23_102 r23 u23 ⟨_, rfl, ?_⟩
            refine zw_ireturn f94_109 r94 u94 ?_
            exact ⟨_, _, _, _, rfl, KQ.rf, by rw [show an_told nv P W a b = (P 57 a.toNatClampNeg) from ((cI_y (qV.ofc (by omega) hc1 hc2)).trans ((cI_n (kne (show b = 4 from hs9e) (by decide))).trans ((cI_n (kne (show b = 4 from hs9e) (by decide))).trans ((cI_n (kne (show b = 4 from hs9e) (by decide))).trans ((cI_n (kne (show b = 4 from hs9e) (by decide))).trans ((cI_y (show b = 4 from hs9e)).trans rfl))))))]⟩
          · refine zw_table_k 102 103 f23_1 hs9e (by decide +kernel) (by decide +kernel) (by decide +kernel) ?_
            refine zw_aload_n 104 f23_103 rfl rfl ?_
            refine zw_getfield 107 f23_104 rfl g23_27_4 (hb_1 _ _ _ _) rfl ?_
            refine zw_iload_n 108 f23_107 rfl rfl ?_
            refine zw_iaload a.toNatClampNeg (P 58 a.toNatClampNeg) 109 f23_108 rfl (hb_7 _ _ _ _) rfl hc1 (zix (by decide) hc1 hc3) (congrFun ((hR.2.1 58 (by omega) (by omega))) a.toNatClampNeg) ?_
            refine zw_ireturn f23_109 r23 u23 ⟨_, rfl, ?_⟩
            refine zw_ireturn f94_109 r94 u94 ?_
            exact ⟨_, _, _, _, rfl, KQ.rf, by rw [show an_told nv P W a b = (P 58 a.toNatClampNeg) from ((cI_y (qV.ofc (by omega) hc1 hc2)).trans ((cI_n (kne (show b = 5 from hs9e) (by decide))).trans ((cI_n (kne (show b = 5 from hs9e) (by decide))).trans ((cI_n (kne (show b = 5 from hs9e) (by decide))).trans ((cI_n (kne (show b = 5 from hs9e) (by decide))).trans ((cI_n (kne (show b = 5 from hs9e) (by decide))).trans ((cI_y (show b = 5 from hs9e)).trans rfl)))))))]⟩
          · refine zw_table_k 109 110 f23_1 hs9e (by decide +kernel) (by decide +kernel) (by decide +kernel) ?_
            refine zw_aload_n 111 f23_110 rfl rfl ?_
            refine zw_getfield 114 f23_111 rfl g23_30_4 (hb_1 _ _ _ _) rfl ?_
            refine zw_iload_n 115 f23_114 rfl rfl ?_
            refine zw_iaload a.toNatClampNeg (P 59 a.toNatClampNeg) 116 f23_115 rfl (hb_8 _ _ _ _) rfl hc1 (zix (by decide) hc1 hc3) (congrFun ((hR.2.1 59 (by omega) (by omega))) a.toNatClampNeg) ?_
            refine zw_ireturn f23_116 r23 u23 ⟨_, rfl, ?_⟩
            refine zw_ireturn f94_109 r94 u94 ?_
            exact ⟨_, _, _, _, rfl, KQ.rf, by rw [show an_told nv P W a b = (P 59 a.toNatClampNeg) from ((cI_y (qV.ofc (by omega) hc1 hc2)).trans ((cI_n (kne (show b = 6 from hs9e) (by decide))).trans ((cI_n (kne (show b = 6 from hs9e) (by decide))).trans ((cI_n (kne (show b = 6 from hs9e) (by decide))).trans ((cI_n (kne (show b = 6 from hs9e) (by decide))).trans ((cI_n (kne (show b = 6 from hs9e) (by decide))).trans ((cI_n (kne (show b = 6 from hs9e) (by decide))).trans ((cI_y (show b = 6 from hs9e)).trans rfl))))))))]⟩
set_option maxRecDepth 100000 in
set_option maxHeartbeats 0 in
theorem mx_told (ro : UInt32 → Nat × (Nat → Int32)) (nv np : Nat) (P : Nat → Nat → Int32) (W : qW) (L : qLog) (I : Nat → Nat → Int32) (G : Nat → Nat → Int64) (A : Nat → Nat → Int32) (B : Nat → Nat → Int64) (K : Int) (hR : mRS nv np P W L I G A B) (hp : MPa nv np P) (hW : wInv nv 10000 K P W) (hn : L.1 < 900000000) (hg : qLG L) (hi : mId I) (a : Int32) (b : Int32) : zWp ro 160 0 [(0, .ref 52), (1, .int a), (2, .int b)] [] (hS I G A B) 0 0 (fun r h1 => ∃ I2 G2 A2 B2, h1 = hS I2 G2 A2 B2 ∧ KQ fQu pQu I G A B I2 G2 A2 B2 ∧ mId I2 ∧ r = some (.int (an_told nv P W a b))) := by
  have h8 := hp.1
  have h14 := hp.2.1
  obtain ⟨t, ht, et⟩ := hi.2.2
  refine zw_aload_n 1 f160_0 rfl rfl ?_
  refine zw_iload_n 2 f160_1 rfl rfl ?_
  refine zw_virtual_i 5 0 0 [.ref 52, .int a] [(0, .ref 52), (1, .int a)] f160_2 rfl n160_215 k160_215_12 rfl (hb_52 _ _ _ _) (by decide +kernel) (Nat.le_of_ble_eq_true rfl) rfl rfl (by decide +kernel) (by decide +kernel) rfl (Nat.le_of_ble_eq_true rfl) rfl ?_
  refine zw_iload_n 1 f123_0 rfl rfl ?_
  refine zw_iconst 0 2 f123_1 rfl (by decide +kernel) ?_
  refine zw_aload_n 3 f123_2 rfl rfl ?_
  refine zw_getI (nI nv) 6 f123_3 rfl g123_114_12 (hb_52 _ _ _ _) rfl hR.1.1 ?_
  refine zw_iconst 1 7 f123_6 rfl (by decide +kernel) ?_
  refine zw_isub ((nI nv) - 1) 8 f123_7 rfl rfl ?_
  refine zw_static_i 11 0 0 [.int a, .int 0, .int ((nI nv) - 1)] [] [(0, .int a), (1, .int 0), (2, .int ((nI nv) - 1))] f123_8 rfl k123_117_99 rfl (by decide +kernel) (Nat.le_of_ble_eq_true rfl) (Nat.le_of_ble_eq_true rfl) rfl rfl (by decide +kernel) (by decide +kernel) rfl (Nat.le_of_ble_eq_true rfl) rfl ?_
  refine zw_iload_n 1 f120_0 rfl rfl ?_
  refine zw_iload_n 2 f120_1 rfl rfl ?_
  refine zw_ic_lt 5 14 f120_2 (by decide +kernel) rfl (fun hc1 => ?_) (fun hc1 => ?_)
  · refine zw_iconst 0 15 f120_14 rfl (by decide +kernel) ?_
    refine zw_zreturn f120_15 r120 u120 (by decide +kernel) ⟨_, rfl, ?_⟩
    refine zw_zreturn f123_11 r123 u123 (by decide +kernel) ⟨_, rfl, ?_⟩
    refine zw_if_ne_f 8 10 f160_5 (by decide +kernel) rfl (by decide +kernel) ?_
    refine zw_iconst (-1) 9 f160_8 rfl (by decide +kernel) ?_
    refine zw_ireturn f160_9 r160 u160 ?_
    exact ⟨_, _, _, _, rfl, KQ.rf, ⟨hi.1, hi.2.1, t, by omega, et⟩, by rw [show an_told nv P W a b = (-1) from (cI_n (qV.n0 (by omega) hc1))]⟩
  · refine zw_iload_n 6 f120_5 rfl rfl ?_
    refine zw_iload_n 7 f120_6 rfl rfl ?_
    refine zw_ic_gt 10 14 f120_7 (by decide +kernel) rfl (fun hc2 => ?_) (fun hc2 => ?_)
    · refine zw_iconst 0 15 f120_14 rfl (by decide +kernel) ?_
      refine zw_zreturn f120_15 r120 u120 (by decide +kernel) ⟨_, rfl, ?_⟩
      refine zw_zreturn f123_11 r123 u123 (by decide +kernel) ⟨_, rfl, ?_⟩
      refine zw_if_ne_f 8 10 f160_5 (by decide +kernel) rfl (by decide +kernel) ?_
      refine zw_iconst (-1) 9 f160_8 rfl (by decide +kernel) ?_
      refine zw_ireturn f160_9 r160 u160 ?_
      exact ⟨_, _, _, _, rfl, KQ.rf, ⟨hi.1, hi.2.1, t, by omega, et⟩, by rw [show an_told nv P W a b = (-1) from (cI_n (qV.n1 (by omega) hc2))]⟩
    · refine zw_iconst 1 11 f120_10 rfl (by decide +kernel) ?_
      refine zw_goto 15 f120_11 (by decide +kernel) ?_
      refine zw_zreturn f120_15 r120 u120 (by decide +kernel) ⟨_, rfl, ?_⟩
      refine zw_zreturn f123_11 r123 u123 (by decide +kernel) ⟨_, rfl, ?_⟩
      refine zw_if_ne_t 10 f160_5 (by decide +kernel) (by decide +kernel) ?_
      refine zw_aload_n 11 f160_10 rfl rfl ?_
      refine zw_getfield 14 f160_11 rfl g160_7_12 (hb_52 _ _ _ _) rfl ?_
      refine zw_iload_n 15 f160_14 rfl rfl ?_
      refine zw_iaload a.toNatClampNeg (P 53 a.toNatClampNeg) 16 f160_15 rfl (hb_53 _ _ _ _) rfl hc1 (zix (by decide) hc1 (show ¬ 8 ≤ a from ix_le hp.1 (by decide) (by decide) hc1 hc2)) (congrFun ((hR.2.1 53 (by omega) (by omega))) a.toNatClampNeg) ?_
      refine zw_istore_n _ 17 f160_16 rfl (by decide +kernel) rfl ?_
      refine zw_iload_n 18 f160_17 rfl (zl1_ne rfl rfl rfl) ?_
      rcases zl_sw 8 (by decide) b with hs3 | ⟨hs3k, hs3l, hs3e⟩
      · refine zw_table_o 177 f160_18 hs3 (by decide +kernel) ?_
        refine zw_iconst (-1) 178 f160_177 rfl (by decide +kernel) ?_
        refine zw_ireturn f160_178 r160 u160 ?_
        exact ⟨_, _, _, _, rfl, KQ.rf, ⟨hi.1, hi.2.1, t, by omega, et⟩, by rw [show an_told nv P W a b = (-1) from ((cI_y (qV.of (by omega) hc1 hc2)).trans ((cI_n (sw_ne hs3 (by decide))).trans ((cI_n (sw_ne hs3 (by decide))).trans ((cI_n (sw_ne hs3 (by decide))).trans ((cI_n (sw_ne hs3 (by decide))).trans ((cI_n (sw_ne hs3 (by decide))).trans ((cI_n (sw_ne hs3 (by decide))).trans ((cI_n (sw_ne hs3 (by decide))).trans ((cI_n (sw_ne hs3 (by decide))).trans ((cI_n (sw_ne hs3 (by decide))).trans rfl))))))))))]⟩
      · rcases (show hs3k = 0 ∨ hs3k = 1 ∨ hs3k = 2 ∨ hs3k = 3 ∨ hs3k = 4 ∨ hs3k = 5 ∨ hs3k = 6 ∨ hs3k = 7 ∨ hs3k = 8 by omega) with rfl | rfl | rfl | rfl | rfl | rfl | rfl | rfl | rfl
        · refine zw_table_k 50 68 f160_18 hs3e (by decide +kernel) (by decide +kernel) (by decide +kernel) ?_
          refine zw_iload_n 69 f160_68 rfl zl1_eq ?_
          refine zw_ireturn f160_69 r160 u160 ?_
          exact ⟨_, _, _, _, rfl, KQ.rf, ⟨hi.1, hi.2.1, t, by omega, et⟩, by rw [show an_told nv P W a b = (P 53 a.toNatClampNeg) from ((cI_y (qV.of (by omega) hc1 hc2)).trans ((cI_y (show b = 0 from hs3e)).trans rfl))]⟩
        · refine zw_table_k 52 70 f160_18 hs3e (by decide +kernel) (by decide +kernel) (by decide +kernel) ?_
          refine zw_aload_n 71 f160_70 rfl (zl1_ne rfl rfl rfl) ?_
          refine zw_getfield 74 f160_71 rfl g160_13_12 (hb_52 _ _ _ _) rfl ?_
          refine zw_iload_n 75 f160_74 rfl (zl1_ne rfl rfl rfl) ?_
          refine zw_iaload a.toNatClampNeg (P 54 a.toNatClampNeg) 76 f160_75 rfl (hb_54 _ _ _ _) rfl hc1 (zix (by decide) hc1 (show ¬ 8 ≤ a from ix_le hp.1 (by decide) (by decide) hc1 hc2)) (congrFun ((hR.2.1 54 (by omega) (by omega))) a.toNatClampNeg) ?_
          refine zw_ireturn f160_76 r160 u160 ?_
          exact ⟨_, _, _, _, rfl, KQ.rf, ⟨hi.1, hi.2.1, t, by omega, et⟩, by rw [show an_told nv P W a b = (P 54 a.toNatClampNeg) from ((cI_y (qV.of (by omega) hc1 hc2)).trans ((cI_n (kne (show b = 1 from hs3e) (by decide))).trans ((cI_y (show b = 1 from hs3e)).trans rfl)))]⟩
        · refine zw_table_k 59 77 f160_18 hs3e (by decide +kernel) (by decide +kernel) (by decide +kernel) ?_
          refine zw_iload_n 78 f160_77 rfl zl1_eq ?_
          refine zw_if_eq 81 86 f160_78 (by decide +kernel) rfl (fun hc4 => ?_) (fun hc4 => ?_)
          · refine zw_iconst (-1) 87 f160_86 rfl (by decide +kernel) ?_
            refine zw_goto 96 f160_87 (by decide +kernel) ?_
            refine zw_ireturn f160_96 r160 u160 ?_
            exact ⟨_, _, _, _, rfl, KQ.rf, ⟨hi.1, hi.2.1, t, by omega, et⟩, by rw [show an_told nv P W a b = (-1) from ((cI_y (qV.of (by omega) hc1 hc2)).trans ((cI_n (kne (show b = 2 from hs3e) (by decide))).trans ((cI_n (kne (show b = 2 from hs3e) (by decide))).trans ((cI_y (show b = 2 from hs3e)).trans (cI_y (Or.inl hc4))))))]⟩
          · refine zw_iload_n 82 f160_81 rfl zl1_eq ?_
            refine zw_iconst 2 83 f160_82 rfl (by decide +kernel) ?_
            refine zw_ic_ne 86 90 f160_83 (by decide +kernel) rfl (fun hc5 => ?_) (fun hc5 => ?_)
            · refine zw_aload_n 91 f160_90 rfl (zl1_ne rfl rfl rfl) ?_
              refine zw_getfield 94 f160_91 rfl g160_16_12 (hb_52 _ _ _ _) rfl ?_
              refine zw_iload_n 95 f160_94 rfl (zl1_ne rfl rfl rfl) ?_
              refine zw_iaload a.toNatClampNeg (P 55 a.toNatClampNeg) 96 f160_95 rfl (hb_55 _ _ _ _) rfl hc1 (zix (by decide) hc1 (show ¬ 8 ≤ a from ix_le hp.1 (by decide) (by decide) hc1 hc2)) (congrFun ((hR.2.1 55 (by omega) (by omega))) a.toNatClampNeg) ?_
              refine zw_ireturn f160_96 r160 u160 ?_
              exact ⟨_, _, _, _, rfl, KQ.rf, ⟨hi.1, hi.2.1, t, by omega, et⟩, by rw [show an_told nv P W a b = (P 55 a.toNatClampNeg) from ((cI_y (qV.of (by omega) hc1 hc2)).trans ((cI_n (kne (show b = 2 from hs3e) (by decide))).trans ((cI_n (kne (show b = 2 from hs3e) (by decide))).trans ((cI_y (show b = 2 from hs3e)).trans (cI_n (fun q => q.elim hc4 hc5))))))]⟩
            · refine zw_iconst (-1) 87 f160_86 rfl (by decide +kernel) ?_
              refine zw_goto 96 f160_87 (by decide +kernel) ?_
              refine zw_ireturn f160_96 r160 u160 ?_
              exact ⟨_, _, _, _, rfl, KQ.rf, ⟨hi.1, hi.2.1, t, by omega, et⟩, by rw [show an_told nv P W a b = (-1) from ((cI_y (qV.of (by omega) hc1 hc2)).trans ((cI_n (kne (show b = 2 from hs3e) (by decide))).trans ((cI_n (kne (show b = 2 from hs3e) (by decide))).trans ((cI_y (show b = 2 from hs3e)).trans (cI_y (Or.inr (Decidable.of_not_not hc5)))))))]⟩
        · refine zw_table_k 79 97 f160_18 hs3e (by decide +kernel) (by decide +kernel) (by decide +kernel) ?_
          refine zw_aload_n 98 f160_97 rfl (zl1_ne rfl rfl rfl) ?_
          refine zw_iload_n 99 f160_98 rfl (zl1_ne rfl rfl rfl) ?_
          refine zw_virtual_i 102 0 0 [.ref 52, .int a] [(0, .ref 52), (1, .int a)] f160_99 rfl n160_158 k160_158_12 rfl (hb_52 _ _ _ _) (by decide +kernel) (Nat.le_of_ble_eq_true rfl) rfl rfl (by decide +kernel) (by decide +kernel) rfl (Nat.le_of_ble_eq_true rfl) rfl ?_
          refine zw_aload_n 1 f126_0 rfl rfl ?_
          refine zw_getfield 4 f126_1 rfl g126_7_12 (hb_52 _ _ _ _) rfl ?_
          refine zw_iload_n 5 f126_4 rfl rfl ?_
          refine zw_iaload a.toNatClampNeg (P 53 a.toNatClampNeg) 6 f126_5 rfl (hb_53 _ _ _ _) rfl hc1 (zix (by decide) hc1 (show ¬ 8 ≤ a from ix_le hp.1 (by decide) (by decide) hc1 hc2)) (congrFun ((hR.2.1 53 (by omega) (by omega))) a.toNatClampNeg) ?_
          refine zw_iconst 3 7 f126_6 rfl (by decide +kernel) ?_
          refine zw_ic_eq 10 20 f126_7 (by decide +kernel) rfl (fun hc6 => ?_) (fun hc6 => ?_)
          · refine zw_iconst 1 21 f126_20 rfl (by decide +kernel) ?_
            refine zw_goto 25 f126_21 (by decide +kernel) ?_
            refine zw_zreturn f126_25 r126 u126 (by decide +kernel) ⟨_, rfl, ?_⟩
            refine zw_if_eq_f 105 114 f160_102 (by decide +kernel) rfl (by decide +kernel) ?_
            refine zw_aload_n 106 f160_105 rfl (zl1_ne rfl rfl rfl) ?_
            refine zw_getfield 109 f160_106 rfl g160_19_12 (hb_52 _ _ _ _) rfl ?_
            refine zw_iload_n 110 f160_109 rfl (zl1_ne rfl rfl rfl) ?_
            refine zw_iaload a.toNatClampNeg (P 56 a.toNatClampNeg) 111 f160_110 rfl (hb_56 _ _ _ _) rfl hc1 (zix (by decide) hc1 (show ¬ 8 ≤ a from ix_le hp.1 (by decide) (by decide) hc1 hc2)) (congrFun ((hR.2.1 56 (by omega) (by omega))) a.toNatClampNeg) ?_
            refine zw_goto 115 f160_111 (by decide +kernel) ?_
            refine zw_ireturn f160_115 r160 u160 ?_
            exact ⟨_, _, _, _, rfl, KQ.rf, ⟨hi.1, hi.2.1, t, by omega, et⟩, by rw [show an_told nv P W a b = (P 56 a.toNatClampNeg) from ((cI_y (qV.of (by omega) hc1 hc2)).trans ((cI_n (kne (show b = 3 from hs3e) (by decide))).trans ((cI_n (kne (show b = 3 from hs3e) (by decide))).trans ((cI_n (kne (show b = 3 from hs3e) (by decide))).trans ((cI_y (show b = 3 from hs3e)).trans (cI_y (Or.inl hc6)))))))]⟩
          · refine zw_aload_n 11 f126_10 rfl rfl ?_
            refine zw_getfield 14 f126_11 rfl g126_7_12 (hb_52 _ _ _ _) rfl ?_
            refine zw_iload_n 15 f126_14 rfl rfl ?_
            refine zw_iaload a.toNatClampNeg (P 53 a.toNatClampNeg) 16 f126_15 rfl (hb_53 _ _ _ _) rfl hc1 (zix (by decide) hc1 (show ¬ 8 ≤ a from ix_le hp.1 (by decide) (by decide) hc1 hc2)) (congrFun ((hR.2.1 53 (by omega) (by omega))) a.toNatClampNeg) ?_
            refine zw_iconst 4 17 f126_16 rfl (by decide +kernel) ?_
            refine zw_ic_ne 20 24 f126_17 (by decide +kernel) rfl (fun hc7 => ?_) (fun hc7 => ?_)
            · refine zw_iconst 0 25 f126_24 rfl (by decide +kernel) ?_
              refine zw_zreturn f126_25 r126 u126 (by decide +kernel) ⟨_, rfl, ?_⟩
              refine zw_if_eq_t 114 f160_102 (by decide +kernel) (by decide +kernel) ?_
              refine zw_iconst (-1) 115 f160_114 rfl (by decide +kernel) ?_
              refine zw_ireturn f160_115 r160 u160 ?_
              exact ⟨_, _, _, _, rfl, KQ.rf, ⟨hi.1, hi.2.1, t, by omega, et⟩, by rw [show an_told nv P W a b = (-1) from ((cI_y (qV.of (by omega) hc1 hc2)).trans ((cI_n (kne (show b = 3 from hs3e) (by decide))).trans ((cI_n (kne (show b = 3 from hs3e) (by decide))).trans ((cI_n (kne (show b = 3 from hs3e) (by decide))).trans ((cI_y (show b = 3 from hs3e)).trans (cI_n (fun q => q.elim hc6 hc7)))))))]⟩
            · refine zw_iconst 1 21 f126_20 rfl (by decide +kernel) ?_
              refine zw_goto 25 f126_21 (by decide +kernel) ?_
              refine zw_zreturn f126_25 r126 u126 (by decide +kernel) ⟨_, rfl, ?_⟩
              refine zw_if_eq_f 105 114 f160_102 (by decide +kernel) rfl (by decide +kernel) ?_
              refine zw_aload_n 106 f160_105 rfl (zl1_ne rfl rfl rfl) ?_
              refine zw_getfield 109 f160_106 rfl g160_19_12 (hb_52 _ _ _ _) rfl ?_
              refine zw_iload_n 110 f160_109 rfl (zl1_ne rfl rfl rfl) ?_
              refine zw_iaload a.toNatClampNeg (P 56 a.toNatClampNeg) 111 f160_110 rfl (hb_56 _ _ _ _) rfl hc1 (zix (by decide) hc1 (show ¬ 8 ≤ a from ix_le hp.1 (by decide) (by decide) hc1 hc2)) (congrFun ((hR.2.1 56 (by omega) (by omega))) a.toNatClampNeg) ?_
              refine zw_goto 115 f160_111 (by decide +kernel) ?_
              refine zw_ireturn f160_115 r160 u160 ?_
              exact ⟨_, _, _, _, rfl, KQ.rf, ⟨hi.1, hi.2.1, t, by omega, et⟩, by rw [show an_told nv P W a b = (P 56 a.toNatClampNeg) from ((cI_y (qV.of (by omega) hc1 hc2)).trans ((cI_n (kne (show b = 3 from hs3e) (by decide))).trans ((cI_n (kne (show b = 3 from hs3e) (by decide))).trans ((cI_n (kne (show b = 3 from hs3e) (by decide))).trans ((cI_y (show b = 3 from hs3e)).trans (cI_y (Or.inr (Decidable.of_not_not hc7))))))))]⟩
        · refine zw_table_k 98 116 f160_18 hs3e (by decide +kernel) (by decide +kernel) (by decide +kernel) ?_
          refine zw_aload_n 117 f160_116 rfl (zl1_ne rfl rfl rfl) ?_
          refine zw_getfield 120 f160_117 rfl g160_22_12 (hb_52 _ _ _ _) rfl ?_
          refine zw_iload_n 121 f160_120 rfl (zl1_ne rfl rfl rfl) ?_
          refine zw_iaload a.toNatClampNeg (P 57 a.toNatClampNeg) 122 f160_121 rfl (hb_57 _ _ _ _) rfl hc1 (zix (by decide) hc1 (show ¬ 8 ≤ a from ix_le hp.1 (by decide) (by decide) hc1 hc2)) (congrFun ((hR.2.1 57 (by omega) (by omega))) a.toNatClampNeg) ?_
          refine zw_ireturn f160_122 r160 u160 ?_
          exact ⟨_, _, _, _, rfl, KQ.rf, ⟨hi.1, hi.2.1, t, by omega, et⟩, by rw [show an_told nv P W a b = (P 57 a.toNatClampNeg) from ((cI_y (qV.of (by omega) hc1 hc2)).trans ((cI_n (kne (show b = 4 from hs3e) (by decide))).trans ((cI_n (kne (show b = 4 from hs3e) (by decide))).trans ((cI_n (kne (show b = 4 from hs3e) (by decide))).trans ((cI_n (kne (show b = 4 from hs3e) (by decide))).trans ((cI_y (show b = 4 from hs3e)).trans rfl))))))]⟩
        · refine zw_table_k 105 123 f160_18 hs3e (by decide +kernel) (by decide +kernel) (by decide +kernel) ?_
          refine zw_aload_n 124 f160_123 rfl (zl1_ne rfl rfl rfl) ?_
          refine zw_getfield 127 f160_124 rfl g160_25_12 (hb_52 _ _ _ _) rfl ?_
          refine zw_iload_n 128 f160_127 rfl (zl1_ne rfl rfl rfl) ?_
          refine zw_iaload a.toNatClampNeg (P 58 a.toNatClampNeg) 129 f160_128 rfl (hb_58 _ _ _ _) rfl hc1 (zix (by decide) hc1 (show ¬ 8 ≤ a from ix_le hp.1 (by decide) (by decide) hc1 hc2)) (congrFun ((hR.2.1 58 (by omega) (by omega))) a.toNatClampNeg) ?_
          refine zw_ireturn f160_129 r160 u160 ?_
          exact ⟨_, _, _, _, rfl, KQ.rf, ⟨hi.1, hi.2.1, t, by omega, et⟩, by rw [show an_told nv P W a b = (P 58 a.toNatClampNeg) from ((cI_y (qV.of (by omega) hc1 hc2)).trans ((cI_n (kne (show b = 5 from hs3e) (by decide))).trans ((cI_n (kne (show b = 5 from hs3e) (by decide))).trans ((cI_n (kne (show b = 5 from hs3e) (by decide))).trans ((cI_n (kne (show b = 5 from hs3e) (by decide))).trans ((cI_n (kne (show b = 5 from hs3e) (by decide))).trans ((cI_y (show b = 5 from hs3e)).trans rfl)))))))]⟩
        · refine zw_table_k 112 130 f160_18 hs3e (by decide +kernel) (by decide +kernel) (by decide +kernel) ?_
          refine zw_aload_n 131 f160_130 rfl (zl1_ne rfl rfl rfl) ?_
          refine zw_getfield 134 f160_131 rfl g160_28_12 (hb_52 _ _ _ _) rfl ?_
          refine zw_iload_n 135 f160_134 rfl (zl1_ne rfl rfl rfl) ?_
          refine zw_iaload a.toNatClampNeg (P 59 a.toNatClampNeg) 136 f160_135 rfl (hb_59 _ _ _ _) rfl hc1 (zix (by decide) hc1 (show ¬ 8 ≤ a from ix_le hp.1 (by decide) (by decide) hc1 hc2)) (congrFun ((hR.2.1 59 (by omega) (by omega))) a.toNatClampNeg) ?_
          refine zw_ireturn f160_136 r160 u160 ?_
          exact ⟨_, _, _, _, rfl, KQ.rf, ⟨hi.1, hi.2.1, t, by omega, et⟩, by rw [show an_told nv P W a b = (P 59 a.toNatClampNeg) from ((cI_y (qV.of (by omega) hc1 hc2)).trans ((cI_n (kne (show b = 6 from hs3e) (by decide))).trans ((cI_n (kne (show b = 6 from hs3e) (by decide))).trans ((cI_n (kne (show b = 6 from hs3e) (by decide))).trans ((cI_n (kne (show b = 6 from hs3e) (by decide))).trans ((cI_n (kne (show b = 6 from hs3e) (by decide))).trans ((cI_n (kne (show b = 6 from hs3e) (by decide))).trans ((cI_y (show b = 6 from hs3e)).trans rfl))))))))]⟩
        · refine zw_table_k 119 137 f160_18 hs3e (by decide +kernel) (by decide +kernel) (by decide +kernel) ?_
          refine zw_iload_n 138 f160_137 rfl zl1_eq ?_
          refine zw_iconst 1 139 f160_138 rfl (by decide +kernel) ?_
          refine zw_ic_eq 142 146 f160_139 (by decide +kernel) rfl (fun hc8 => ?_) (fun hc8 => ?_)
          · refine zw_aload_n 147 f160_146 rfl (zl1_ne rfl rfl rfl) ?_
            refine zw_getfield 150 f160_147 rfl g160_52_12 (hb_52 _ _ _ _) rfl ?_
            refine zw_iload_n 151 f160_150 rfl (zl1_ne rfl rfl rfl) ?_
            refine zw_baload a.toNatClampNeg ((W.2.2.2.2.2.1) a.toNatClampNeg) 152 f160_151 rfl (hb_65 _ _ _ _) rfl hc1 (zix (by decide) hc1 (show ¬ 8 ≤ a from ix_le hp.1 (by decide) (by decide) hc1 hc2)) (congrFun (hR.sip) a.toNatClampNeg) ?_
            refine zw_if_eq 155 159 f160_152 (by decide +kernel) rfl (fun hc9 => ?_) (fun hc9 => ?_)
            · refine zw_iconst 0 160 f160_159 rfl (by decide +kernel) ?_
              refine zw_ireturn f160_160 r160 u160 ?_
              exact ⟨_, _, _, _, rfl, KQ.rf, ⟨hi.1, hi.2.1, t, by omega, et⟩, by rw [show an_told nv P W a b = 0 from ((cI_y (qV.of (by omega) hc1 hc2)).trans ((cI_n (kne (show b = 7 from hs3e) (by decide))).trans ((cI_n (kne (show b = 7 from hs3e) (by decide))).trans ((cI_n (kne (show b = 7 from hs3e) (by decide))).trans ((cI_n (kne (show b = 7 from hs3e) (by decide))).trans ((cI_n (kne (show b = 7 from hs3e) (by decide))).trans ((cI_n (kne (show b = 7 from hs3e) (by decide))).trans ((cI_n (kne (show b = 7 from hs3e) (by decide))).trans ((cI_y (show b = 7 from hs3e)).trans ((cI_y hc8).trans hc9))))))))))]⟩
            · refine zw_iconst 1 156 f160_155 rfl (by decide +kernel) ?_
              refine zw_goto 160 f160_156 (by decide +kernel) ?_
              refine zw_ireturn f160_160 r160 u160 ?_
              exact ⟨_, _, _, _, rfl, KQ.rf, ⟨hi.1, hi.2.1, t, by omega, et⟩, by rw [show an_told nv P W a b = 1 from ((cI_y (qV.of (by omega) hc1 hc2)).trans ((cI_n (kne (show b = 7 from hs3e) (by decide))).trans ((cI_n (kne (show b = 7 from hs3e) (by decide))).trans ((cI_n (kne (show b = 7 from hs3e) (by decide))).trans ((cI_n (kne (show b = 7 from hs3e) (by decide))).trans ((cI_n (kne (show b = 7 from hs3e) (by decide))).trans ((cI_n (kne (show b = 7 from hs3e) (by decide))).trans ((cI_n (kne (show b = 7 from hs3e) (by decide))).trans ((cI_y (show b = 7 from hs3e)).trans ((cI_y hc8).trans ((hW.2.1.2 a.toNatClampNeg (by have q := ((qV.of (by omega) hc1 hc2)).1; omega)).resolve_left hc9)))))))))))]⟩
          · refine zw_iconst (-1) 143 f160_142 rfl (by decide +kernel) ?_
            refine zw_goto 160 f160_143 (by decide +kernel) ?_
            refine zw_ireturn f160_160 r160 u160 ?_
            exact ⟨_, _, _, _, rfl, KQ.rf, ⟨hi.1, hi.2.1, t, by omega, et⟩, by rw [show an_told nv P W a b = (-1) from ((cI_y (qV.of (by omega) hc1 hc2)).trans ((cI_n (kne (show b = 7 from hs3e) (by decide))).trans ((cI_n (kne (show b = 7 from hs3e) (by decide))).trans ((cI_n (kne (show b = 7 from hs3e) (by decide))).trans ((cI_n (kne (show b = 7 from hs3e) (by decide))).trans ((cI_n (kne (show b = 7 from hs3e) (by decide))).trans ((cI_n (kne (show b = 7 from hs3e) (by decide))).trans ((cI_n (kne (show b = 7 from hs3e) (by decide))).trans ((cI_y (show b = 7 from hs3e)).trans (cI_n hc8))))))))))]⟩
        · refine zw_table_k 143 161 f160_18 hs3e (by decide +kernel) (by decide +kernel) (by decide +kernel) ?_
          refine zw_iload_n 162 f160_161 rfl zl1_eq ?_
          refine zw_iconst 4 163 f160_162 rfl (by decide +kernel) ?_
          refine zw_ic_eq 166 170 f160_163 (by decide +kernel) rfl (fun hc10 => ?_) (fun hc10 => ?_)
          · refine zw_aload_n 171 f160_170 rfl (zl1_ne rfl rfl rfl) ?_
            refine zw_getfield 174 f160_171 rfl g160_55_12 (hb_52 _ _ _ _) rfl ?_
            refine zw_iload_n 175 f160_174 rfl (zl1_ne rfl rfl rfl) ?_
            refine zw_iaload a.toNatClampNeg ((W.2.2.2.2.2.2.2) a.toNatClampNeg) 176 f160_175 rfl (hb_66 _ _ _ _) rfl hc1 (zix (by decide) hc1 (show ¬ 8 ≤ a from ix_le hp.1 (by decide) (by decide) hc1 hc2)) (congrFun (hR.cnt) a.toNatClampNeg) ?_
            refine zw_ireturn f160_176 r160 u160 ?_
            exact ⟨_, _, _, _, rfl, KQ.rf, ⟨hi.1, hi.2.1, t, by omega, et⟩, by rw [show an_told nv P W a b = ((W.2.2.2.2.2.2.2) a.toNatClampNeg) from ((cI_y (qV.of (by omega) hc1 hc2)).trans ((cI_n (kne (show b = 8 from hs3e) (by decide))).trans ((cI_n (kne (show b = 8 from hs3e) (by decide))).trans ((cI_n (kne (show b = 8 from hs3e) (by decide))).trans ((cI_n (kne (show b = 8 from hs3e) (by decide))).trans ((cI_n (kne (show b = 8 from hs3e) (by decide))).trans ((cI_n (kne (show b = 8 from hs3e) (by decide))).trans ((cI_n (kne (show b = 8 from hs3e) (by decide))).trans ((cI_n (kne (show b = 8 from hs3e) (by decide))).trans ((cI_y (show b = 8 from hs3e)).trans (cI_y hc10)))))))))))]⟩
          · refine zw_iconst (-1) 167 f160_166 rfl (by decide +kernel) ?_
            refine zw_goto 176 f160_167 (by decide +kernel) ?_
            refine zw_ireturn f160_176 r160 u160 ?_
            exact ⟨_, _, _, _, rfl, KQ.rf, ⟨hi.1, hi.2.1, t, by omega, et⟩, by rw [show an_told nv P W a b = (-1) from ((cI_y (qV.of (by omega) hc1 hc2)).trans ((cI_n (kne (show b = 8 from hs3e) (by decide))).trans ((cI_n (kne (show b = 8 from hs3e) (by decide))).trans ((cI_n (kne (show b = 8 from hs3e) (by decide))).trans ((cI_n (kne (show b = 8 from hs3e) (by decide))).trans ((cI_n (kne (show b = 8 from hs3e) (by decide))).trans ((cI_n (kne (show b = 8 from hs3e) (by decide))).trans ((cI_n (kne (show b = 8 from hs3e) (by decide))).trans ((cI_n (kne (show b = 8 from hs3e) (by decide))).trans ((cI_y (show b = 8 from hs3e)).trans (cI_n hc10)))))))))))]⟩
set_option maxHeartbeats 0 in
theorem pairX_toldx (ro : UInt32 → Nat × (Nat → Int32)) (k : Nat) (I : Nat → Nat → Int32) (G : Nat → Nat → Int64) (A : Nat → Nat → Int32) (B : Nat → Nat → Int64) (h : zCx k I G A B) (hk : k < 512) (a : Int32) (b : Int32) : zWp ro 94 0 [(0, .ref 0), (1, .int a), (2, .int b)] [] (hS I G A B) 0 0 (zPX ro 160 [(0, .ref 52), (1, .int a), (2, .int b)] k (fun v w => v = w)) := by
  obtain ⟨nv, np, W, L, F, R, ow, kd, lw, lg⟩ := h
  have fn := F.2.2.2.2.2
  refine zWp.mono (cq_told ro nv np A W L (242600 * k) I G A B R F.2.1 ow F.2.2.1 kd lg (by omega) a b) ?_
  rintro r h1 ⟨I1, G1, A1, B1, rfl, K1, rfl⟩
  have F1 := F.kq K1 fNe_52 pNe_52
  have e1 : PE A A1 := fun k _ _ => (K1.2.2.1 k (pNe_52 k (by omega))).symm
  have R1 := R.k K1 ⟨rfl, rfl⟩ (fun j h1 h2 => by simp only [fNe, decide_eq_false_iff_not]; omega) (fun k h1 h2 => by simp only [pNe, decide_eq_false_iff_not]; omega)
  have g1 := lg.k K1 rfl rfl rfl rfl rfl
  refine ⟨_, rfl, zWp.mono (mx_told ro nv np A W L I1 G1 A1 B1 (242600 * k) ⟨F1.1.1, e1.sy, F1.1.2.2⟩ F.2.1 F.2.2.1 (by omega) F1.2.2.2.1 F1.2.2.2.2.1 a b) ?_⟩
  rintro r2 h2 ⟨I2, G2, A2, B2, rfl, K2, id2, rfl⟩
  have R2 := F1.1.k K2 fQu_R pQu_R
  refine ⟨_, rfl, ?_, rfl⟩
  exact zCx.mk (zRf.of R2 F1.2.1 F1.2.2.1 F1.2.2.2.1 id2 fn) (by omega) (by omega) R1 (e1.tr R2.2.1.sy) K2 fQu_c pQu_c ow kd lw g1
theorem pair2_toldx (ro : UInt32 → Nat × (Nat → Int32)) (k : Nat) (I : Nat → Nat → Int32) (G : Nat → Nat → Int64) (A : Nat → Nat → Int32) (B : Nat → Nat → Int64) (h : zL2 k I G A B) (hk : k < 512) (a : Int32) (b : Int32) : zWp ro 94 0 [(0, .ref 0), (1, .int a), (2, .int b)] [] (hS I G A B) 0 0 (zP2 ro 160 [(0, .ref 52), (1, .int a), (2, .int b)] k (fun v w => v = w)) := by
  obtain ⟨h1, I3, G3, A3, B3, eh, hx⟩ := h
  have p1 := pair_told ro k I G A B h1 hk a b
  have p2 := pairX_toldx ro k I3 G3 A3 B3 hx hk a b
  rw [← eh] at p2
  exact zP_and p1 p2
