def fAc (k j : Nat) : Bool := decide ((k = 0 ∧ j = 7) ∨ k = 44)
def pAc (k : Nat) : Bool := decide (k = 45)
theorem fAc_52 : ∀ k j, 52 ≤ k → fAc k j = false := by
  intro k j h
  simp only [fAc, decide_eq_false_iff_not]
  omega
theorem pAc_52 : ∀ k, 52 ≤ k → pAc k = false := by
  intro k h
  simp only [pAc, decide_eq_false_iff_not]
  omega
noncomputable def an_ac (kd br hi lo ct b c : Int32) : Int32 := cI (b = 0) (cI (kd = 0) (c + br) (cI (kd = 1) (c + br) (cI (kd = 2) ((c + br) * 2) (cI (kd = 3) ((c + hi) + br) (cI (kd = 4) ((c + hi) + br) 0))))) (cI (b = 1) (cI (kd = 0) ((c + br) * 3) (cI (kd = 1) (((c + br) * 3) + hi) (cI (kd = 2) (((c + br) * 2) * 3) (cI (kd = 3) (((c + hi) + br) * 3) (cI (kd = 4) ((((c + hi) + br) * 3) ^^^ ct) 0))))) (cI (b = 2) (cI (kd = 0) (c ^^^ br) (cI (kd = 1) (c ^^^ br) (cI (kd = 2) (c ^^^ br) (cI (kd = 3) ((c ^^^ br) + lo) (cI (kd = 4) (((c ^^^ br) + lo) + ct) 0))))) (cI (kd = 0) (((c + br) * 3) - (c ^^^ br)) (cI (kd = 1) (((((c * 2) + br) * 3) + hi) - ((c * 2) ^^^ br)) (cI (kd = 2) ((((c + br) * 2) * 3) - (c ^^^ br)) (cI (kd = 3) ((((c + hi) + br) * 3) - ((c ^^^ br) + lo)) (cI (kd = 4) (((((c + hi) + br) * 3) ^^^ ct) - (((c ^^^ br) + lo) + ct)) 0)))))))
noncomputable def an_act (nv : Nat) (P : Nat → Nat → Int32) (W : qW) (a b c : Int32) : Int32 := cI (qV nv a ∧ qRg b 0 3) (an_ac (P 53 a.toNatClampNeg) (P 54 a.toNatClampNeg) (P 55 a.toNatClampNeg) (P 56 a.toNatClampNeg) (W.2.2.2.2.2.2.2 a.toNatClampNeg) b c) (-1)
set_option maxRecDepth 100000 in
set_option maxHeartbeats 0 in
theorem cq_act (ro : UInt32 → Nat × (Nat → Int32)) (nv np : Nat) (P : Nat → Nat → Int32) (W : qW) (L : qLog) (K : Int) (I : Nat → Nat → Int32) (G : Nat → Nat → Int64) (A : Nat → Nat → Int32) (B : Nat → Nat → Int64) (hR : cRS 11 nv np P W I G A B) (hp : MPa nv np P) (hq : qOw nv np P) (hW : wInv nv 10000 K P W) (hQ : qKd nv P) (hL : cLg L I A) (hn : L.1 < 900000000) (a b c : Int32) : zWp ro 101 0 [(0, .ref 0), (1, .int a), (2, .int b), (3, .int c)] [] (hS I G A B) 0 0 (fun r h1 => ∃ I2 G2 A2 B2, h1 = hS I2 G2 A2 B2 ∧ KQ fAc pAc I G A B I2 G2 A2 B2 ∧ r = some (.int (an_act nv P W a b c))) := by
  have h8 := hp.1
  have h14 := hp.2.1
  refine zw_aload_n 1 f101_0 rfl rfl ?_
  refine zw_getfield 4 f101_1 rfl g101_10_11 (hb_0 _ _ _ _) rfl ?_
  refine zw_iload_n 5 f101_4 rfl rfl ?_
  refine zw_virtual_i 8 0 0 [.ref 1, .int a] [(0, .ref 1), (1, .int a)] f101_5 rfl n101_112 k101_112_4 rfl (hb_1 _ _ _ _) (by decide +kernel) (Nat.le_of_ble_eq_true rfl) rfl rfl (by decide +kernel) (by decide +kernel) rfl (Nat.le_of_ble_eq_true rfl) rfl ?_
  refine zw_iload_n 1 f15_0 rfl rfl ?_
  refine zw_if_lt 4 27 f15_1 (by decide +kernel) rfl (fun hc1 => ?_) (fun hc1 => ?_)
  · refine zw_iconst (-1) 28 f15_27 rfl (by decide +kernel) ?_
    refine zw_ireturn f15_28 r15 u15 ⟨_, rfl, ?_⟩
    refine zw_istore _ 10 f101_8 rfl (by decide +kernel) rfl ?_
    refine zw_iload 12 f101_10 rfl zl1_eq ?_
    refine zw_iconst 0 13 f101_12 rfl (by decide +kernel) ?_
    refine zw_iconst 4 14 f101_13 rfl (by decide +kernel) ?_
    refine zw_static_i 17 0 0 [.int (-1), .int 0, .int 4] [] [(0, .int (-1)), (1, .int 0), (2, .int 4)] f101_14 rfl k101_74_99 rfl (by decide +kernel) (Nat.le_of_ble_eq_true rfl) (Nat.le_of_ble_eq_true rfl) rfl rfl (by decide +kernel) (by decide +kernel) rfl (Nat.le_of_ble_eq_true rfl) rfl ?_
    refine zw_iload_n 1 f112_0 rfl rfl ?_
    refine zw_iload_n 2 f112_1 rfl rfl ?_
    refine zw_ic_lt_t 14 f112_2 (by decide +kernel) (by decide +kernel) ?_
    refine zw_iconst 0 15 f112_14 rfl (by decide +kernel) ?_
    refine zw_zreturn f112_15 r112 u112 (by decide +kernel) ⟨_, rfl, ?_⟩
    refine zw_if_eq_t 29 f101_17 (by decide +kernel) (by decide +kernel) ?_
    refine zw_aload_n 30 f101_29 rfl (zl1_ne rfl rfl rfl) ?_
    refine zw_iconst 1 31 f101_30 rfl (by decide +kernel) ?_
    refine zw_virtual_i 34 0 0 [.ref 0, .int 1] [(0, .ref 0), (1, .int 1)] f101_31 rfl n101_78 k101_78_11 rfl (hb_0 _ _ _ _) (by decide +kernel) (Nat.le_of_ble_eq_true rfl) rfl rfl (by decide +kernel) (by decide +kernel) rfl (Nat.le_of_ble_eq_true rfl) rfl ?_
    refine zw_aload_n 1 f105_0 rfl rfl ?_
    refine zw_iload_n 2 f105_1 rfl rfl ?_
    refine zw_put _ 5 f105_2 rfl g105_70_11 (hb_0 _ _ _ _) rfl (Nat.le_of_ble_eq_true rfl) (by decide +kernel) (hi_0_7 _ _ _ _ _) ?_
    refine zw_iconst (-1) 6 f105_5 rfl (by decide +kernel) ?_
    refine zw_ireturn f105_6 r105 u105 ⟨_, rfl, ?_⟩
    refine zw_ireturn f101_34 r101 u101 ?_
    exact ⟨_, _, _, _, rfl, (KQ.i rfl KQ.rf), by rw [show an_act nv P W a b c = (-1) from (cI_n (fun q => (qV.n0 (by omega) hc1) q.1))]⟩
  · refine zw_iload_n 5 f15_4 rfl rfl ?_
    refine zw_aload_n 6 f15_5 rfl rfl ?_
    refine zw_getI (nI nv) 9 f15_6 rfl g15_39_4 (hb_1 _ _ _ _) rfl hR.1.1 ?_
    refine zw_ic_ge 12 27 f15_9 (by decide +kernel) rfl (fun hc2 => ?_) (fun hc2 => ?_)
    · refine zw_iconst (-1) 28 f15_27 rfl (by decide +kernel) ?_
      refine zw_ireturn f15_28 r15 u15 ⟨_, rfl, ?_⟩
      refine zw_istore _ 10 f101_8 rfl (by decide +kernel) rfl ?_
      refine zw_iload 12 f101_10 rfl zl1_eq ?_
      refine zw_iconst 0 13 f101_12 rfl (by decide +kernel) ?_
      refine zw_iconst 4 14 f101_13 rfl (by decide +kernel) ?_
      refine zw_static_i 17 0 0 [.int (-1), .int 0, .int 4] [] [(0, .int (-1)), (1, .int 0), (2, .int 4)] f101_14 rfl k101_74_99 rfl (by decide +kernel) (Nat.le_of_ble_eq_true rfl) (Nat.le_of_ble_eq_true rfl) rfl rfl (by decide +kernel) (by decide +kernel) rfl (Nat.le_of_ble_eq_true rfl) rfl ?_
      refine zw_iload_n 1 f112_0 rfl rfl ?_
      refine zw_iload_n 2 f112_1 rfl rfl ?_
      refine zw_ic_lt_t 14 f112_2 (by decide +kernel) (by decide +kernel) ?_
      refine zw_iconst 0 15 f112_14 rfl (by decide +kernel) ?_
      refine zw_zreturn f112_15 r112 u112 (by decide +kernel) ⟨_, rfl, ?_⟩
      refine zw_if_eq_t 29 f101_17 (by decide +kernel) (by decide +kernel) ?_
      refine zw_aload_n 30 f101_29 rfl (zl1_ne rfl rfl rfl) ?_
      refine zw_iconst 1 31 f101_30 rfl (by decide +kernel) ?_
      refine zw_virtual_i 34 0 0 [.ref 0, .int 1] [(0, .ref 0), (1, .int 1)] f101_31 rfl n101_78 k101_78_11 rfl (hb_0 _ _ _ _) (by decide +kernel) (Nat.le_of_ble_eq_true rfl) rfl rfl (by decide +kernel) (by decide +kernel) rfl (Nat.le_of_ble_eq_true rfl) rfl ?_
      refine zw_aload_n 1 f105_0 rfl rfl ?_
      refine zw_iload_n 2 f105_1 rfl rfl ?_
      refine zw_put _ 5 f105_2 rfl g105_70_11 (hb_0 _ _ _ _) rfl (Nat.le_of_ble_eq_true rfl) (by decide +kernel) (hi_0_7 _ _ _ _ _) ?_
      refine zw_iconst (-1) 6 f105_5 rfl (by decide +kernel) ?_
      refine zw_ireturn f105_6 r105 u105 ⟨_, rfl, ?_⟩
      refine zw_ireturn f101_34 r101 u101 ?_
      exact ⟨_, _, _, _, rfl, (KQ.i rfl KQ.rf), by rw [show an_act nv P W a b c = (-1) from (cI_n (fun q => (qV.n2 (by omega) hc2) q.1))]⟩
    · refine zw_iload_n 13 f15_12 rfl rfl ?_
      refine zw_bipush 8 15 f15_13 rfl (by decide +kernel) ?_
      refine zw_ic_ge 18 27 f15_15 (by decide +kernel) rfl (fun hc3 => ?_) (fun hc3 => ?_)
      · refine zw_iconst (-1) 28 f15_27 rfl (by decide +kernel) ?_
        refine zw_ireturn f15_28 r15 u15 ⟨_, rfl, ?_⟩
        refine zw_istore _ 10 f101_8 rfl (by decide +kernel) rfl ?_
        refine zw_iload 12 f101_10 rfl zl1_eq ?_
        refine zw_iconst 0 13 f101_12 rfl (by decide +kernel) ?_
        refine zw_iconst 4 14 f101_13 rfl (by decide +kernel) ?_
        refine zw_static_i 17 0 0 [.int (-1), .int 0, .int 4] [] [(0, .int (-1)), (1, .int 0), (2, .int 4)] f101_14 rfl k101_74_99 rfl (by decide +kernel) (Nat.le_of_ble_eq_true rfl) (Nat.le_of_ble_eq_true rfl) rfl rfl (by decide +kernel) (by decide +kernel) rfl (Nat.le_of_ble_eq_true rfl) rfl ?_
        refine zw_iload_n 1 f112_0 rfl rfl ?_
        refine zw_iload_n 2 f112_1 rfl rfl ?_
        refine zw_ic_lt_t 14 f112_2 (by decide +kernel) (by decide +kernel) ?_
        refine zw_iconst 0 15 f112_14 rfl (by decide +kernel) ?_
        refine zw_zreturn f112_15 r112 u112 (by decide +kernel) ⟨_, rfl, ?_⟩
        refine zw_if_eq_t 29 f101_17 (by decide +kernel) (by decide +kernel) ?_
        refine zw_aload_n 30 f101_29 rfl (zl1_ne rfl rfl rfl) ?_
        refine zw_iconst 1 31 f101_30 rfl (by decide +kernel) ?_
        refine zw_virtual_i 34 0 0 [.ref 0, .int 1] [(0, .ref 0), (1, .int 1)] f101_31 rfl n101_78 k101_78_11 rfl (hb_0 _ _ _ _) (by decide +kernel) (Nat.le_of_ble_eq_true rfl) rfl rfl (by decide +kernel) (by decide +kernel) rfl (Nat.le_of_ble_eq_true rfl) rfl ?_
        refine zw_aload_n 1 f105_0 rfl rfl ?_
        refine zw_iload_n 2 f105_1 rfl rfl ?_
        refine zw_put _ 5 f105_2 rfl g105_70_11 (hb_0 _ _ _ _) rfl (Nat.le_of_ble_eq_true rfl) (by decide +kernel) (hi_0_7 _ _ _ _ _) ?_
        refine zw_iconst (-1) 6 f105_5 rfl (by decide +kernel) ?_
        refine zw_ireturn f105_6 r105 u105 ⟨_, rfl, ?_⟩
        refine zw_ireturn f101_34 r101 u101 ?_
        exact ⟨_, _, _, _, rfl, (KQ.i rfl KQ.rf), by rw [show an_act nv P W a b c = (-1) from (cI_n (fun q => (qV.n3 (m := 8) (N := 8) (by omega) (by omega) (by decide) hc3) q.1))]⟩
      · refine zw_aload_n 19 f15_18 rfl rfl ?_
        refine zw_getfield 22 f15_19 rfl g15_9_4 (hb_1 _ _ _ _) rfl ?_
        refine zw_iload_n 23 f15_22 rfl rfl ?_
        refine zw_iaload a.toNatClampNeg (P 53 a.toNatClampNeg) 24 f15_23 rfl (hb_2 _ _ _ _) rfl hc1 (zix (by decide) hc1 hc3) (congrFun ((hR.2.1 53 (by omega) (by omega))) a.toNatClampNeg) ?_
        refine zw_goto 28 f15_24 (by decide +kernel) ?_
        refine zw_ireturn f15_28 r15 u15 ⟨_, rfl, ?_⟩
        refine zw_istore _ 10 f101_8 rfl (by decide +kernel) rfl ?_
        refine zw_iload 12 f101_10 rfl zl1_eq ?_
        refine zw_iconst 0 13 f101_12 rfl (by decide +kernel) ?_
        refine zw_iconst 4 14 f101_13 rfl (by decide +kernel) ?_
        refine zw_static_i 17 0 0 [.int (P 53 a.toNatClampNeg), .int 0, .int 4] [] [(0, .int (P 53 a.toNatClampNeg)), (1, .int 0), (2, .int 4)] f101_14 rfl k101_74_99 rfl (by decide +kernel) (Nat.le_of_ble_eq_true rfl) (Nat.le_of_ble_eq_true rfl) rfl rfl (by decide +kernel) (by decide +kernel) rfl (Nat.le_of_ble_eq_true rfl) rfl ?_
        refine zw_iload_n 1 f112_0 rfl rfl ?_
        refine zw_iload_n 2 f112_1 rfl rfl ?_
        refine zw_ic_lt_f 5 14 f112_2 (by decide +kernel) rfl (hQ.1 _ ((qV.ofc (by omega) hc1 hc2)).1).1 ?_
        refine zw_iload_n 6 f112_5 rfl rfl ?_
        refine zw_iload_n 7 f112_6 rfl rfl ?_
        refine zw_ic_gt_f 10 14 f112_7 (by decide +kernel) rfl (hQ.1 _ ((qV.ofc (by omega) hc1 hc2)).1).2 ?_
        refine zw_iconst 1 11 f112_10 rfl (by decide +kernel) ?_
        refine zw_goto 15 f112_11 (by decide +kernel) ?_
        refine zw_zreturn f112_15 r112 u112 (by decide +kernel) ⟨_, rfl, ?_⟩
        refine zw_if_eq_f 20 29 f101_17 (by decide +kernel) rfl (by decide +kernel) ?_
        refine zw_iload_n 21 f101_20 rfl (zl1_ne rfl rfl rfl) ?_
        refine zw_iconst 0 22 f101_21 rfl (by decide +kernel) ?_
        refine zw_iconst 3 23 f101_22 rfl (by decide +kernel) ?_
        refine zw_static_i 26 0 0 [.int b, .int 0, .int 3] [] [(0, .int b), (1, .int 0), (2, .int 3)] f101_23 rfl k101_74_99 rfl (by decide +kernel) (Nat.le_of_ble_eq_true rfl) (Nat.le_of_ble_eq_true rfl) rfl rfl (by decide +kernel) (by decide +kernel) rfl (Nat.le_of_ble_eq_true rfl) rfl ?_
        refine zw_iload_n 1 f112_0 rfl rfl ?_
        refine zw_iload_n 2 f112_1 rfl rfl ?_
        refine zw_ic_lt 5 14 f112_2 (by decide +kernel) rfl (fun hc4 => ?_) (fun hc4 => ?_)
        · refine zw_iconst 0 15 f112_14 rfl (by decide +kernel) ?_
          refine zw_zreturn f112_15 r112 u112 (by decide +kernel) ⟨_, rfl, ?_⟩
          refine zw_if_ne_f 29 35 f101_26 (by decide +kernel) rfl (by decide +kernel) ?_
          refine zw_aload_n 30 f101_29 rfl (zl1_ne rfl rfl rfl) ?_
          refine zw_iconst 1 31 f101_30 rfl (by decide +kernel) ?_
          refine zw_virtual_i 34 0 0 [.ref 0, .int 1] [(0, .ref 0), (1, .int 1)] f101_31 rfl n101_78 k101_78_11 rfl (hb_0 _ _ _ _) (by decide +kernel) (Nat.le_of_ble_eq_true rfl) rfl rfl (by decide +kernel) (by decide +kernel) rfl (Nat.le_of_ble_eq_true rfl) rfl ?_
          refine zw_aload_n 1 f105_0 rfl rfl ?_
          refine zw_iload_n 2 f105_1 rfl rfl ?_
          refine zw_put _ 5 f105_2 rfl g105_70_11 (hb_0 _ _ _ _) rfl (Nat.le_of_ble_eq_true rfl) (by decide +kernel) (hi_0_7 _ _ _ _ _) ?_
          refine zw_iconst (-1) 6 f105_5 rfl (by decide +kernel) ?_
          refine zw_ireturn f105_6 r105 u105 ⟨_, rfl, ?_⟩
          refine zw_ireturn f101_34 r101 u101 ?_
          exact ⟨_, _, _, _, rfl, (KQ.i rfl KQ.rf), by rw [show an_act nv P W a b c = (-1) from (cI_n (fun q => (fun q => q.1 hc4) q.2))]⟩
        · refine zw_iload_n 6 f112_5 rfl rfl ?_
          refine zw_iload_n 7 f112_6 rfl rfl ?_
          refine zw_ic_gt 10 14 f112_7 (by decide +kernel) rfl (fun hc5 => ?_) (fun hc5 => ?_)
          · refine zw_iconst 0 15 f112_14 rfl (by decide +kernel) ?_
            refine zw_zreturn f112_15 r112 u112 (by decide +kernel) ⟨_, rfl, ?_⟩
            refine zw_if_ne_f 29 35 f101_26 (by decide +kernel) rfl (by decide +kernel) ?_
            refine zw_aload_n 30 f101_29 rfl (zl1_ne rfl rfl rfl) ?_
            refine zw_iconst 1 31 f101_30 rfl (by decide +kernel) ?_
            refine zw_virtual_i 34 0 0 [.ref 0, .int 1] [(0, .ref 0), (1, .int 1)] f101_31 rfl n101_78 k101_78_11 rfl (hb_0 _ _ _ _) (by decide +kernel) (Nat.le_of_ble_eq_true rfl) rfl rfl (by decide +kernel) (by decide +kernel) rfl (Nat.le_of_ble_eq_true rfl) rfl ?_
            refine zw_aload_n 1 f105_0 rfl rfl ?_
            refine zw_iload_n 2 f105_1 rfl rfl ?_
            refine zw_put _ 5 f105_2 rfl g105_70_11 (hb_0 _ _ _ _) rfl (Nat.le_of_ble_eq_true rfl) (by decide +kernel) (hi_0_7 _ _ _ _ _) ?_
            refine zw_iconst (-1) 6 f105_5 rfl (by decide +kernel) ?_
            refine zw_ireturn f105_6 r105 u105 ⟨_, rfl, ?_⟩
            refine zw_ireturn f101_34 r101 u101 ?_
            exact ⟨_, _, _, _, rfl, (KQ.i rfl KQ.rf), by rw [show an_act nv P W a b c = (-1) from (cI_n (fun q => (fun q => q.2 hc5) q.2))]⟩
          · refine zw_iconst 1 11 f112_10 rfl (by decide +kernel) ?_
            refine zw_goto 15 f112_11 (by decide +kernel) ?_
            refine zw_zreturn f112_15 r112 u112 (by decide +kernel) ⟨_, rfl, ?_⟩
            refine zw_if_ne_t 35 f101_26 (by decide +kernel) (by decide +kernel) ?_
            refine zw_aload_n 36 f101_35 rfl (zl1_ne rfl rfl rfl) ?_
            refine zw_getfield 39 f101_36 rfl g101_51_11 (hb_0 _ _ _ _) rfl ?_
            refine zw_iload 41 f101_39 rfl zl1_eq ?_
            rcases (k5 (x := (P 53 a.toNatClampNeg)) ⟨(hQ.1 _ ((qV.ofc (by omega) hc1 hc2)).1).1, (hQ.1 _ ((qV.ofc (by omega) hc1 hc2)).1).2⟩) with hk | hk | hk | hk | hk
            · refine zw_aaload 0 42 f101_41 rfl (hb_46 _ _ _ _) (by rw [hk]; decide) (by rw [hk]; decide) (by decide) rfl ?_
              refine zw_astore _ 44 f101_42 rfl (by decide +kernel) rfl ?_
              refine zw_aload 46 f101_44 rfl zl1_eq ?_
              refine zw_ifnonnull 55 f101_46 (by decide +kernel) ?_
              refine zw_aload_n 56 f101_55 rfl (zl1_ne rfl rfl (zl1_ne rfl rfl rfl)) ?_
              refine zw_getfield 59 f101_56 rfl g101_45_11 (hb_0 _ _ _ _) rfl ?_
              refine zw_aload_n 60 f101_59 rfl (zl1_ne rfl rfl (zl1_ne rfl rfl rfl)) ?_
              refine zw_getfield 63 f101_60 rfl g101_10_11 (hb_0 _ _ _ _) rfl ?_
              refine zw_aload_n 64 f101_63 rfl (zl1_ne rfl rfl (zl1_ne rfl rfl rfl)) ?_
              refine zw_getfield 67 f101_64 rfl g101_21_11 (hb_0 _ _ _ _) rfl ?_
              refine zw_getfield 70 f101_67 rfl g101_134_10 (hb_11 _ _ _ _) rfl ?_
              refine zw_iload_n 71 f101_70 rfl (zl1_ne rfl rfl (zl1_ne rfl rfl rfl)) ?_
              refine zw_virtual_v 74 0 0 [.ref 44, .ref 1, .ref 12, .int a] [(0, .ref 44), (1, .ref 1), (2, .ref 12), (3, .int a)] f101_71 rfl n101_285 k101_285_0 rfl (hb_44 _ _ _ _) (by decide +kernel) (Nat.le_of_ble_eq_true rfl) rfl rfl (by decide +kernel) (by decide +kernel) rfl (Nat.le_of_ble_eq_true rfl) rfl ?_
              refine zw_aload_n 1 f1_0 rfl rfl ?_
              refine zw_iconst 0 2 f1_1 rfl (by decide +kernel) ?_
              refine zw_put _ 5 f1_2 rfl g1_15_0 (hb_44 _ _ _ _) rfl (Nat.le_of_ble_eq_true rfl) (by decide +kernel) (hi_44_4 _ _ _ _ _) ?_
              refine zw_aload_n 6 f1_5 rfl rfl ?_
              refine zw_iload_n 7 f1_6 rfl rfl ?_
              refine zw_virtual_i 10 0 0 [.ref 1, .int a] [(0, .ref 1), (1, .int a)] f1_7 rfl n1_19 k1_19_4 rfl (hb_1 _ _ _ _) (by decide +kernel) (Nat.le_of_ble_eq_true rfl) rfl rfl (by decide +kernel) (by decide +kernel) rfl (Nat.le_of_ble_eq_true rfl) rfl ?_
              refine zw_iload_n 1 f13_0 rfl rfl ?_
              refine zw_if_lt_f 4 22 f13_1 (by decide +kernel) rfl hc1 ?_
              refine zw_iload_n 5 f13_4 rfl rfl ?_
              refine zw_aload_n 6 f13_5 rfl rfl ?_
              refine zw_getI (nI nv) 9 f13_6 rfl g13_39_4 (hb_1 _ _ _ _) rfl hR.1.1 ?_
              refine zw_ic_ge_f 12 22 f13_9 (by decide +kernel) rfl hc2 ?_
              refine zw_iload_n 13 f13_12 rfl rfl ?_
              refine zw_bipush 8 15 f13_13 rfl (by decide +kernel) ?_
              refine zw_ic_ge_f 18 22 f13_15 (by decide +kernel) rfl hc3 ?_
              refine zw_iconst 1 19 f13_18 rfl (by decide +kernel) ?_
              refine zw_goto 23 f13_19 (by decide +kernel) ?_
              refine zw_zreturn f13_23 r13 u13 (by decide +kernel) ⟨_, rfl, ?_⟩
              refine zw_if_eq_f 13 53 f1_10 (by decide +kernel) rfl (by decide +kernel) ?_
              refine zw_aload_n 14 f1_13 rfl rfl ?_
              refine zw_aload_n 15 f1_14 rfl rfl ?_
              refine zw_getfield 18 f1_15 rfl g1_25_4 (hb_1 _ _ _ _) rfl ?_
              refine zw_iload_n 19 f1_18 rfl rfl ?_
              refine zw_iaload a.toNatClampNeg (P 54 a.toNatClampNeg) 20 f1_19 rfl (hb_3 _ _ _ _) rfl hc1 (zix (by decide) hc1 hc3) (congrFun ((hR.2.1 54 (by omega) (by omega))) a.toNatClampNeg) ?_
              refine zw_put _ 23 f1_20 rfl g1_28_0 (hb_44 _ _ _ _) rfl (Nat.le_of_ble_eq_true rfl) (by decide +kernel) (hi_44_0 _ _ _ _ _) ?_
              refine zw_aload_n 24 f1_23 rfl rfl ?_
              refine zw_aload_n 25 f1_24 rfl rfl ?_
              refine zw_getfield 28 f1_25 rfl g1_31_4 (hb_1 _ _ _ _) rfl ?_
              refine zw_iload_n 29 f1_28 rfl rfl ?_
              refine zw_iaload a.toNatClampNeg (P 55 a.toNatClampNeg) 30 f1_29 rfl (hb_4 _ _ _ _) rfl hc1 (zix (by decide) hc1 hc3) (congrFun ((hR.2.1 55 (by omega) (by omega))) a.toNatClampNeg) ?_
              refine zw_put _ 33 f1_30 rfl g1_34_0 (hb_44 _ _ _ _) rfl (Nat.le_of_ble_eq_true rfl) (by decide +kernel) (hi_44_1 _ _ _ _ _) ?_
              refine zw_aload_n 34 f1_33 rfl rfl ?_
              refine zw_aload_n 35 f1_34 rfl rfl ?_
              refine zw_getfield 38 f1_35 rfl g1_37_4 (hb_1 _ _ _ _) rfl ?_
              refine zw_iload_n 39 f1_38 rfl rfl ?_
              refine zw_iaload a.toNatClampNeg (P 56 a.toNatClampNeg) 40 f1_39 rfl (hb_5 _ _ _ _) rfl hc1 (zix (by decide) hc1 hc3) (congrFun ((hR.2.1 56 (by omega) (by omega))) a.toNatClampNeg) ?_
              refine zw_put _ 43 f1_40 rfl g1_40_0 (hb_44 _ _ _ _) rfl (Nat.le_of_ble_eq_true rfl) (by decide +kernel) (hi_44_2 _ _ _ _ _) ?_
              refine zw_aload_n 44 f1_43 rfl rfl ?_
              refine zw_aload_n 45 f1_44 rfl rfl ?_
              refine zw_getfield 48 f1_45 rfl g1_43_9 (hb_12 _ _ _ _) rfl ?_
              refine zw_iload_n 49 f1_48 rfl rfl ?_
              refine zw_iaload a.toNatClampNeg (A 14 a.toNatClampNeg) 50 f1_49 rfl (hb_14 _ _ _ _) rfl hc1 (zix (by decide) hc1 hc3) rfl ?_
              refine zw_put _ 53 f1_50 rfl g1_48_0 (hb_44 _ _ _ _) rfl (Nat.le_of_ble_eq_true rfl) (by decide +kernel) (hi_44_3 _ _ _ _ _) ?_
              refine zw_vreturn f1_53 r1 u1 ⟨rfl, ?_⟩
              refine zw_iload_n 75 f101_74 rfl (zl1_ne rfl rfl (zl1_ne rfl rfl rfl)) ?_
              rcases zl_sw 2 (by decide) b with hs6 | ⟨hs6k, hs6l, hs6e⟩
              · refine zw_table_o 133 f101_75 hs6 (by decide +kernel) ?_
                refine zw_aload_n 134 f101_133 rfl (zl1_ne rfl rfl (zl1_ne rfl rfl rfl)) ?_
                refine zw_aload 136 f101_134 rfl zl1_eq ?_
                refine zw_iload_n 137 f101_136 rfl (zl1_ne rfl rfl (zl1_ne rfl rfl rfl)) ?_
                refine zw_virtual_i 140 0 0 [.ref 47, .int c] [(0, .ref 47), (1, .int c)] f101_137 rfl n101_298 k101_298_8 rfl (hb_47 _ _ _ _) (by decide +kernel) (Nat.le_of_ble_eq_true rfl) rfl rfl (by decide +kernel) (by decide +kernel) rfl (Nat.le_of_ble_eq_true rfl) rfl ?_
                refine zw_aload_n 1 f40_0 rfl rfl ?_
                refine zw_getfield 4 f40_1 rfl g40_7_8 (hb_47 _ _ _ _) rfl ?_
                refine zw_bipush 13 6 f40_4 rfl (by decide +kernel) ?_
                refine zw_virtual_v 9 0 0 [.ref 44, .int 13] [(0, .ref 44), (1, .int 13)] f40_6 rfl n40_13 k40_13_0 rfl (hb_44 _ _ _ _) (by decide +kernel) (Nat.le_of_ble_eq_true rfl) rfl rfl (by decide +kernel) (by decide +kernel) rfl (Nat.le_of_ble_eq_true rfl) rfl ?_
                refine zw_aload_n 1 f2_0 rfl rfl ?_
                refine zw_getI 0 4 f2_1 rfl g2_15_0 (hb_44 _ _ _ _) rfl rfl ?_
                refine zw_bipush 50 6 f2_4 rfl (by decide +kernel) ?_
                refine zw_ic_ge_f 9 29 f2_6 (by decide +kernel) rfl (by decide +kernel) ?_
                refine zw_aload_n 10 f2_9 rfl rfl ?_
                refine zw_getfield 13 f2_10 rfl g2_9_0 (hb_44 _ _ _ _) rfl ?_
                refine zw_aload_n 14 f2_13 rfl rfl ?_
                refine zw_getI 0 17 f2_14 rfl g2_15_0 (hb_44 _ _ _ _) rfl rfl ?_
                refine zw_iload_n 18 f2_17 rfl rfl ?_
                refine zw_ast 0 _ 19 f2_18 rfl (hb_45 _ _ _ _) (by decide +kernel) (by decide +kernel) (by decide +kernel) (ha_45 _ _ _ _ _) ?_
                refine zw_aload_n 20 f2_19 rfl rfl ?_
                refine zw_dup 21 f2_20 rfl rfl ?_
                refine zw_getI 0 24 f2_21 rfl g2_15_0 (hb_44 _ _ _ _) rfl rfl ?_
                refine zw_iconst 1 25 f2_24 rfl (by decide +kernel) ?_
                refine zw_iadd 1 26 f2_25 rfl (by decide +kernel) ?_
                refine zw_put _ 29 f2_26 rfl g2_15_0 (hb_44 _ _ _ _) rfl (Nat.le_of_ble_eq_true rfl) (by decide +kernel) (hi_44_4 _ _ _ _ _) ?_
                refine zw_vreturn f2_29 r2 u2 ⟨rfl, ?_⟩
                refine zw_aload_n 10 f40_9 rfl rfl ?_
                refine zw_iload_n 11 f40_10 rfl rfl ?_
                refine zw_virtual_i 14 0 0 [.ref 47, .int c] [(0, .ref 47), (1, .int c)] f40_11 rfl n40_27 k40_27_8 rfl (hb_47 _ _ _ _) (by decide +kernel) (Nat.le_of_ble_eq_true rfl) rfl rfl (by decide +kernel) (by decide +kernel) rfl (Nat.le_of_ble_eq_true rfl) rfl ?_
                refine zw_aload_n 1 f38_0 rfl rfl ?_
                refine zw_getfield 4 f38_1 rfl g38_7_8 (hb_47 _ _ _ _) rfl ?_
                refine zw_bipush 11 6 f38_4 rfl (by decide +kernel) ?_
                refine zw_virtual_v 9 0 0 [.ref 44, .int 11] [(0, .ref 44), (1, .int 11)] f38_6 rfl n38_13 k38_13_0 rfl (hb_44 _ _ _ _) (by decide +kernel) (Nat.le_of_ble_eq_true rfl) rfl rfl (by decide +kernel) (by decide +kernel) rfl (Nat.le_of_ble_eq_true rfl) rfl ?_
                refine zw_aload_n 1 f2_0 rfl rfl ?_
                refine zw_getI 1 4 f2_1 rfl g2_15_0 (hb_44 _ _ _ _) rfl rfl ?_
                refine zw_bipush 50 6 f2_4 rfl (by decide +kernel) ?_
                refine zw_ic_ge_f 9 29 f2_6 (by decide +kernel) rfl (by decide +kernel) ?_
                refine zw_aload_n 10 f2_9 rfl rfl ?_
                refine zw_getfield 13 f2_10 rfl g2_9_0 (hb_44 _ _ _ _) rfl ?_
                refine zw_aload_n 14 f2_13 rfl rfl ?_
                refine zw_getI 1 17 f2_14 rfl g2_15_0 (hb_44 _ _ _ _) rfl rfl ?_
                refine zw_iload_n 18 f2_17 rfl rfl ?_
                refine zw_ast 1 _ 19 f2_18 rfl (hb_45 _ _ _ _) (by decide +kernel) (by decide +kernel) (by decide +kernel) (ha_45 _ _ _ _ _) ?_
                refine zw_aload_n 20 f2_19 rfl rfl ?_
                refine zw_dup 21 f2_20 rfl rfl ?_
                refine zw_getI 1 24 f2_21 rfl g2_15_0 (hb_44 _ _ _ _) rfl rfl ?_
                refine zw_iconst 1 25 f2_24 rfl (by decide +kernel) ?_
                refine zw_iadd 2 26 f2_25 rfl (by decide +kernel) ?_
                refine zw_put _ 29 f2_26 rfl g2_15_0 (hb_44 _ _ _ _) rfl (Nat.le_of_ble_eq_true rfl) (by decide +kernel) (hi_44_4 _ _ _ _ _) ?_
                refine zw_vreturn f2_29 r2 u2 ⟨rfl, ?_⟩
                refine zw_aload_n 10 f38_9 rfl rfl ?_
                refine zw_iload_n 11 f38_10 rfl rfl ?_
                refine zw_virtual_i 14 0 0 [.ref 47, .int c] [(0, .ref 47), (1, .int c)] f38_11 rfl n38_23 k38_23_8 rfl (hb_47 _ _ _ _) (by decide +kernel) (Nat.le_of_ble_eq_true rfl) rfl rfl (by decide +kernel) (by decide +kernel) rfl (Nat.le_of_ble_eq_true rfl) rfl ?_
                refine zw_aload_n 1 f37_0 rfl rfl ?_
                refine zw_getfield 4 f37_1 rfl g37_7_8 (hb_47 _ _ _ _) rfl ?_
                refine zw_bipush 10 6 f37_4 rfl (by decide +kernel) ?_
                refine zw_virtual_v 9 0 0 [.ref 44, .int 10] [(0, .ref 44), (1, .int 10)] f37_6 rfl n37_13 k37_13_0 rfl (hb_44 _ _ _ _) (by decide +kernel) (Nat.le_of_ble_eq_true rfl) rfl rfl (by decide +kernel) (by decide +kernel) rfl (Nat.le_of_ble_eq_true rfl) rfl ?_
                refine zw_aload_n 1 f2_0 rfl rfl ?_
                refine zw_getI 2 4 f2_1 rfl g2_15_0 (hb_44 _ _ _ _) rfl rfl ?_
                refine zw_bipush 50 6 f2_4 rfl (by decide +kernel) ?_
                refine zw_ic_ge_f 9 29 f2_6 (by decide +kernel) rfl (by decide +kernel) ?_
                refine zw_aload_n 10 f2_9 rfl rfl ?_
                refine zw_getfield 13 f2_10 rfl g2_9_0 (hb_44 _ _ _ _) rfl ?_
                refine zw_aload_n 14 f2_13 rfl rfl ?_
                refine zw_getI 2 17 f2_14 rfl g2_15_0 (hb_44 _ _ _ _) rfl rfl ?_
                refine zw_iload_n 18 f2_17 rfl rfl ?_
                refine zw_ast 2 _ 19 f2_18 rfl (hb_45 _ _ _ _) (by decide +kernel) (by decide +kernel) (by decide +kernel) (ha_45 _ _ _ _ _) ?_
                refine zw_aload_n 20 f2_19 rfl rfl ?_
                refine zw_dup 21 f2_20 rfl rfl ?_
                refine zw_getI 2 24 f2_21 rfl g2_15_0 (hb_44 _ _ _ _) rfl rfl ?_
                refine zw_iconst 1 25 f2_24 rfl (by decide +kernel) ?_
                refine zw_iadd 3 26 f2_25 rfl (by decide +kernel) ?_
                refine zw_put _ 29 f2_26 rfl g2_15_0 (hb_44 _ _ _ _) rfl (Nat.le_of_ble_eq_true rfl) (by decide +kernel) (hi_44_4 _ _ _ _ _) ?_
                refine zw_vreturn f2_29 r2 u2 ⟨rfl, ?_⟩
                refine zw_iload_n 10 f37_9 rfl rfl ?_
                refine zw_aload_n 11 f37_10 rfl rfl ?_
                refine zw_getfield 14 f37_11 rfl g37_7_8 (hb_47 _ _ _ _) rfl ?_
                refine zw_getI (P 54 a.toNatClampNeg) 17 f37_14 rfl g37_19_0 (hb_44 _ _ _ _) rfl rfl ?_
                refine zw_iadd (c + (P 54 a.toNatClampNeg)) 18 f37_17 rfl rfl ?_
                refine zw_ireturn f37_18 r37 u37 ⟨_, rfl, ?_⟩
                refine zw_iconst 3 15 f38_14 rfl (by decide +kernel) ?_
                refine zw_imul ((c + (P 54 a.toNatClampNeg)) * 3) 16 f38_15 rfl rfl ?_
                refine zw_ireturn f38_16 r38 u38 ⟨_, rfl, ?_⟩
                refine zw_aload_n 15 f40_14 rfl rfl ?_
                refine zw_iload_n 16 f40_15 rfl rfl ?_
                refine zw_virtual_i 19 0 0 [.ref 47, .int c] [(0, .ref 47), (1, .int c)] f40_16 rfl n40_30 k40_30_8 rfl (hb_47 _ _ _ _) (by decide +kernel) (Nat.le_of_ble_eq_true rfl) rfl rfl (by decide +kernel) (by decide +kernel) rfl (Nat.le_of_ble_eq_true rfl) rfl ?_
                refine zw_aload_n 1 f39_0 rfl rfl ?_
                refine zw_getfield 4 f39_1 rfl g39_7_8 (hb_47 _ _ _ _) rfl ?_
                refine zw_bipush 12 6 f39_4 rfl (by decide +kernel) ?_
                refine zw_virtual_v 9 0 0 [.ref 44, .int 12] [(0, .ref 44), (1, .int 12)] f39_6 rfl n39_13 k39_13_0 rfl (hb_44 _ _ _ _) (by decide +kernel) (Nat.le_of_ble_eq_true rfl) rfl rfl (by decide +kernel) (by decide +kernel) rfl (Nat.le_of_ble_eq_true rfl) rfl ?_
                refine zw_aload_n 1 f2_0 rfl rfl ?_
                refine zw_getI 3 4 f2_1 rfl g2_15_0 (hb_44 _ _ _ _) rfl rfl ?_
                refine zw_bipush 50 6 f2_4 rfl (by decide +kernel) ?_
                refine zw_ic_ge_f 9 29 f2_6 (by decide +kernel) rfl (by decide +kernel) ?_
                refine zw_aload_n 10 f2_9 rfl rfl ?_
                refine zw_getfield 13 f2_10 rfl g2_9_0 (hb_44 _ _ _ _) rfl ?_
                refine zw_aload_n 14 f2_13 rfl rfl ?_
                refine zw_getI 3 17 f2_14 rfl g2_15_0 (hb_44 _ _ _ _) rfl rfl ?_
                refine zw_iload_n 18 f2_17 rfl rfl ?_
                refine zw_ast 3 _ 19 f2_18 rfl (hb_45 _ _ _ _) (by decide +kernel) (by decide +kernel) (by decide +kernel) (ha_45 _ _ _ _ _) ?_
                refine zw_aload_n 20 f2_19 rfl rfl ?_
                refine zw_dup 21 f2_20 rfl rfl ?_
                refine zw_getI 3 24 f2_21 rfl g2_15_0 (hb_44 _ _ _ _) rfl rfl ?_
                refine zw_iconst 1 25 f2_24 rfl (by decide +kernel) ?_
                refine zw_iadd 4 26 f2_25 rfl (by decide +kernel) ?_
                refine zw_put _ 29 f2_26 rfl g2_15_0 (hb_44 _ _ _ _) rfl (Nat.le_of_ble_eq_true rfl) (by decide +kernel) (hi_44_4 _ _ _ _ _) ?_
                refine zw_vreturn f2_29 r2 u2 ⟨rfl, ?_⟩
                refine zw_iload_n 10 f39_9 rfl rfl ?_
                refine zw_aload_n 11 f39_10 rfl rfl ?_
                refine zw_getfield 14 f39_11 rfl g39_7_8 (hb_47 _ _ _ _) rfl ?_
                refine zw_getI (P 54 a.toNatClampNeg) 17 f39_14 rfl g39_19_0 (hb_44 _ _ _ _) rfl rfl ?_
                refine zw_ixor (c ^^^ (P 54 a.toNatClampNeg)) 18 f39_17 rfl rfl ?_
                refine zw_ireturn f39_18 r39 u39 ⟨_, rfl, ?_⟩
                refine zw_isub (((c + (P 54 a.toNatClampNeg)) * 3) - (c ^^^ (P 54 a.toNatClampNeg))) 20 f40_19 rfl rfl ?_
                refine zw_ireturn f40_20 r40 u40 ⟨_, rfl, ?_⟩
                refine zw_virtual_i 143 0 0 [.ref 0, .int (((c + (P 54 a.toNatClampNeg)) * 3) - (c ^^^ (P 54 a.toNatClampNeg)))] [(0, .ref 0), (1, .int (((c + (P 54 a.toNatClampNeg)) * 3) - (c ^^^ (P 54 a.toNatClampNeg))))] f101_140 rfl n101_181 k101_181_11 rfl (hb_0 _ _ _ _) (by decide +kernel) (Nat.le_of_ble_eq_true rfl) rfl rfl (by decide +kernel) (by decide +kernel) rfl (Nat.le_of_ble_eq_true rfl) rfl ?_
                refine zw_aload_n 1 f106_0 rfl rfl ?_
                refine zw_iconst 0 2 f106_1 rfl (by decide +kernel) ?_
                refine zw_put _ 5 f106_2 rfl g106_70_11 (hb_0 _ _ _ _) rfl (Nat.le_of_ble_eq_true rfl) (by decide +kernel) (hi_0_7 _ _ _ _ _) ?_
                refine zw_iload_n 6 f106_5 rfl rfl ?_
                refine zw_ireturn f106_6 r106 u106 ⟨_, rfl, ?_⟩
                refine zw_ireturn f101_143 r101 u101 ?_
                exact ⟨_, _, _, _, rfl, (KQ.i rfl (KQ.i rfl (KQ.a rfl (KQ.i rfl (KQ.a rfl (KQ.i rfl (KQ.a rfl (KQ.i rfl (KQ.a rfl (KQ.i rfl (KQ.i rfl (KQ.i rfl (KQ.i rfl (KQ.i rfl KQ.rf)))))))))))))), by rw [show an_act nv P W a b c = (((c + (P 54 a.toNatClampNeg)) * 3) - (c ^^^ (P 54 a.toNatClampNeg))) from ((cI_y ⟨(qV.ofc (by omega) hc1 hc2), ⟨hc4, hc5⟩⟩).trans ((cI_n (sw_ne hs6 (by decide))).trans ((cI_n (sw_ne hs6 (by decide))).trans ((cI_n (sw_ne hs6 (by decide))).trans ((cI_y hk).trans rfl)))))]⟩
              · rcases (show hs6k = 0 ∨ hs6k = 1 ∨ hs6k = 2 by omega) with rfl | rfl | rfl
                · refine zw_table_k 25 100 f101_75 hs6e (by decide +kernel) (by decide +kernel) (by decide +kernel) ?_
                  refine zw_aload_n 101 f101_100 rfl (zl1_ne rfl rfl (zl1_ne rfl rfl rfl)) ?_
                  refine zw_aload 103 f101_101 rfl zl1_eq ?_
                  refine zw_iload_n 104 f101_103 rfl (zl1_ne rfl rfl (zl1_ne rfl rfl rfl)) ?_
                  refine zw_virtual_i 107 0 0 [.ref 47, .int c] [(0, .ref 47), (1, .int c)] f101_104 rfl n101_289 k101_289_8 rfl (hb_47 _ _ _ _) (by decide +kernel) (Nat.le_of_ble_eq_true rfl) rfl rfl (by decide +kernel) (by decide +kernel) rfl (Nat.le_of_ble_eq_true rfl) rfl ?_
                  refine zw_aload_n 1 f37_0 rfl rfl ?_
                  refine zw_getfield 4 f37_1 rfl g37_7_8 (hb_47 _ _ _ _) rfl ?_
                  refine zw_bipush 10 6 f37_4 rfl (by decide +kernel) ?_
                  refine zw_virtual_v 9 0 0 [.ref 44, .int 10] [(0, .ref 44), (1, .int 10)] f37_6 rfl n37_13 k37_13_0 rfl (hb_44 _ _ _ _) (by decide +kernel) (Nat.le_of_ble_eq_true rfl) rfl rfl (by decide +kernel) (by decide +kernel) rfl (Nat.le_of_ble_eq_true rfl) rfl ?_
                  refine zw_aload_n 1 f2_0 rfl rfl ?_
                  refine zw_getI 0 4 f2_1 rfl g2_15_0 (hb_44 _ _ _ _) rfl rfl ?_
                  refine zw_bipush 50 6 f2_4 rfl (by decide +kernel) ?_
                  refine zw_ic_ge_f 9 29 f2_6 (by decide +kernel) rfl (by decide +kernel) ?_
                  refine zw_aload_n 10 f2_9 rfl rfl ?_
                  refine zw_getfield 13 f2_10 rfl g2_9_0 (hb_44 _ _ _ _) rfl ?_
                  refine zw_aload_n 14 f2_13 rfl rfl ?_
                  refine zw_getI 0 17 f2_14 rfl g2_15_0 (hb_44 _ _ _ _) rfl rfl ?_
                  refine zw_iload_n 18 f2_17 rfl rfl ?_
                  refine zw_ast 0 _ 19 f2_18 rfl (hb_45 _ _ _ _) (by decide +kernel) (by decide +kernel) (by decide +kernel) (ha_45 _ _ _ _ _) ?_
                  refine zw_aload_n 20 f2_19 rfl rfl ?_
                  refine zw_dup 21 f2_20 rfl rfl ?_
                  refine zw_getI 0 24 f2_21 rfl g2_15_0 (hb_44 _ _ _ _) rfl rfl ?_
                  refine zw_iconst 1 25 f2_24 rfl (by decide +kernel) ?_
                  refine zw_iadd 1 26 f2_25 rfl (by decide +kernel) ?_
                  refine zw_put _ 29 f2_26 rfl g2_15_0 (hb_44 _ _ _ _) rfl (Nat.le_of_ble_eq_true rfl) (by decide +kernel) (hi_44_4 _ _ _ _ _) ?_
                  refine zw_vreturn f2_29 r2 u2 ⟨rfl, ?_⟩
                  refine zw_iload_n 10 f37_9 rfl rfl ?_
                  refine zw_aload_n 11 f37_10 rfl rfl ?_
                  refine zw_getfield 14 f37_11 rfl g37_7_8 (hb_47 _ _ _ _) rfl ?_
                  refine zw_getI (P 54 a.toNatClampNeg) 17 f37_14 rfl g37_19_0 (hb_44 _ _ _ _) rfl rfl ?_
                  refine zw_iadd (c + (P 54 a.toNatClampNeg)) 18 f37_17 rfl rfl ?_
                  refine zw_ireturn f37_18 r37 u37 ⟨_, rfl, ?_⟩
                  refine zw_virtual_i 110 0 0 [.ref 0, .int (c + (P 54 a.toNatClampNeg))] [(0, .ref 0), (1, .int (c + (P 54 a.toNatClampNeg)))] f101_107 rfl n101_181 k101_181_11 rfl (hb_0 _ _ _ _) (by decide +kernel) (Nat.le_of_ble_eq_true rfl) rfl rfl (by decide +kernel) (by decide +kernel) rfl (Nat.le_of_ble_eq_true rfl) rfl ?_
                  refine zw_aload_n 1 f106_0 rfl rfl ?_
                  refine zw_iconst 0 2 f106_1 rfl (by decide +kernel) ?_
                  refine zw_put _ 5 f106_2 rfl g106_70_11 (hb_0 _ _ _ _) rfl (Nat.le_of_ble_eq_true rfl) (by decide +kernel) (hi_0_7 _ _ _ _ _) ?_
                  refine zw_iload_n 6 f106_5 rfl rfl ?_
                  refine zw_ireturn f106_6 r106 u106 ⟨_, rfl, ?_⟩
                  refine zw_ireturn f101_110 r101 u101 ?_
                  exact ⟨_, _, _, _, rfl, (KQ.i rfl (KQ.i rfl (KQ.a rfl (KQ.i rfl (KQ.i rfl (KQ.i rfl (KQ.i rfl (KQ.i rfl KQ.rf)))))))), by rw [show an_act nv P W a b c = (c + (P 54 a.toNatClampNeg)) from ((cI_y ⟨(qV.ofc (by omega) hc1 hc2), ⟨hc4, hc5⟩⟩).trans ((cI_y (show b = 0 from hs6e)).trans ((cI_y hk).trans rfl)))]⟩
                · refine zw_table_k 36 111 f101_75 hs6e (by decide +kernel) (by decide +kernel) (by decide +kernel) ?_
                  refine zw_aload_n 112 f101_111 rfl (zl1_ne rfl rfl (zl1_ne rfl rfl rfl)) ?_
                  refine zw_aload 114 f101_112 rfl zl1_eq ?_
                  refine zw_iload_n 115 f101_114 rfl (zl1_ne rfl rfl (zl1_ne rfl rfl rfl)) ?_
                  refine zw_virtual_i 118 0 0 [.ref 47, .int c] [(0, .ref 47), (1, .int c)] f101_115 rfl n101_292 k101_292_8 rfl (hb_47 _ _ _ _) (by decide +kernel) (Nat.le_of_ble_eq_true rfl) rfl rfl (by decide +kernel) (by decide +kernel) rfl (Nat.le_of_ble_eq_true rfl) rfl ?_
                  refine zw_aload_n 1 f38_0 rfl rfl ?_
                  refine zw_getfield 4 f38_1 rfl g38_7_8 (hb_47 _ _ _ _) rfl ?_
                  refine zw_bipush 11 6 f38_4 rfl (by decide +kernel) ?_
                  refine zw_virtual_v 9 0 0 [.ref 44, .int 11] [(0, .ref 44), (1, .int 11)] f38_6 rfl n38_13 k38_13_0 rfl (hb_44 _ _ _ _) (by decide +kernel) (Nat.le_of_ble_eq_true rfl) rfl rfl (by decide +kernel) (by decide +kernel) rfl (Nat.le_of_ble_eq_true rfl) rfl ?_
                  refine zw_aload_n 1 f2_0 rfl rfl ?_
                  refine zw_getI 0 4 f2_1 rfl g2_15_0 (hb_44 _ _ _ _) rfl rfl ?_
                  refine zw_bipush 50 6 f2_4 rfl (by decide +kernel) ?_
                  refine zw_ic_ge_f 9 29 f2_6 (by decide +kernel) rfl (by decide +kernel) ?_
                  refine zw_aload_n 10 f2_9 rfl rfl ?_
                  refine zw_getfield 13 f2_10 rfl g2_9_0 (hb_44 _ _ _ _) rfl ?_
                  refine zw_aload_n 14 f2_13 rfl rfl ?_
                  refine zw_getI 0 17 f2_14 rfl g2_15_0 (hb_44 _ _ _ _) rfl rfl ?_
                  refine zw_iload_n 18 f2_17 rfl rfl ?_
                  refine zw_ast 0 _ 19 f2_18 rfl (hb_45 _ _ _ _) (by decide +kernel) (by decide +kernel) (by decide +kernel) (ha_45 _ _ _ _ _) ?_
                  refine zw_aload_n 20 f2_19 rfl rfl ?_
                  refine zw_dup 21 f2_20 rfl rfl ?_
                  refine zw_getI 0 24 f2_21 rfl g2_15_0 (hb_44 _ _ _ _) rfl rfl ?_
                  refine zw_iconst 1 25 f2_24 rfl (by decide +kernel) ?_
                  refine zw_iadd 1 26 f2_25 rfl (by decide +kernel) ?_
                  refine zw_put _ 29 f2_26 rfl g2_15_0 (hb_44 _ _ _ _) rfl (Nat.le_of_ble_eq_true rfl) (by decide +kernel) (hi_44_4 _ _ _ _ _) ?_
                  refine zw_vreturn f2_29 r2 u2 ⟨rfl, ?_⟩
                  refine zw_aload_n 10 f38_9 rfl rfl ?_
                  refine zw_iload_n 11 f38_10 rfl rfl ?_
                  refine zw_virtual_i 14 0 0 [.ref 47, .int c] [(0, .ref 47), (1, .int c)] f38_11 rfl n38_23 k38_23_8 rfl (hb_47 _ _ _ _) (by decide +kernel) (Nat.le_of_ble_eq_true rfl) rfl rfl (by decide +kernel) (by decide +kernel) rfl (Nat.le_of_ble_eq_true rfl) rfl ?_
                  refine zw_aload_n 1 f37_0 rfl rfl ?_
                  refine zw_getfield 4 f37_1 rfl g37_7_8 (hb_47 _ _ _ _) rfl ?_
                  refine zw_bipush 10 6 f37_4 rfl (by decide +kernel) ?_
                  refine zw_virtual_v 9 0 0 [.ref 44, .int 10] [(0, .ref 44), (1, .int 10)] f37_6 rfl n37_13 k37_13_0 rfl (hb_44 _ _ _ _) (by decide +kernel) (Nat.le_of_ble_eq_true rfl) rfl rfl (by decide +kernel) (by decide +kernel) rfl (Nat.le_of_ble_eq_true rfl) rfl ?_
                  refine zw_aload_n 1 f2_0 rfl rfl ?_
                  refine zw_getI 1 4 f2_1 rfl g2_15_0 (hb_44 _ _ _ _) rfl rfl ?_
                  refine zw_bipush 50 6 f2_4 rfl (by decide +kernel) ?_
                  refine zw_ic_ge_f 9 29 f2_6 (by decide +kernel) rfl (by decide +kernel) ?_
                  refine zw_aload_n 10 f2_9 rfl rfl ?_
                  refine zw_getfield 13 f2_10 rfl g2_9_0 (hb_44 _ _ _ _) rfl ?_
                  refine zw_aload_n 14 f2_13 rfl rfl ?_
                  refine zw_getI 1 17 f2_14 rfl g2_15_0 (hb_44 _ _ _ _) rfl rfl ?_
                  refine zw_iload_n 18 f2_17 rfl rfl ?_
                  refine zw_ast 1 _ 19 f2_18 rfl (hb_45 _ _ _ _) (by decide +kernel) (by decide +kernel) (by decide +kernel) (ha_45 _ _ _ _ _) ?_
                  refine zw_aload_n 20 f2_19 rfl rfl ?_
                  refine zw_dup 21 f2_20 rfl rfl ?_
                  refine zw_getI 1 24 f2_21 rfl g2_15_0 (hb_44 _ _ _ _) rfl rfl ?_
                  refine zw_iconst 1 25 f2_24 rfl (by decide +kernel) ?_
                  refine zw_iadd 2 26 f2_25 rfl (by decide +kernel) ?_
                  refine zw_put _ 29 f2_26 rfl g2_15_0 (hb_44 _ _ _ _) rfl (Nat.le_of_ble_eq_true rfl) (by decide +kernel) (hi_44_4 _ _ _ _ _) ?_
                  refine zw_vreturn f2_29 r2 u2 ⟨rfl, ?_⟩
                  refine zw_iload_n 10 f37_9 rfl rfl ?_
                  refine zw_aload_n 11 f37_10 rfl rfl ?_
                  refine zw_getfield 14 f37_11 rfl g37_7_8 (hb_47 _ _ _ _) rfl ?_
                  refine zw_getI (P 54 a.toNatClampNeg) 17 f37_14 rfl g37_19_0 (hb_44 _ _ _ _) rfl rfl ?_
                  refine zw_iadd (c + (P 54 a.toNatClampNeg)) 18 f37_17 rfl rfl ?_
                  refine zw_ireturn f37_18 r37 u37 ⟨_, rfl, ?_⟩
                  refine zw_iconst 3 15 f38_14 rfl (by decide +kernel) ?_
                  refine zw_imul ((c + (P 54 a.toNatClampNeg)) * 3) 16 f38_15 rfl rfl ?_
                  refine zw_ireturn f38_16 r38 u38 ⟨_, rfl, ?_⟩
                  refine zw_virtual_i 121 0 0 [.ref 0, .int ((c + (P 54 a.toNatClampNeg)) * 3)] [(0, .ref 0), (1, .int ((c + (P 54 a.toNatClampNeg)) * 3))] f101_118 rfl n101_181 k101_181_11 rfl (hb_0 _ _ _ _) (by decide +kernel) (Nat.le_of_ble_eq_true rfl) rfl rfl (by decide +kernel) (by decide +kernel) rfl (Nat.le_of_ble_eq_true rfl) rfl ?_
                  refine zw_aload_n 1 f106_0 rfl rfl ?_
                  refine zw_iconst 0 2 f106_1 rfl (by decide +kernel) ?_
                  refine zw_put _ 5 f106_2 rfl g106_70_11 (hb_0 _ _ _ _) rfl (Nat.le_of_ble_eq_true rfl) (by decide +kernel) (hi_0_7 _ _ _ _ _) ?_
                  refine zw_iload_n 6 f106_5 rfl rfl ?_
                  refine zw_ireturn f106_6 r106 u106 ⟨_, rfl, ?_⟩
                  refine zw_ireturn f101_121 r101 u101 ?_
                  exact ⟨_, _, _, _, rfl, (KQ.i rfl (KQ.i rfl (KQ.a rfl (KQ.i rfl (KQ.a rfl (KQ.i rfl (KQ.i rfl (KQ.i rfl (KQ.i rfl (KQ.i rfl KQ.rf)))))))))), by rw [show an_act nv P W a b c = ((c + (P 54 a.toNatClampNeg)) * 3) from ((cI_y ⟨(qV.ofc (by omega) hc1 hc2), ⟨hc4, hc5⟩⟩).trans ((cI_n (kne (show b = 1 from hs6e) (by decide))).trans ((cI_y (show b = 1 from hs6e)).trans ((cI_y hk).trans rfl))))]⟩
                · refine zw_table_k 47 122 f101_75 hs6e (by decide +kernel) (by decide +kernel) (by decide +kernel) ?_
                  refine zw_aload_n 123 f101_122 rfl (zl1_ne rfl rfl (zl1_ne rfl rfl rfl)) ?_
                  refine zw_aload 125 f101_123 rfl zl1_eq ?_
                  refine zw_iload_n 126 f101_125 rfl (zl1_ne rfl rfl (zl1_ne rfl rfl rfl)) ?_
                  refine zw_virtual_i 129 0 0 [.ref 47, .int c] [(0, .ref 47), (1, .int c)] f101_126 rfl n101_295 k101_295_8 rfl (hb_47 _ _ _ _) (by decide +kernel) (Nat.le_of_ble_eq_true rfl) rfl rfl (by decide +kernel) (by decide +kernel) rfl (Nat.le_of_ble_eq_true rfl) rfl ?_
                  refine zw_aload_n 1 f39_0 rfl rfl ?_
                  refine zw_getfield 4 f39_1 rfl g39_7_8 (hb_47 _ _ _ _) rfl ?_
                  refine zw_bipush 12 6 f39_4 rfl (by decide +kernel) ?_
                  refine zw_virtual_v 9 0 0 [.ref 44, .int 12] [(0, .ref 44), (1, .int 12)] f39_6 rfl n39_13 k39_13_0 rfl (hb_44 _ _ _ _) (by decide +kernel) (Nat.le_of_ble_eq_true rfl) rfl rfl (by decide +kernel) (by decide +kernel) rfl (Nat.le_of_ble_eq_true rfl) rfl ?_
                  refine zw_aload_n 1 f2_0 rfl rfl ?_
                  refine zw_getI 0 4 f2_1 rfl g2_15_0 (hb_44 _ _ _ _) rfl rfl ?_
                  refine zw_bipush 50 6 f2_4 rfl (by decide +kernel) ?_
                  refine zw_ic_ge_f 9 29 f2_6 (by decide +kernel) rfl (by decide +kernel) ?_
                  refine zw_aload_n 10 f2_9 rfl rfl ?_
                  refine zw_getfield 13 f2_10 rfl g2_9_0 (hb_44 _ _ _ _) rfl ?_
                  refine zw_aload_n 14 f2_13 rfl rfl ?_
                  refine zw_getI 0 17 f2_14 rfl g2_15_0 (hb_44 _ _ _ _) rfl rfl ?_
                  refine zw_iload_n 18 f2_17 rfl rfl ?_
                  refine zw_ast 0 _ 19 f2_18 rfl (hb_45 _ _ _ _) (by decide +kernel) (by decide +kernel) (by decide +kernel) (ha_45 _ _ _ _ _) ?_
                  refine zw_aload_n 20 f2_19 rfl rfl ?_
                  refine zw_dup 21 f2_20 rfl rfl ?_
                  refine zw_getI 0 24 f2_21 rfl g2_15_0 (hb_44 _ _ _ _) rfl rfl ?_
                  refine zw_iconst 1 25 f2_24 rfl (by decide +kernel) ?_
                  refine zw_iadd 1 26 f2_25 rfl (by decide +kernel) ?_
                  refine zw_put _ 29 f2_26 rfl g2_15_0 (hb_44 _ _ _ _) rfl (Nat.le_of_ble_eq_true rfl) (by decide +kernel) (hi_44_4 _ _ _ _ _) ?_
                  refine zw_vreturn f2_29 r2 u2 ⟨rfl, ?_⟩
                  refine zw_iload_n 10 f39_9 rfl rfl ?_
                  refine zw_aload_n 11 f39_10 rfl rfl ?_
                  refine zw_getfield 14 f39_11 rfl g39_7_8 (hb_47 _ _ _ _) rfl ?_
                  refine zw_getI (P 54 a.toNatClampNeg) 17 f39_14 rfl g39_19_0 (hb_44 _ _ _ _) rfl rfl ?_
                  refine zw_ixor (c ^^^ (P 54 a.toNatClampNeg)) 18 f39_17 rfl rfl ?_
                  refine zw_ireturn f39_18 r39 u39 ⟨_, rfl, ?_⟩
                  refine zw_virtual_i 132 0 0 [.ref 0, .int (c ^^^ (P 54 a.toNatClampNeg))] [(0, .ref 0), (1, .int (c ^^^ (P 54 a.toNatClampNeg)))] f101_129 rfl n101_181 k101_181_11 rfl (hb_0 _ _ _ _) (by decide +kernel) (Nat.le_of_ble_eq_true rfl) rfl rfl (by decide +kernel) (by decide +kernel) rfl (Nat.le_of_ble_eq_true rfl) rfl ?_
                  refine zw_aload_n 1 f106_0 rfl rfl ?_
                  refine zw_iconst 0 2 f106_1 rfl (by decide +kernel) ?_
                  refine zw_put _ 5 f106_2 rfl g106_70_11 (hb_0 _ _ _ _) rfl (Nat.le_of_ble_eq_true rfl) (by decide +kernel) (hi_0_7 _ _ _ _ _) ?_
                  refine zw_iload_n 6 f106_5 rfl rfl ?_
                  refine zw_ireturn f106_6 r106 u106 ⟨_, rfl, ?_⟩
                  refine zw_ireturn f101_132 r101 u101 ?_
                  exact ⟨_, _, _, _, rfl, (KQ.i rfl (KQ.i rfl (KQ.a rfl (KQ.i rfl (KQ.i rfl (KQ.i rfl (KQ.i rfl (KQ.i rfl KQ.rf)))))))), by rw [show an_act nv P W a b c = (c ^^^ (P 54 a.toNatClampNeg)) from ((cI_y ⟨(qV.ofc (by omega) hc1 hc2), ⟨hc4, hc5⟩⟩).trans ((cI_n (kne (show b = 2 from hs6e) (by decide))).trans ((cI_n (kne (show b = 2 from hs6e) (by decide))).trans ((cI_y (show b = 2 from hs6e)).trans ((cI_y hk).trans rfl)))))]⟩
            · refine zw_aaload 1 42 f101_41 rfl (hb_46 _ _ _ _) (by rw [hk]; decide) (by rw [hk]; decide) (by decide) rfl ?_
              refine zw_astore _ 44 f101_42 rfl (by decide +kernel) rfl ?_
              refine zw_aload 46 f101_44 rfl zl1_eq ?_
              refine zw_ifnonnull 55 f101_46 (by decide +kernel) ?_
              refine zw_aload_n 56 f101_55 rfl (zl1_ne rfl rfl (zl1_ne rfl rfl rfl)) ?_
              refine zw_getfield 59 f101_56 rfl g101_45_11 (hb_0 _ _ _ _) rfl ?_
              refine zw_aload_n 60 f101_59 rfl (zl1_ne rfl rfl (zl1_ne rfl rfl rfl)) ?_
              refine zw_getfield 63 f101_60 rfl g101_10_11 (hb_0 _ _ _ _) rfl ?_
              refine zw_aload_n 64 f101_63 rfl (zl1_ne rfl rfl (zl1_ne rfl rfl rfl)) ?_
              refine zw_getfield 67 f101_64 rfl g101_21_11 (hb_0 _ _ _ _) rfl ?_
              refine zw_getfield 70 f101_67 rfl g101_134_10 (hb_11 _ _ _ _) rfl ?_
              refine zw_iload_n 71 f101_70 rfl (zl1_ne rfl rfl (zl1_ne rfl rfl rfl)) ?_
              refine zw_virtual_v 74 0 0 [.ref 44, .ref 1, .ref 12, .int a] [(0, .ref 44), (1, .ref 1), (2, .ref 12), (3, .int a)] f101_71 rfl n101_285 k101_285_0 rfl (hb_44 _ _ _ _) (by decide +kernel) (Nat.le_of_ble_eq_true rfl) rfl rfl (by decide +kernel) (by decide +kernel) rfl (Nat.le_of_ble_eq_true rfl) rfl ?_
              refine zw_aload_n 1 f1_0 rfl rfl ?_
              refine zw_iconst 0 2 f1_1 rfl (by decide +kernel) ?_
              refine zw_put _ 5 f1_2 rfl g1_15_0 (hb_44 _ _ _ _) rfl (Nat.le_of_ble_eq_true rfl) (by decide +kernel) (hi_44_4 _ _ _ _ _) ?_
              refine zw_aload_n 6 f1_5 rfl rfl ?_
              refine zw_iload_n 7 f1_6 rfl rfl ?_
              refine zw_virtual_i 10 0 0 [.ref 1, .int a] [(0, .ref 1), (1, .int a)] f1_7 rfl n1_19 k1_19_4 rfl (hb_1 _ _ _ _) (by decide +kernel) (Nat.le_of_ble_eq_true rfl) rfl rfl (by decide +kernel) (by decide +kernel) rfl (Nat.le_of_ble_eq_true rfl) rfl ?_
              refine zw_iload_n 1 f13_0 rfl rfl ?_
              refine zw_if_lt_f 4 22 f13_1 (by decide +kernel) rfl hc1 ?_
              refine zw_iload_n 5 f13_4 rfl rfl ?_
              refine zw_aload_n 6 f13_5 rfl rfl ?_
              refine zw_getI (nI nv) 9 f13_6 rfl g13_39_4 (hb_1 _ _ _ _) rfl hR.1.1 ?_
              refine zw_ic_ge_f 12 22 f13_9 (by decide +kernel) rfl hc2 ?_
              refine zw_iload_n 13 f13_12 rfl rfl ?_
              refine zw_bipush 8 15 f13_13 rfl (by decide +kernel) ?_
              refine zw_ic_ge_f 18 22 f13_15 (by decide +kernel) rfl hc3 ?_
              refine zw_iconst 1 19 f13_18 rfl (by decide +kernel) ?_
              refine zw_goto 23 f13_19 (by decide +kernel) ?_
              refine zw_zreturn f13_23 r13 u13 (by decide +kernel) ⟨_, rfl, ?_⟩
              refine zw_if_eq_f 13 53 f1_10 (by decide +kernel) rfl (by decide +kernel) ?_
              refine zw_aload_n 14 f1_13 rfl rfl ?_
              refine zw_aload_n 15 f1_14 rfl rfl ?_
              refine zw_getfield 18 f1_15 rfl g1_25_4 (hb_1 _ _ _ _) rfl ?_
              refine zw_iload_n 19 f1_18 rfl rfl ?_
              refine zw_iaload a.toNatClampNeg (P 54 a.toNatClampNeg) 20 f1_19 rfl (hb_3 _ _ _ _) rfl hc1 (zix (by decide) hc1 hc3) (congrFun ((hR.2.1 54 (by omega) (by omega))) a.toNatClampNeg) ?_
              refine zw_put _ 23 f1_20 rfl g1_28_0 (hb_44 _ _ _ _) rfl (Nat.le_of_ble_eq_true rfl) (by decide +kernel) (hi_44_0 _ _ _ _ _) ?_
              refine zw_aload_n 24 f1_23 rfl rfl ?_
              refine zw_aload_n 25 f1_24 rfl rfl ?_
              refine zw_getfield 28 f1_25 rfl g1_31_4 (hb_1 _ _ _ _) rfl ?_
              refine zw_iload_n 29 f1_28 rfl rfl ?_
              refine zw_iaload a.toNatClampNeg (P 55 a.toNatClampNeg) 30 f1_29 rfl (hb_4 _ _ _ _) rfl hc1 (zix (by decide) hc1 hc3) (congrFun ((hR.2.1 55 (by omega) (by omega))) a.toNatClampNeg) ?_
              refine zw_put _ 33 f1_30 rfl g1_34_0 (hb_44 _ _ _ _) rfl (Nat.le_of_ble_eq_true rfl) (by decide +kernel) (hi_44_1 _ _ _ _ _) ?_
              refine zw_aload_n 34 f1_33 rfl rfl ?_
              refine zw_aload_n 35 f1_34 rfl rfl ?_
              refine zw_getfield 38 f1_35 rfl g1_37_4 (hb_1 _ _ _ _) rfl ?_
              refine zw_iload_n 39 f1_38 rfl rfl ?_
              refine zw_iaload a.toNatClampNeg (P 56 a.toNatClampNeg) 40 f1_39 rfl (hb_5 _ _ _ _) rfl hc1 (zix (by decide) hc1 hc3) (congrFun ((hR.2.1 56 (by omega) (by omega))) a.toNatClampNeg) ?_
              refine zw_put _ 43 f1_40 rfl g1_40_0 (hb_44 _ _ _ _) rfl (Nat.le_of_ble_eq_true rfl) (by decide +kernel) (hi_44_2 _ _ _ _ _) ?_
              refine zw_aload_n 44 f1_43 rfl rfl ?_
              refine zw_aload_n 45 f1_44 rfl rfl ?_
              refine zw_getfield 48 f1_45 rfl g1_43_9 (hb_12 _ _ _ _) rfl ?_
              refine zw_iload_n 49 f1_48 rfl rfl ?_
              refine zw_iaload a.toNatClampNeg (A 14 a.toNatClampNeg) 50 f1_49 rfl (hb_14 _ _ _ _) rfl hc1 (zix (by decide) hc1 hc3) rfl ?_
              refine zw_put _ 53 f1_50 rfl g1_48_0 (hb_44 _ _ _ _) rfl (Nat.le_of_ble_eq_true rfl) (by decide +kernel) (hi_44_3 _ _ _ _ _) ?_
              refine zw_vreturn f1_53 r1 u1 ⟨rfl, ?_⟩
              refine zw_iload_n 75 f101_74 rfl (zl1_ne rfl rfl (zl1_ne rfl rfl rfl)) ?_
              rcases zl_sw 2 (by decide) b with hs7 | ⟨hs7k, hs7l, hs7e⟩
              · refine zw_table_o 133 f101_75 hs7 (by decide +kernel) ?_
                refine zw_aload_n 134 f101_133 rfl (zl1_ne rfl rfl (zl1_ne rfl rfl rfl)) ?_
                refine zw_aload 136 f101_134 rfl zl1_eq ?_
                refine zw_iload_n 137 f101_136 rfl (zl1_ne rfl rfl (zl1_ne rfl rfl rfl)) ?_
                refine zw_virtual_i 140 0 0 [.ref 48, .int c] [(0, .ref 48), (1, .int c)] f101_137 rfl n101_298 k101_298_6 rfl (hb_48 _ _ _ _) (by decide +kernel) (Nat.le_of_ble_eq_true rfl) rfl rfl (by decide +kernel) (by decide +kernel) rfl (Nat.le_of_ble_eq_true rfl) rfl ?_
                refine zw_aload_n 1 f33_0 rfl rfl ?_
                refine zw_getfield 4 f33_1 rfl g33_7_6 (hb_48 _ _ _ _) rfl ?_
                refine zw_bipush 21 6 f33_4 rfl (by decide +kernel) ?_
                refine zw_virtual_v 9 0 0 [.ref 44, .int 21] [(0, .ref 44), (1, .int 21)] f33_6 rfl n33_13 k33_13_0 rfl (hb_44 _ _ _ _) (by decide +kernel) (Nat.le_of_ble_eq_true rfl) rfl rfl (by decide +kernel) (by decide +kernel) rfl (Nat.le_of_ble_eq_true rfl) rfl ?_
                refine zw_aload_n 1 f2_0 rfl rfl ?_
                refine zw_getI 0 4 f2_1 rfl g2_15_0 (hb_44 _ _ _ _) rfl rfl ?_
                refine zw_bipush 50 6 f2_4 rfl (by decide +kernel) ?_
                refine zw_ic_ge_f 9 29 f2_6 (by decide +kernel) rfl (by decide +kernel) ?_
                refine zw_aload_n 10 f2_9 rfl rfl ?_
                refine zw_getfield 13 f2_10 rfl g2_9_0 (hb_44 _ _ _ _) rfl ?_
                refine zw_aload_n 14 f2_13 rfl rfl ?_
                refine zw_getI 0 17 f2_14 rfl g2_15_0 (hb_44 _ _ _ _) rfl rfl ?_
                refine zw_iload_n 18 f2_17 rfl rfl ?_
                refine zw_ast 0 _ 19 f2_18 rfl (hb_45 _ _ _ _) (by decide +kernel) (by decide +kernel) (by decide +kernel) (ha_45 _ _ _ _ _) ?_
                refine zw_aload_n 20 f2_19 rfl rfl ?_
                refine zw_dup 21 f2_20 rfl rfl ?_
                refine zw_getI 0 24 f2_21 rfl g2_15_0 (hb_44 _ _ _ _) rfl rfl ?_
                refine zw_iconst 1 25 f2_24 rfl (by decide +kernel) ?_
                refine zw_iadd 1 26 f2_25 rfl (by decide +kernel) ?_
                refine zw_put _ 29 f2_26 rfl g2_15_0 (hb_44 _ _ _ _) rfl (Nat.le_of_ble_eq_true rfl) (by decide +kernel) (hi_44_4 _ _ _ _ _) ?_
                refine zw_vreturn f2_29 r2 u2 ⟨rfl, ?_⟩
                refine zw_aload_n 10 f33_9 rfl rfl ?_
                refine zw_iload_n 11 f33_10 rfl rfl ?_
                refine zw_iconst 2 12 f33_11 rfl (by decide +kernel) ?_
                refine zw_imul (c * 2) 13 f33_12 rfl rfl ?_
                refine zw_super_i 16 0 0 [.ref 48, .int (c * 2)] [(0, .ref 48), (1, .int (c * 2))] f33_13 rfl k33_27_99 k33_27_98 (by decide +kernel) rfl (hb_48 _ _ _ _) (by decide +kernel) (Nat.le_of_ble_eq_true rfl) rfl rfl (by decide +kernel) (by decide +kernel) rfl (Nat.le_of_ble_eq_true rfl) rfl ?_
                refine zw_aload_n 1 f40_0 rfl rfl ?_
                refine zw_getfield 4 f40_1 rfl g40_7_6 (hb_48 _ _ _ _) rfl ?_
                refine zw_bipush 13 6 f40_4 rfl (by decide +kernel) ?_
                refine zw_virtual_v 9 0 0 [.ref 44, .int 13] [(0, .ref 44), (1, .int 13)] f40_6 rfl n40_13 k40_13_0 rfl (hb_44 _ _ _ _) (by decide +kernel) (Nat.le_of_ble_eq_true rfl) rfl rfl (by decide +kernel) (by decide +kernel) rfl (Nat.le_of_ble_eq_true rfl) rfl ?_
                refine zw_aload_n 1 f2_0 rfl rfl ?_
                refine zw_getI 1 4 f2_1 rfl g2_15_0 (hb_44 _ _ _ _) rfl rfl ?_
                refine zw_bipush 50 6 f2_4 rfl (by decide +kernel) ?_
                refine zw_ic_ge_f 9 29 f2_6 (by decide +kernel) rfl (by decide +kernel) ?_
                refine zw_aload_n 10 f2_9 rfl rfl ?_
                refine zw_getfield 13 f2_10 rfl g2_9_0 (hb_44 _ _ _ _) rfl ?_
                refine zw_aload_n 14 f2_13 rfl rfl ?_
                refine zw_getI 1 17 f2_14 rfl g2_15_0 (hb_44 _ _ _ _) rfl rfl ?_
                refine zw_iload_n 18 f2_17 rfl rfl ?_
                refine zw_ast 1 _ 19 f2_18 rfl (hb_45 _ _ _ _) (by decide +kernel) (by decide +kernel) (by decide +kernel) (ha_45 _ _ _ _ _) ?_
                refine zw_aload_n 20 f2_19 rfl rfl ?_
                refine zw_dup 21 f2_20 rfl rfl ?_
                refine zw_getI 1 24 f2_21 rfl g2_15_0 (hb_44 _ _ _ _) rfl rfl ?_
                refine zw_iconst 1 25 f2_24 rfl (by decide +kernel) ?_
                refine zw_iadd 2 26 f2_25 rfl (by decide +kernel) ?_
                refine zw_put _ 29 f2_26 rfl g2_15_0 (hb_44 _ _ _ _) rfl (Nat.le_of_ble_eq_true rfl) (by decide +kernel) (hi_44_4 _ _ _ _ _) ?_
                refine zw_vreturn f2_29 r2 u2 ⟨rfl, ?_⟩
                refine zw_aload_n 10 f40_9 rfl rfl ?_
                refine zw_iload_n 11 f40_10 rfl rfl ?_
                refine zw_virtual_i 14 0 0 [.ref 48, .int (c * 2)] [(0, .ref 48), (1, .int (c * 2))] f40_11 rfl n40_27 k40_27_6 rfl (hb_48 _ _ _ _) (by decide +kernel) (Nat.le_of_ble_eq_true rfl) rfl rfl (by decide +kernel) (by decide +kernel) rfl (Nat.le_of_ble_eq_true rfl) rfl ?_
                refine zw_aload_n 1 f32_0 rfl rfl ?_
                refine zw_getfield 4 f32_1 rfl g32_7_6 (hb_48 _ _ _ _) rfl ?_
                refine zw_bipush 20 6 f32_4 rfl (by decide +kernel) ?_
                refine zw_virtual_v 9 0 0 [.ref 44, .int 20] [(0, .ref 44), (1, .int 20)] f32_6 rfl n32_13 k32_13_0 rfl (hb_44 _ _ _ _) (by decide +kernel) (Nat.le_of_ble_eq_true rfl) rfl rfl (by decide +kernel) (by decide +kernel) rfl (Nat.le_of_ble_eq_true rfl) rfl ?_
                refine zw_aload_n 1 f2_0 rfl rfl ?_
                refine zw_getI 2 4 f2_1 rfl g2_15_0 (hb_44 _ _ _ _) rfl rfl ?_
                refine zw_bipush 50 6 f2_4 rfl (by decide +kernel) ?_
                refine zw_ic_ge_f 9 29 f2_6 (by decide +kernel) rfl (by decide +kernel) ?_
                refine zw_aload_n 10 f2_9 rfl rfl ?_
                refine zw_getfield 13 f2_10 rfl g2_9_0 (hb_44 _ _ _ _) rfl ?_
                refine zw_aload_n 14 f2_13 rfl rfl ?_
                refine zw_getI 2 17 f2_14 rfl g2_15_0 (hb_44 _ _ _ _) rfl rfl ?_
                refine zw_iload_n 18 f2_17 rfl rfl ?_
                refine zw_ast 2 _ 19 f2_18 rfl (hb_45 _ _ _ _) (by decide +kernel) (by decide +kernel) (by decide +kernel) (ha_45 _ _ _ _ _) ?_
                refine zw_aload_n 20 f2_19 rfl rfl ?_
                refine zw_dup 21 f2_20 rfl rfl ?_
                refine zw_getI 2 24 f2_21 rfl g2_15_0 (hb_44 _ _ _ _) rfl rfl ?_
                refine zw_iconst 1 25 f2_24 rfl (by decide +kernel) ?_
                refine zw_iadd 3 26 f2_25 rfl (by decide +kernel) ?_
                refine zw_put _ 29 f2_26 rfl g2_15_0 (hb_44 _ _ _ _) rfl (Nat.le_of_ble_eq_true rfl) (by decide +kernel) (hi_44_4 _ _ _ _ _) ?_
                refine zw_vreturn f2_29 r2 u2 ⟨rfl, ?_⟩
                refine zw_aload_n 10 f32_9 rfl rfl ?_
                refine zw_iload_n 11 f32_10 rfl rfl ?_
                refine zw_super_i 14 0 0 [.ref 48, .int (c * 2)] [(0, .ref 48), (1, .int (c * 2))] f32_11 rfl k32_19_99 k32_19_98 (by decide +kernel) rfl (hb_48 _ _ _ _) (by decide +kernel) (Nat.le_of_ble_eq_true rfl) rfl rfl (by decide +kernel) (by decide +kernel) rfl (Nat.le_of_ble_eq_true rfl) rfl ?_
                refine zw_aload_n 1 f38_0 rfl rfl ?_
                refine zw_getfield 4 f38_1 rfl g38_7_6 (hb_48 _ _ _ _) rfl ?_
                refine zw_bipush 11 6 f38_4 rfl (by decide +kernel) ?_
                refine zw_virtual_v 9 0 0 [.ref 44, .int 11] [(0, .ref 44), (1, .int 11)] f38_6 rfl n38_13 k38_13_0 rfl (hb_44 _ _ _ _) (by decide +kernel) (Nat.le_of_ble_eq_true rfl) rfl rfl (by decide +kernel) (by decide +kernel) rfl (Nat.le_of_ble_eq_true rfl) rfl ?_
                refine zw_aload_n 1 f2_0 rfl rfl ?_
                refine zw_getI 3 4 f2_1 rfl g2_15_0 (hb_44 _ _ _ _) rfl rfl ?_
                refine zw_bipush 50 6 f2_4 rfl (by decide +kernel) ?_
                refine zw_ic_ge_f 9 29 f2_6 (by decide +kernel) rfl (by decide +kernel) ?_
                refine zw_aload_n 10 f2_9 rfl rfl ?_
                refine zw_getfield 13 f2_10 rfl g2_9_0 (hb_44 _ _ _ _) rfl ?_
                refine zw_aload_n 14 f2_13 rfl rfl ?_
                refine zw_getI 3 17 f2_14 rfl g2_15_0 (hb_44 _ _ _ _) rfl rfl ?_
                refine zw_iload_n 18 f2_17 rfl rfl ?_
                refine zw_ast 3 _ 19 f2_18 rfl (hb_45 _ _ _ _) (by decide +kernel) (by decide +kernel) (by decide +kernel) (ha_45 _ _ _ _ _) ?_
                refine zw_aload_n 20 f2_19 rfl rfl ?_
                refine zw_dup 21 f2_20 rfl rfl ?_
                refine zw_getI 3 24 f2_21 rfl g2_15_0 (hb_44 _ _ _ _) rfl rfl ?_
                refine zw_iconst 1 25 f2_24 rfl (by decide +kernel) ?_
                refine zw_iadd 4 26 f2_25 rfl (by decide +kernel) ?_
                refine zw_put _ 29 f2_26 rfl g2_15_0 (hb_44 _ _ _ _) rfl (Nat.le_of_ble_eq_true rfl) (by decide +kernel) (hi_44_4 _ _ _ _ _) ?_
                refine zw_vreturn f2_29 r2 u2 ⟨rfl, ?_⟩
                refine zw_aload_n 10 f38_9 rfl rfl ?_
                refine zw_iload_n 11 f38_10 rfl rfl ?_
                refine zw_virtual_i 14 0 0 [.ref 48, .int (c * 2)] [(0, .ref 48), (1, .int (c * 2))] f38_11 rfl n38_23 k38_23_6 rfl (hb_48 _ _ _ _) (by decide +kernel) (Nat.le_of_ble_eq_true rfl) rfl rfl (by decide +kernel) (by decide +kernel) rfl (Nat.le_of_ble_eq_true rfl) rfl ?_
                refine zw_aload_n 1 f37_0 rfl rfl ?_
                refine zw_getfield 4 f37_1 rfl g37_7_6 (hb_48 _ _ _ _) rfl ?_
                refine zw_bipush 10 6 f37_4 rfl (by decide +kernel) ?_
                refine zw_virtual_v 9 0 0 [.ref 44, .int 10] [(0, .ref 44), (1, .int 10)] f37_6 rfl n37_13 k37_13_0 rfl (hb_44 _ _ _ _) (by decide +kernel) (Nat.le_of_ble_eq_true rfl) rfl rfl (by decide +kernel) (by decide +kernel) rfl (Nat.le_of_ble_eq_true rfl) rfl ?_
                refine zw_aload_n 1 f2_0 rfl rfl ?_
                refine zw_getI 4 4 f2_1 rfl g2_15_0 (hb_44 _ _ _ _) rfl rfl ?_
                refine zw_bipush 50 6 f2_4 rfl (by decide +kernel) ?_
                refine zw_ic_ge_f 9 29 f2_6 (by decide +kernel) rfl (by decide +kernel) ?_
                refine zw_aload_n 10 f2_9 rfl rfl ?_
                refine zw_getfield 13 f2_10 rfl g2_9_0 (hb_44 _ _ _ _) rfl ?_
                refine zw_aload_n 14 f2_13 rfl rfl ?_
                refine zw_getI 4 17 f2_14 rfl g2_15_0 (hb_44 _ _ _ _) rfl rfl ?_
                refine zw_iload_n 18 f2_17 rfl rfl ?_
                refine zw_ast 4 _ 19 f2_18 rfl (hb_45 _ _ _ _) (by decide +kernel) (by decide +kernel) (by decide +kernel) (ha_45 _ _ _ _ _) ?_
                refine zw_aload_n 20 f2_19 rfl rfl ?_
                refine zw_dup 21 f2_20 rfl rfl ?_
                refine zw_getI 4 24 f2_21 rfl g2_15_0 (hb_44 _ _ _ _) rfl rfl ?_
                refine zw_iconst 1 25 f2_24 rfl (by decide +kernel) ?_
                refine zw_iadd 5 26 f2_25 rfl (by decide +kernel) ?_
                refine zw_put _ 29 f2_26 rfl g2_15_0 (hb_44 _ _ _ _) rfl (Nat.le_of_ble_eq_true rfl) (by decide +kernel) (hi_44_4 _ _ _ _ _) ?_
                refine zw_vreturn f2_29 r2 u2 ⟨rfl, ?_⟩
                refine zw_iload_n 10 f37_9 rfl rfl ?_
                refine zw_aload_n 11 f37_10 rfl rfl ?_
                refine zw_getfield 14 f37_11 rfl g37_7_6 (hb_48 _ _ _ _) rfl ?_
                refine zw_getI (P 54 a.toNatClampNeg) 17 f37_14 rfl g37_19_0 (hb_44 _ _ _ _) rfl rfl ?_
                refine zw_iadd ((c * 2) + (P 54 a.toNatClampNeg)) 18 f37_17 rfl rfl ?_
                refine zw_ireturn f37_18 r37 u37 ⟨_, rfl, ?_⟩
                refine zw_iconst 3 15 f38_14 rfl (by decide +kernel) ?_
                refine zw_imul (((c * 2) + (P 54 a.toNatClampNeg)) * 3) 16 f38_15 rfl rfl ?_
                refine zw_ireturn f38_16 r38 u38 ⟨_, rfl, ?_⟩
                refine zw_aload_n 15 f32_14 rfl rfl ?_
                refine zw_getfield 18 f32_15 rfl g32_7_6 (hb_48 _ _ _ _) rfl ?_
                refine zw_getI (P 55 a.toNatClampNeg) 21 f32_18 rfl g32_23_0 (hb_44 _ _ _ _) rfl rfl ?_
                refine zw_iadd ((((c * 2) + (P 54 a.toNatClampNeg)) * 3) + (P 55 a.toNatClampNeg)) 22 f32_21 rfl rfl ?_
                refine zw_ireturn f32_22 r32 u32 ⟨_, rfl, ?_⟩
                refine zw_aload_n 15 f40_14 rfl rfl ?_
                refine zw_iload_n 16 f40_15 rfl rfl ?_
                refine zw_virtual_i 19 0 0 [.ref 48, .int (c * 2)] [(0, .ref 48), (1, .int (c * 2))] f40_16 rfl n40_30 k40_30_6 rfl (hb_48 _ _ _ _) (by decide +kernel) (Nat.le_of_ble_eq_true rfl) rfl rfl (by decide +kernel) (by decide +kernel) rfl (Nat.le_of_ble_eq_true rfl) rfl ?_
                refine zw_aload_n 1 f39_0 rfl rfl ?_
                refine zw_getfield 4 f39_1 rfl g39_7_6 (hb_48 _ _ _ _) rfl ?_
                refine zw_bipush 12 6 f39_4 rfl (by decide +kernel) ?_
                refine zw_virtual_v 9 0 0 [.ref 44, .int 12] [(0, .ref 44), (1, .int 12)] f39_6 rfl n39_13 k39_13_0 rfl (hb_44 _ _ _ _) (by decide +kernel) (Nat.le_of_ble_eq_true rfl) rfl rfl (by decide +kernel) (by decide +kernel) rfl (Nat.le_of_ble_eq_true rfl) rfl ?_
                refine zw_aload_n 1 f2_0 rfl rfl ?_
                refine zw_getI 5 4 f2_1 rfl g2_15_0 (hb_44 _ _ _ _) rfl rfl ?_
                refine zw_bipush 50 6 f2_4 rfl (by decide +kernel) ?_
                refine zw_ic_ge_f 9 29 f2_6 (by decide +kernel) rfl (by decide +kernel) ?_
                refine zw_aload_n 10 f2_9 rfl rfl ?_
                refine zw_getfield 13 f2_10 rfl g2_9_0 (hb_44 _ _ _ _) rfl ?_
                refine zw_aload_n 14 f2_13 rfl rfl ?_
                refine zw_getI 5 17 f2_14 rfl g2_15_0 (hb_44 _ _ _ _) rfl rfl ?_
                refine zw_iload_n 18 f2_17 rfl rfl ?_
                refine zw_ast 5 _ 19 f2_18 rfl (hb_45 _ _ _ _) (by decide +kernel) (by decide +kernel) (by decide +kernel) (ha_45 _ _ _ _ _) ?_
                refine zw_aload_n 20 f2_19 rfl rfl ?_
                refine zw_dup 21 f2_20 rfl rfl ?_
                refine zw_getI 5 24 f2_21 rfl g2_15_0 (hb_44 _ _ _ _) rfl rfl ?_
                refine zw_iconst 1 25 f2_24 rfl (by decide +kernel) ?_
                refine zw_iadd 6 26 f2_25 rfl (by decide +kernel) ?_
                refine zw_put _ 29 f2_26 rfl g2_15_0 (hb_44 _ _ _ _) rfl (Nat.le_of_ble_eq_true rfl) (by decide +kernel) (hi_44_4 _ _ _ _ _) ?_
                refine zw_vreturn f2_29 r2 u2 ⟨rfl, ?_⟩
                refine zw_iload_n 10 f39_9 rfl rfl ?_
                refine zw_aload_n 11 f39_10 rfl rfl ?_
                refine zw_getfield 14 f39_11 rfl g39_7_6 (hb_48 _ _ _ _) rfl ?_
                refine zw_getI (P 54 a.toNatClampNeg) 17 f39_14 rfl g39_19_0 (hb_44 _ _ _ _) rfl rfl ?_
                refine zw_ixor ((c * 2) ^^^ (P 54 a.toNatClampNeg)) 18 f39_17 rfl rfl ?_
                refine zw_ireturn f39_18 r39 u39 ⟨_, rfl, ?_⟩
                refine zw_isub (((((c * 2) + (P 54 a.toNatClampNeg)) * 3) + (P 55 a.toNatClampNeg)) - ((c * 2) ^^^ (P 54 a.toNatClampNeg))) 20 f40_19 rfl rfl ?_
                refine zw_ireturn f40_20 r40 u40 ⟨_, rfl, ?_⟩
                refine zw_ireturn f33_16 r33 u33 ⟨_, rfl, ?_⟩
                refine zw_virtual_i 143 0 0 [.ref 0, .int (((((c * 2) + (P 54 a.toNatClampNeg)) * 3) + (P 55 a.toNatClampNeg)) - ((c * 2) ^^^ (P 54 a.toNatClampNeg)))] [(0, .ref 0), (1, .int (((((c * 2) + (P 54 a.toNatClampNeg)) * 3) + (P 55 a.toNatClampNeg)) - ((c * 2) ^^^ (P 54 a.toNatClampNeg))))] f101_140 rfl n101_181 k101_181_11 rfl (hb_0 _ _ _ _) (by decide +kernel) (Nat.le_of_ble_eq_true rfl) rfl rfl (by decide +kernel) (by decide +kernel) rfl (Nat.le_of_ble_eq_true rfl) rfl ?_
                refine zw_aload_n 1 f106_0 rfl rfl ?_
                refine zw_iconst 0 2 f106_1 rfl (by decide +kernel) ?_
                refine zw_put _ 5 f106_2 rfl g106_70_11 (hb_0 _ _ _ _) rfl (Nat.le_of_ble_eq_true rfl) (by decide +kernel) (hi_0_7 _ _ _ _ _) ?_
                refine zw_iload_n 6 f106_5 rfl rfl ?_
                refine zw_ireturn f106_6 r106 u106 ⟨_, rfl, ?_⟩
                refine zw_ireturn f101_143 r101 u101 ?_
                exact ⟨_, _, _, _, rfl, (KQ.i rfl (KQ.i rfl (KQ.a rfl (KQ.i rfl (KQ.a rfl (KQ.i rfl (KQ.a rfl (KQ.i rfl (KQ.a rfl (KQ.i rfl (KQ.a rfl (KQ.i rfl (KQ.a rfl (KQ.i rfl (KQ.i rfl (KQ.i rfl (KQ.i rfl (KQ.i rfl KQ.rf)))))))))))))))))), by rw [show an_act nv P W a b c = (((((c * 2) + (P 54 a.toNatClampNeg)) * 3) + (P 55 a.toNatClampNeg)) - ((c * 2) ^^^ (P 54 a.toNatClampNeg))) from ((cI_y ⟨(qV.ofc (by omega) hc1 hc2), ⟨hc4, hc5⟩⟩).trans ((cI_n (sw_ne hs7 (by decide))).trans ((cI_n (sw_ne hs7 (by decide))).trans ((cI_n (sw_ne hs7 (by decide))).trans ((cI_n (kne hk (by decide))).trans ((cI_y hk).trans rfl))))))]⟩
              · rcases (show hs7k = 0 ∨ hs7k = 1 ∨ hs7k = 2 by omega) with rfl | rfl | rfl
                · refine zw_table_k 25 100 f101_75 hs7e (by decide +kernel) (by decide +kernel) (by decide +kernel) ?_
                  refine zw_aload_n 101 f101_100 rfl (zl1_ne rfl rfl (zl1_ne rfl rfl rfl)) ?_
                  refine zw_aload 103 f101_101 rfl zl1_eq ?_
                  refine zw_iload_n 104 f101_103 rfl (zl1_ne rfl rfl (zl1_ne rfl rfl rfl)) ?_
                  refine zw_virtual_i 107 0 0 [.ref 48, .int c] [(0, .ref 48), (1, .int c)] f101_104 rfl n101_289 k101_289_6 rfl (hb_48 _ _ _ _) (by decide +kernel) (Nat.le_of_ble_eq_true rfl) rfl rfl (by decide +kernel) (by decide +kernel) rfl (Nat.le_of_ble_eq_true rfl) rfl ?_
                  refine zw_aload_n 1 f37_0 rfl rfl ?_
                  refine zw_getfield 4 f37_1 rfl g37_7_6 (hb_48 _ _ _ _) rfl ?_
                  refine zw_bipush 10 6 f37_4 rfl (by decide +kernel) ?_
                  refine zw_virtual_v 9 0 0 [.ref 44, .int 10] [(0, .ref 44), (1, .int 10)] f37_6 rfl n37_13 k37_13_0 rfl (hb_44 _ _ _ _) (by decide +kernel) (Nat.le_of_ble_eq_true rfl) rfl rfl (by decide +kernel) (by decide +kernel) rfl (Nat.le_of_ble_eq_true rfl) rfl ?_
                  refine zw_aload_n 1 f2_0 rfl rfl ?_
                  refine zw_getI 0 4 f2_1 rfl g2_15_0 (hb_44 _ _ _ _) rfl rfl ?_
                  refine zw_bipush 50 6 f2_4 rfl (by decide +kernel) ?_
                  refine zw_ic_ge_f 9 29 f2_6 (by decide +kernel) rfl (by decide +kernel) ?_
                  refine zw_aload_n 10 f2_9 rfl rfl ?_
                  refine zw_getfield 13 f2_10 rfl g2_9_0 (hb_44 _ _ _ _) rfl ?_
                  refine zw_aload_n 14 f2_13 rfl rfl ?_
                  refine zw_getI 0 17 f2_14 rfl g2_15_0 (hb_44 _ _ _ _) rfl rfl ?_
                  refine zw_iload_n 18 f2_17 rfl rfl ?_
                  refine zw_ast 0 _ 19 f2_18 rfl (hb_45 _ _ _ _) (by decide +kernel) (by decide +kernel) (by decide +kernel) (ha_45 _ _ _ _ _) ?_
                  refine zw_aload_n 20 f2_19 rfl rfl ?_
                  refine zw_dup 21 f2_20 rfl rfl ?_
                  refine zw_getI 0 24 f2_21 rfl g2_15_0 (hb_44 _ _ _ _) rfl rfl ?_
                  refine zw_iconst 1 25 f2_24 rfl (by decide +kernel) ?_
                  refine zw_iadd 1 26 f2_25 rfl (by decide +kernel) ?_
                  refine zw_put _ 29 f2_26 rfl g2_15_0 (hb_44 _ _ _ _) rfl (Nat.le_of_ble_eq_true rfl) (by decide +kernel) (hi_44_4 _ _ _ _ _) ?_
                  refine zw_vreturn f2_29 r2 u2 ⟨rfl, ?_⟩
                  refine zw_iload_n 10 f37_9 rfl rfl ?_
                  refine zw_aload_n 11 f37_10 rfl rfl ?_
                  refine zw_getfield 14 f37_11 rfl g37_7_6 (hb_48 _ _ _ _) rfl ?_
                  refine zw_getI (P 54 a.toNatClampNeg) 17 f37_14 rfl g37_19_0 (hb_44 _ _ _ _) rfl rfl ?_
                  refine zw_iadd (c + (P 54 a.toNatClampNeg)) 18 f37_17 rfl rfl ?_
                  refine zw_ireturn f37_18 r37 u37 ⟨_, rfl, ?_⟩
                  refine zw_virtual_i 110 0 0 [.ref 0, .int (c + (P 54 a.toNatClampNeg))] [(0, .ref 0), (1, .int (c + (P 54 a.toNatClampNeg)))] f101_107 rfl n101_181 k101_181_11 rfl (hb_0 _ _ _ _) (by decide +kernel) (Nat.le_of_ble_eq_true rfl) rfl rfl (by decide +kernel) (by decide +kernel) rfl (Nat.le_of_ble_eq_true rfl) rfl ?_
                  refine zw_aload_n 1 f106_0 rfl rfl ?_
                  refine zw_iconst 0 2 f106_1 rfl (by decide +kernel) ?_
                  refine zw_put _ 5 f106_2 rfl g106_70_11 (hb_0 _ _ _ _) rfl (Nat.le_of_ble_eq_true rfl) (by decide +kernel) (hi_0_7 _ _ _ _ _) ?_
                  refine zw_iload_n 6 f106_5 rfl rfl ?_
                  refine zw_ireturn f106_6 r106 u106 ⟨_, rfl, ?_⟩
                  refine zw_ireturn f101_110 r101 u101 ?_
                  exact ⟨_, _, _, _, rfl, (KQ.i rfl (KQ.i rfl (KQ.a rfl (KQ.i rfl (KQ.i rfl (KQ.i rfl (KQ.i rfl (KQ.i rfl KQ.rf)))))))), by rw [show an_act nv P W a b c = (c + (P 54 a.toNatClampNeg)) from ((cI_y ⟨(qV.ofc (by omega) hc1 hc2), ⟨hc4, hc5⟩⟩).trans ((cI_y (show b = 0 from hs7e)).trans ((cI_n (kne hk (by decide))).trans ((cI_y hk).trans rfl))))]⟩
                · refine zw_table_k 36 111 f101_75 hs7e (by decide +kernel) (by decide +kernel) (by decide +kernel) ?_
                  refine zw_aload_n 112 f101_111 rfl (zl1_ne rfl rfl (zl1_ne rfl rfl rfl)) ?_
                  refine zw_aload 114 f101_112 rfl zl1_eq ?_
                  refine zw_iload_n 115 f101_114 rfl (zl1_ne rfl rfl (zl1_ne rfl rfl rfl)) ?_
                  refine zw_virtual_i 118 0 0 [.ref 48, .int c] [(0, .ref 48), (1, .int c)] f101_115 rfl n101_292 k101_292_6 rfl (hb_48 _ _ _ _) (by decide +kernel) (Nat.le_of_ble_eq_true rfl) rfl rfl (by decide +kernel) (by decide +kernel) rfl (Nat.le_of_ble_eq_true rfl) rfl ?_
                  refine zw_aload_n 1 f32_0 rfl rfl ?_
                  refine zw_getfield 4 f32_1 rfl g32_7_6 (hb_48 _ _ _ _) rfl ?_
                  refine zw_bipush 20 6 f32_4 rfl (by decide +kernel) ?_
                  refine zw_virtual_v 9 0 0 [.ref 44, .int 20] [(0, .ref 44), (1, .int 20)] f32_6 rfl n32_13 k32_13_0 rfl (hb_44 _ _ _ _) (by decide +kernel) (Nat.le_of_ble_eq_true rfl) rfl rfl (by decide +kernel) (by decide +kernel) rfl (Nat.le_of_ble_eq_true rfl) rfl ?_
                  refine zw_aload_n 1 f2_0 rfl rfl ?_
                  refine zw_getI 0 4 f2_1 rfl g2_15_0 (hb_44 _ _ _ _) rfl rfl ?_
                  refine zw_bipush 50 6 f2_4 rfl (by decide +kernel) ?_
                  refine zw_ic_ge_f 9 29 f2_6 (by decide +kernel) rfl (by decide +kernel) ?_
                  refine zw_aload_n 10 f2_9 rfl rfl ?_
                  refine zw_getfield 13 f2_10 rfl g2_9_0 (hb_44 _ _ _ _) rfl ?_
                  refine zw_aload_n 14 f2_13 rfl rfl ?_
                  refine zw_getI 0 17 f2_14 rfl g2_15_0 (hb_44 _ _ _ _) rfl rfl ?_
                  refine zw_iload_n 18 f2_17 rfl rfl ?_
                  refine zw_ast 0 _ 19 f2_18 rfl (hb_45 _ _ _ _) (by decide +kernel) (by decide +kernel) (by decide +kernel) (ha_45 _ _ _ _ _) ?_
                  refine zw_aload_n 20 f2_19 rfl rfl ?_
                  refine zw_dup 21 f2_20 rfl rfl ?_
                  refine zw_getI 0 24 f2_21 rfl g2_15_0 (hb_44 _ _ _ _) rfl rfl ?_
                  refine zw_iconst 1 25 f2_24 rfl (by decide +kernel) ?_
                  refine zw_iadd 1 26 f2_25 rfl (by decide +kernel) ?_
                  refine zw_put _ 29 f2_26 rfl g2_15_0 (hb_44 _ _ _ _) rfl (Nat.le_of_ble_eq_true rfl) (by decide +kernel) (hi_44_4 _ _ _ _ _) ?_
                  refine zw_vreturn f2_29 r2 u2 ⟨rfl, ?_⟩
                  refine zw_aload_n 10 f32_9 rfl rfl ?_
                  refine zw_iload_n 11 f32_10 rfl rfl ?_
                  refine zw_super_i 14 0 0 [.ref 48, .int c] [(0, .ref 48), (1, .int c)] f32_11 rfl k32_19_99 k32_19_98 (by decide +kernel) rfl (hb_48 _ _ _ _) (by decide +kernel) (Nat.le_of_ble_eq_true rfl) rfl rfl (by decide +kernel) (by decide +kernel) rfl (Nat.le_of_ble_eq_true rfl) rfl ?_
                  refine zw_aload_n 1 f38_0 rfl rfl ?_
                  refine zw_getfield 4 f38_1 rfl g38_7_6 (hb_48 _ _ _ _) rfl ?_
                  refine zw_bipush 11 6 f38_4 rfl (by decide +kernel) ?_
                  refine zw_virtual_v 9 0 0 [.ref 44, .int 11] [(0, .ref 44), (1, .int 11)] f38_6 rfl n38_13 k38_13_0 rfl (hb_44 _ _ _ _) (by decide +kernel) (Nat.le_of_ble_eq_true rfl) rfl rfl (by decide +kernel) (by decide +kernel) rfl (Nat.le_of_ble_eq_true rfl) rfl ?_
                  refine zw_aload_n 1 f2_0 rfl rfl ?_
                  refine zw_getI 1 4 f2_1 rfl g2_15_0 (hb_44 _ _ _ _) rfl rfl ?_
                  refine zw_bipush 50 6 f2_4 rfl (by decide +kernel) ?_
                  refine zw_ic_ge_f 9 29 f2_6 (by decide +kernel) rfl (by decide +kernel) ?_
                  refine zw_aload_n 10 f2_9 rfl rfl ?_
                  refine zw_getfield 13 f2_10 rfl g2_9_0 (hb_44 _ _ _ _) rfl ?_
                  refine zw_aload_n 14 f2_13 rfl rfl ?_
                  refine zw_getI 1 17 f2_14 rfl g2_15_0 (hb_44 _ _ _ _) rfl rfl ?_
                  refine zw_iload_n 18 f2_17 rfl rfl ?_
                  refine zw_ast 1 _ 19 f2_18 rfl (hb_45 _ _ _ _) (by decide +kernel) (by decide +kernel) (by decide +kernel) (ha_45 _ _ _ _ _) ?_
                  refine zw_aload_n 20 f2_19 rfl rfl ?_
                  refine zw_dup 21 f2_20 rfl rfl ?_
                  refine zw_getI 1 24 f2_21 rfl g2_15_0 (hb_44 _ _ _ _) rfl rfl ?_
                  refine zw_iconst 1 25 f2_24 rfl (by decide +kernel) ?_
                  refine zw_iadd 2 26 f2_25 rfl (by decide +kernel) ?_
                  refine zw_put _ 29 f2_26 rfl g2_15_0 (hb_44 _ _ _ _) rfl (Nat.le_of_ble_eq_true rfl) (by decide +kernel) (hi_44_4 _ _ _ _ _) ?_
                  refine zw_vreturn f2_29 r2 u2 ⟨rfl, ?_⟩
                  refine zw_aload_n 10 f38_9 rfl rfl ?_
                  refine zw_iload_n 11 f38_10 rfl rfl ?_
                  refine zw_virtual_i 14 0 0 [.ref 48, .int c] [(0, .ref 48), (1, .int c)] f38_11 rfl n38_23 k38_23_6 rfl (hb_48 _ _ _ _) (by decide +kernel) (Nat.le_of_ble_eq_true rfl) rfl rfl (by decide +kernel) (by decide +kernel) rfl (Nat.le_of_ble_eq_true rfl) rfl ?_
                  refine zw_aload_n 1 f37_0 rfl rfl ?_
                  refine zw_getfield 4 f37_1 rfl g37_7_6 (hb_48 _ _ _ _) rfl ?_
                  refine zw_bipush 10 6 f37_4 rfl (by decide +kernel) ?_
                  refine zw_virtual_v 9 0 0 [.ref 44, .int 10] [(0, .ref 44), (1, .int 10)] f37_6 rfl n37_13 k37_13_0 rfl (hb_44 _ _ _ _) (by decide +kernel) (Nat.le_of_ble_eq_true rfl) rfl rfl (by decide +kernel) (by decide +kernel) rfl (Nat.le_of_ble_eq_true rfl) rfl ?_
                  refine zw_aload_n 1 f2_0 rfl rfl ?_
                  refine zw_getI 2 4 f2_1 rfl g2_15_0 (hb_44 _ _ _ _) rfl rfl ?_
                  refine zw_bipush 50 6 f2_4 rfl (by decide +kernel) ?_
                  refine zw_ic_ge_f 9 29 f2_6 (by decide +kernel) rfl (by decide +kernel) ?_
                  refine zw_aload_n 10 f2_9 rfl rfl ?_
                  refine zw_getfield 13 f2_10 rfl g2_9_0 (hb_44 _ _ _ _) rfl ?_
                  refine zw_aload_n 14 f2_13 rfl rfl ?_
                  refine zw_getI 2 17 f2_14 rfl g2_15_0 (hb_44 _ _ _ _) rfl rfl ?_
                  refine zw_iload_n 18 f2_17 rfl rfl ?_
                  refine zw_ast 2 _ 19 f2_18 rfl (hb_45 _ _ _ _) (by decide +kernel) (by decide +kernel) (by decide +kernel) (ha_45 _ _ _ _ _) ?_
                  refine zw_aload_n 20 f2_19 rfl rfl ?_
                  refine zw_dup 21 f2_20 rfl rfl ?_
                  refine zw_getI 2 24 f2_21 rfl g2_15_0 (hb_44 _ _ _ _) rfl rfl ?_
                  refine zw_iconst 1 25 f2_24 rfl (by decide +kernel) ?_
                  refine zw_iadd 3 26 f2_25 rfl (by decide +kernel) ?_
                  refine zw_put _ 29 f2_26 rfl g2_15_0 (hb_44 _ _ _ _) rfl (Nat.le_of_ble_eq_true rfl) (by decide +kernel) (hi_44_4 _ _ _ _ _) ?_
                  refine zw_vreturn f2_29 r2 u2 ⟨rfl, ?_⟩
                  refine zw_iload_n 10 f37_9 rfl rfl ?_
                  refine zw_aload_n 11 f37_10 rfl rfl ?_
                  refine zw_getfield 14 f37_11 rfl g37_7_6 (hb_48 _ _ _ _) rfl ?_
                  refine zw_getI (P 54 a.toNatClampNeg) 17 f37_14 rfl g37_19_0 (hb_44 _ _ _ _) rfl rfl ?_
                  refine zw_iadd (c + (P 54 a.toNatClampNeg)) 18 f37_17 rfl rfl ?_
                  refine zw_ireturn f37_18 r37 u37 ⟨_, rfl, ?_⟩
                  refine zw_iconst 3 15 f38_14 rfl (by decide +kernel) ?_
                  refine zw_imul ((c + (P 54 a.toNatClampNeg)) * 3) 16 f38_15 rfl rfl ?_
                  refine zw_ireturn f38_16 r38 u38 ⟨_, rfl, ?_⟩
                  refine zw_aload_n 15 f32_14 rfl rfl ?_
                  refine zw_getfield 18 f32_15 rfl g32_7_6 (hb_48 _ _ _ _) rfl ?_
                  refine zw_getI (P 55 a.toNatClampNeg) 21 f32_18 rfl g32_23_0 (hb_44 _ _ _ _) rfl rfl ?_
                  refine zw_iadd (((c + (P 54 a.toNatClampNeg)) * 3) + (P 55 a.toNatClampNeg)) 22 f32_21 rfl rfl ?_
                  refine zw_ireturn f32_22 r32 u32 ⟨_, rfl, ?_⟩
                  refine zw_virtual_i 121 0 0 [.ref 0, .int (((c + (P 54 a.toNatClampNeg)) * 3) + (P 55 a.toNatClampNeg))] [(0, .ref 0), (1, .int (((c + (P 54 a.toNatClampNeg)) * 3) + (P 55 a.toNatClampNeg)))] f101_118 rfl n101_181 k101_181_11 rfl (hb_0 _ _ _ _) (by decide +kernel) (Nat.le_of_ble_eq_true rfl) rfl rfl (by decide +kernel) (by decide +kernel) rfl (Nat.le_of_ble_eq_true rfl) rfl ?_
                  refine zw_aload_n 1 f106_0 rfl rfl ?_
                  refine zw_iconst 0 2 f106_1 rfl (by decide +kernel) ?_
                  refine zw_put _ 5 f106_2 rfl g106_70_11 (hb_0 _ _ _ _) rfl (Nat.le_of_ble_eq_true rfl) (by decide +kernel) (hi_0_7 _ _ _ _ _) ?_
                  refine zw_iload_n 6 f106_5 rfl rfl ?_
                  refine zw_ireturn f106_6 r106 u106 ⟨_, rfl, ?_⟩
                  refine zw_ireturn f101_121 r101 u101 ?_
                  exact ⟨_, _, _, _, rfl, (KQ.i rfl (KQ.i rfl (KQ.a rfl (KQ.i rfl (KQ.a rfl (KQ.i rfl (KQ.a rfl (KQ.i rfl (KQ.i rfl (KQ.i rfl (KQ.i rfl (KQ.i rfl KQ.rf)))))))))))), by rw [show an_act nv P W a b c = (((c + (P 54 a.toNatClampNeg)) * 3) + (P 55 a.toNatClampNeg)) from ((cI_y ⟨(qV.ofc (by omega) hc1 hc2), ⟨hc4, hc5⟩⟩).trans ((cI_n (kne (show b = 1 from hs7e) (by decide))).trans ((cI_y (show b = 1 from hs7e)).trans ((cI_n (kne hk (by decide))).trans ((cI_y hk).trans rfl)))))]⟩
                · refine zw_table_k 47 122 f101_75 hs7e (by decide +kernel) (by decide +kernel) (by decide +kernel) ?_
                  refine zw_aload_n 123 f101_122 rfl (zl1_ne rfl rfl (zl1_ne rfl rfl rfl)) ?_
                  refine zw_aload 125 f101_123 rfl zl1_eq ?_
                  refine zw_iload_n 126 f101_125 rfl (zl1_ne rfl rfl (zl1_ne rfl rfl rfl)) ?_
                  refine zw_virtual_i 129 0 0 [.ref 48, .int c] [(0, .ref 48), (1, .int c)] f101_126 rfl n101_295 k101_295_6 rfl (hb_48 _ _ _ _) (by decide +kernel) (Nat.le_of_ble_eq_true rfl) rfl rfl (by decide +kernel) (by decide +kernel) rfl (Nat.le_of_ble_eq_true rfl) rfl ?_
                  refine zw_aload_n 1 f39_0 rfl rfl ?_
                  refine zw_getfield 4 f39_1 rfl g39_7_6 (hb_48 _ _ _ _) rfl ?_
                  refine zw_bipush 12 6 f39_4 rfl (by decide +kernel) ?_
                  refine zw_virtual_v 9 0 0 [.ref 44, .int 12] [(0, .ref 44), (1, .int 12)] f39_6 rfl n39_13 k39_13_0 rfl (hb_44 _ _ _ _) (by decide +kernel) (Nat.le_of_ble_eq_true rfl) rfl rfl (by decide +kernel) (by decide +kernel) rfl (Nat.le_of_ble_eq_true rfl) rfl ?_
                  refine zw_aload_n 1 f2_0 rfl rfl ?_
                  refine zw_getI 0 4 f2_1 rfl g2_15_0 (hb_44 _ _ _ _) rfl rfl ?_
                  refine zw_bipush 50 6 f2_4 rfl (by decide +kernel) ?_
                  refine zw_ic_ge_f 9 29 f2_6 (by decide +kernel) rfl (by decide +kernel) ?_
                  refine zw_aload_n 10 f2_9 rfl rfl ?_
                  refine zw_getfield 13 f2_10 rfl g2_9_0 (hb_44 _ _ _ _) rfl ?_
                  refine zw_aload_n 14 f2_13 rfl rfl ?_
                  refine zw_getI 0 17 f2_14 rfl g2_15_0 (hb_44 _ _ _ _) rfl rfl ?_
                  refine zw_iload_n 18 f2_17 rfl rfl ?_
                  refine zw_ast 0 _ 19 f2_18 rfl (hb_45 _ _ _ _) (by decide +kernel) (by decide +kernel) (by decide +kernel) (ha_45 _ _ _ _ _) ?_
                  refine zw_aload_n 20 f2_19 rfl rfl ?_
                  refine zw_dup 21 f2_20 rfl rfl ?_
                  refine zw_getI 0 24 f2_21 rfl g2_15_0 (hb_44 _ _ _ _) rfl rfl ?_
                  refine zw_iconst 1 25 f2_24 rfl (by decide +kernel) ?_
                  refine zw_iadd 1 26 f2_25 rfl (by decide +kernel) ?_
                  refine zw_put _ 29 f2_26 rfl g2_15_0 (hb_44 _ _ _ _) rfl (Nat.le_of_ble_eq_true rfl) (by decide +kernel) (hi_44_4 _ _ _ _ _) ?_
                  refine zw_vreturn f2_29 r2 u2 ⟨rfl, ?_⟩
                  refine zw_iload_n 10 f39_9 rfl rfl ?_
                  refine zw_aload_n 11 f39_10 rfl rfl ?_
                  refine zw_getfield 14 f39_11 rfl g39_7_6 (hb_48 _ _ _ _) rfl ?_
                  refine zw_getI (P 54 a.toNatClampNeg) 17 f39_14 rfl g39_19_0 (hb_44 _ _ _ _) rfl rfl ?_
                  refine zw_ixor (c ^^^ (P 54 a.toNatClampNeg)) 18 f39_17 rfl rfl ?_
                  refine zw_ireturn f39_18 r39 u39 ⟨_, rfl, ?_⟩
                  refine zw_virtual_i 132 0 0 [.ref 0, .int (c ^^^ (P 54 a.toNatClampNeg))] [(0, .ref 0), (1, .int (c ^^^ (P 54 a.toNatClampNeg)))] f101_129 rfl n101_181 k101_181_11 rfl (hb_0 _ _ _ _) (by decide +kernel) (Nat.le_of_ble_eq_true rfl) rfl rfl (by decide +kernel) (by decide +kernel) rfl (Nat.le_of_ble_eq_true rfl) rfl ?_
                  refine zw_aload_n 1 f106_0 rfl rfl ?_
                  refine zw_iconst 0 2 f106_1 rfl (by decide +kernel) ?_
                  refine zw_put _ 5 f106_2 rfl g106_70_11 (hb_0 _ _ _ _) rfl (Nat.le_of_ble_eq_true rfl) (by decide +kernel) (hi_0_7 _ _ _ _ _) ?_
                  refine zw_iload_n 6 f106_5 rfl rfl ?_
                  refine zw_ireturn f106_6 r106 u106 ⟨_, rfl, ?_⟩
                  refine zw_ireturn f101_132 r101 u101 ?_
                  exact ⟨_, _, _, _, rfl, (KQ.i rfl (KQ.i rfl (KQ.a rfl (KQ.i rfl (KQ.i rfl (KQ.i rfl (KQ.i rfl (KQ.i rfl KQ.rf)))))))), by rw [show an_act nv P W a b c = (c ^^^ (P 54 a.toNatClampNeg)) from ((cI_y ⟨(qV.ofc (by omega) hc1 hc2), ⟨hc4, hc5⟩⟩).trans ((cI_n (kne (show b = 2 from hs7e) (by decide))).trans ((cI_n (kne (show b = 2 from hs7e) (by decide))).trans ((cI_y (show b = 2 from hs7e)).trans ((cI_n (kne hk (by decide))).trans ((cI_y hk).trans rfl))))))]⟩
            · refine zw_aaload 2 42 f101_41 rfl (hb_46 _ _ _ _) (by rw [hk]; decide) (by rw [hk]; decide) (by decide) rfl ?_
              refine zw_astore _ 44 f101_42 rfl (by decide +kernel) rfl ?_
              refine zw_aload 46 f101_44 rfl zl1_eq ?_
              refine zw_ifnonnull 55 f101_46 (by decide +kernel) ?_
              refine zw_aload_n 56 f101_55 rfl (zl1_ne rfl rfl (zl1_ne rfl rfl rfl)) ?_
              refine zw_getfield 59 f101_56 rfl g101_45_11 (hb_0 _ _ _ _) rfl ?_
              refine zw_aload_n 60 f101_59 rfl (zl1_ne rfl rfl (zl1_ne rfl rfl rfl)) ?_
              refine zw_getfield 63 f101_60 rfl g101_10_11 (hb_0 _ _ _ _) rfl ?_
              refine zw_aload_n 64 f101_63 rfl (zl1_ne rfl rfl (zl1_ne rfl rfl rfl)) ?_
              refine zw_getfield 67 f101_64 rfl g101_21_11 (hb_0 _ _ _ _) rfl ?_
              refine zw_getfield 70 f101_67 rfl g101_134_10 (hb_11 _ _ _ _) rfl ?_
              refine zw_iload_n 71 f101_70 rfl (zl1_ne rfl rfl (zl1_ne rfl rfl rfl)) ?_
              refine zw_virtual_v 74 0 0 [.ref 44, .ref 1, .ref 12, .int a] [(0, .ref 44), (1, .ref 1), (2, .ref 12), (3, .int a)] f101_71 rfl n101_285 k101_285_0 rfl (hb_44 _ _ _ _) (by decide +kernel) (Nat.le_of_ble_eq_true rfl) rfl rfl (by decide +kernel) (by decide +kernel) rfl (Nat.le_of_ble_eq_true rfl) rfl ?_
              refine zw_aload_n 1 f1_0 rfl rfl ?_
              refine zw_iconst 0 2 f1_1 rfl (by decide +kernel) ?_
              refine zw_put _ 5 f1_2 rfl g1_15_0 (hb_44 _ _ _ _) rfl (Nat.le_of_ble_eq_true rfl) (by decide +kernel) (hi_44_4 _ _ _ _ _) ?_
              refine zw_aload_n 6 f1_5 rfl rfl ?_
              refine zw_iload_n 7 f1_6 rfl rfl ?_
              refine zw_virtual_i 10 0 0 [.ref 1, .int a] [(0, .ref 1), (1, .int a)] f1_7 rfl n1_19 k1_19_4 rfl (hb_1 _ _ _ _) (by decide +kernel) (Nat.le_of_ble_eq_true rfl) rfl rfl (by decide +kernel) (by decide +kernel) rfl (Nat.le_of_ble_eq_true rfl) rfl ?_
              refine zw_iload_n 1 f13_0 rfl rfl ?_
              refine zw_if_lt_f 4 22 f13_1 (by decide +kernel) rfl hc1 ?_
              refine zw_iload_n 5 f13_4 rfl rfl ?_
              refine zw_aload_n 6 f13_5 rfl rfl ?_
              refine zw_getI (nI nv) 9 f13_6 rfl g13_39_4 (hb_1 _ _ _ _) rfl hR.1.1 ?_
              refine zw_ic_ge_f 12 22 f13_9 (by decide +kernel) rfl hc2 ?_
              refine zw_iload_n 13 f13_12 rfl rfl ?_
              refine zw_bipush 8 15 f13_13 rfl (by decide +kernel) ?_
              refine zw_ic_ge_f 18 22 f13_15 (by decide +kernel) rfl hc3 ?_
              refine zw_iconst 1 19 f13_18 rfl (by decide +kernel) ?_
              refine zw_goto 23 f13_19 (by decide +kernel) ?_
              refine zw_zreturn f13_23 r13 u13 (by decide +kernel) ⟨_, rfl, ?_⟩
              refine zw_if_eq_f 13 53 f1_10 (by decide +kernel) rfl (by decide +kernel) ?_
              refine zw_aload_n 14 f1_13 rfl rfl ?_
              refine zw_aload_n 15 f1_14 rfl rfl ?_
              refine zw_getfield 18 f1_15 rfl g1_25_4 (hb_1 _ _ _ _) rfl ?_
              refine zw_iload_n 19 f1_18 rfl rfl ?_
              refine zw_iaload a.toNatClampNeg (P 54 a.toNatClampNeg) 20 f1_19 rfl (hb_3 _ _ _ _) rfl hc1 (zix (by decide) hc1 hc3) (congrFun ((hR.2.1 54 (by omega) (by omega))) a.toNatClampNeg) ?_
              refine zw_put _ 23 f1_20 rfl g1_28_0 (hb_44 _ _ _ _) rfl (Nat.le_of_ble_eq_true rfl) (by decide +kernel) (hi_44_0 _ _ _ _ _) ?_
              refine zw_aload_n 24 f1_23 rfl rfl ?_
              refine zw_aload_n 25 f1_24 rfl rfl ?_
              refine zw_getfield 28 f1_25 rfl g1_31_4 (hb_1 _ _ _ _) rfl ?_
              refine zw_iload_n 29 f1_28 rfl rfl ?_
              refine zw_iaload a.toNatClampNeg (P 55 a.toNatClampNeg) 30 f1_29 rfl (hb_4 _ _ _ _) rfl hc1 (zix (by decide) hc1 hc3) (congrFun ((hR.2.1 55 (by omega) (by omega))) a.toNatClampNeg) ?_
              refine zw_put _ 33 f1_30 rfl g1_34_0 (hb_44 _ _ _ _) rfl (Nat.le_of_ble_eq_true rfl) (by decide +kernel) (hi_44_1 _ _ _ _ _) ?_
              refine zw_aload_n 34 f1_33 rfl rfl ?_
              refine zw_aload_n 35 f1_34 rfl rfl ?_
              refine zw_getfield 38 f1_35 rfl g1_37_4 (hb_1 _ _ _ _) rfl ?_
              refine zw_iload_n 39 f1_38 rfl rfl ?_
              refine zw_iaload a.toNatClampNeg (P 56 a.toNatClampNeg) 40 f1_39 rfl (hb_5 _ _ _ _) rfl hc1 (zix (by decide) hc1 hc3) (congrFun ((hR.2.1 56 (by omega) (by omega))) a.toNatClampNeg) ?_
              refine zw_put _ 43 f1_40 rfl g1_40_0 (hb_44 _ _ _ _) rfl (Nat.le_of_ble_eq_true rfl) (by decide +kernel) (hi_44_2 _ _ _ _ _) ?_
              refine zw_aload_n 44 f1_43 rfl rfl ?_
              refine zw_aload_n 45 f1_44 rfl rfl ?_
              refine zw_getfield 48 f1_45 rfl g1_43_9 (hb_12 _ _ _ _) rfl ?_
              refine zw_iload_n 49 f1_48 rfl rfl ?_
              refine zw_iaload a.toNatClampNeg (A 14 a.toNatClampNeg) 50 f1_49 rfl (hb_14 _ _ _ _) rfl hc1 (zix (by decide) hc1 hc3) rfl ?_
              refine zw_put _ 53 f1_50 rfl g1_48_0 (hb_44 _ _ _ _) rfl (Nat.le_of_ble_eq_true rfl) (by decide +kernel) (hi_44_3 _ _ _ _ _) ?_
              refine zw_vreturn f1_53 r1 u1 ⟨rfl, ?_⟩
              refine zw_iload_n 75 f101_74 rfl (zl1_ne rfl rfl (zl1_ne rfl rfl rfl)) ?_
              rcases zl_sw 2 (by decide) b with hs8 | ⟨hs8k, hs8l, hs8e⟩
              · refine zw_table_o 133 f101_75 hs8 (by decide +kernel) ?_
                refine zw_aload_n 134 f101_133 rfl (zl1_ne rfl rfl (zl1_ne rfl rfl rfl)) ?_
                refine zw_aload 136 f101_134 rfl zl1_eq ?_
                refine zw_iload_n 137 f101_136 rfl (zl1_ne rfl rfl (zl1_ne rfl rfl rfl)) ?_
                refine zw_virtual_i 140 0 0 [.ref 49, .int c] [(0, .ref 49), (1, .int c)] f101_137 rfl n101_298 k101_298_7 rfl (hb_49 _ _ _ _) (by decide +kernel) (Nat.le_of_ble_eq_true rfl) rfl rfl (by decide +kernel) (by decide +kernel) rfl (Nat.le_of_ble_eq_true rfl) rfl ?_
                refine zw_aload_n 1 f40_0 rfl rfl ?_
                refine zw_getfield 4 f40_1 rfl g40_7_7 (hb_49 _ _ _ _) rfl ?_
                refine zw_bipush 13 6 f40_4 rfl (by decide +kernel) ?_
                refine zw_virtual_v 9 0 0 [.ref 44, .int 13] [(0, .ref 44), (1, .int 13)] f40_6 rfl n40_13 k40_13_0 rfl (hb_44 _ _ _ _) (by decide +kernel) (Nat.le_of_ble_eq_true rfl) rfl rfl (by decide +kernel) (by decide +kernel) rfl (Nat.le_of_ble_eq_true rfl) rfl ?_
                refine zw_aload_n 1 f2_0 rfl rfl ?_
                refine zw_getI 0 4 f2_1 rfl g2_15_0 (hb_44 _ _ _ _) rfl rfl ?_
                refine zw_bipush 50 6 f2_4 rfl (by decide +kernel) ?_
                refine zw_ic_ge_f 9 29 f2_6 (by decide +kernel) rfl (by decide +kernel) ?_
                refine zw_aload_n 10 f2_9 rfl rfl ?_
                refine zw_getfield 13 f2_10 rfl g2_9_0 (hb_44 _ _ _ _) rfl ?_
                refine zw_aload_n 14 f2_13 rfl rfl ?_
                refine zw_getI 0 17 f2_14 rfl g2_15_0 (hb_44 _ _ _ _) rfl rfl ?_
                refine zw_iload_n 18 f2_17 rfl rfl ?_
                refine zw_ast 0 _ 19 f2_18 rfl (hb_45 _ _ _ _) (by decide +kernel) (by decide +kernel) (by decide +kernel) (ha_45 _ _ _ _ _) ?_
                refine zw_aload_n 20 f2_19 rfl rfl ?_
                refine zw_dup 21 f2_20 rfl rfl ?_
                refine zw_getI 0 24 f2_21 rfl g2_15_0 (hb_44 _ _ _ _) rfl rfl ?_
                refine zw_iconst 1 25 f2_24 rfl (by decide +kernel) ?_
                refine zw_iadd 1 26 f2_25 rfl (by decide +kernel) ?_
                refine zw_put _ 29 f2_26 rfl g2_15_0 (hb_44 _ _ _ _) rfl (Nat.le_of_ble_eq_true rfl) (by decide +kernel) (hi_44_4 _ _ _ _ _) ?_
                refine zw_vreturn f2_29 r2 u2 ⟨rfl, ?_⟩
                refine zw_aload_n 10 f40_9 rfl rfl ?_
                refine zw_iload_n 11 f40_10 rfl rfl ?_
                refine zw_virtual_i 14 0 0 [.ref 49, .int c] [(0, .ref 49), (1, .int c)] f40_11 rfl n40_27 k40_27_7 rfl (hb_49 _ _ _ _) (by decide +kernel) (Nat.le_of_ble_eq_true rfl) rfl rfl (by decide +kernel) (by decide +kernel) rfl (Nat.le_of_ble_eq_true rfl) rfl ?_
                refine zw_aload_n 1 f38_0 rfl rfl ?_
                refine zw_getfield 4 f38_1 rfl g38_7_7 (hb_49 _ _ _ _) rfl ?_
                refine zw_bipush 11 6 f38_4 rfl (by decide +kernel) ?_
                refine zw_virtual_v 9 0 0 [.ref 44, .int 11] [(0, .ref 44), (1, .int 11)] f38_6 rfl n38_13 k38_13_0 rfl (hb_44 _ _ _ _) (by decide +kernel) (Nat.le_of_ble_eq_true rfl) rfl rfl (by decide +kernel) (by decide +kernel) rfl (Nat.le_of_ble_eq_true rfl) rfl ?_
                refine zw_aload_n 1 f2_0 rfl rfl ?_
                refine zw_getI 1 4 f2_1 rfl g2_15_0 (hb_44 _ _ _ _) rfl rfl ?_
                refine zw_bipush 50 6 f2_4 rfl (by decide +kernel) ?_
                refine zw_ic_ge_f 9 29 f2_6 (by decide +kernel) rfl (by decide +kernel) ?_
                refine zw_aload_n 10 f2_9 rfl rfl ?_
                refine zw_getfield 13 f2_10 rfl g2_9_0 (hb_44 _ _ _ _) rfl ?_
                refine zw_aload_n 14 f2_13 rfl rfl ?_
                refine zw_getI 1 17 f2_14 rfl g2_15_0 (hb_44 _ _ _ _) rfl rfl ?_
                refine zw_iload_n 18 f2_17 rfl rfl ?_
                refine zw_ast 1 _ 19 f2_18 rfl (hb_45 _ _ _ _) (by decide +kernel) (by decide +kernel) (by decide +kernel) (ha_45 _ _ _ _ _) ?_
                refine zw_aload_n 20 f2_19 rfl rfl ?_
                refine zw_dup 21 f2_20 rfl rfl ?_
                refine zw_getI 1 24 f2_21 rfl g2_15_0 (hb_44 _ _ _ _) rfl rfl ?_
                refine zw_iconst 1 25 f2_24 rfl (by decide +kernel) ?_
                refine zw_iadd 2 26 f2_25 rfl (by decide +kernel) ?_
                refine zw_put _ 29 f2_26 rfl g2_15_0 (hb_44 _ _ _ _) rfl (Nat.le_of_ble_eq_true rfl) (by decide +kernel) (hi_44_4 _ _ _ _ _) ?_
                refine zw_vreturn f2_29 r2 u2 ⟨rfl, ?_⟩
                refine zw_aload_n 10 f38_9 rfl rfl ?_
                refine zw_iload_n 11 f38_10 rfl rfl ?_
                refine zw_virtual_i 14 0 0 [.ref 49, .int c] [(0, .ref 49), (1, .int c)] f38_11 rfl n38_23 k38_23_7 rfl (hb_49 _ _ _ _) (by decide +kernel) (Nat.le_of_ble_eq_true rfl) rfl rfl (by decide +kernel) (by decide +kernel) rfl (Nat.le_of_ble_eq_true rfl) rfl ?_
                refine zw_aload_n 1 f35_0 rfl rfl ?_
                refine zw_getfield 4 f35_1 rfl g35_7_7 (hb_49 _ _ _ _) rfl ?_
                refine zw_bipush 30 6 f35_4 rfl (by decide +kernel) ?_
                refine zw_virtual_v 9 0 0 [.ref 44, .int 30] [(0, .ref 44), (1, .int 30)] f35_6 rfl n35_13 k35_13_0 rfl (hb_44 _ _ _ _) (by decide +kernel) (Nat.le_of_ble_eq_true rfl) rfl rfl (by decide +kernel) (by decide +kernel) rfl (Nat.le_of_ble_eq_true rfl) rfl ?_
                refine zw_aload_n 1 f2_0 rfl rfl ?_
                refine zw_getI 2 4 f2_1 rfl g2_15_0 (hb_44 _ _ _ _) rfl rfl ?_
                refine zw_bipush 50 6 f2_4 rfl (by decide +kernel) ?_
                refine zw_ic_ge_f 9 29 f2_6 (by decide +kernel) rfl (by decide +kernel) ?_
                refine zw_aload_n 10 f2_9 rfl rfl ?_
                refine zw_getfield 13 f2_10 rfl g2_9_0 (hb_44 _ _ _ _) rfl ?_
                refine zw_aload_n 14 f2_13 rfl rfl ?_
                refine zw_getI 2 17 f2_14 rfl g2_15_0 (hb_44 _ _ _ _) rfl rfl ?_
                refine zw_iload_n 18 f2_17 rfl rfl ?_
                refine zw_ast 2 _ 19 f2_18 rfl (hb_45 _ _ _ _) (by decide +kernel) (by decide +kernel) (by decide +kernel) (ha_45 _ _ _ _ _) ?_
                refine zw_aload_n 20 f2_19 rfl rfl ?_
                refine zw_dup 21 f2_20 rfl rfl ?_
                refine zw_getI 2 24 f2_21 rfl g2_15_0 (hb_44 _ _ _ _) rfl rfl ?_
                refine zw_iconst 1 25 f2_24 rfl (by decide +kernel) ?_
                refine zw_iadd 3 26 f2_25 rfl (by decide +kernel) ?_
                refine zw_put _ 29 f2_26 rfl g2_15_0 (hb_44 _ _ _ _) rfl (Nat.le_of_ble_eq_true rfl) (by decide +kernel) (hi_44_4 _ _ _ _ _) ?_
                refine zw_vreturn f2_29 r2 u2 ⟨rfl, ?_⟩
                refine zw_aload_n 10 f35_9 rfl rfl ?_
                refine zw_iload_n 11 f35_10 rfl rfl ?_
                refine zw_super_i 14 0 0 [.ref 49, .int c] [(0, .ref 49), (1, .int c)] f35_11 rfl k35_19_99 k35_19_98 (by decide +kernel) rfl (hb_49 _ _ _ _) (by decide +kernel) (Nat.le_of_ble_eq_true rfl) rfl rfl (by decide +kernel) (by decide +kernel) rfl (Nat.le_of_ble_eq_true rfl) rfl ?_
                refine zw_aload_n 1 f37_0 rfl rfl ?_
                refine zw_getfield 4 f37_1 rfl g37_7_7 (hb_49 _ _ _ _) rfl ?_
                refine zw_bipush 10 6 f37_4 rfl (by decide +kernel) ?_
                refine zw_virtual_v 9 0 0 [.ref 44, .int 10] [(0, .ref 44), (1, .int 10)] f37_6 rfl n37_13 k37_13_0 rfl (hb_44 _ _ _ _) (by decide +kernel) (Nat.le_of_ble_eq_true rfl) rfl rfl (by decide +kernel) (by decide +kernel) rfl (Nat.le_of_ble_eq_true rfl) rfl ?_
                refine zw_aload_n 1 f2_0 rfl rfl ?_
                refine zw_getI 3 4 f2_1 rfl g2_15_0 (hb_44 _ _ _ _) rfl rfl ?_
                refine zw_bipush 50 6 f2_4 rfl (by decide +kernel) ?_
                refine zw_ic_ge_f 9 29 f2_6 (by decide +kernel) rfl (by decide +kernel) ?_
                refine zw_aload_n 10 f2_9 rfl rfl ?_
                refine zw_getfield 13 f2_10 rfl g2_9_0 (hb_44 _ _ _ _) rfl ?_
                refine zw_aload_n 14 f2_13 rfl rfl ?_
                refine zw_getI 3 17 f2_14 rfl g2_15_0 (hb_44 _ _ _ _) rfl rfl ?_
                refine zw_iload_n 18 f2_17 rfl rfl ?_
                refine zw_ast 3 _ 19 f2_18 rfl (hb_45 _ _ _ _) (by decide +kernel) (by decide +kernel) (by decide +kernel) (ha_45 _ _ _ _ _) ?_
                refine zw_aload_n 20 f2_19 rfl rfl ?_
                refine zw_dup 21 f2_20 rfl rfl ?_
                refine zw_getI 3 24 f2_21 rfl g2_15_0 (hb_44 _ _ _ _) rfl rfl ?_
                refine zw_iconst 1 25 f2_24 rfl (by decide +kernel) ?_
                refine zw_iadd 4 26 f2_25 rfl (by decide +kernel) ?_
                refine zw_put _ 29 f2_26 rfl g2_15_0 (hb_44 _ _ _ _) rfl (Nat.le_of_ble_eq_true rfl) (by decide +kernel) (hi_44_4 _ _ _ _ _) ?_
                refine zw_vreturn f2_29 r2 u2 ⟨rfl, ?_⟩
                refine zw_iload_n 10 f37_9 rfl rfl ?_
                refine zw_aload_n 11 f37_10 rfl rfl ?_
                refine zw_getfield 14 f37_11 rfl g37_7_7 (hb_49 _ _ _ _) rfl ?_
                refine zw_getI (P 54 a.toNatClampNeg) 17 f37_14 rfl g37_19_0 (hb_44 _ _ _ _) rfl rfl ?_
                refine zw_iadd (c + (P 54 a.toNatClampNeg)) 18 f37_17 rfl rfl ?_
                refine zw_ireturn f37_18 r37 u37 ⟨_, rfl, ?_⟩
                refine zw_iconst 2 15 f35_14 rfl (by decide +kernel) ?_
                refine zw_imul ((c + (P 54 a.toNatClampNeg)) * 2) 16 f35_15 rfl rfl ?_
                refine zw_ireturn f35_16 r35 u35 ⟨_, rfl, ?_⟩
                refine zw_iconst 3 15 f38_14 rfl (by decide +kernel) ?_
                refine zw_imul (((c + (P 54 a.toNatClampNeg)) * 2) * 3) 16 f38_15 rfl rfl ?_
                refine zw_ireturn f38_16 r38 u38 ⟨_, rfl, ?_⟩
                refine zw_aload_n 15 f40_14 rfl rfl ?_
                refine zw_iload_n 16 f40_15 rfl rfl ?_
                refine zw_virtual_i 19 0 0 [.ref 49, .int c] [(0, .ref 49), (1, .int c)] f40_16 rfl n40_30 k40_30_7 rfl (hb_49 _ _ _ _) (by decide +kernel) (Nat.le_of_ble_eq_true rfl) rfl rfl (by decide +kernel) (by decide +kernel) rfl (Nat.le_of_ble_eq_true rfl) rfl ?_
                refine zw_aload_n 1 f39_0 rfl rfl ?_
                refine zw_getfield 4 f39_1 rfl g39_7_7 (hb_49 _ _ _ _) rfl ?_
                refine zw_bipush 12 6 f39_4 rfl (by decide +kernel) ?_
                refine zw_virtual_v 9 0 0 [.ref 44, .int 12] [(0, .ref 44), (1, .int 12)] f39_6 rfl n39_13 k39_13_0 rfl (hb_44 _ _ _ _) (by decide +kernel) (Nat.le_of_ble_eq_true rfl) rfl rfl (by decide +kernel) (by decide +kernel) rfl (Nat.le_of_ble_eq_true rfl) rfl ?_
                refine zw_aload_n 1 f2_0 rfl rfl ?_
                refine zw_getI 4 4 f2_1 rfl g2_15_0 (hb_44 _ _ _ _) rfl rfl ?_
                refine zw_bipush 50 6 f2_4 rfl (by decide +kernel) ?_
                refine zw_ic_ge_f 9 29 f2_6 (by decide +kernel) rfl (by decide +kernel) ?_
                refine zw_aload_n 10 f2_9 rfl rfl ?_
                refine zw_getfield 13 f2_10 rfl g2_9_0 (hb_44 _ _ _ _) rfl ?_
                refine zw_aload_n 14 f2_13 rfl rfl ?_
                refine zw_getI 4 17 f2_14 rfl g2_15_0 (hb_44 _ _ _ _) rfl rfl ?_
                refine zw_iload_n 18 f2_17 rfl rfl ?_
                refine zw_ast 4 _ 19 f2_18 rfl (hb_45 _ _ _ _) (by decide +kernel) (by decide +kernel) (by decide +kernel) (ha_45 _ _ _ _ _) ?_
                refine zw_aload_n 20 f2_19 rfl rfl ?_
                refine zw_dup 21 f2_20 rfl rfl ?_
                refine zw_getI 4 24 f2_21 rfl g2_15_0 (hb_44 _ _ _ _) rfl rfl ?_
                refine zw_iconst 1 25 f2_24 rfl (by decide +kernel) ?_
                refine zw_iadd 5 26 f2_25 rfl (by decide +kernel) ?_
                refine zw_put _ 29 f2_26 rfl g2_15_0 (hb_44 _ _ _ _) rfl (Nat.le_of_ble_eq_true rfl) (by decide +kernel) (hi_44_4 _ _ _ _ _) ?_
                refine zw_vreturn f2_29 r2 u2 ⟨rfl, ?_⟩
                refine zw_iload_n 10 f39_9 rfl rfl ?_
                refine zw_aload_n 11 f39_10 rfl rfl ?_
                refine zw_getfield 14 f39_11 rfl g39_7_7 (hb_49 _ _ _ _) rfl ?_
                refine zw_getI (P 54 a.toNatClampNeg) 17 f39_14 rfl g39_19_0 (hb_44 _ _ _ _) rfl rfl ?_
                refine zw_ixor (c ^^^ (P 54 a.toNatClampNeg)) 18 f39_17 rfl rfl ?_
                refine zw_ireturn f39_18 r39 u39 ⟨_, rfl, ?_⟩
                refine zw_isub ((((c + (P 54 a.toNatClampNeg)) * 2) * 3) - (c ^^^ (P 54 a.toNatClampNeg))) 20 f40_19 rfl rfl ?_
                refine zw_ireturn f40_20 r40 u40 ⟨_, rfl, ?_⟩
                refine zw_virtual_i 143 0 0 [.ref 0, .int ((((c + (P 54 a.toNatClampNeg)) * 2) * 3) - (c ^^^ (P 54 a.toNatClampNeg)))] [(0, .ref 0), (1, .int ((((c + (P 54 a.toNatClampNeg)) * 2) * 3) - (c ^^^ (P 54 a.toNatClampNeg))))] f101_140 rfl n101_181 k101_181_11 rfl (hb_0 _ _ _ _) (by decide +kernel) (Nat.le_of_ble_eq_true rfl) rfl rfl (by decide +kernel) (by decide +kernel) rfl (Nat.le_of_ble_eq_true rfl) rfl ?_
                refine zw_aload_n 1 f106_0 rfl rfl ?_
                refine zw_iconst 0 2 f106_1 rfl (by decide +kernel) ?_
                refine zw_put _ 5 f106_2 rfl g106_70_11 (hb_0 _ _ _ _) rfl (Nat.le_of_ble_eq_true rfl) (by decide +kernel) (hi_0_7 _ _ _ _ _) ?_
                refine zw_iload_n 6 f106_5 rfl rfl ?_
                refine zw_ireturn f106_6 r106 u106 ⟨_, rfl, ?_⟩
                refine zw_ireturn f101_143 r101 u101 ?_
                exact ⟨_, _, _, _, rfl, (KQ.i rfl (KQ.i rfl (KQ.a rfl (KQ.i rfl (KQ.a rfl (KQ.i rfl (KQ.a rfl (KQ.i rfl (KQ.a rfl (KQ.i rfl (KQ.a rfl (KQ.i rfl (KQ.i rfl (KQ.i rfl (KQ.i rfl (KQ.i rfl KQ.rf)))))))))))))))), by rw [show an_act nv P W a b c = ((((c + (P 54 a.toNatClampNeg)) * 2) * 3) - (c ^^^ (P 54 a.toNatClampNeg))) from ((cI_y ⟨(qV.ofc (by omega) hc1 hc2), ⟨hc4, hc5⟩⟩).trans ((cI_n (sw_ne hs8 (by decide))).trans ((cI_n (sw_ne hs8 (by decide))).trans ((cI_n (sw_ne hs8 (by decide))).trans ((cI_n (kne hk (by decide))).trans ((cI_n (kne hk (by decide))).trans ((cI_y hk).trans rfl)))))))]⟩
              · rcases (show hs8k = 0 ∨ hs8k = 1 ∨ hs8k = 2 by omega) with rfl | rfl | rfl
                · refine zw_table_k 25 100 f101_75 hs8e (by decide +kernel) (by decide +kernel) (by decide +kernel) ?_
                  refine zw_aload_n 101 f101_100 rfl (zl1_ne rfl rfl (zl1_ne rfl rfl rfl)) ?_
                  refine zw_aload 103 f101_101 rfl zl1_eq ?_
                  refine zw_iload_n 104 f101_103 rfl (zl1_ne rfl rfl (zl1_ne rfl rfl rfl)) ?_
                  refine zw_virtual_i 107 0 0 [.ref 49, .int c] [(0, .ref 49), (1, .int c)] f101_104 rfl n101_289 k101_289_7 rfl (hb_49 _ _ _ _) (by decide +kernel) (Nat.le_of_ble_eq_true rfl) rfl rfl (by decide +kernel) (by decide +kernel) rfl (Nat.le_of_ble_eq_true rfl) rfl ?_
                  refine zw_aload_n 1 f35_0 rfl rfl ?_
                  refine zw_getfield 4 f35_1 rfl g35_7_7 (hb_49 _ _ _ _) rfl ?_
                  refine zw_bipush 30 6 f35_4 rfl (by decide +kernel) ?_
                  refine zw_virtual_v 9 0 0 [.ref 44, .int 30] [(0, .ref 44), (1, .int 30)] f35_6 rfl n35_13 k35_13_0 rfl (hb_44 _ _ _ _) (by decide +kernel) (Nat.le_of_ble_eq_true rfl) rfl rfl (by decide +kernel) (by decide +kernel) rfl (Nat.le_of_ble_eq_true rfl) rfl ?_
                  refine zw_aload_n 1 f2_0 rfl rfl ?_
                  refine zw_getI 0 4 f2_1 rfl g2_15_0 (hb_44 _ _ _ _) rfl rfl ?_
                  refine zw_bipush 50 6 f2_4 rfl (by decide +kernel) ?_
                  refine zw_ic_ge_f 9 29 f2_6 (by decide +kernel) rfl (by decide +kernel) ?_
                  refine zw_aload_n 10 f2_9 rfl rfl ?_
                  refine zw_getfield 13 f2_10 rfl g2_9_0 (hb_44 _ _ _ _) rfl ?_
                  refine zw_aload_n 14 f2_13 rfl rfl ?_
                  refine zw_getI 0 17 f2_14 rfl g2_15_0 (hb_44 _ _ _ _) rfl rfl ?_
                  refine zw_iload_n 18 f2_17 rfl rfl ?_
                  refine zw_ast 0 _ 19 f2_18 rfl (hb_45 _ _ _ _) (by decide +kernel) (by decide +kernel) (by decide +kernel) (ha_45 _ _ _ _ _) ?_
                  refine zw_aload_n 20 f2_19 rfl rfl ?_
                  refine zw_dup 21 f2_20 rfl rfl ?_
                  refine zw_getI 0 24 f2_21 rfl g2_15_0 (hb_44 _ _ _ _) rfl rfl ?_
                  refine zw_iconst 1 25 f2_24 rfl (by decide +kernel) ?_
                  refine zw_iadd 1 26 f2_25 rfl (by decide +kernel) ?_
                  refine zw_put _ 29 f2_26 rfl g2_15_0 (hb_44 _ _ _ _) rfl (Nat.le_of_ble_eq_true rfl) (by decide +kernel) (hi_44_4 _ _ _ _ _) ?_
                  refine zw_vreturn f2_29 r2 u2 ⟨rfl, ?_⟩
                  refine zw_aload_n 10 f35_9 rfl rfl ?_
                  refine zw_iload_n 11 f35_10 rfl rfl ?_
                  refine zw_super_i 14 0 0 [.ref 49, .int c] [(0, .ref 49), (1, .int c)] f35_11 rfl k35_19_99 k35_19_98 (by decide +kernel) rfl (hb_49 _ _ _ _) (by decide +kernel) (Nat.le_of_ble_eq_true rfl) rfl rfl (by decide +kernel) (by decide +kernel) rfl (Nat.le_of_ble_eq_true rfl) rfl ?_
                  refine zw_aload_n 1 f37_0 rfl rfl ?_
                  refine zw_getfield 4 f37_1 rfl g37_7_7 (hb_49 _ _ _ _) rfl ?_
                  refine zw_bipush 10 6 f37_4 rfl (by decide +kernel) ?_
                  refine zw_virtual_v 9 0 0 [.ref 44, .int 10] [(0, .ref 44), (1, .int 10)] f37_6 rfl n37_13 k37_13_0 rfl (hb_44 _ _ _ _) (by decide +kernel) (Nat.le_of_ble_eq_true rfl) rfl rfl (by decide +kernel) (by decide +kernel) rfl (Nat.le_of_ble_eq_true rfl) rfl ?_
                  refine zw_aload_n 1 f2_0 rfl rfl ?_
                  refine zw_getI 1 4 f2_1 rfl g2_15_0 (hb_44 _ _ _ _) rfl rfl ?_
                  refine zw_bipush 50 6 f2_4 rfl (by decide +kernel) ?_
                  refine zw_ic_ge_f 9 29 f2_6 (by decide +kernel) rfl (by decide +kernel) ?_
                  refine zw_aload_n 10 f2_9 rfl rfl ?_
                  refine zw_getfield 13 f2_10 rfl g2_9_0 (hb_44 _ _ _ _) rfl ?_
                  refine zw_aload_n 14 f2_13 rfl rfl ?_
                  refine zw_getI 1 17 f2_14 rfl g2_15_0 (hb_44 _ _ _ _) rfl rfl ?_
                  refine zw_iload_n 18 f2_17 rfl rfl ?_
                  refine zw_ast 1 _ 19 f2_18 rfl (hb_45 _ _ _ _) (by decide +kernel) (by decide +kernel) (by decide +kernel) (ha_45 _ _ _ _ _) ?_
                  refine zw_aload_n 20 f2_19 rfl rfl ?_
                  refine zw_dup 21 f2_20 rfl rfl ?_
                  refine zw_getI 1 24 f2_21 rfl g2_15_0 (hb_44 _ _ _ _) rfl rfl ?_
                  refine zw_iconst 1 25 f2_24 rfl (by decide +kernel) ?_
                  refine zw_iadd 2 26 f2_25 rfl (by decide +kernel) ?_
                  refine zw_put _ 29 f2_26 rfl g2_15_0 (hb_44 _ _ _ _) rfl (Nat.le_of_ble_eq_true rfl) (by decide +kernel) (hi_44_4 _ _ _ _ _) ?_
                  refine zw_vreturn f2_29 r2 u2 ⟨rfl, ?_⟩
                  refine zw_iload_n 10 f37_9 rfl rfl ?_
                  refine zw_aload_n 11 f37_10 rfl rfl ?_
                  refine zw_getfield 14 f37_11 rfl g37_7_7 (hb_49 _ _ _ _) rfl ?_
                  refine zw_getI (P 54 a.toNatClampNeg) 17 f37_14 rfl g37_19_0 (hb_44 _ _ _ _) rfl rfl ?_
                  refine zw_iadd (c + (P 54 a.toNatClampNeg)) 18 f37_17 rfl rfl ?_
                  refine zw_ireturn f37_18 r37 u37 ⟨_, rfl, ?_⟩
                  refine zw_iconst 2 15 f35_14 rfl (by decide +kernel) ?_
                  refine zw_imul ((c + (P 54 a.toNatClampNeg)) * 2) 16 f35_15 rfl rfl ?_
                  refine zw_ireturn f35_16 r35 u35 ⟨_, rfl, ?_⟩
                  refine zw_virtual_i 110 0 0 [.ref 0, .int ((c + (P 54 a.toNatClampNeg)) * 2)] [(0, .ref 0), (1, .int ((c + (P 54 a.toNatClampNeg)) * 2))] f101_107 rfl n101_181 k101_181_11 rfl (hb_0 _ _ _ _) (by decide +kernel) (Nat.le_of_ble_eq_true rfl) rfl rfl (by decide +kernel) (by decide +kernel) rfl (Nat.le_of_ble_eq_true rfl) rfl ?_
                  refine zw_aload_n 1 f106_0 rfl rfl ?_
                  refine zw_iconst 0 2 f106_1 rfl (by decide +kernel) ?_
                  refine zw_put _ 5 f106_2 rfl g106_70_11 (hb_0 _ _ _ _) rfl (Nat.le_of_ble_eq_true rfl) (by decide +kernel) (hi_0_7 _ _ _ _ _) ?_
                  refine zw_iload_n 6 f106_5 rfl rfl ?_
                  refine zw_ireturn f106_6 r106 u106 ⟨_, rfl, ?_⟩
                  refine zw_ireturn f101_110 r101 u101 ?_
                  exact ⟨_, _, _, _, rfl, (KQ.i rfl (KQ.i rfl (KQ.a rfl (KQ.i rfl (KQ.a rfl (KQ.i rfl (KQ.i rfl (KQ.i rfl (KQ.i rfl (KQ.i rfl KQ.rf)))))))))), by rw [show an_act nv P W a b c = ((c + (P 54 a.toNatClampNeg)) * 2) from ((cI_y ⟨(qV.ofc (by omega) hc1 hc2), ⟨hc4, hc5⟩⟩).trans ((cI_y (show b = 0 from hs8e)).trans ((cI_n (kne hk (by decide))).trans ((cI_n (kne hk (by decide))).trans ((cI_y hk).trans rfl)))))]⟩
                · refine zw_table_k 36 111 f101_75 hs8e (by decide +kernel) (by decide +kernel) (by decide +kernel) ?_
                  refine zw_aload_n 112 f101_111 rfl (zl1_ne rfl rfl (zl1_ne rfl rfl rfl)) ?_
                  refine zw_aload 114 f101_112 rfl zl1_eq ?_
                  refine zw_iload_n 115 f101_114 rfl (zl1_ne rfl rfl (zl1_ne rfl rfl rfl)) ?_
                  refine zw_virtual_i 118 0 0 [.ref 49, .int c] [(0, .ref 49), (1, .int c)] f101_115 rfl n101_292 k101_292_7 rfl (hb_49 _ _ _ _) (by decide +kernel) (Nat.le_of_ble_eq_true rfl) rfl rfl (by decide +kernel) (by decide +kernel) rfl (Nat.le_of_ble_eq_true rfl) rfl ?_
                  refine zw_aload_n 1 f38_0 rfl rfl ?_
                  refine zw_getfield 4 f38_1 rfl g38_7_7 (hb_49 _ _ _ _) rfl ?_
                  refine zw_bipush 11 6 f38_4 rfl (by decide +kernel) ?_
                  refine zw_virtual_v 9 0 0 [.ref 44, .int 11] [(0, .ref 44), (1, .int 11)] f38_6 rfl n38_13 k38_13_0 rfl (hb_44 _ _ _ _) (by decide +kernel) (Nat.le_of_ble_eq_true rfl) rfl rfl (by decide +kernel) (by decide +kernel) rfl (Nat.le_of_ble_eq_true rfl) rfl ?_
                  refine zw_aload_n 1 f2_0 rfl rfl ?_
                  refine zw_getI 0 4 f2_1 rfl g2_15_0 (hb_44 _ _ _ _) rfl rfl ?_
                  refine zw_bipush 50 6 f2_4 rfl (by decide +kernel) ?_
                  refine zw_ic_ge_f 9 29 f2_6 (by decide +kernel) rfl (by decide +kernel) ?_
                  refine zw_aload_n 10 f2_9 rfl rfl ?_
                  refine zw_getfield 13 f2_10 rfl g2_9_0 (hb_44 _ _ _ _) rfl ?_
                  refine zw_aload_n 14 f2_13 rfl rfl ?_
                  refine zw_getI 0 17 f2_14 rfl g2_15_0 (hb_44 _ _ _ _) rfl rfl ?_
                  refine zw_iload_n 18 f2_17 rfl rfl ?_
                  refine zw_ast 0 _ 19 f2_18 rfl (hb_45 _ _ _ _) (by decide +kernel) (by decide +kernel) (by decide +kernel) (ha_45 _ _ _ _ _) ?_
                  refine zw_aload_n 20 f2_19 rfl rfl ?_
                  refine zw_dup 21 f2_20 rfl rfl ?_
                  refine zw_getI 0 24 f2_21 rfl g2_15_0 (hb_44 _ _ _ _) rfl rfl ?_
                  refine zw_iconst 1 25 f2_24 rfl (by decide +kernel) ?_
                  refine zw_iadd 1 26 f2_25 rfl (by decide +kernel) ?_
                  refine zw_put _ 29 f2_26 rfl g2_15_0 (hb_44 _ _ _ _) rfl (Nat.le_of_ble_eq_true rfl) (by decide +kernel) (hi_44_4 _ _ _ _ _) ?_
                  refine zw_vreturn f2_29 r2 u2 ⟨rfl, ?_⟩
                  refine zw_aload_n 10 f38_9 rfl rfl ?_
                  refine zw_iload_n 11 f38_10 rfl rfl ?_
                  refine zw_virtual_i 14 0 0 [.ref 49, .int c] [(0, .ref 49), (1, .int c)] f38_11 rfl n38_23 k38_23_7 rfl (hb_49 _ _ _ _) (by decide +kernel) (Nat.le_of_ble_eq_true rfl) rfl rfl (by decide +kernel) (by decide +kernel) rfl (Nat.le_of_ble_eq_true rfl) rfl ?_
                  refine zw_aload_n 1 f35_0 rfl rfl ?_
                  refine zw_getfield 4 f35_1 rfl g35_7_7 (hb_49 _ _ _ _) rfl ?_
                  refine zw_bipush 30 6 f35_4 rfl (by decide +kernel) ?_
                  refine zw_virtual_v 9 0 0 [.ref 44, .int 30] [(0, .ref 44), (1, .int 30)] f35_6 rfl n35_13 k35_13_0 rfl (hb_44 _ _ _ _) (by decide +kernel) (Nat.le_of_ble_eq_true rfl) rfl rfl (by decide +kernel) (by decide +kernel) rfl (Nat.le_of_ble_eq_true rfl) rfl ?_
                  refine zw_aload_n 1 f2_0 rfl rfl ?_
                  refine zw_getI 1 4 f2_1 rfl g2_15_0 (hb_44 _ _ _ _) rfl rfl ?_
                  refine zw_bipush 50 6 f2_4 rfl (by decide +kernel) ?_
                  refine zw_ic_ge_f 9 29 f2_6 (by decide +kernel) rfl (by decide +kernel) ?_
                  refine zw_aload_n 10 f2_9 rfl rfl ?_
                  refine zw_getfield 13 f2_10 rfl g2_9_0 (hb_44 _ _ _ _) rfl ?_
                  refine zw_aload_n 14 f2_13 rfl rfl ?_
                  refine zw_getI 1 17 f2_14 rfl g2_15_0 (hb_44 _ _ _ _) rfl rfl ?_
                  refine zw_iload_n 18 f2_17 rfl rfl ?_
                  refine zw_ast 1 _ 19 f2_18 rfl (hb_45 _ _ _ _) (by decide +kernel) (by decide +kernel) (by decide +kernel) (ha_45 _ _ _ _ _) ?_
                  refine zw_aload_n 20 f2_19 rfl rfl ?_
                  refine zw_dup 21 f2_20 rfl rfl ?_
                  refine zw_getI 1 24 f2_21 rfl g2_15_0 (hb_44 _ _ _ _) rfl rfl ?_
                  refine zw_iconst 1 25 f2_24 rfl (by decide +kernel) ?_
                  refine zw_iadd 2 26 f2_25 rfl (by decide +kernel) ?_
                  refine zw_put _ 29 f2_26 rfl g2_15_0 (hb_44 _ _ _ _) rfl (Nat.le_of_ble_eq_true rfl) (by decide +kernel) (hi_44_4 _ _ _ _ _) ?_
                  refine zw_vreturn f2_29 r2 u2 ⟨rfl, ?_⟩
                  refine zw_aload_n 10 f35_9 rfl rfl ?_
                  refine zw_iload_n 11 f35_10 rfl rfl ?_
                  refine zw_super_i 14 0 0 [.ref 49, .int c] [(0, .ref 49), (1, .int c)] f35_11 rfl k35_19_99 k35_19_98 (by decide +kernel) rfl (hb_49 _ _ _ _) (by decide +kernel) (Nat.le_of_ble_eq_true rfl) rfl rfl (by decide +kernel) (by decide +kernel) rfl (Nat.le_of_ble_eq_true rfl) rfl ?_
                  refine zw_aload_n 1 f37_0 rfl rfl ?_
                  refine zw_getfield 4 f37_1 rfl g37_7_7 (hb_49 _ _ _ _) rfl ?_
                  refine zw_bipush 10 6 f37_4 rfl (by decide +kernel) ?_
                  refine zw_virtual_v 9 0 0 [.ref 44, .int 10] [(0, .ref 44), (1, .int 10)] f37_6 rfl n37_13 k37_13_0 rfl (hb_44 _ _ _ _) (by decide +kernel) (Nat.le_of_ble_eq_true rfl) rfl rfl (by decide +kernel) (by decide +kernel) rfl (Nat.le_of_ble_eq_true rfl) rfl ?_
                  refine zw_aload_n 1 f2_0 rfl rfl ?_
                  refine zw_getI 2 4 f2_1 rfl g2_15_0 (hb_44 _ _ _ _) rfl rfl ?_
                  refine zw_bipush 50 6 f2_4 rfl (by decide +kernel) ?_
                  refine zw_ic_ge_f 9 29 f2_6 (by decide +kernel) rfl (by decide +kernel) ?_
                  refine zw_aload_n 10 f2_9 rfl rfl ?_
                  refine zw_getfield 13 f2_10 rfl g2_9_0 (hb_44 _ _ _ _) rfl ?_
                  refine zw_aload_n 14 f2_13 rfl rfl ?_
                  refine zw_getI 2 17 f2_14 rfl g2_15_0 (hb_44 _ _ _ _) rfl rfl ?_
                  refine zw_iload_n 18 f2_17 rfl rfl ?_
                  refine zw_ast 2 _ 19 f2_18 rfl (hb_45 _ _ _ _) (by decide +kernel) (by decide +kernel) (by decide +kernel) (ha_45 _ _ _ _ _) ?_
                  refine zw_aload_n 20 f2_19 rfl rfl ?_
                  refine zw_dup 21 f2_20 rfl rfl ?_
                  refine zw_getI 2 24 f2_21 rfl g2_15_0 (hb_44 _ _ _ _) rfl rfl ?_
                  refine zw_iconst 1 25 f2_24 rfl (by decide +kernel) ?_
                  refine zw_iadd 3 26 f2_25 rfl (by decide +kernel) ?_
                  refine zw_put _ 29 f2_26 rfl g2_15_0 (hb_44 _ _ _ _) rfl (Nat.le_of_ble_eq_true rfl) (by decide +kernel) (hi_44_4 _ _ _ _ _) ?_
                  refine zw_vreturn f2_29 r2 u2 ⟨rfl, ?_⟩
                  refine zw_iload_n 10 f37_9 rfl rfl ?_
                  refine zw_aload_n 11 f37_10 rfl rfl ?_
                  refine zw_getfield 14 f37_11 rfl g37_7_7 (hb_49 _ _ _ _) rfl ?_
                  refine zw_getI (P 54 a.toNatClampNeg) 17 f37_14 rfl g37_19_0 (hb_44 _ _ _ _) rfl rfl ?_
                  refine zw_iadd (c + (P 54 a.toNatClampNeg)) 18 f37_17 rfl rfl ?_
                  refine zw_ireturn f37_18 r37 u37 ⟨_, rfl, ?_⟩
                  refine zw_iconst 2 15 f35_14 rfl (by decide +kernel) ?_
                  refine zw_imul ((c + (P 54 a.toNatClampNeg)) * 2) 16 f35_15 rfl rfl ?_
                  refine zw_ireturn f35_16 r35 u35 ⟨_, rfl, ?_⟩
                  refine zw_iconst 3 15 f38_14 rfl (by decide +kernel) ?_
                  refine zw_imul (((c + (P 54 a.toNatClampNeg)) * 2) * 3) 16 f38_15 rfl rfl ?_
                  refine zw_ireturn f38_16 r38 u38 ⟨_, rfl, ?_⟩
                  refine zw_virtual_i 121 0 0 [.ref 0, .int (((c + (P 54 a.toNatClampNeg)) * 2) * 3)] [(0, .ref 0), (1, .int (((c + (P 54 a.toNatClampNeg)) * 2) * 3))] f101_118 rfl n101_181 k101_181_11 rfl (hb_0 _ _ _ _) (by decide +kernel) (Nat.le_of_ble_eq_true rfl) rfl rfl (by decide +kernel) (by decide +kernel) rfl (Nat.le_of_ble_eq_true rfl) rfl ?_
                  refine zw_aload_n 1 f106_0 rfl rfl ?_
                  refine zw_iconst 0 2 f106_1 rfl (by decide +kernel) ?_
                  refine zw_put _ 5 f106_2 rfl g106_70_11 (hb_0 _ _ _ _) rfl (Nat.le_of_ble_eq_true rfl) (by decide +kernel) (hi_0_7 _ _ _ _ _) ?_
                  refine zw_iload_n 6 f106_5 rfl rfl ?_
                  refine zw_ireturn f106_6 r106 u106 ⟨_, rfl, ?_⟩
                  refine zw_ireturn f101_121 r101 u101 ?_
                  exact ⟨_, _, _, _, rfl, (KQ.i rfl (KQ.i rfl (KQ.a rfl (KQ.i rfl (KQ.a rfl (KQ.i rfl (KQ.a rfl (KQ.i rfl (KQ.i rfl (KQ.i rfl (KQ.i rfl (KQ.i rfl KQ.rf)))))))))))), by rw [show an_act nv P W a b c = (((c + (P 54 a.toNatClampNeg)) * 2) * 3) from ((cI_y ⟨(qV.ofc (by omega) hc1 hc2), ⟨hc4, hc5⟩⟩).trans ((cI_n (kne (show b = 1 from hs8e) (by decide))).trans ((cI_y (show b = 1 from hs8e)).trans ((cI_n (kne hk (by decide))).trans ((cI_n (kne hk (by decide))).trans ((cI_y hk).trans rfl))))))]⟩
                · refine zw_table_k 47 122 f101_75 hs8e (by decide +kernel) (by decide +kernel) (by decide +kernel) ?_
                  refine zw_aload_n 123 f101_122 rfl (zl1_ne rfl rfl (zl1_ne rfl rfl rfl)) ?_
                  refine zw_aload 125 f101_123 rfl zl1_eq ?_
                  refine zw_iload_n 126 f101_125 rfl (zl1_ne rfl rfl (zl1_ne rfl rfl rfl)) ?_
                  refine zw_virtual_i 129 0 0 [.ref 49, .int c] [(0, .ref 49), (1, .int c)] f101_126 rfl n101_295 k101_295_7 rfl (hb_49 _ _ _ _) (by decide +kernel) (Nat.le_of_ble_eq_true rfl) rfl rfl (by decide +kernel) (by decide +kernel) rfl (Nat.le_of_ble_eq_true rfl) rfl ?_
                  refine zw_aload_n 1 f39_0 rfl rfl ?_
                  refine zw_getfield 4 f39_1 rfl g39_7_7 (hb_49 _ _ _ _) rfl ?_
                  refine zw_bipush 12 6 f39_4 rfl (by decide +kernel) ?_
                  refine zw_virtual_v 9 0 0 [.ref 44, .int 12] [(0, .ref 44), (1, .int 12)] f39_6 rfl n39_13 k39_13_0 rfl (hb_44 _ _ _ _) (by decide +kernel) (Nat.le_of_ble_eq_true rfl) rfl rfl (by decide +kernel) (by decide +kernel) rfl (Nat.le_of_ble_eq_true rfl) rfl ?_
                  refine zw_aload_n 1 f2_0 rfl rfl ?_
                  refine zw_getI 0 4 f2_1 rfl g2_15_0 (hb_44 _ _ _ _) rfl rfl ?_
                  refine zw_bipush 50 6 f2_4 rfl (by decide +kernel) ?_
                  refine zw_ic_ge_f 9 29 f2_6 (by decide +kernel) rfl (by decide +kernel) ?_
                  refine zw_aload_n 10 f2_9 rfl rfl ?_
                  refine zw_getfield 13 f2_10 rfl g2_9_0 (hb_44 _ _ _ _) rfl ?_
                  refine zw_aload_n 14 f2_13 rfl rfl ?_
                  refine zw_getI 0 17 f2_14 rfl g2_15_0 (hb_44 _ _ _ _) rfl rfl ?_
                  refine zw_iload_n 18 f2_17 rfl rfl ?_
                  refine zw_ast 0 _ 19 f2_18 rfl (hb_45 _ _ _ _) (by decide +kernel) (by decide +kernel) (by decide +kernel) (ha_45 _ _ _ _ _) ?_
                  refine zw_aload_n 20 f2_19 rfl rfl ?_
                  refine zw_dup 21 f2_20 rfl rfl ?_
                  refine zw_getI 0 24 f2_21 rfl g2_15_0 (hb_44 _ _ _ _) rfl rfl ?_
                  refine zw_iconst 1 25 f2_24 rfl (by decide +kernel) ?_
                  refine zw_iadd 1 26 f2_25 rfl (by decide +kernel) ?_
                  refine zw_put _ 29 f2_26 rfl g2_15_0 (hb_44 _ _ _ _) rfl (Nat.le_of_ble_eq_true rfl) (by decide +kernel) (hi_44_4 _ _ _ _ _) ?_
                  refine zw_vreturn f2_29 r2 u2 ⟨rfl, ?_⟩
                  refine zw_iload_n 10 f39_9 rfl rfl ?_
                  refine zw_aload_n 11 f39_10 rfl rfl ?_
                  refine zw_getfield 14 f39_11 rfl g39_7_7 (hb_49 _ _ _ _) rfl ?_
                  refine zw_getI (P 54 a.toNatClampNeg) 17 f39_14 rfl g39_19_0 (hb_44 _ _ _ _) rfl rfl ?_
                  refine zw_ixor (c ^^^ (P 54 a.toNatClampNeg)) 18 f39_17 rfl rfl ?_
                  refine zw_ireturn f39_18 r39 u39 ⟨_, rfl, ?_⟩
                  refine zw_virtual_i 132 0 0 [.ref 0, .int (c ^^^ (P 54 a.toNatClampNeg))] [(0, .ref 0), (1, .int (c ^^^ (P 54 a.toNatClampNeg)))] f101_129 rfl n101_181 k101_181_11 rfl (hb_0 _ _ _ _) (by decide +kernel) (Nat.le_of_ble_eq_true rfl) rfl rfl (by decide +kernel) (by decide +kernel) rfl (Nat.le_of_ble_eq_true rfl) rfl ?_
                  refine zw_aload_n 1 f106_0 rfl rfl ?_
                  refine zw_iconst 0 2 f106_1 rfl (by decide +kernel) ?_
                  refine zw_put _ 5 f106_2 rfl g106_70_11 (hb_0 _ _ _ _) rfl (Nat.le_of_ble_eq_true rfl) (by decide +kernel) (hi_0_7 _ _ _ _ _) ?_
                  refine zw_iload_n 6 f106_5 rfl rfl ?_
                  refine zw_ireturn f106_6 r106 u106 ⟨_, rfl, ?_⟩
                  refine zw_ireturn f101_132 r101 u101 ?_
                  exact ⟨_, _, _, _, rfl, (KQ.i rfl (KQ.i rfl (KQ.a rfl (KQ.i rfl (KQ.i rfl (KQ.i rfl (KQ.i rfl (KQ.i rfl KQ.rf)))))))), by rw [show an_act nv P W a b c = (c ^^^ (P 54 a.toNatClampNeg)) from ((cI_y ⟨(qV.ofc (by omega) hc1 hc2), ⟨hc4, hc5⟩⟩).trans ((cI_n (kne (show b = 2 from hs8e) (by decide))).trans ((cI_n (kne (show b = 2 from hs8e) (by decide))).trans ((cI_y (show b = 2 from hs8e)).trans ((cI_n (kne hk (by decide))).trans ((cI_n (kne hk (by decide))).trans ((cI_y hk).trans rfl)))))))]⟩
            · refine zw_aaload 3 42 f101_41 rfl (hb_46 _ _ _ _) (by rw [hk]; decide) (by rw [hk]; decide) (by decide) rfl ?_
              refine zw_astore _ 44 f101_42 rfl (by decide +kernel) rfl ?_
              refine zw_aload 46 f101_44 rfl zl1_eq ?_
              refine zw_ifnonnull 55 f101_46 (by decide +kernel) ?_
              refine zw_aload_n 56 f101_55 rfl (zl1_ne rfl rfl (zl1_ne rfl rfl rfl)) ?_
              refine zw_getfield 59 f101_56 rfl g101_45_11 (hb_0 _ _ _ _) rfl ?_
              refine zw_aload_n 60 f101_59 rfl (zl1_ne rfl rfl (zl1_ne rfl rfl rfl)) ?_
              refine zw_getfield 63 f101_60 rfl g101_10_11 (hb_0 _ _ _ _) rfl ?_
              refine zw_aload_n 64 f101_63 rfl (zl1_ne rfl rfl (zl1_ne rfl rfl rfl)) ?_
              refine zw_getfield 67 f101_64 rfl g101_21_11 (hb_0 _ _ _ _) rfl ?_
              refine zw_getfield 70 f101_67 rfl g101_134_10 (hb_11 _ _ _ _) rfl ?_
              refine zw_iload_n 71 f101_70 rfl (zl1_ne rfl rfl (zl1_ne rfl rfl rfl)) ?_
              refine zw_virtual_v 74 0 0 [.ref 44, .ref 1, .ref 12, .int a] [(0, .ref 44), (1, .ref 1), (2, .ref 12), (3, .int a)] f101_71 rfl n101_285 k101_285_0 rfl (hb_44 _ _ _ _) (by decide +kernel) (Nat.le_of_ble_eq_true rfl) rfl rfl (by decide +kernel) (by decide +kernel) rfl (Nat.le_of_ble_eq_true rfl) rfl ?_
              refine zw_aload_n 1 f1_0 rfl rfl ?_
              refine zw_iconst 0 2 f1_1 rfl (by decide +kernel) ?_
              refine zw_put _ 5 f1_2 rfl g1_15_0 (hb_44 _ _ _ _) rfl (Nat.le_of_ble_eq_true rfl) (by decide +kernel) (hi_44_4 _ _ _ _ _) ?_
              refine zw_aload_n 6 f1_5 rfl rfl ?_
              refine zw_iload_n 7 f1_6 rfl rfl ?_
              refine zw_virtual_i 10 0 0 [.ref 1, .int a] [(0, .ref 1), (1, .int a)] f1_7 rfl n1_19 k1_19_4 rfl (hb_1 _ _ _ _) (by decide +kernel) (Nat.le_of_ble_eq_true rfl) rfl rfl (by decide +kernel) (by decide +kernel) rfl (Nat.le_of_ble_eq_true rfl) rfl ?_
              refine zw_iload_n 1 f13_0 rfl rfl ?_
              refine zw_if_lt_f 4 22 f13_1 (by decide +kernel) rfl hc1 ?_
              refine zw_iload_n 5 f13_4 rfl rfl ?_
              refine zw_aload_n 6 f13_5 rfl rfl ?_
              refine zw_getI (nI nv) 9 f13_6 rfl g13_39_4 (hb_1 _ _ _ _) rfl hR.1.1 ?_
              refine zw_ic_ge_f 12 22 f13_9 (by decide +kernel) rfl hc2 ?_
              refine zw_iload_n 13 f13_12 rfl rfl ?_
              refine zw_bipush 8 15 f13_13 rfl (by decide +kernel) ?_
              refine zw_ic_ge_f 18 22 f13_15 (by decide +kernel) rfl hc3 ?_
              refine zw_iconst 1 19 f13_18 rfl (by decide +kernel) ?_
              refine zw_goto 23 f13_19 (by decide +kernel) ?_
              refine zw_zreturn f13_23 r13 u13 (by decide +kernel) ⟨_, rfl, ?_⟩
              refine zw_if_eq_f 13 53 f1_10 (by decide +kernel) rfl (by decide +kernel) ?_
              refine zw_aload_n 14 f1_13 rfl rfl ?_
              refine zw_aload_n 15 f1_14 rfl rfl ?_
              refine zw_getfield 18 f1_15 rfl g1_25_4 (hb_1 _ _ _ _) rfl ?_
              refine zw_iload_n 19 f1_18 rfl rfl ?_
              refine zw_iaload a.toNatClampNeg (P 54 a.toNatClampNeg) 20 f1_19 rfl (hb_3 _ _ _ _) rfl hc1 (zix (by decide) hc1 hc3) (congrFun ((hR.2.1 54 (by omega) (by omega))) a.toNatClampNeg) ?_
              refine zw_put _ 23 f1_20 rfl g1_28_0 (hb_44 _ _ _ _) rfl (Nat.le_of_ble_eq_true rfl) (by decide +kernel) (hi_44_0 _ _ _ _ _) ?_
              refine zw_aload_n 24 f1_23 rfl rfl ?_
              refine zw_aload_n 25 f1_24 rfl rfl ?_
              refine zw_getfield 28 f1_25 rfl g1_31_4 (hb_1 _ _ _ _) rfl ?_
              refine zw_iload_n 29 f1_28 rfl rfl ?_
              refine zw_iaload a.toNatClampNeg (P 55 a.toNatClampNeg) 30 f1_29 rfl (hb_4 _ _ _ _) rfl hc1 (zix (by decide) hc1 hc3) (congrFun ((hR.2.1 55 (by omega) (by omega))) a.toNatClampNeg) ?_
              refine zw_put _ 33 f1_30 rfl g1_34_0 (hb_44 _ _ _ _) rfl (Nat.le_of_ble_eq_true rfl) (by decide +kernel) (hi_44_1 _ _ _ _ _) ?_
              refine zw_aload_n 34 f1_33 rfl rfl ?_
              refine zw_aload_n 35 f1_34 rfl rfl ?_
              refine zw_getfield 38 f1_35 rfl g1_37_4 (hb_1 _ _ _ _) rfl ?_
              refine zw_iload_n 39 f1_38 rfl rfl ?_
              refine zw_iaload a.toNatClampNeg (P 56 a.toNatClampNeg) 40 f1_39 rfl (hb_5 _ _ _ _) rfl hc1 (zix (by decide) hc1 hc3) (congrFun ((hR.2.1 56 (by omega) (by omega))) a.toNatClampNeg) ?_
              refine zw_put _ 43 f1_40 rfl g1_40_0 (hb_44 _ _ _ _) rfl (Nat.le_of_ble_eq_true rfl) (by decide +kernel) (hi_44_2 _ _ _ _ _) ?_
              refine zw_aload_n 44 f1_43 rfl rfl ?_
              refine zw_aload_n 45 f1_44 rfl rfl ?_
              refine zw_getfield 48 f1_45 rfl g1_43_9 (hb_12 _ _ _ _) rfl ?_
              refine zw_iload_n 49 f1_48 rfl rfl ?_
              refine zw_iaload a.toNatClampNeg (A 14 a.toNatClampNeg) 50 f1_49 rfl (hb_14 _ _ _ _) rfl hc1 (zix (by decide) hc1 hc3) rfl ?_
              refine zw_put _ 53 f1_50 rfl g1_48_0 (hb_44 _ _ _ _) rfl (Nat.le_of_ble_eq_true rfl) (by decide +kernel) (hi_44_3 _ _ _ _ _) ?_
              refine zw_vreturn f1_53 r1 u1 ⟨rfl, ?_⟩
              refine zw_iload_n 75 f101_74 rfl (zl1_ne rfl rfl (zl1_ne rfl rfl rfl)) ?_
              rcases zl_sw 2 (by decide) b with hs9 | ⟨hs9k, hs9l, hs9e⟩
              · refine zw_table_o 133 f101_75 hs9 (by decide +kernel) ?_
                refine zw_aload_n 134 f101_133 rfl (zl1_ne rfl rfl (zl1_ne rfl rfl rfl)) ?_
                refine zw_aload 136 f101_134 rfl zl1_eq ?_
                refine zw_iload_n 137 f101_136 rfl (zl1_ne rfl rfl (zl1_ne rfl rfl rfl)) ?_
                refine zw_virtual_i 140 0 0 [.ref 50, .int c] [(0, .ref 50), (1, .int c)] f101_137 rfl n101_298 k101_298_2 rfl (hb_50 _ _ _ _) (by decide +kernel) (Nat.le_of_ble_eq_true rfl) rfl rfl (by decide +kernel) (by decide +kernel) rfl (Nat.le_of_ble_eq_true rfl) rfl ?_
                refine zw_aload_n 1 f40_0 rfl rfl ?_
                refine zw_getfield 4 f40_1 rfl g40_7_2 (hb_50 _ _ _ _) rfl ?_
                refine zw_bipush 13 6 f40_4 rfl (by decide +kernel) ?_
                refine zw_virtual_v 9 0 0 [.ref 44, .int 13] [(0, .ref 44), (1, .int 13)] f40_6 rfl n40_13 k40_13_0 rfl (hb_44 _ _ _ _) (by decide +kernel) (Nat.le_of_ble_eq_true rfl) rfl rfl (by decide +kernel) (by decide +kernel) rfl (Nat.le_of_ble_eq_true rfl) rfl ?_
                refine zw_aload_n 1 f2_0 rfl rfl ?_
                refine zw_getI 0 4 f2_1 rfl g2_15_0 (hb_44 _ _ _ _) rfl rfl ?_
                refine zw_bipush 50 6 f2_4 rfl (by decide +kernel) ?_
                refine zw_ic_ge_f 9 29 f2_6 (by decide +kernel) rfl (by decide +kernel) ?_
                refine zw_aload_n 10 f2_9 rfl rfl ?_
                refine zw_getfield 13 f2_10 rfl g2_9_0 (hb_44 _ _ _ _) rfl ?_
                refine zw_aload_n 14 f2_13 rfl rfl ?_
                refine zw_getI 0 17 f2_14 rfl g2_15_0 (hb_44 _ _ _ _) rfl rfl ?_
                refine zw_iload_n 18 f2_17 rfl rfl ?_
                refine zw_ast 0 _ 19 f2_18 rfl (hb_45 _ _ _ _) (by decide +kernel) (by decide +kernel) (by decide +kernel) (ha_45 _ _ _ _ _) ?_
                refine zw_aload_n 20 f2_19 rfl rfl ?_
                refine zw_dup 21 f2_20 rfl rfl ?_
                refine zw_getI 0 24 f2_21 rfl g2_15_0 (hb_44 _ _ _ _) rfl rfl ?_
                refine zw_iconst 1 25 f2_24 rfl (by decide +kernel) ?_
                refine zw_iadd 1 26 f2_25 rfl (by decide +kernel) ?_
                refine zw_put _ 29 f2_26 rfl g2_15_0 (hb_44 _ _ _ _) rfl (Nat.le_of_ble_eq_true rfl) (by decide +kernel) (hi_44_4 _ _ _ _ _) ?_
                refine zw_vreturn f2_29 r2 u2 ⟨rfl, ?_⟩
                refine zw_aload_n 10 f40_9 rfl rfl ?_
                refine zw_iload_n 11 f40_10 rfl rfl ?_
                refine zw_virtual_i 14 0 0 [.ref 50, .int c] [(0, .ref 50), (1, .int c)] f40_11 rfl n40_27 k40_27_2 rfl (hb_50 _ _ _ _) (by decide +kernel) (Nat.le_of_ble_eq_true rfl) rfl rfl (by decide +kernel) (by decide +kernel) rfl (Nat.le_of_ble_eq_true rfl) rfl ?_
                refine zw_aload_n 1 f38_0 rfl rfl ?_
                refine zw_getfield 4 f38_1 rfl g38_7_2 (hb_50 _ _ _ _) rfl ?_
                refine zw_bipush 11 6 f38_4 rfl (by decide +kernel) ?_
                refine zw_virtual_v 9 0 0 [.ref 44, .int 11] [(0, .ref 44), (1, .int 11)] f38_6 rfl n38_13 k38_13_0 rfl (hb_44 _ _ _ _) (by decide +kernel) (Nat.le_of_ble_eq_true rfl) rfl rfl (by decide +kernel) (by decide +kernel) rfl (Nat.le_of_ble_eq_true rfl) rfl ?_
                refine zw_aload_n 1 f2_0 rfl rfl ?_
                refine zw_getI 1 4 f2_1 rfl g2_15_0 (hb_44 _ _ _ _) rfl rfl ?_
                refine zw_bipush 50 6 f2_4 rfl (by decide +kernel) ?_
                refine zw_ic_ge_f 9 29 f2_6 (by decide +kernel) rfl (by decide +kernel) ?_
                refine zw_aload_n 10 f2_9 rfl rfl ?_
                refine zw_getfield 13 f2_10 rfl g2_9_0 (hb_44 _ _ _ _) rfl ?_
                refine zw_aload_n 14 f2_13 rfl rfl ?_
                refine zw_getI 1 17 f2_14 rfl g2_15_0 (hb_44 _ _ _ _) rfl rfl ?_
                refine zw_iload_n 18 f2_17 rfl rfl ?_
                refine zw_ast 1 _ 19 f2_18 rfl (hb_45 _ _ _ _) (by decide +kernel) (by decide +kernel) (by decide +kernel) (ha_45 _ _ _ _ _) ?_
                refine zw_aload_n 20 f2_19 rfl rfl ?_
                refine zw_dup 21 f2_20 rfl rfl ?_
                refine zw_getI 1 24 f2_21 rfl g2_15_0 (hb_44 _ _ _ _) rfl rfl ?_
                refine zw_iconst 1 25 f2_24 rfl (by decide +kernel) ?_
                refine zw_iadd 2 26 f2_25 rfl (by decide +kernel) ?_
                refine zw_put _ 29 f2_26 rfl g2_15_0 (hb_44 _ _ _ _) rfl (Nat.le_of_ble_eq_true rfl) (by decide +kernel) (hi_44_4 _ _ _ _ _) ?_
                refine zw_vreturn f2_29 r2 u2 ⟨rfl, ?_⟩
                refine zw_aload_n 10 f38_9 rfl rfl ?_
                refine zw_iload_n 11 f38_10 rfl rfl ?_
                refine zw_virtual_i 14 0 0 [.ref 50, .int c] [(0, .ref 50), (1, .int c)] f38_11 rfl n38_23 k38_23_2 rfl (hb_50 _ _ _ _) (by decide +kernel) (Nat.le_of_ble_eq_true rfl) rfl rfl (by decide +kernel) (by decide +kernel) rfl (Nat.le_of_ble_eq_true rfl) rfl ?_
                refine zw_aload_n 1 f8_0 rfl rfl ?_
                refine zw_getfield 4 f8_1 rfl g8_7_2 (hb_50 _ _ _ _) rfl ?_
                refine zw_bipush 41 6 f8_4 rfl (by decide +kernel) ?_
                refine zw_virtual_v 9 0 0 [.ref 44, .int 41] [(0, .ref 44), (1, .int 41)] f8_6 rfl n8_13 k8_13_0 rfl (hb_44 _ _ _ _) (by decide +kernel) (Nat.le_of_ble_eq_true rfl) rfl rfl (by decide +kernel) (by decide +kernel) rfl (Nat.le_of_ble_eq_true rfl) rfl ?_
                refine zw_aload_n 1 f2_0 rfl rfl ?_
                refine zw_getI 2 4 f2_1 rfl g2_15_0 (hb_44 _ _ _ _) rfl rfl ?_
                refine zw_bipush 50 6 f2_4 rfl (by decide +kernel) ?_
                refine zw_ic_ge_f 9 29 f2_6 (by decide +kernel) rfl (by decide +kernel) ?_
                refine zw_aload_n 10 f2_9 rfl rfl ?_
                refine zw_getfield 13 f2_10 rfl g2_9_0 (hb_44 _ _ _ _) rfl ?_
                refine zw_aload_n 14 f2_13 rfl rfl ?_
                refine zw_getI 2 17 f2_14 rfl g2_15_0 (hb_44 _ _ _ _) rfl rfl ?_
                refine zw_iload_n 18 f2_17 rfl rfl ?_
                refine zw_ast 2 _ 19 f2_18 rfl (hb_45 _ _ _ _) (by decide +kernel) (by decide +kernel) (by decide +kernel) (ha_45 _ _ _ _ _) ?_
                refine zw_aload_n 20 f2_19 rfl rfl ?_
                refine zw_dup 21 f2_20 rfl rfl ?_
                refine zw_getI 2 24 f2_21 rfl g2_15_0 (hb_44 _ _ _ _) rfl rfl ?_
                refine zw_iconst 1 25 f2_24 rfl (by decide +kernel) ?_
                refine zw_iadd 3 26 f2_25 rfl (by decide +kernel) ?_
                refine zw_put _ 29 f2_26 rfl g2_15_0 (hb_44 _ _ _ _) rfl (Nat.le_of_ble_eq_true rfl) (by decide +kernel) (hi_44_4 _ _ _ _ _) ?_
                refine zw_vreturn f2_29 r2 u2 ⟨rfl, ?_⟩
                refine zw_aload_n 10 f8_9 rfl rfl ?_
                refine zw_iload_n 11 f8_10 rfl rfl ?_
                refine zw_aload_n 12 f8_11 rfl rfl ?_
                refine zw_getfield 15 f8_12 rfl g8_7_2 (hb_50 _ _ _ _) rfl ?_
                refine zw_getI (P 55 a.toNatClampNeg) 18 f8_15 rfl g8_27_0 (hb_44 _ _ _ _) rfl rfl ?_
                refine zw_iadd (c + (P 55 a.toNatClampNeg)) 19 f8_18 rfl rfl ?_
                refine zw_super_i 22 0 0 [.ref 50, .int (c + (P 55 a.toNatClampNeg))] [(0, .ref 50), (1, .int (c + (P 55 a.toNatClampNeg)))] f8_19 rfl k8_30_99 k8_30_98 (by decide +kernel) rfl (hb_50 _ _ _ _) (by decide +kernel) (Nat.le_of_ble_eq_true rfl) rfl rfl (by decide +kernel) (by decide +kernel) rfl (Nat.le_of_ble_eq_true rfl) rfl ?_
                refine zw_aload_n 1 f37_0 rfl rfl ?_
                refine zw_getfield 4 f37_1 rfl g37_7_2 (hb_50 _ _ _ _) rfl ?_
                refine zw_bipush 10 6 f37_4 rfl (by decide +kernel) ?_
                refine zw_virtual_v 9 0 0 [.ref 44, .int 10] [(0, .ref 44), (1, .int 10)] f37_6 rfl n37_13 k37_13_0 rfl (hb_44 _ _ _ _) (by decide +kernel) (Nat.le_of_ble_eq_true rfl) rfl rfl (by decide +kernel) (by decide +kernel) rfl (Nat.le_of_ble_eq_true rfl) rfl ?_
                refine zw_aload_n 1 f2_0 rfl rfl ?_
                refine zw_getI 3 4 f2_1 rfl g2_15_0 (hb_44 _ _ _ _) rfl rfl ?_
                refine zw_bipush 50 6 f2_4 rfl (by decide +kernel) ?_
                refine zw_ic_ge_f 9 29 f2_6 (by decide +kernel) rfl (by decide +kernel) ?_
                refine zw_aload_n 10 f2_9 rfl rfl ?_
                refine zw_getfield 13 f2_10 rfl g2_9_0 (hb_44 _ _ _ _) rfl ?_
                refine zw_aload_n 14 f2_13 rfl rfl ?_
                refine zw_getI 3 17 f2_14 rfl g2_15_0 (hb_44 _ _ _ _) rfl rfl ?_
                refine zw_iload_n 18 f2_17 rfl rfl ?_
                refine zw_ast 3 _ 19 f2_18 rfl (hb_45 _ _ _ _) (by decide +kernel) (by decide +kernel) (by decide +kernel) (ha_45 _ _ _ _ _) ?_
                refine zw_aload_n 20 f2_19 rfl rfl ?_
                refine zw_dup 21 f2_20 rfl rfl ?_
                refine zw_getI 3 24 f2_21 rfl g2_15_0 (hb_44 _ _ _ _) rfl rfl ?_
                refine zw_iconst 1 25 f2_24 rfl (by decide +kernel) ?_
                refine zw_iadd 4 26 f2_25 rfl (by decide +kernel) ?_
                refine zw_put _ 29 f2_26 rfl g2_15_0 (hb_44 _ _ _ _) rfl (Nat.le_of_ble_eq_true rfl) (by decide +kernel) (hi_44_4 _ _ _ _ _) ?_
                refine zw_vreturn f2_29 r2 u2 ⟨rfl, ?_⟩
                refine zw_iload_n 10 f37_9 rfl rfl ?_
                refine zw_aload_n 11 f37_10 rfl rfl ?_
                refine zw_getfield 14 f37_11 rfl g37_7_2 (hb_50 _ _ _ _) rfl ?_
                refine zw_getI (P 54 a.toNatClampNeg) 17 f37_14 rfl g37_19_0 (hb_44 _ _ _ _) rfl rfl ?_
                refine zw_iadd ((c + (P 55 a.toNatClampNeg)) + (P 54 a.toNatClampNeg)) 18 f37_17 rfl rfl ?_
                refine zw_ireturn f37_18 r37 u37 ⟨_, rfl, ?_⟩
                refine zw_ireturn f8_22 r8 u8 ⟨_, rfl, ?_⟩
                refine zw_iconst 3 15 f38_14 rfl (by decide +kernel) ?_
                refine zw_imul (((c + (P 55 a.toNatClampNeg)) + (P 54 a.toNatClampNeg)) * 3) 16 f38_15 rfl rfl ?_
                refine zw_ireturn f38_16 r38 u38 ⟨_, rfl, ?_⟩
                refine zw_aload_n 15 f40_14 rfl rfl ?_
                refine zw_iload_n 16 f40_15 rfl rfl ?_
                refine zw_virtual_i 19 0 0 [.ref 50, .int c] [(0, .ref 50), (1, .int c)] f40_16 rfl n40_30 k40_30_2 rfl (hb_50 _ _ _ _) (by decide +kernel) (Nat.le_of_ble_eq_true rfl) rfl rfl (by decide +kernel) (by decide +kernel) rfl (Nat.le_of_ble_eq_true rfl) rfl ?_
                refine zw_aload_n 1 f7_0 rfl rfl ?_
                refine zw_getfield 4 f7_1 rfl g7_7_2 (hb_50 _ _ _ _) rfl ?_
                refine zw_bipush 40 6 f7_4 rfl (by decide +kernel) ?_
                refine zw_virtual_v 9 0 0 [.ref 44, .int 40] [(0, .ref 44), (1, .int 40)] f7_6 rfl n7_13 k7_13_0 rfl (hb_44 _ _ _ _) (by decide +kernel) (Nat.le_of_ble_eq_true rfl) rfl rfl (by decide +kernel) (by decide +kernel) rfl (Nat.le_of_ble_eq_true rfl) rfl ?_
                refine zw_aload_n 1 f2_0 rfl rfl ?_
                refine zw_getI 4 4 f2_1 rfl g2_15_0 (hb_44 _ _ _ _) rfl rfl ?_
                refine zw_bipush 50 6 f2_4 rfl (by decide +kernel) ?_
                refine zw_ic_ge_f 9 29 f2_6 (by decide +kernel) rfl (by decide +kernel) ?_
                refine zw_aload_n 10 f2_9 rfl rfl ?_
                refine zw_getfield 13 f2_10 rfl g2_9_0 (hb_44 _ _ _ _) rfl ?_
                refine zw_aload_n 14 f2_13 rfl rfl ?_
                refine zw_getI 4 17 f2_14 rfl g2_15_0 (hb_44 _ _ _ _) rfl rfl ?_
                refine zw_iload_n 18 f2_17 rfl rfl ?_
                refine zw_ast 4 _ 19 f2_18 rfl (hb_45 _ _ _ _) (by decide +kernel) (by decide +kernel) (by decide +kernel) (ha_45 _ _ _ _ _) ?_
                refine zw_aload_n 20 f2_19 rfl rfl ?_
                refine zw_dup 21 f2_20 rfl rfl ?_
                refine zw_getI 4 24 f2_21 rfl g2_15_0 (hb_44 _ _ _ _) rfl rfl ?_
                refine zw_iconst 1 25 f2_24 rfl (by decide +kernel) ?_
                refine zw_iadd 5 26 f2_25 rfl (by decide +kernel) ?_
                refine zw_put _ 29 f2_26 rfl g2_15_0 (hb_44 _ _ _ _) rfl (Nat.le_of_ble_eq_true rfl) (by decide +kernel) (hi_44_4 _ _ _ _ _) ?_
                refine zw_vreturn f2_29 r2 u2 ⟨rfl, ?_⟩
                refine zw_aload_n 10 f7_9 rfl rfl ?_
                refine zw_iload_n 11 f7_10 rfl rfl ?_
                refine zw_super_i 14 0 0 [.ref 50, .int c] [(0, .ref 50), (1, .int c)] f7_11 rfl k7_19_99 k7_19_98 (by decide +kernel) rfl (hb_50 _ _ _ _) (by decide +kernel) (Nat.le_of_ble_eq_true rfl) rfl rfl (by decide +kernel) (by decide +kernel) rfl (Nat.le_of_ble_eq_true rfl) rfl ?_
                refine zw_aload_n 1 f39_0 rfl rfl ?_
                refine zw_getfield 4 f39_1 rfl g39_7_2 (hb_50 _ _ _ _) rfl ?_
                refine zw_bipush 12 6 f39_4 rfl (by decide +kernel) ?_
                refine zw_virtual_v 9 0 0 [.ref 44, .int 12] [(0, .ref 44), (1, .int 12)] f39_6 rfl n39_13 k39_13_0 rfl (hb_44 _ _ _ _) (by decide +kernel) (Nat.le_of_ble_eq_true rfl) rfl rfl (by decide +kernel) (by decide +kernel) rfl (Nat.le_of_ble_eq_true rfl) rfl ?_
                refine zw_aload_n 1 f2_0 rfl rfl ?_
                refine zw_getI 5 4 f2_1 rfl g2_15_0 (hb_44 _ _ _ _) rfl rfl ?_
                refine zw_bipush 50 6 f2_4 rfl (by decide +kernel) ?_
                refine zw_ic_ge_f 9 29 f2_6 (by decide +kernel) rfl (by decide +kernel) ?_
                refine zw_aload_n 10 f2_9 rfl rfl ?_
                refine zw_getfield 13 f2_10 rfl g2_9_0 (hb_44 _ _ _ _) rfl ?_
                refine zw_aload_n 14 f2_13 rfl rfl ?_
                refine zw_getI 5 17 f2_14 rfl g2_15_0 (hb_44 _ _ _ _) rfl rfl ?_
                refine zw_iload_n 18 f2_17 rfl rfl ?_
                refine zw_ast 5 _ 19 f2_18 rfl (hb_45 _ _ _ _) (by decide +kernel) (by decide +kernel) (by decide +kernel) (ha_45 _ _ _ _ _) ?_
                refine zw_aload_n 20 f2_19 rfl rfl ?_
                refine zw_dup 21 f2_20 rfl rfl ?_
                refine zw_getI 5 24 f2_21 rfl g2_15_0 (hb_44 _ _ _ _) rfl rfl ?_
                refine zw_iconst 1 25 f2_24 rfl (by decide +kernel) ?_
                refine zw_iadd 6 26 f2_25 rfl (by decide +kernel) ?_
                refine zw_put _ 29 f2_26 rfl g2_15_0 (hb_44 _ _ _ _) rfl (Nat.le_of_ble_eq_true rfl) (by decide +kernel) (hi_44_4 _ _ _ _ _) ?_
                refine zw_vreturn f2_29 r2 u2 ⟨rfl, ?_⟩
                refine zw_iload_n 10 f39_9 rfl rfl ?_
                refine zw_aload_n 11 f39_10 rfl rfl ?_
                refine zw_getfield 14 f39_11 rfl g39_7_2 (hb_50 _ _ _ _) rfl ?_
                refine zw_getI (P 54 a.toNatClampNeg) 17 f39_14 rfl g39_19_0 (hb_44 _ _ _ _) rfl rfl ?_
                refine zw_ixor (c ^^^ (P 54 a.toNatClampNeg)) 18 f39_17 rfl rfl ?_
                refine zw_ireturn f39_18 r39 u39 ⟨_, rfl, ?_⟩
                refine zw_aload_n 15 f7_14 rfl rfl ?_
                refine zw_getfield 18 f7_15 rfl g7_7_2 (hb_50 _ _ _ _) rfl ?_
                refine zw_getI (P 56 a.toNatClampNeg) 21 f7_18 rfl g7_23_0 (hb_44 _ _ _ _) rfl rfl ?_
                refine zw_iadd ((c ^^^ (P 54 a.toNatClampNeg)) + (P 56 a.toNatClampNeg)) 22 f7_21 rfl rfl ?_
                refine zw_ireturn f7_22 r7 u7 ⟨_, rfl, ?_⟩
                refine zw_isub ((((c + (P 55 a.toNatClampNeg)) + (P 54 a.toNatClampNeg)) * 3) - ((c ^^^ (P 54 a.toNatClampNeg)) + (P 56 a.toNatClampNeg))) 20 f40_19 rfl rfl ?_
                refine zw_ireturn f40_20 r40 u40 ⟨_, rfl, ?_⟩
                refine zw_virtual_i 143 0 0 [.ref 0, .int ((((c + (P 55 a.toNatClampNeg)) + (P 54 a.toNatClampNeg)) * 3) - ((c ^^^ (P 54 a.toNatClampNeg)) + (P 56 a.toNatClampNeg)))] [(0, .ref 0), (1, .int ((((c + (P 55 a.toNatClampNeg)) + (P 54 a.toNatClampNeg)) * 3) - ((c ^^^ (P 54 a.toNatClampNeg)) + (P 56 a.toNatClampNeg))))] f101_140 rfl n101_181 k101_181_11 rfl (hb_0 _ _ _ _) (by decide +kernel) (Nat.le_of_ble_eq_true rfl) rfl rfl (by decide +kernel) (by decide +kernel) rfl (Nat.le_of_ble_eq_true rfl) rfl ?_
                refine zw_aload_n 1 f106_0 rfl rfl ?_
                refine zw_iconst 0 2 f106_1 rfl (by decide +kernel) ?_
                refine zw_put _ 5 f106_2 rfl g106_70_11 (hb_0 _ _ _ _) rfl (Nat.le_of_ble_eq_true rfl) (by decide +kernel) (hi_0_7 _ _ _ _ _) ?_
                refine zw_iload_n 6 f106_5 rfl rfl ?_
                refine zw_ireturn f106_6 r106 u106 ⟨_, rfl, ?_⟩
                refine zw_ireturn f101_143 r101 u101 ?_
                exact ⟨_, _, _, _, rfl, (KQ.i rfl (KQ.i rfl (KQ.a rfl (KQ.i rfl (KQ.a rfl (KQ.i rfl (KQ.a rfl (KQ.i rfl (KQ.a rfl (KQ.i rfl (KQ.a rfl (KQ.i rfl (KQ.a rfl (KQ.i rfl (KQ.i rfl (KQ.i rfl (KQ.i rfl (KQ.i rfl KQ.rf)))))))))))))))))), by rw [show an_act nv P W a b c = ((((c + (P 55 a.toNatClampNeg)) + (P 54 a.toNatClampNeg)) * 3) - ((c ^^^ (P 54 a.toNatClampNeg)) + (P 56 a.toNatClampNeg))) from ((cI_y ⟨(qV.ofc (by omega) hc1 hc2), ⟨hc4, hc5⟩⟩).trans ((cI_n (sw_ne hs9 (by decide))).trans ((cI_n (sw_ne hs9 (by decide))).trans ((cI_n (sw_ne hs9 (by decide))).trans ((cI_n (kne hk (by decide))).trans ((cI_n (kne hk (by decide))).trans ((cI_n (kne hk (by decide))).trans ((cI_y hk).trans rfl))))))))]⟩
              · rcases (show hs9k = 0 ∨ hs9k = 1 ∨ hs9k = 2 by omega) with rfl | rfl | rfl
                · refine zw_table_k 25 100 f101_75 hs9e (by decide +kernel) (by decide +kernel) (by decide +kernel) ?_
                  refine zw_aload_n 101 f101_100 rfl (zl1_ne rfl rfl (zl1_ne rfl rfl rfl)) ?_
                  refine zw_aload 103 f101_101 rfl zl1_eq ?_
                  refine zw_iload_n 104 f101_103 rfl (zl1_ne rfl rfl (zl1_ne rfl rfl rfl)) ?_
                  refine zw_virtual_i 107 0 0 [.ref 50, .int c] [(0, .ref 50), (1, .int c)] f101_104 rfl n101_289 k101_289_2 rfl (hb_50 _ _ _ _) (by decide +kernel) (Nat.le_of_ble_eq_true rfl) rfl rfl (by decide +kernel) (by decide +kernel) rfl (Nat.le_of_ble_eq_true rfl) rfl ?_
                  refine zw_aload_n 1 f8_0 rfl rfl ?_
                  refine zw_getfield 4 f8_1 rfl g8_7_2 (hb_50 _ _ _ _) rfl ?_
                  refine zw_bipush 41 6 f8_4 rfl (by decide +kernel) ?_
                  refine zw_virtual_v 9 0 0 [.ref 44, .int 41] [(0, .ref 44), (1, .int 41)] f8_6 rfl n8_13 k8_13_0 rfl (hb_44 _ _ _ _) (by decide +kernel) (Nat.le_of_ble_eq_true rfl) rfl rfl (by decide +kernel) (by decide +kernel) rfl (Nat.le_of_ble_eq_true rfl) rfl ?_
                  refine zw_aload_n 1 f2_0 rfl rfl ?_
                  refine zw_getI 0 4 f2_1 rfl g2_15_0 (hb_44 _ _ _ _) rfl rfl ?_
                  refine zw_bipush 50 6 f2_4 rfl (by decide +kernel) ?_
                  refine zw_ic_ge_f 9 29 f2_6 (by decide +kernel) rfl (by decide +kernel) ?_
                  refine zw_aload_n 10 f2_9 rfl rfl ?_
                  refine zw_getfield 13 f2_10 rfl g2_9_0 (hb_44 _ _ _ _) rfl ?_
                  refine zw_aload_n 14 f2_13 rfl rfl ?_
                  refine zw_getI 0 17 f2_14 rfl g2_15_0 (hb_44 _ _ _ _) rfl rfl ?_
                  refine zw_iload_n 18 f2_17 rfl rfl ?_
                  refine zw_ast 0 _ 19 f2_18 rfl (hb_45 _ _ _ _) (by decide +kernel) (by decide +kernel) (by decide +kernel) (ha_45 _ _ _ _ _) ?_
                  refine zw_aload_n 20 f2_19 rfl rfl ?_
                  refine zw_dup 21 f2_20 rfl rfl ?_
                  refine zw_getI 0 24 f2_21 rfl g2_15_0 (hb_44 _ _ _ _) rfl rfl ?_
                  refine zw_iconst 1 25 f2_24 rfl (by decide +kernel) ?_
                  refine zw_iadd 1 26 f2_25 rfl (by decide +kernel) ?_
                  refine zw_put _ 29 f2_26 rfl g2_15_0 (hb_44 _ _ _ _) rfl (Nat.le_of_ble_eq_true rfl) (by decide +kernel) (hi_44_4 _ _ _ _ _) ?_
                  refine zw_vreturn f2_29 r2 u2 ⟨rfl, ?_⟩
                  refine zw_aload_n 10 f8_9 rfl rfl ?_
                  refine zw_iload_n 11 f8_10 rfl rfl ?_
                  refine zw_aload_n 12 f8_11 rfl rfl ?_
                  refine zw_getfield 15 f8_12 rfl g8_7_2 (hb_50 _ _ _ _) rfl ?_
                  refine zw_getI (P 55 a.toNatClampNeg) 18 f8_15 rfl g8_27_0 (hb_44 _ _ _ _) rfl rfl ?_
                  refine zw_iadd (c + (P 55 a.toNatClampNeg)) 19 f8_18 rfl rfl ?_
                  refine zw_super_i 22 0 0 [.ref 50, .int (c + (P 55 a.toNatClampNeg))] [(0, .ref 50), (1, .int (c + (P 55 a.toNatClampNeg)))] f8_19 rfl k8_30_99 k8_30_98 (by decide +kernel) rfl (hb_50 _ _ _ _) (by decide +kernel) (Nat.le_of_ble_eq_true rfl) rfl rfl (by decide +kernel) (by decide +kernel) rfl (Nat.le_of_ble_eq_true rfl) rfl ?_
                  refine zw_aload_n 1 f37_0 rfl rfl ?_
                  refine zw_getfield 4 f37_1 rfl g37_7_2 (hb_50 _ _ _ _) rfl ?_
                  refine zw_bipush 10 6 f37_4 rfl (by decide +kernel) ?_
                  refine zw_virtual_v 9 0 0 [.ref 44, .int 10] [(0, .ref 44), (1, .int 10)] f37_6 rfl n37_13 k37_13_0 rfl (hb_44 _ _ _ _) (by decide +kernel) (Nat.le_of_ble_eq_true rfl) rfl rfl (by decide +kernel) (by decide +kernel) rfl (Nat.le_of_ble_eq_true rfl) rfl ?_
                  refine zw_aload_n 1 f2_0 rfl rfl ?_
                  refine zw_getI 1 4 f2_1 rfl g2_15_0 (hb_44 _ _ _ _) rfl rfl ?_
                  refine zw_bipush 50 6 f2_4 rfl (by decide +kernel) ?_
                  refine zw_ic_ge_f 9 29 f2_6 (by decide +kernel) rfl (by decide +kernel) ?_
                  refine zw_aload_n 10 f2_9 rfl rfl ?_
                  refine zw_getfield 13 f2_10 rfl g2_9_0 (hb_44 _ _ _ _) rfl ?_
                  refine zw_aload_n 14 f2_13 rfl rfl ?_
                  refine zw_getI 1 17 f2_14 rfl g2_15_0 (hb_44 _ _ _ _) rfl rfl ?_
                  refine zw_iload_n 18 f2_17 rfl rfl ?_
                  refine zw_ast 1 _ 19 f2_18 rfl (hb_45 _ _ _ _) (by decide +kernel) (by decide +kernel) (by decide +kernel) (ha_45 _ _ _ _ _) ?_
                  refine zw_aload_n 20 f2_19 rfl rfl ?_
                  refine zw_dup 21 f2_20 rfl rfl ?_
                  refine zw_getI 1 24 f2_21 rfl g2_15_0 (hb_44 _ _ _ _) rfl rfl ?_
                  refine zw_iconst 1 25 f2_24 rfl (by decide +kernel) ?_
                  refine zw_iadd 2 26 f2_25 rfl (by decide +kernel) ?_
                  refine zw_put _ 29 f2_26 rfl g2_15_0 (hb_44 _ _ _ _) rfl (Nat.le_of_ble_eq_true rfl) (by decide +kernel) (hi_44_4 _ _ _ _ _) ?_
                  refine zw_vreturn f2_29 r2 u2 ⟨rfl, ?_⟩
                  refine zw_iload_n 10 f37_9 rfl rfl ?_
                  refine zw_aload_n 11 f37_10 rfl rfl ?_
                  refine zw_getfield 14 f37_11 rfl g37_7_2 (hb_50 _ _ _ _) rfl ?_
                  refine zw_getI (P 54 a.toNatClampNeg) 17 f37_14 rfl g37_19_0 (hb_44 _ _ _ _) rfl rfl ?_
                  refine zw_iadd ((c + (P 55 a.toNatClampNeg)) + (P 54 a.toNatClampNeg)) 18 f37_17 rfl rfl ?_
                  refine zw_ireturn f37_18 r37 u37 ⟨_, rfl, ?_⟩
                  refine zw_ireturn f8_22 r8 u8 ⟨_, rfl, ?_⟩
                  refine zw_virtual_i 110 0 0 [.ref 0, .int ((c + (P 55 a.toNatClampNeg)) + (P 54 a.toNatClampNeg))] [(0, .ref 0), (1, .int ((c + (P 55 a.toNatClampNeg)) + (P 54 a.toNatClampNeg)))] f101_107 rfl n101_181 k101_181_11 rfl (hb_0 _ _ _ _) (by decide +kernel) (Nat.le_of_ble_eq_true rfl) rfl rfl (by decide +kernel) (by decide +kernel) rfl (Nat.le_of_ble_eq_true rfl) rfl ?_
                  refine zw_aload_n 1 f106_0 rfl rfl ?_
                  refine zw_iconst 0 2 f106_1 rfl (by decide +kernel) ?_
                  refine zw_put _ 5 f106_2 rfl g106_70_11 (hb_0 _ _ _ _) rfl (Nat.le_of_ble_eq_true rfl) (by decide +kernel) (hi_0_7 _ _ _ _ _) ?_
                  refine zw_iload_n 6 f106_5 rfl rfl ?_
                  refine zw_ireturn f106_6 r106 u106 ⟨_, rfl, ?_⟩
                  refine zw_ireturn f101_110 r101 u101 ?_
                  exact ⟨_, _, _, _, rfl, (KQ.i rfl (KQ.i rfl (KQ.a rfl (KQ.i rfl (KQ.a rfl (KQ.i rfl (KQ.i rfl (KQ.i rfl (KQ.i rfl (KQ.i rfl KQ.rf)))))))))), by rw [show an_act nv P W a b c = ((c + (P 55 a.toNatClampNeg)) + (P 54 a.toNatClampNeg)) from ((cI_y ⟨(qV.ofc (by omega) hc1 hc2), ⟨hc4, hc5⟩⟩).trans ((cI_y (show b = 0 from hs9e)).trans ((cI_n (kne hk (by decide))).trans ((cI_n (kne hk (by decide))).trans ((cI_n (kne hk (by decide))).trans ((cI_y hk).trans rfl))))))]⟩
                · refine zw_table_k 36 111 f101_75 hs9e (by decide +kernel) (by decide +kernel) (by decide +kernel) ?_
                  refine zw_aload_n 112 f101_111 rfl (zl1_ne rfl rfl (zl1_ne rfl rfl rfl)) ?_
                  refine zw_aload 114 f101_112 rfl zl1_eq ?_
                  refine zw_iload_n 115 f101_114 rfl (zl1_ne rfl rfl (zl1_ne rfl rfl rfl)) ?_
                  refine zw_virtual_i 118 0 0 [.ref 50, .int c] [(0, .ref 50), (1, .int c)] f101_115 rfl n101_292 k101_292_2 rfl (hb_50 _ _ _ _) (by decide +kernel) (Nat.le_of_ble_eq_true rfl) rfl rfl (by decide +kernel) (by decide +kernel) rfl (Nat.le_of_ble_eq_true rfl) rfl ?_
                  refine zw_aload_n 1 f38_0 rfl rfl ?_
                  refine zw_getfield 4 f38_1 rfl g38_7_2 (hb_50 _ _ _ _) rfl ?_
                  refine zw_bipush 11 6 f38_4 rfl (by decide +kernel) ?_
                  refine zw_virtual_v 9 0 0 [.ref 44, .int 11] [(0, .ref 44), (1, .int 11)] f38_6 rfl n38_13 k38_13_0 rfl (hb_44 _ _ _ _) (by decide +kernel) (Nat.le_of_ble_eq_true rfl) rfl rfl (by decide +kernel) (by decide +kernel) rfl (Nat.le_of_ble_eq_true rfl) rfl ?_
                  refine zw_aload_n 1 f2_0 rfl rfl ?_
                  refine zw_getI 0 4 f2_1 rfl g2_15_0 (hb_44 _ _ _ _) rfl rfl ?_
                  refine zw_bipush 50 6 f2_4 rfl (by decide +kernel) ?_
                  refine zw_ic_ge_f 9 29 f2_6 (by decide +kernel) rfl (by decide +kernel) ?_
                  refine zw_aload_n 10 f2_9 rfl rfl ?_
                  refine zw_getfield 13 f2_10 rfl g2_9_0 (hb_44 _ _ _ _) rfl ?_
                  refine zw_aload_n 14 f2_13 rfl rfl ?_
                  refine zw_getI 0 17 f2_14 rfl g2_15_0 (hb_44 _ _ _ _) rfl rfl ?_
                  refine zw_iload_n 18 f2_17 rfl rfl ?_
                  refine zw_ast 0 _ 19 f2_18 rfl (hb_45 _ _ _ _) (by decide +kernel) (by decide +kernel) (by decide +kernel) (ha_45 _ _ _ _ _) ?_
                  refine zw_aload_n 20 f2_19 rfl rfl ?_
                  refine zw_dup 21 f2_20 rfl rfl ?_
                  refine zw_getI 0 24 f2_21 rfl g2_15_0 (hb_44 _ _ _ _) rfl rfl ?_
                  refine zw_iconst 1 25 f2_24 rfl (by decide +kernel) ?_
                  refine zw_iadd 1 26 f2_25 rfl (by decide +kernel) ?_
                  refine zw_put _ 29 f2_26 rfl g2_15_0 (hb_44 _ _ _ _) rfl (Nat.le_of_ble_eq_true rfl) (by decide +kernel) (hi_44_4 _ _ _ _ _) ?_
                  refine zw_vreturn f2_29 r2 u2 ⟨rfl, ?_⟩
                  refine zw_aload_n 10 f38_9 rfl rfl ?_
                  refine zw_iload_n 11 f38_10 rfl rfl ?_
                  refine zw_virtual_i 14 0 0 [.ref 50, .int c] [(0, .ref 50), (1, .int c)] f38_11 rfl n38_23 k38_23_2 rfl (hb_50 _ _ _ _) (by decide +kernel) (Nat.le_of_ble_eq_true rfl) rfl rfl (by decide +kernel) (by decide +kernel) rfl (Nat.le_of_ble_eq_true rfl) rfl ?_
                  refine zw_aload_n 1 f8_0 rfl rfl ?_
                  refine zw_getfield 4 f8_1 rfl g8_7_2 (hb_50 _ _ _ _) rfl ?_
                  refine zw_bipush 41 6 f8_4 rfl (by decide +kernel) ?_
                  refine zw_virtual_v 9 0 0 [.ref 44, .int 41] [(0, .ref 44), (1, .int 41)] f8_6 rfl n8_13 k8_13_0 rfl (hb_44 _ _ _ _) (by decide +kernel) (Nat.le_of_ble_eq_true rfl) rfl rfl (by decide +kernel) (by decide +kernel) rfl (Nat.le_of_ble_eq_true rfl) rfl ?_
                  refine zw_aload_n 1 f2_0 rfl rfl ?_
                  refine zw_getI 1 4 f2_1 rfl g2_15_0 (hb_44 _ _ _ _) rfl rfl ?_
                  refine zw_bipush 50 6 f2_4 rfl (by decide +kernel) ?_
                  refine zw_ic_ge_f 9 29 f2_6 (by decide +kernel) rfl (by decide +kernel) ?_
                  refine zw_aload_n 10 f2_9 rfl rfl ?_
                  refine zw_getfield 13 f2_10 rfl g2_9_0 (hb_44 _ _ _ _) rfl ?_
                  refine zw_aload_n 14 f2_13 rfl rfl ?_
                  refine zw_getI 1 17 f2_14 rfl g2_15_0 (hb_44 _ _ _ _) rfl rfl ?_
                  refine zw_iload_n 18 f2_17 rfl rfl ?_
                  refine zw_ast 1 _ 19 f2_18 rfl (hb_45 _ _ _ _) (by decide +kernel) (by decide +kernel) (by decide +kernel) (ha_45 _ _ _ _ _) ?_
                  refine zw_aload_n 20 f2_19 rfl rfl ?_
                  refine zw_dup 21 f2_20 rfl rfl ?_
                  refine zw_getI 1 24 f2_21 rfl g2_15_0 (hb_44 _ _ _ _) rfl rfl ?_
                  refine zw_iconst 1 25 f2_24 rfl (by decide +kernel) ?_
                  refine zw_iadd 2 26 f2_25 rfl (by decide +kernel) ?_
                  refine zw_put _ 29 f2_26 rfl g2_15_0 (hb_44 _ _ _ _) rfl (Nat.le_of_ble_eq_true rfl) (by decide +kernel) (hi_44_4 _ _ _ _ _) ?_
                  refine zw_vreturn f2_29 r2 u2 ⟨rfl, ?_⟩
                  refine zw_aload_n 10 f8_9 rfl rfl ?_
                  refine zw_iload_n 11 f8_10 rfl rfl ?_
                  refine zw_aload_n 12 f8_11 rfl rfl ?_
                  refine zw_getfield 15 f8_12 rfl g8_7_2 (hb_50 _ _ _ _) rfl ?_
                  refine zw_getI (P 55 a.toNatClampNeg) 18 f8_15 rfl g8_27_0 (hb_44 _ _ _ _) rfl rfl ?_
                  refine zw_iadd (c + (P 55 a.toNatClampNeg)) 19 f8_18 rfl rfl ?_
                  refine zw_super_i 22 0 0 [.ref 50, .int (c + (P 55 a.toNatClampNeg))] [(0, .ref 50), (1, .int (c + (P 55 a.toNatClampNeg)))] f8_19 rfl k8_30_99 k8_30_98 (by decide +kernel) rfl (hb_50 _ _ _ _) (by decide +kernel) (Nat.le_of_ble_eq_true rfl) rfl rfl (by decide +kernel) (by decide +kernel) rfl (Nat.le_of_ble_eq_true rfl) rfl ?_
                  refine zw_aload_n 1 f37_0 rfl rfl ?_
                  refine zw_getfield 4 f37_1 rfl g37_7_2 (hb_50 _ _ _ _) rfl ?_
                  refine zw_bipush 10 6 f37_4 rfl (by decide +kernel) ?_
                  refine zw_virtual_v 9 0 0 [.ref 44, .int 10] [(0, .ref 44), (1, .int 10)] f37_6 rfl n37_13 k37_13_0 rfl (hb_44 _ _ _ _) (by decide +kernel) (Nat.le_of_ble_eq_true rfl) rfl rfl (by decide +kernel) (by decide +kernel) rfl (Nat.le_of_ble_eq_true rfl) rfl ?_
                  refine zw_aload_n 1 f2_0 rfl rfl ?_
                  refine zw_getI 2 4 f2_1 rfl g2_15_0 (hb_44 _ _ _ _) rfl rfl ?_
                  refine zw_bipush 50 6 f2_4 rfl (by decide +kernel) ?_
                  refine zw_ic_ge_f 9 29 f2_6 (by decide +kernel) rfl (by decide +kernel) ?_
                  refine zw_aload_n 10 f2_9 rfl rfl ?_
                  refine zw_getfield 13 f2_10 rfl g2_9_0 (hb_44 _ _ _ _) rfl ?_
                  refine zw_aload_n 14 f2_13 rfl rfl ?_
                  refine zw_getI 2 17 f2_14 rfl g2_15_0 (hb_44 _ _ _ _) rfl rfl ?_
                  refine zw_iload_n 18 f2_17 rfl rfl ?_
                  refine zw_ast 2 _ 19 f2_18 rfl (hb_45 _ _ _ _) (by decide +kernel) (by decide +kernel) (by decide +kernel) (ha_45 _ _ _ _ _) ?_
                  refine zw_aload_n 20 f2_19 rfl rfl ?_
                  refine zw_dup 21 f2_20 rfl rfl ?_
                  refine zw_getI 2 24 f2_21 rfl g2_15_0 (hb_44 _ _ _ _) rfl rfl ?_
                  refine zw_iconst 1 25 f2_24 rfl (by decide +kernel) ?_
                  refine zw_iadd 3 26 f2_25 rfl (by decide +kernel) ?_
                  refine zw_put _ 29 f2_26 rfl g2_15_0 (hb_44 _ _ _ _) rfl (Nat.le_of_ble_eq_true rfl) (by decide +kernel) (hi_44_4 _ _ _ _ _) ?_
                  refine zw_vreturn f2_29 r2 u2 ⟨rfl, ?_⟩
                  refine zw_iload_n 10 f37_9 rfl rfl ?_
                  refine zw_aload_n 11 f37_10 rfl rfl ?_
                  refine zw_getfield 14 f37_11 rfl g37_7_2 (hb_50 _ _ _ _) rfl ?_
                  refine zw_getI (P 54 a.toNatClampNeg) 17 f37_14 rfl g37_19_0 (hb_44 _ _ _ _) rfl rfl ?_
                  refine zw_iadd ((c + (P 55 a.toNatClampNeg)) + (P 54 a.toNatClampNeg)) 18 f37_17 rfl rfl ?_
                  refine zw_ireturn f37_18 r37 u37 ⟨_, rfl, ?_⟩
                  refine zw_ireturn f8_22 r8 u8 ⟨_, rfl, ?_⟩
                  refine zw_iconst 3 15 f38_14 rfl (by decide +kernel) ?_
                  refine zw_imul (((c + (P 55 a.toNatClampNeg)) + (P 54 a.toNatClampNeg)) * 3) 16 f38_15 rfl rfl ?_
                  refine zw_ireturn f38_16 r38 u38 ⟨_, rfl, ?_⟩
                  refine zw_virtual_i 121 0 0 [.ref 0, .int (((c + (P 55 a.toNatClampNeg)) + (P 54 a.toNatClampNeg)) * 3)] [(0, .ref 0), (1, .int (((c + (P 55 a.toNatClampNeg)) + (P 54 a.toNatClampNeg)) * 3))] f101_118 rfl n101_181 k101_181_11 rfl (hb_0 _ _ _ _) (by decide +kernel) (Nat.le_of_ble_eq_true rfl) rfl rfl (by decide +kernel) (by decide +kernel) rfl (Nat.le_of_ble_eq_true rfl) rfl ?_
                  refine zw_aload_n 1 f106_0 rfl rfl ?_
                  refine zw_iconst 0 2 f106_1 rfl (by decide +kernel) ?_
                  refine zw_put _ 5 f106_2 rfl g106_70_11 (hb_0 _ _ _ _) rfl (Nat.le_of_ble_eq_true rfl) (by decide +kernel) (hi_0_7 _ _ _ _ _) ?_
                  refine zw_iload_n 6 f106_5 rfl rfl ?_
                  refine zw_ireturn f106_6 r106 u106 ⟨_, rfl, ?_⟩
                  refine zw_ireturn f101_121 r101 u101 ?_
                  exact ⟨_, _, _, _, rfl, (KQ.i rfl (KQ.i rfl (KQ.a rfl (KQ.i rfl (KQ.a rfl (KQ.i rfl (KQ.a rfl (KQ.i rfl (KQ.i rfl (KQ.i rfl (KQ.i rfl (KQ.i rfl KQ.rf)))))))))))), by rw [show an_act nv P W a b c = (((c + (P 55 a.toNatClampNeg)) + (P 54 a.toNatClampNeg)) * 3) from ((cI_y ⟨(qV.ofc (by omega) hc1 hc2), ⟨hc4, hc5⟩⟩).trans ((cI_n (kne (show b = 1 from hs9e) (by decide))).trans ((cI_y (show b = 1 from hs9e)).trans ((cI_n (kne hk (by decide))).trans ((cI_n (kne hk (by decide))).trans ((cI_n (kne hk (by decide))).trans ((cI_y hk).trans rfl)))))))]⟩
                · refine zw_table_k 47 122 f101_75 hs9e (by decide +kernel) (by decide +kernel) (by decide +kernel) ?_
                  refine zw_aload_n 123 f101_122 rfl (zl1_ne rfl rfl (zl1_ne rfl rfl rfl)) ?_
                  refine zw_aload 125 f101_123 rfl zl1_eq ?_
                  refine zw_iload_n 126 f101_125 rfl (zl1_ne rfl rfl (zl1_ne rfl rfl rfl)) ?_
                  refine zw_virtual_i 129 0 0 [.ref 50, .int c] [(0, .ref 50), (1, .int c)] f101_126 rfl n101_295 k101_295_2 rfl (hb_50 _ _ _ _) (by decide +kernel) (Nat.le_of_ble_eq_true rfl) rfl rfl (by decide +kernel) (by decide +kernel) rfl (Nat.le_of_ble_eq_true rfl) rfl ?_
                  refine zw_aload_n 1 f7_0 rfl rfl ?_
                  refine zw_getfield 4 f7_1 rfl g7_7_2 (hb_50 _ _ _ _) rfl ?_
                  refine zw_bipush 40 6 f7_4 rfl (by decide +kernel) ?_
                  refine zw_virtual_v 9 0 0 [.ref 44, .int 40] [(0, .ref 44), (1, .int 40)] f7_6 rfl n7_13 k7_13_0 rfl (hb_44 _ _ _ _) (by decide +kernel) (Nat.le_of_ble_eq_true rfl) rfl rfl (by decide +kernel) (by decide +kernel) rfl (Nat.le_of_ble_eq_true rfl) rfl ?_
                  refine zw_aload_n 1 f2_0 rfl rfl ?_
                  refine zw_getI 0 4 f2_1 rfl g2_15_0 (hb_44 _ _ _ _) rfl rfl ?_
                  refine zw_bipush 50 6 f2_4 rfl (by decide +kernel) ?_
                  refine zw_ic_ge_f 9 29 f2_6 (by decide +kernel) rfl (by decide +kernel) ?_
                  refine zw_aload_n 10 f2_9 rfl rfl ?_
                  refine zw_getfield 13 f2_10 rfl g2_9_0 (hb_44 _ _ _ _) rfl ?_
                  refine zw_aload_n 14 f2_13 rfl rfl ?_
                  refine zw_getI 0 17 f2_14 rfl g2_15_0 (hb_44 _ _ _ _) rfl rfl ?_
                  refine zw_iload_n 18 f2_17 rfl rfl ?_
                  refine zw_ast 0 _ 19 f2_18 rfl (hb_45 _ _ _ _) (by decide +kernel) (by decide +kernel) (by decide +kernel) (ha_45 _ _ _ _ _) ?_
                  refine zw_aload_n 20 f2_19 rfl rfl ?_
                  refine zw_dup 21 f2_20 rfl rfl ?_
                  refine zw_getI 0 24 f2_21 rfl g2_15_0 (hb_44 _ _ _ _) rfl rfl ?_
                  refine zw_iconst 1 25 f2_24 rfl (by decide +kernel) ?_
                  refine zw_iadd 1 26 f2_25 rfl (by decide +kernel) ?_
                  refine zw_put _ 29 f2_26 rfl g2_15_0 (hb_44 _ _ _ _) rfl (Nat.le_of_ble_eq_true rfl) (by decide +kernel) (hi_44_4 _ _ _ _ _) ?_
                  refine zw_vreturn f2_29 r2 u2 ⟨rfl, ?_⟩
                  refine zw_aload_n 10 f7_9 rfl rfl ?_
                  refine zw_iload_n 11 f7_10 rfl rfl ?_
                  refine zw_super_i 14 0 0 [.ref 50, .int c] [(0, .ref 50), (1, .int c)] f7_11 rfl k7_19_99 k7_19_98 (by decide +kernel) rfl (hb_50 _ _ _ _) (by decide +kernel) (Nat.le_of_ble_eq_true rfl) rfl rfl (by decide +kernel) (by decide +kernel) rfl (Nat.le_of_ble_eq_true rfl) rfl ?_
                  refine zw_aload_n 1 f39_0 rfl rfl ?_
                  refine zw_getfield 4 f39_1 rfl g39_7_2 (hb_50 _ _ _ _) rfl ?_
                  refine zw_bipush 12 6 f39_4 rfl (by decide +kernel) ?_
                  refine zw_virtual_v 9 0 0 [.ref 44, .int 12] [(0, .ref 44), (1, .int 12)] f39_6 rfl n39_13 k39_13_0 rfl (hb_44 _ _ _ _) (by decide +kernel) (Nat.le_of_ble_eq_true rfl) rfl rfl (by decide +kernel) (by decide +kernel) rfl (Nat.le_of_ble_eq_true rfl) rfl ?_
                  refine zw_aload_n 1 f2_0 rfl rfl ?_
                  refine zw_getI 1 4 f2_1 rfl g2_15_0 (hb_44 _ _ _ _) rfl rfl ?_
                  refine zw_bipush 50 6 f2_4 rfl (by decide +kernel) ?_
                  refine zw_ic_ge_f 9 29 f2_6 (by decide +kernel) rfl (by decide +kernel) ?_
                  refine zw_aload_n 10 f2_9 rfl rfl ?_
                  refine zw_getfield 13 f2_10 rfl g2_9_0 (hb_44 _ _ _ _) rfl ?_
                  refine zw_aload_n 14 f2_13 rfl rfl ?_
                  refine zw_getI 1 17 f2_14 rfl g2_15_0 (hb_44 _ _ _ _) rfl rfl ?_
                  refine zw_iload_n 18 f2_17 rfl rfl ?_
                  refine zw_ast 1 _ 19 f2_18 rfl (hb_45 _ _ _ _) (by decide +kernel) (by decide +kernel) (by decide +kernel) (ha_45 _ _ _ _ _) ?_
                  refine zw_aload_n 20 f2_19 rfl rfl ?_
                  refine zw_dup 21 f2_20 rfl rfl ?_
                  refine zw_getI 1 24 f2_21 rfl g2_15_0 (hb_44 _ _ _ _) rfl rfl ?_
                  refine zw_iconst 1 25 f2_24 rfl (by decide +kernel) ?_
                  refine zw_iadd 2 26 f2_25 rfl (by decide +kernel) ?_
                  refine zw_put _ 29 f2_26 rfl g2_15_0 (hb_44 _ _ _ _) rfl (Nat.le_of_ble_eq_true rfl) (by decide +kernel) (hi_44_4 _ _ _ _ _) ?_
                  refine zw_vreturn f2_29 r2 u2 ⟨rfl, ?_⟩
                  refine zw_iload_n 10 f39_9 rfl rfl ?_
                  refine zw_aload_n 11 f39_10 rfl rfl ?_
                  refine zw_getfield 14 f39_11 rfl g39_7_2 (hb_50 _ _ _ _) rfl ?_
                  refine zw_getI (P 54 a.toNatClampNeg) 17 f39_14 rfl g39_19_0 (hb_44 _ _ _ _) rfl rfl ?_
                  refine zw_ixor (c ^^^ (P 54 a.toNatClampNeg)) 18 f39_17 rfl rfl ?_
                  refine zw_ireturn f39_18 r39 u39 ⟨_, rfl, ?_⟩
                  refine zw_aload_n 15 f7_14 rfl rfl ?_
                  refine zw_getfield 18 f7_15 rfl g7_7_2 (hb_50 _ _ _ _) rfl ?_
                  refine zw_getI (P 56 a.toNatClampNeg) 21 f7_18 rfl g7_23_0 (hb_44 _ _ _ _) rfl rfl ?_
                  refine zw_iadd ((c ^^^ (P 54 a.toNatClampNeg)) + (P 56 a.toNatClampNeg)) 22 f7_21 rfl rfl ?_
                  refine zw_ireturn f7_22 r7 u7 ⟨_, rfl, ?_⟩
                  refine zw_virtual_i 132 0 0 [.ref 0, .int ((c ^^^ (P 54 a.toNatClampNeg)) + (P 56 a.toNatClampNeg))] [(0, .ref 0), (1, .int ((c ^^^ (P 54 a.toNatClampNeg)) + (P 56 a.toNatClampNeg)))] f101_129 rfl n101_181 k101_181_11 rfl (hb_0 _ _ _ _) (by decide +kernel) (Nat.le_of_ble_eq_true rfl) rfl rfl (by decide +kernel) (by decide +kernel) rfl (Nat.le_of_ble_eq_true rfl) rfl ?_
                  refine zw_aload_n 1 f106_0 rfl rfl ?_
                  refine zw_iconst 0 2 f106_1 rfl (by decide +kernel) ?_
                  refine zw_put _ 5 f106_2 rfl g106_70_11 (hb_0 _ _ _ _) rfl (Nat.le_of_ble_eq_true rfl) (by decide +kernel) (hi_0_7 _ _ _ _ _) ?_
                  refine zw_iload_n 6 f106_5 rfl rfl ?_
                  refine zw_ireturn f106_6 r106 u106 ⟨_, rfl, ?_⟩
                  refine zw_ireturn f101_132 r101 u101 ?_
                  exact ⟨_, _, _, _, rfl, (KQ.i rfl (KQ.i rfl (KQ.a rfl (KQ.i rfl (KQ.a rfl (KQ.i rfl (KQ.i rfl (KQ.i rfl (KQ.i rfl (KQ.i rfl KQ.rf)))))))))), by rw [show an_act nv P W a b c = ((c ^^^ (P 54 a.toNatClampNeg)) + (P 56 a.toNatClampNeg)) from ((cI_y ⟨(qV.ofc (by omega) hc1 hc2), ⟨hc4, hc5⟩⟩).trans ((cI_n (kne (show b = 2 from hs9e) (by decide))).trans ((cI_n (kne (show b = 2 from hs9e) (by decide))).trans ((cI_y (show b = 2 from hs9e)).trans ((cI_n (kne hk (by decide))).trans ((cI_n (kne hk (by decide))).trans ((cI_n (kne hk (by decide))).trans ((cI_y hk).trans rfl))))))))]⟩
            · refine zw_aaload 4 42 f101_41 rfl (hb_46 _ _ _ _) (by rw [hk]; decide) (by rw [hk]; decide) (by decide) rfl ?_
              refine zw_astore _ 44 f101_42 rfl (by decide +kernel) rfl ?_
              refine zw_aload 46 f101_44 rfl zl1_eq ?_
              refine zw_ifnonnull 55 f101_46 (by decide +kernel) ?_
              refine zw_aload_n 56 f101_55 rfl (zl1_ne rfl rfl (zl1_ne rfl rfl rfl)) ?_
              refine zw_getfield 59 f101_56 rfl g101_45_11 (hb_0 _ _ _ _) rfl ?_
              refine zw_aload_n 60 f101_59 rfl (zl1_ne rfl rfl (zl1_ne rfl rfl rfl)) ?_
              refine zw_getfield 63 f101_60 rfl g101_10_11 (hb_0 _ _ _ _) rfl ?_
              refine zw_aload_n 64 f101_63 rfl (zl1_ne rfl rfl (zl1_ne rfl rfl rfl)) ?_
              refine zw_getfield 67 f101_64 rfl g101_21_11 (hb_0 _ _ _ _) rfl ?_
              refine zw_getfield 70 f101_67 rfl g101_134_10 (hb_11 _ _ _ _) rfl ?_
              refine zw_iload_n 71 f101_70 rfl (zl1_ne rfl rfl (zl1_ne rfl rfl rfl)) ?_
              refine zw_virtual_v 74 0 0 [.ref 44, .ref 1, .ref 12, .int a] [(0, .ref 44), (1, .ref 1), (2, .ref 12), (3, .int a)] f101_71 rfl n101_285 k101_285_0 rfl (hb_44 _ _ _ _) (by decide +kernel) (Nat.le_of_ble_eq_true rfl) rfl rfl (by decide +kernel) (by decide +kernel) rfl (Nat.le_of_ble_eq_true rfl) rfl ?_
              refine zw_aload_n 1 f1_0 rfl rfl ?_
              refine zw_iconst 0 2 f1_1 rfl (by decide +kernel) ?_
              refine zw_put _ 5 f1_2 rfl g1_15_0 (hb_44 _ _ _ _) rfl (Nat.le_of_ble_eq_true rfl) (by decide +kernel) (hi_44_4 _ _ _ _ _) ?_
              refine zw_aload_n 6 f1_5 rfl rfl ?_
              refine zw_iload_n 7 f1_6 rfl rfl ?_
              refine zw_virtual_i 10 0 0 [.ref 1, .int a] [(0, .ref 1), (1, .int a)] f1_7 rfl n1_19 k1_19_4 rfl (hb_1 _ _ _ _) (by decide +kernel) (Nat.le_of_ble_eq_true rfl) rfl rfl (by decide +kernel) (by decide +kernel) rfl (Nat.le_of_ble_eq_true rfl) rfl ?_
              refine zw_iload_n 1 f13_0 rfl rfl ?_
              refine zw_if_lt_f 4 22 f13_1 (by decide +kernel) rfl hc1 ?_
              refine zw_iload_n 5 f13_4 rfl rfl ?_
              refine zw_aload_n 6 f13_5 rfl rfl ?_
              refine zw_getI (nI nv) 9 f13_6 rfl g13_39_4 (hb_1 _ _ _ _) rfl hR.1.1 ?_
              refine zw_ic_ge_f 12 22 f13_9 (by decide +kernel) rfl hc2 ?_
              refine zw_iload_n 13 f13_12 rfl rfl ?_
              refine zw_bipush 8 15 f13_13 rfl (by decide +kernel) ?_
              refine zw_ic_ge_f 18 22 f13_15 (by decide +kernel) rfl hc3 ?_
              refine zw_iconst 1 19 f13_18 rfl (by decide +kernel) ?_
              refine zw_goto 23 f13_19 (by decide +kernel) ?_
              refine zw_zreturn f13_23 r13 u13 (by decide +kernel) ⟨_, rfl, ?_⟩
              refine zw_if_eq_f 13 53 f1_10 (by decide +kernel) rfl (by decide +kernel) ?_
              refine zw_aload_n 14 f1_13 rfl rfl ?_
              refine zw_aload_n 15 f1_14 rfl rfl ?_
              refine zw_getfield 18 f1_15 rfl g1_25_4 (hb_1 _ _ _ _) rfl ?_
              refine zw_iload_n 19 f1_18 rfl rfl ?_
              refine zw_iaload a.toNatClampNeg (P 54 a.toNatClampNeg) 20 f1_19 rfl (hb_3 _ _ _ _) rfl hc1 (zix (by decide) hc1 hc3) (congrFun ((hR.2.1 54 (by omega) (by omega))) a.toNatClampNeg) ?_
              refine zw_put _ 23 f1_20 rfl g1_28_0 (hb_44 _ _ _ _) rfl (Nat.le_of_ble_eq_true rfl) (by decide +kernel) (hi_44_0 _ _ _ _ _) ?_
              refine zw_aload_n 24 f1_23 rfl rfl ?_
              refine zw_aload_n 25 f1_24 rfl rfl ?_
              refine zw_getfield 28 f1_25 rfl g1_31_4 (hb_1 _ _ _ _) rfl ?_
              refine zw_iload_n 29 f1_28 rfl rfl ?_
              refine zw_iaload a.toNatClampNeg (P 55 a.toNatClampNeg) 30 f1_29 rfl (hb_4 _ _ _ _) rfl hc1 (zix (by decide) hc1 hc3) (congrFun ((hR.2.1 55 (by omega) (by omega))) a.toNatClampNeg) ?_
              refine zw_put _ 33 f1_30 rfl g1_34_0 (hb_44 _ _ _ _) rfl (Nat.le_of_ble_eq_true rfl) (by decide +kernel) (hi_44_1 _ _ _ _ _) ?_
              refine zw_aload_n 34 f1_33 rfl rfl ?_
              refine zw_aload_n 35 f1_34 rfl rfl ?_
              refine zw_getfield 38 f1_35 rfl g1_37_4 (hb_1 _ _ _ _) rfl ?_
              refine zw_iload_n 39 f1_38 rfl rfl ?_
              refine zw_iaload a.toNatClampNeg (P 56 a.toNatClampNeg) 40 f1_39 rfl (hb_5 _ _ _ _) rfl hc1 (zix (by decide) hc1 hc3) (congrFun ((hR.2.1 56 (by omega) (by omega))) a.toNatClampNeg) ?_
              refine zw_put _ 43 f1_40 rfl g1_40_0 (hb_44 _ _ _ _) rfl (Nat.le_of_ble_eq_true rfl) (by decide +kernel) (hi_44_2 _ _ _ _ _) ?_
              refine zw_aload_n 44 f1_43 rfl rfl ?_
              refine zw_aload_n 45 f1_44 rfl rfl ?_
              refine zw_getfield 48 f1_45 rfl g1_43_9 (hb_12 _ _ _ _) rfl ?_
              refine zw_iload_n 49 f1_48 rfl rfl ?_
              refine zw_iaload a.toNatClampNeg (A 14 a.toNatClampNeg) 50 f1_49 rfl (hb_14 _ _ _ _) rfl hc1 (zix (by decide) hc1 hc3) rfl ?_
              refine zw_put _ 53 f1_50 rfl g1_48_0 (hb_44 _ _ _ _) rfl (Nat.le_of_ble_eq_true rfl) (by decide +kernel) (hi_44_3 _ _ _ _ _) ?_
              refine zw_vreturn f1_53 r1 u1 ⟨rfl, ?_⟩
              refine zw_iload_n 75 f101_74 rfl (zl1_ne rfl rfl (zl1_ne rfl rfl rfl)) ?_
              rcases zl_sw 2 (by decide) b with hs10 | ⟨hs10k, hs10l, hs10e⟩
              · refine zw_table_o 133 f101_75 hs10 (by decide +kernel) ?_
                refine zw_aload_n 134 f101_133 rfl (zl1_ne rfl rfl (zl1_ne rfl rfl rfl)) ?_
                refine zw_aload 136 f101_134 rfl zl1_eq ?_
                refine zw_iload_n 137 f101_136 rfl (zl1_ne rfl rfl (zl1_ne rfl rfl rfl)) ?_
                refine zw_virtual_i 140 0 0 [.ref 51, .int c] [(0, .ref 51), (1, .int c)] f101_137 rfl n101_298 k101_298_1 rfl (hb_51 _ _ _ _) (by decide +kernel) (Nat.le_of_ble_eq_true rfl) rfl rfl (by decide +kernel) (by decide +kernel) rfl (Nat.le_of_ble_eq_true rfl) rfl ?_
                refine zw_aload_n 1 f40_0 rfl rfl ?_
                refine zw_getfield 4 f40_1 rfl g40_7_1 (hb_51 _ _ _ _) rfl ?_
                refine zw_bipush 13 6 f40_4 rfl (by decide +kernel) ?_
                refine zw_virtual_v 9 0 0 [.ref 44, .int 13] [(0, .ref 44), (1, .int 13)] f40_6 rfl n40_13 k40_13_0 rfl (hb_44 _ _ _ _) (by decide +kernel) (Nat.le_of_ble_eq_true rfl) rfl rfl (by decide +kernel) (by decide +kernel) rfl (Nat.le_of_ble_eq_true rfl) rfl ?_
                refine zw_aload_n 1 f2_0 rfl rfl ?_
                refine zw_getI 0 4 f2_1 rfl g2_15_0 (hb_44 _ _ _ _) rfl rfl ?_
                refine zw_bipush 50 6 f2_4 rfl (by decide +kernel) ?_
                refine zw_ic_ge_f 9 29 f2_6 (by decide +kernel) rfl (by decide +kernel) ?_
                refine zw_aload_n 10 f2_9 rfl rfl ?_
                refine zw_getfield 13 f2_10 rfl g2_9_0 (hb_44 _ _ _ _) rfl ?_
                refine zw_aload_n 14 f2_13 rfl rfl ?_
                refine zw_getI 0 17 f2_14 rfl g2_15_0 (hb_44 _ _ _ _) rfl rfl ?_
                refine zw_iload_n 18 f2_17 rfl rfl ?_
                refine zw_ast 0 _ 19 f2_18 rfl (hb_45 _ _ _ _) (by decide +kernel) (by decide +kernel) (by decide +kernel) (ha_45 _ _ _ _ _) ?_
                refine zw_aload_n 20 f2_19 rfl rfl ?_
                refine zw_dup 21 f2_20 rfl rfl ?_
                refine zw_getI 0 24 f2_21 rfl g2_15_0 (hb_44 _ _ _ _) rfl rfl ?_
                refine zw_iconst 1 25 f2_24 rfl (by decide +kernel) ?_
                refine zw_iadd 1 26 f2_25 rfl (by decide +kernel) ?_
                refine zw_put _ 29 f2_26 rfl g2_15_0 (hb_44 _ _ _ _) rfl (Nat.le_of_ble_eq_true rfl) (by decide +kernel) (hi_44_4 _ _ _ _ _) ?_
                refine zw_vreturn f2_29 r2 u2 ⟨rfl, ?_⟩
                refine zw_aload_n 10 f40_9 rfl rfl ?_
                refine zw_iload_n 11 f40_10 rfl rfl ?_
                refine zw_virtual_i 14 0 0 [.ref 51, .int c] [(0, .ref 51), (1, .int c)] f40_11 rfl n40_27 k40_27_1 rfl (hb_51 _ _ _ _) (by decide +kernel) (Nat.le_of_ble_eq_true rfl) rfl rfl (by decide +kernel) (by decide +kernel) rfl (Nat.le_of_ble_eq_true rfl) rfl ?_
                refine zw_aload_n 1 f5_0 rfl rfl ?_
                refine zw_getfield 4 f5_1 rfl g5_7_1 (hb_51 _ _ _ _) rfl ?_
                refine zw_bipush 51 6 f5_4 rfl (by decide +kernel) ?_
                refine zw_virtual_v 9 0 0 [.ref 44, .int 51] [(0, .ref 44), (1, .int 51)] f5_6 rfl n5_13 k5_13_0 rfl (hb_44 _ _ _ _) (by decide +kernel) (Nat.le_of_ble_eq_true rfl) rfl rfl (by decide +kernel) (by decide +kernel) rfl (Nat.le_of_ble_eq_true rfl) rfl ?_
                refine zw_aload_n 1 f2_0 rfl rfl ?_
                refine zw_getI 1 4 f2_1 rfl g2_15_0 (hb_44 _ _ _ _) rfl rfl ?_
                refine zw_bipush 50 6 f2_4 rfl (by decide +kernel) ?_
                refine zw_ic_ge_f 9 29 f2_6 (by decide +kernel) rfl (by decide +kernel) ?_
                refine zw_aload_n 10 f2_9 rfl rfl ?_
                refine zw_getfield 13 f2_10 rfl g2_9_0 (hb_44 _ _ _ _) rfl ?_
                refine zw_aload_n 14 f2_13 rfl rfl ?_
                refine zw_getI 1 17 f2_14 rfl g2_15_0 (hb_44 _ _ _ _) rfl rfl ?_
                refine zw_iload_n 18 f2_17 rfl rfl ?_
                refine zw_ast 1 _ 19 f2_18 rfl (hb_45 _ _ _ _) (by decide +kernel) (by decide +kernel) (by decide +kernel) (ha_45 _ _ _ _ _) ?_
                refine zw_aload_n 20 f2_19 rfl rfl ?_
                refine zw_dup 21 f2_20 rfl rfl ?_
                refine zw_getI 1 24 f2_21 rfl g2_15_0 (hb_44 _ _ _ _) rfl rfl ?_
                refine zw_iconst 1 25 f2_24 rfl (by decide +kernel) ?_
                refine zw_iadd 2 26 f2_25 rfl (by decide +kernel) ?_
                refine zw_put _ 29 f2_26 rfl g2_15_0 (hb_44 _ _ _ _) rfl (Nat.le_of_ble_eq_true rfl) (by decide +kernel) (hi_44_4 _ _ _ _ _) ?_
                refine zw_vreturn f2_29 r2 u2 ⟨rfl, ?_⟩
                refine zw_aload_n 10 f5_9 rfl rfl ?_
                refine zw_iload_n 11 f5_10 rfl rfl ?_
                refine zw_super_i 14 0 0 [.ref 51, .int c] [(0, .ref 51), (1, .int c)] f5_11 rfl k5_27_99 k5_27_98 (by decide +kernel) rfl (hb_51 _ _ _ _) (by decide +kernel) (Nat.le_of_ble_eq_true rfl) rfl rfl (by decide +kernel) (by decide +kernel) rfl (Nat.le_of_ble_eq_true rfl) rfl ?_
                refine zw_aload_n 1 f38_0 rfl rfl ?_
                refine zw_getfield 4 f38_1 rfl g38_7_1 (hb_51 _ _ _ _) rfl ?_
                refine zw_bipush 11 6 f38_4 rfl (by decide +kernel) ?_
                refine zw_virtual_v 9 0 0 [.ref 44, .int 11] [(0, .ref 44), (1, .int 11)] f38_6 rfl n38_13 k38_13_0 rfl (hb_44 _ _ _ _) (by decide +kernel) (Nat.le_of_ble_eq_true rfl) rfl rfl (by decide +kernel) (by decide +kernel) rfl (Nat.le_of_ble_eq_true rfl) rfl ?_
                refine zw_aload_n 1 f2_0 rfl rfl ?_
                refine zw_getI 2 4 f2_1 rfl g2_15_0 (hb_44 _ _ _ _) rfl rfl ?_
                refine zw_bipush 50 6 f2_4 rfl (by decide +kernel) ?_
                refine zw_ic_ge_f 9 29 f2_6 (by decide +kernel) rfl (by decide +kernel) ?_
                refine zw_aload_n 10 f2_9 rfl rfl ?_
                refine zw_getfield 13 f2_10 rfl g2_9_0 (hb_44 _ _ _ _) rfl ?_
                refine zw_aload_n 14 f2_13 rfl rfl ?_
                refine zw_getI 2 17 f2_14 rfl g2_15_0 (hb_44 _ _ _ _) rfl rfl ?_
                refine zw_iload_n 18 f2_17 rfl rfl ?_
                refine zw_ast 2 _ 19 f2_18 rfl (hb_45 _ _ _ _) (by decide +kernel) (by decide +kernel) (by decide +kernel) (ha_45 _ _ _ _ _) ?_
                refine zw_aload_n 20 f2_19 rfl rfl ?_
                refine zw_dup 21 f2_20 rfl rfl ?_
                refine zw_getI 2 24 f2_21 rfl g2_15_0 (hb_44 _ _ _ _) rfl rfl ?_
                refine zw_iconst 1 25 f2_24 rfl (by decide +kernel) ?_
                refine zw_iadd 3 26 f2_25 rfl (by decide +kernel) ?_
                refine zw_put _ 29 f2_26 rfl g2_15_0 (hb_44 _ _ _ _) rfl (Nat.le_of_ble_eq_true rfl) (by decide +kernel) (hi_44_4 _ _ _ _ _) ?_
                refine zw_vreturn f2_29 r2 u2 ⟨rfl, ?_⟩
                refine zw_aload_n 10 f38_9 rfl rfl ?_
                refine zw_iload_n 11 f38_10 rfl rfl ?_
                refine zw_virtual_i 14 0 0 [.ref 51, .int c] [(0, .ref 51), (1, .int c)] f38_11 rfl n38_23 k38_23_1 rfl (hb_51 _ _ _ _) (by decide +kernel) (Nat.le_of_ble_eq_true rfl) rfl rfl (by decide +kernel) (by decide +kernel) rfl (Nat.le_of_ble_eq_true rfl) rfl ?_
                refine zw_aload_n 1 f8_0 rfl rfl ?_
                refine zw_getfield 4 f8_1 rfl g8_7_1 (hb_51 _ _ _ _) rfl ?_
                refine zw_bipush 41 6 f8_4 rfl (by decide +kernel) ?_
                refine zw_virtual_v 9 0 0 [.ref 44, .int 41] [(0, .ref 44), (1, .int 41)] f8_6 rfl n8_13 k8_13_0 rfl (hb_44 _ _ _ _) (by decide +kernel) (Nat.le_of_ble_eq_true rfl) rfl rfl (by decide +kernel) (by decide +kernel) rfl (Nat.le_of_ble_eq_true rfl) rfl ?_
                refine zw_aload_n 1 f2_0 rfl rfl ?_
                refine zw_getI 3 4 f2_1 rfl g2_15_0 (hb_44 _ _ _ _) rfl rfl ?_
                refine zw_bipush 50 6 f2_4 rfl (by decide +kernel) ?_
                refine zw_ic_ge_f 9 29 f2_6 (by decide +kernel) rfl (by decide +kernel) ?_
                refine zw_aload_n 10 f2_9 rfl rfl ?_
                refine zw_getfield 13 f2_10 rfl g2_9_0 (hb_44 _ _ _ _) rfl ?_
                refine zw_aload_n 14 f2_13 rfl rfl ?_
                refine zw_getI 3 17 f2_14 rfl g2_15_0 (hb_44 _ _ _ _) rfl rfl ?_
                refine zw_iload_n 18 f2_17 rfl rfl ?_
                refine zw_ast 3 _ 19 f2_18 rfl (hb_45 _ _ _ _) (by decide +kernel) (by decide +kernel) (by decide +kernel) (ha_45 _ _ _ _ _) ?_
                refine zw_aload_n 20 f2_19 rfl rfl ?_
                refine zw_dup 21 f2_20 rfl rfl ?_
                refine zw_getI 3 24 f2_21 rfl g2_15_0 (hb_44 _ _ _ _) rfl rfl ?_
                refine zw_iconst 1 25 f2_24 rfl (by decide +kernel) ?_
                refine zw_iadd 4 26 f2_25 rfl (by decide +kernel) ?_
                refine zw_put _ 29 f2_26 rfl g2_15_0 (hb_44 _ _ _ _) rfl (Nat.le_of_ble_eq_true rfl) (by decide +kernel) (hi_44_4 _ _ _ _ _) ?_
                refine zw_vreturn f2_29 r2 u2 ⟨rfl, ?_⟩
                refine zw_aload_n 10 f8_9 rfl rfl ?_
                refine zw_iload_n 11 f8_10 rfl rfl ?_
                refine zw_aload_n 12 f8_11 rfl rfl ?_
                refine zw_getfield 15 f8_12 rfl g8_7_1 (hb_51 _ _ _ _) rfl ?_
                refine zw_getI (P 55 a.toNatClampNeg) 18 f8_15 rfl g8_27_0 (hb_44 _ _ _ _) rfl rfl ?_
                refine zw_iadd (c + (P 55 a.toNatClampNeg)) 19 f8_18 rfl rfl ?_
                refine zw_super_i 22 0 0 [.ref 51, .int (c + (P 55 a.toNatClampNeg))] [(0, .ref 51), (1, .int (c + (P 55 a.toNatClampNeg)))] f8_19 rfl k8_30_99 k8_30_98 (by decide +kernel) rfl (hb_51 _ _ _ _) (by decide +kernel) (Nat.le_of_ble_eq_true rfl) rfl rfl (by decide +kernel) (by decide +kernel) rfl (Nat.le_of_ble_eq_true rfl) rfl ?_
                refine zw_aload_n 1 f37_0 rfl rfl ?_
                refine zw_getfield 4 f37_1 rfl g37_7_1 (hb_51 _ _ _ _) rfl ?_
                refine zw_bipush 10 6 f37_4 rfl (by decide +kernel) ?_
                refine zw_virtual_v 9 0 0 [.ref 44, .int 10] [(0, .ref 44), (1, .int 10)] f37_6 rfl n37_13 k37_13_0 rfl (hb_44 _ _ _ _) (by decide +kernel) (Nat.le_of_ble_eq_true rfl) rfl rfl (by decide +kernel) (by decide +kernel) rfl (Nat.le_of_ble_eq_true rfl) rfl ?_
                refine zw_aload_n 1 f2_0 rfl rfl ?_
                refine zw_getI 4 4 f2_1 rfl g2_15_0 (hb_44 _ _ _ _) rfl rfl ?_
                refine zw_bipush 50 6 f2_4 rfl (by decide +kernel) ?_
                refine zw_ic_ge_f 9 29 f2_6 (by decide +kernel) rfl (by decide +kernel) ?_
                refine zw_aload_n 10 f2_9 rfl rfl ?_
                refine zw_getfield 13 f2_10 rfl g2_9_0 (hb_44 _ _ _ _) rfl ?_
                refine zw_aload_n 14 f2_13 rfl rfl ?_
                refine zw_getI 4 17 f2_14 rfl g2_15_0 (hb_44 _ _ _ _) rfl rfl ?_
                refine zw_iload_n 18 f2_17 rfl rfl ?_
                refine zw_ast 4 _ 19 f2_18 rfl (hb_45 _ _ _ _) (by decide +kernel) (by decide +kernel) (by decide +kernel) (ha_45 _ _ _ _ _) ?_
                refine zw_aload_n 20 f2_19 rfl rfl ?_
                refine zw_dup 21 f2_20 rfl rfl ?_
                refine zw_getI 4 24 f2_21 rfl g2_15_0 (hb_44 _ _ _ _) rfl rfl ?_
                refine zw_iconst 1 25 f2_24 rfl (by decide +kernel) ?_
                refine zw_iadd 5 26 f2_25 rfl (by decide +kernel) ?_
                refine zw_put _ 29 f2_26 rfl g2_15_0 (hb_44 _ _ _ _) rfl (Nat.le_of_ble_eq_true rfl) (by decide +kernel) (hi_44_4 _ _ _ _ _) ?_
                refine zw_vreturn f2_29 r2 u2 ⟨rfl, ?_⟩
                refine zw_iload_n 10 f37_9 rfl rfl ?_
                refine zw_aload_n 11 f37_10 rfl rfl ?_
                refine zw_getfield 14 f37_11 rfl g37_7_1 (hb_51 _ _ _ _) rfl ?_
                refine zw_getI (P 54 a.toNatClampNeg) 17 f37_14 rfl g37_19_0 (hb_44 _ _ _ _) rfl rfl ?_
                refine zw_iadd ((c + (P 55 a.toNatClampNeg)) + (P 54 a.toNatClampNeg)) 18 f37_17 rfl rfl ?_
                refine zw_ireturn f37_18 r37 u37 ⟨_, rfl, ?_⟩
                refine zw_ireturn f8_22 r8 u8 ⟨_, rfl, ?_⟩
                refine zw_iconst 3 15 f38_14 rfl (by decide +kernel) ?_
                refine zw_imul (((c + (P 55 a.toNatClampNeg)) + (P 54 a.toNatClampNeg)) * 3) 16 f38_15 rfl rfl ?_
                refine zw_ireturn f38_16 r38 u38 ⟨_, rfl, ?_⟩
                refine zw_aload_n 15 f5_14 rfl rfl ?_
                refine zw_getfield 18 f5_15 rfl g5_7_1 (hb_51 _ _ _ _) rfl ?_
                refine zw_getI (A 14 a.toNatClampNeg) 21 f5_18 rfl g5_23_0 (hb_44 _ _ _ _) rfl rfl ?_
                refine zw_ixor ((((c + (P 55 a.toNatClampNeg)) + (P 54 a.toNatClampNeg)) * 3) ^^^ (A 14 a.toNatClampNeg)) 22 f5_21 rfl rfl ?_
                refine zw_ireturn f5_22 r5 u5 ⟨_, rfl, ?_⟩
                refine zw_aload_n 15 f40_14 rfl rfl ?_
                refine zw_iload_n 16 f40_15 rfl rfl ?_
                refine zw_virtual_i 19 0 0 [.ref 51, .int c] [(0, .ref 51), (1, .int c)] f40_16 rfl n40_30 k40_30_1 rfl (hb_51 _ _ _ _) (by decide +kernel) (Nat.le_of_ble_eq_true rfl) rfl rfl (by decide +kernel) (by decide +kernel) rfl (Nat.le_of_ble_eq_true rfl) rfl ?_
                refine zw_aload_n 1 f4_0 rfl rfl ?_
                refine zw_getfield 4 f4_1 rfl g4_7_1 (hb_51 _ _ _ _) rfl ?_
                refine zw_bipush 50 6 f4_4 rfl (by decide +kernel) ?_
                refine zw_virtual_v 9 0 0 [.ref 44, .int 50] [(0, .ref 44), (1, .int 50)] f4_6 rfl n4_13 k4_13_0 rfl (hb_44 _ _ _ _) (by decide +kernel) (Nat.le_of_ble_eq_true rfl) rfl rfl (by decide +kernel) (by decide +kernel) rfl (Nat.le_of_ble_eq_true rfl) rfl ?_
                refine zw_aload_n 1 f2_0 rfl rfl ?_
                refine zw_getI 5 4 f2_1 rfl g2_15_0 (hb_44 _ _ _ _) rfl rfl ?_
                refine zw_bipush 50 6 f2_4 rfl (by decide +kernel) ?_
                refine zw_ic_ge_f 9 29 f2_6 (by decide +kernel) rfl (by decide +kernel) ?_
                refine zw_aload_n 10 f2_9 rfl rfl ?_
                refine zw_getfield 13 f2_10 rfl g2_9_0 (hb_44 _ _ _ _) rfl ?_
                refine zw_aload_n 14 f2_13 rfl rfl ?_
                refine zw_getI 5 17 f2_14 rfl g2_15_0 (hb_44 _ _ _ _) rfl rfl ?_
                refine zw_iload_n 18 f2_17 rfl rfl ?_
                refine zw_ast 5 _ 19 f2_18 rfl (hb_45 _ _ _ _) (by decide +kernel) (by decide +kernel) (by decide +kernel) (ha_45 _ _ _ _ _) ?_
                refine zw_aload_n 20 f2_19 rfl rfl ?_
                refine zw_dup 21 f2_20 rfl rfl ?_
                refine zw_getI 5 24 f2_21 rfl g2_15_0 (hb_44 _ _ _ _) rfl rfl ?_
                refine zw_iconst 1 25 f2_24 rfl (by decide +kernel) ?_
                refine zw_iadd 6 26 f2_25 rfl (by decide +kernel) ?_
                refine zw_put _ 29 f2_26 rfl g2_15_0 (hb_44 _ _ _ _) rfl (Nat.le_of_ble_eq_true rfl) (by decide +kernel) (hi_44_4 _ _ _ _ _) ?_
                refine zw_vreturn f2_29 r2 u2 ⟨rfl, ?_⟩
                refine zw_aload_n 10 f4_9 rfl rfl ?_
                refine zw_iload_n 11 f4_10 rfl rfl ?_
                refine zw_super_i 14 0 0 [.ref 51, .int c] [(0, .ref 51), (1, .int c)] f4_11 rfl k4_19_99 k4_19_98 (by decide +kernel) rfl (hb_51 _ _ _ _) (by decide +kernel) (Nat.le_of_ble_eq_true rfl) rfl rfl (by decide +kernel) (by decide +kernel) rfl (Nat.le_of_ble_eq_true rfl) rfl ?_
                refine zw_aload_n 1 f7_0 rfl rfl ?_
                refine zw_getfield 4 f7_1 rfl g7_7_1 (hb_51 _ _ _ _) rfl ?_
                refine zw_bipush 40 6 f7_4 rfl (by decide +kernel) ?_
                refine zw_virtual_v 9 0 0 [.ref 44, .int 40] [(0, .ref 44), (1, .int 40)] f7_6 rfl n7_13 k7_13_0 rfl (hb_44 _ _ _ _) (by decide +kernel) (Nat.le_of_ble_eq_true rfl) rfl rfl (by decide +kernel) (by decide +kernel) rfl (Nat.le_of_ble_eq_true rfl) rfl ?_
                refine zw_aload_n 1 f2_0 rfl rfl ?_
                refine zw_getI 6 4 f2_1 rfl g2_15_0 (hb_44 _ _ _ _) rfl rfl ?_
                refine zw_bipush 50 6 f2_4 rfl (by decide +kernel) ?_
                refine zw_ic_ge_f 9 29 f2_6 (by decide +kernel) rfl (by decide +kernel) ?_
                refine zw_aload_n 10 f2_9 rfl rfl ?_
                refine zw_getfield 13 f2_10 rfl g2_9_0 (hb_44 _ _ _ _) rfl ?_
                refine zw_aload_n 14 f2_13 rfl rfl ?_
                refine zw_getI 6 17 f2_14 rfl g2_15_0 (hb_44 _ _ _ _) rfl rfl ?_
                refine zw_iload_n 18 f2_17 rfl rfl ?_
                refine zw_ast 6 _ 19 f2_18 rfl (hb_45 _ _ _ _) (by decide +kernel) (by decide +kernel) (by decide +kernel) (ha_45 _ _ _ _ _) ?_
                refine zw_aload_n 20 f2_19 rfl rfl ?_
                refine zw_dup 21 f2_20 rfl rfl ?_
                refine zw_getI 6 24 f2_21 rfl g2_15_0 (hb_44 _ _ _ _) rfl rfl ?_
                refine zw_iconst 1 25 f2_24 rfl (by decide +kernel) ?_
                refine zw_iadd 7 26 f2_25 rfl (by decide +kernel) ?_
                refine zw_put _ 29 f2_26 rfl g2_15_0 (hb_44 _ _ _ _) rfl (Nat.le_of_ble_eq_true rfl) (by decide +kernel) (hi_44_4 _ _ _ _ _) ?_
                refine zw_vreturn f2_29 r2 u2 ⟨rfl, ?_⟩
                refine zw_aload_n 10 f7_9 rfl rfl ?_
                refine zw_iload_n 11 f7_10 rfl rfl ?_
                refine zw_super_i 14 0 0 [.ref 51, .int c] [(0, .ref 51), (1, .int c)] f7_11 rfl k7_19_99 k7_19_98 (by decide +kernel) rfl (hb_51 _ _ _ _) (by decide +kernel) (Nat.le_of_ble_eq_true rfl) rfl rfl (by decide +kernel) (by decide +kernel) rfl (Nat.le_of_ble_eq_true rfl) rfl ?_
                refine zw_aload_n 1 f39_0 rfl rfl ?_
                refine zw_getfield 4 f39_1 rfl g39_7_1 (hb_51 _ _ _ _) rfl ?_
                refine zw_bipush 12 6 f39_4 rfl (by decide +kernel) ?_
                refine zw_virtual_v 9 0 0 [.ref 44, .int 12] [(0, .ref 44), (1, .int 12)] f39_6 rfl n39_13 k39_13_0 rfl (hb_44 _ _ _ _) (by decide +kernel) (Nat.le_of_ble_eq_true rfl) rfl rfl (by decide +kernel) (by decide +kernel) rfl (Nat.le_of_ble_eq_true rfl) rfl ?_
                refine zw_aload_n 1 f2_0 rfl rfl ?_
                refine zw_getI 7 4 f2_1 rfl g2_15_0 (hb_44 _ _ _ _) rfl rfl ?_
                refine zw_bipush 50 6 f2_4 rfl (by decide +kernel) ?_
                refine zw_ic_ge_f 9 29 f2_6 (by decide +kernel) rfl (by decide +kernel) ?_
                refine zw_aload_n 10 f2_9 rfl rfl ?_
                refine zw_getfield 13 f2_10 rfl g2_9_0 (hb_44 _ _ _ _) rfl ?_
                refine zw_aload_n 14 f2_13 rfl rfl ?_
                refine zw_getI 7 17 f2_14 rfl g2_15_0 (hb_44 _ _ _ _) rfl rfl ?_
                refine zw_iload_n 18 f2_17 rfl rfl ?_
                refine zw_ast 7 _ 19 f2_18 rfl (hb_45 _ _ _ _) (by decide +kernel) (by decide +kernel) (by decide +kernel) (ha_45 _ _ _ _ _) ?_
                refine zw_aload_n 20 f2_19 rfl rfl ?_
                refine zw_dup 21 f2_20 rfl rfl ?_
                refine zw_getI 7 24 f2_21 rfl g2_15_0 (hb_44 _ _ _ _) rfl rfl ?_
                refine zw_iconst 1 25 f2_24 rfl (by decide +kernel) ?_
                refine zw_iadd 8 26 f2_25 rfl (by decide +kernel) ?_
                refine zw_put _ 29 f2_26 rfl g2_15_0 (hb_44 _ _ _ _) rfl (Nat.le_of_ble_eq_true rfl) (by decide +kernel) (hi_44_4 _ _ _ _ _) ?_
                refine zw_vreturn f2_29 r2 u2 ⟨rfl, ?_⟩
                refine zw_iload_n 10 f39_9 rfl rfl ?_
                refine zw_aload_n 11 f39_10 rfl rfl ?_
                refine zw_getfield 14 f39_11 rfl g39_7_1 (hb_51 _ _ _ _) rfl ?_
                refine zw_getI (P 54 a.toNatClampNeg) 17 f39_14 rfl g39_19_0 (hb_44 _ _ _ _) rfl rfl ?_
                refine zw_ixor (c ^^^ (P 54 a.toNatClampNeg)) 18 f39_17 rfl rfl ?_
                refine zw_ireturn f39_18 r39 u39 ⟨_, rfl, ?_⟩
                refine zw_aload_n 15 f7_14 rfl rfl ?_
                refine zw_getfield 18 f7_15 rfl g7_7_1 (hb_51 _ _ _ _) rfl ?_
                refine zw_getI (P 56 a.toNatClampNeg) 21 f7_18 rfl g7_23_0 (hb_44 _ _ _ _) rfl rfl ?_
                refine zw_iadd ((c ^^^ (P 54 a.toNatClampNeg)) + (P 56 a.toNatClampNeg)) 22 f7_21 rfl rfl ?_
                refine zw_ireturn f7_22 r7 u7 ⟨_, rfl, ?_⟩
                refine zw_aload_n 15 f4_14 rfl rfl ?_
                refine zw_getfield 18 f4_15 rfl g4_7_1 (hb_51 _ _ _ _) rfl ?_
                refine zw_getI (A 14 a.toNatClampNeg) 21 f4_18 rfl g4_23_0 (hb_44 _ _ _ _) rfl rfl ?_
                refine zw_iadd (((c ^^^ (P 54 a.toNatClampNeg)) + (P 56 a.toNatClampNeg)) + (A 14 a.toNatClampNeg)) 22 f4_21 rfl rfl ?_
                refine zw_ireturn f4_22 r4 u4 ⟨_, rfl, ?_⟩
                refine zw_isub (((((c + (P 55 a.toNatClampNeg)) + (P 54 a.toNatClampNeg)) * 3) ^^^ (A 14 a.toNatClampNeg)) - (((c ^^^ (P 54 a.toNatClampNeg)) + (P 56 a.toNatClampNeg)) + (A 14 a.toNatClampNeg))) 20 f40_19 rfl rfl ?_
                refine zw_ireturn f40_20 r40 u40 ⟨_, rfl, ?_⟩
                refine zw_virtual_i 143 0 0 [.ref 0, .int (((((c + (P 55 a.toNatClampNeg)) + (P 54 a.toNatClampNeg)) * 3) ^^^ (A 14 a.toNatClampNeg)) - (((c ^^^ (P 54 a.toNatClampNeg)) + (P 56 a.toNatClampNeg)) + (A 14 a.toNatClampNeg)))] [(0, .ref 0), (1, .int (((((c + (P 55 a.toNatClampNeg)) + (P 54 a.toNatClampNeg)) * 3) ^^^ (A 14 a.toNatClampNeg)) - (((c ^^^ (P 54 a.toNatClampNeg)) + (P 56 a.toNatClampNeg)) + (A 14 a.toNatClampNeg))))] f101_140 rfl n101_181 k101_181_11 rfl (hb_0 _ _ _ _) (by decide +kernel) (Nat.le_of_ble_eq_true rfl) rfl rfl (by decide +kernel) (by decide +kernel) rfl (Nat.le_of_ble_eq_true rfl) rfl ?_
                refine zw_aload_n 1 f106_0 rfl rfl ?_
                refine zw_iconst 0 2 f106_1 rfl (by decide +kernel) ?_
                refine zw_put _ 5 f106_2 rfl g106_70_11 (hb_0 _ _ _ _) rfl (Nat.le_of_ble_eq_true rfl) (by decide +kernel) (hi_0_7 _ _ _ _ _) ?_
                refine zw_iload_n 6 f106_5 rfl rfl ?_
                refine zw_ireturn f106_6 r106 u106 ⟨_, rfl, ?_⟩
                refine zw_ireturn f101_143 r101 u101 ?_
                exact ⟨_, _, _, _, rfl, (KQ.i rfl (KQ.i rfl (KQ.a rfl (KQ.i rfl (KQ.a rfl (KQ.i rfl (KQ.a rfl (KQ.i rfl (KQ.a rfl (KQ.i rfl (KQ.a rfl (KQ.i rfl (KQ.a rfl (KQ.i rfl (KQ.a rfl (KQ.i rfl (KQ.a rfl (KQ.i rfl (KQ.i rfl (KQ.i rfl (KQ.i rfl (KQ.i rfl KQ.rf)))))))))))))))))))))), by rw [show an_act nv P W a b c = (((((c + (P 55 a.toNatClampNeg)) + (P 54 a.toNatClampNeg)) * 3) ^^^ (A 14 a.toNatClampNeg)) - (((c ^^^ (P 54 a.toNatClampNeg)) + (P 56 a.toNatClampNeg)) + (A 14 a.toNatClampNeg))) from ((cI_y ⟨(qV.ofc (by omega) hc1 hc2), ⟨hc4, hc5⟩⟩).trans ((cI_n (sw_ne hs10 (by decide))).trans ((cI_n (sw_ne hs10 (by decide))).trans ((cI_n (sw_ne hs10 (by decide))).trans ((cI_n (kne hk (by decide))).trans ((cI_n (kne hk (by decide))).trans ((cI_n (kne hk (by decide))).trans ((cI_n (kne hk (by decide))).trans ((cI_y hk).trans (by rw [← hR.2.2.2.2.2.2 a.toNatClampNeg (fun _ => hk)]))))))))))]⟩
              · rcases (show hs10k = 0 ∨ hs10k = 1 ∨ hs10k = 2 by omega) with rfl | rfl | rfl
                · refine zw_table_k 25 100 f101_75 hs10e (by decide +kernel) (by decide +kernel) (by decide +kernel) ?_
                  refine zw_aload_n 101 f101_100 rfl (zl1_ne rfl rfl (zl1_ne rfl rfl rfl)) ?_
                  refine zw_aload 103 f101_101 rfl zl1_eq ?_
                  refine zw_iload_n 104 f101_103 rfl (zl1_ne rfl rfl (zl1_ne rfl rfl rfl)) ?_
                  refine zw_virtual_i 107 0 0 [.ref 51, .int c] [(0, .ref 51), (1, .int c)] f101_104 rfl n101_289 k101_289_1 rfl (hb_51 _ _ _ _) (by decide +kernel) (Nat.le_of_ble_eq_true rfl) rfl rfl (by decide +kernel) (by decide +kernel) rfl (Nat.le_of_ble_eq_true rfl) rfl ?_
                  refine zw_aload_n 1 f8_0 rfl rfl ?_
                  refine zw_getfield 4 f8_1 rfl g8_7_1 (hb_51 _ _ _ _) rfl ?_
                  refine zw_bipush 41 6 f8_4 rfl (by decide +kernel) ?_
                  refine zw_virtual_v 9 0 0 [.ref 44, .int 41] [(0, .ref 44), (1, .int 41)] f8_6 rfl n8_13 k8_13_0 rfl (hb_44 _ _ _ _) (by decide +kernel) (Nat.le_of_ble_eq_true rfl) rfl rfl (by decide +kernel) (by decide +kernel) rfl (Nat.le_of_ble_eq_true rfl) rfl ?_
                  refine zw_aload_n 1 f2_0 rfl rfl ?_
                  refine zw_getI 0 4 f2_1 rfl g2_15_0 (hb_44 _ _ _ _) rfl rfl ?_
                  refine zw_bipush 50 6 f2_4 rfl (by decide +kernel) ?_
                  refine zw_ic_ge_f 9 29 f2_6 (by decide +kernel) rfl (by decide +kernel) ?_
                  refine zw_aload_n 10 f2_9 rfl rfl ?_
                  refine zw_getfield 13 f2_10 rfl g2_9_0 (hb_44 _ _ _ _) rfl ?_
                  refine zw_aload_n 14 f2_13 rfl rfl ?_
                  refine zw_getI 0 17 f2_14 rfl g2_15_0 (hb_44 _ _ _ _) rfl rfl ?_
                  refine zw_iload_n 18 f2_17 rfl rfl ?_
                  refine zw_ast 0 _ 19 f2_18 rfl (hb_45 _ _ _ _) (by decide +kernel) (by decide +kernel) (by decide +kernel) (ha_45 _ _ _ _ _) ?_
                  refine zw_aload_n 20 f2_19 rfl rfl ?_
                  refine zw_dup 21 f2_20 rfl rfl ?_
                  refine zw_getI 0 24 f2_21 rfl g2_15_0 (hb_44 _ _ _ _) rfl rfl ?_
                  refine zw_iconst 1 25 f2_24 rfl (by decide +kernel) ?_
                  refine zw_iadd 1 26 f2_25 rfl (by decide +kernel) ?_
                  refine zw_put _ 29 f2_26 rfl g2_15_0 (hb_44 _ _ _ _) rfl (Nat.le_of_ble_eq_true rfl) (by decide +kernel) (hi_44_4 _ _ _ _ _) ?_
                  refine zw_vreturn f2_29 r2 u2 ⟨rfl, ?_⟩
                  refine zw_aload_n 10 f8_9 rfl rfl ?_
                  refine zw_iload_n 11 f8_10 rfl rfl ?_
                  refine zw_aload_n 12 f8_11 rfl rfl ?_
                  refine zw_getfield 15 f8_12 rfl g8_7_1 (hb_51 _ _ _ _) rfl ?_
                  refine zw_getI (P 55 a.toNatClampNeg) 18 f8_15 rfl g8_27_0 (hb_44 _ _ _ _) rfl rfl ?_
                  refine zw_iadd (c + (P 55 a.toNatClampNeg)) 19 f8_18 rfl rfl ?_
                  refine zw_super_i 22 0 0 [.ref 51, .int (c + (P 55 a.toNatClampNeg))] [(0, .ref 51), (1, .int (c + (P 55 a.toNatClampNeg)))] f8_19 rfl k8_30_99 k8_30_98 (by decide +kernel) rfl (hb_51 _ _ _ _) (by decide +kernel) (Nat.le_of_ble_eq_true rfl) rfl rfl (by decide +kernel) (by decide +kernel) rfl (Nat.le_of_ble_eq_true rfl) rfl ?_
                  refine zw_aload_n 1 f37_0 rfl rfl ?_
                  refine zw_getfield 4 f37_1 rfl g37_7_1 (hb_51 _ _ _ _) rfl ?_
                  refine zw_bipush 10 6 f37_4 rfl (by decide +kernel) ?_
                  refine zw_virtual_v 9 0 0 [.ref 44, .int 10] [(0, .ref 44), (1, .int 10)] f37_6 rfl n37_13 k37_13_0 rfl (hb_44 _ _ _ _) (by decide +kernel) (Nat.le_of_ble_eq_true rfl) rfl rfl (by decide +kernel) (by decide +kernel) rfl (Nat.le_of_ble_eq_true rfl) rfl ?_
                  refine zw_aload_n 1 f2_0 rfl rfl ?_
                  refine zw_getI 1 4 f2_1 rfl g2_15_0 (hb_44 _ _ _ _) rfl rfl ?_
                  refine zw_bipush 50 6 f2_4 rfl (by decide +kernel) ?_
                  refine zw_ic_ge_f 9 29 f2_6 (by decide +kernel) rfl (by decide +kernel) ?_
                  refine zw_aload_n 10 f2_9 rfl rfl ?_
                  refine zw_getfield 13 f2_10 rfl g2_9_0 (hb_44 _ _ _ _) rfl ?_
                  refine zw_aload_n 14 f2_13 rfl rfl ?_
                  refine zw_getI 1 17 f2_14 rfl g2_15_0 (hb_44 _ _ _ _) rfl rfl ?_
                  refine zw_iload_n 18 f2_17 rfl rfl ?_
                  refine zw_ast 1 _ 19 f2_18 rfl (hb_45 _ _ _ _) (by decide +kernel) (by decide +kernel) (by decide +kernel) (ha_45 _ _ _ _ _) ?_
                  refine zw_aload_n 20 f2_19 rfl rfl ?_
                  refine zw_dup 21 f2_20 rfl rfl ?_
                  refine zw_getI 1 24 f2_21 rfl g2_15_0 (hb_44 _ _ _ _) rfl rfl ?_
                  refine zw_iconst 1 25 f2_24 rfl (by decide +kernel) ?_
                  refine zw_iadd 2 26 f2_25 rfl (by decide +kernel) ?_
                  refine zw_put _ 29 f2_26 rfl g2_15_0 (hb_44 _ _ _ _) rfl (Nat.le_of_ble_eq_true rfl) (by decide +kernel) (hi_44_4 _ _ _ _ _) ?_
                  refine zw_vreturn f2_29 r2 u2 ⟨rfl, ?_⟩
                  refine zw_iload_n 10 f37_9 rfl rfl ?_
                  refine zw_aload_n 11 f37_10 rfl rfl ?_
                  refine zw_getfield 14 f37_11 rfl g37_7_1 (hb_51 _ _ _ _) rfl ?_
                  refine zw_getI (P 54 a.toNatClampNeg) 17 f37_14 rfl g37_19_0 (hb_44 _ _ _ _) rfl rfl ?_
                  refine zw_iadd ((c + (P 55 a.toNatClampNeg)) + (P 54 a.toNatClampNeg)) 18 f37_17 rfl rfl ?_
                  refine zw_ireturn f37_18 r37 u37 ⟨_, rfl, ?_⟩
                  refine zw_ireturn f8_22 r8 u8 ⟨_, rfl, ?_⟩
                  refine zw_virtual_i 110 0 0 [.ref 0, .int ((c + (P 55 a.toNatClampNeg)) + (P 54 a.toNatClampNeg))] [(0, .ref 0), (1, .int ((c + (P 55 a.toNatClampNeg)) + (P 54 a.toNatClampNeg)))] f101_107 rfl n101_181 k101_181_11 rfl (hb_0 _ _ _ _) (by decide +kernel) (Nat.le_of_ble_eq_true rfl) rfl rfl (by decide +kernel) (by decide +kernel) rfl (Nat.le_of_ble_eq_true rfl) rfl ?_
                  refine zw_aload_n 1 f106_0 rfl rfl ?_
                  refine zw_iconst 0 2 f106_1 rfl (by decide +kernel) ?_
                  refine zw_put _ 5 f106_2 rfl g106_70_11 (hb_0 _ _ _ _) rfl (Nat.le_of_ble_eq_true rfl) (by decide +kernel) (hi_0_7 _ _ _ _ _) ?_
                  refine zw_iload_n 6 f106_5 rfl rfl ?_
                  refine zw_ireturn f106_6 r106 u106 ⟨_, rfl, ?_⟩
                  refine zw_ireturn f101_110 r101 u101 ?_
                  exact ⟨_, _, _, _, rfl, (KQ.i rfl (KQ.i rfl (KQ.a rfl (KQ.i rfl (KQ.a rfl (KQ.i rfl (KQ.i rfl (KQ.i rfl (KQ.i rfl (KQ.i rfl KQ.rf)))))))))), by rw [show an_act nv P W a b c = ((c + (P 55 a.toNatClampNeg)) + (P 54 a.toNatClampNeg)) from ((cI_y ⟨(qV.ofc (by omega) hc1 hc2), ⟨hc4, hc5⟩⟩).trans ((cI_y (show b = 0 from hs10e)).trans ((cI_n (kne hk (by decide))).trans ((cI_n (kne hk (by decide))).trans ((cI_n (kne hk (by decide))).trans ((cI_n (kne hk (by decide))).trans ((cI_y hk).trans rfl)))))))]⟩
                · refine zw_table_k 36 111 f101_75 hs10e (by decide +kernel) (by decide +kernel) (by decide +kernel) ?_
                  refine zw_aload_n 112 f101_111 rfl (zl1_ne rfl rfl (zl1_ne rfl rfl rfl)) ?_
                  refine zw_aload 114 f101_112 rfl zl1_eq ?_
                  refine zw_iload_n 115 f101_114 rfl (zl1_ne rfl rfl (zl1_ne rfl rfl rfl)) ?_
                  refine zw_virtual_i 118 0 0 [.ref 51, .int c] [(0, .ref 51), (1, .int c)] f101_115 rfl n101_292 k101_292_1 rfl (hb_51 _ _ _ _) (by decide +kernel) (Nat.le_of_ble_eq_true rfl) rfl rfl (by decide +kernel) (by decide +kernel) rfl (Nat.le_of_ble_eq_true rfl) rfl ?_
                  refine zw_aload_n 1 f5_0 rfl rfl ?_
                  refine zw_getfield 4 f5_1 rfl g5_7_1 (hb_51 _ _ _ _) rfl ?_
                  refine zw_bipush 51 6 f5_4 rfl (by decide +kernel) ?_
                  refine zw_virtual_v 9 0 0 [.ref 44, .int 51] [(0, .ref 44), (1, .int 51)] f5_6 rfl n5_13 k5_13_0 rfl (hb_44 _ _ _ _) (by decide +kernel) (Nat.le_of_ble_eq_true rfl) rfl rfl (by decide +kernel) (by decide +kernel) rfl (Nat.le_of_ble_eq_true rfl) rfl ?_
                  refine zw_aload_n 1 f2_0 rfl rfl ?_
                  refine zw_getI 0 4 f2_1 rfl g2_15_0 (hb_44 _ _ _ _) rfl rfl ?_
                  refine zw_bipush 50 6 f2_4 rfl (by decide +kernel) ?_
                  refine zw_ic_ge_f 9 29 f2_6 (by decide +kernel) rfl (by decide +kernel) ?_
                  refine zw_aload_n 10 f2_9 rfl rfl ?_
                  refine zw_getfield 13 f2_10 rfl g2_9_0 (hb_44 _ _ _ _) rfl ?_
                  refine zw_aload_n 14 f2_13 rfl rfl ?_
                  refine zw_getI 0 17 f2_14 rfl g2_15_0 (hb_44 _ _ _ _) rfl rfl ?_
                  refine zw_iload_n 18 f2_17 rfl rfl ?_
                  refine zw_ast 0 _ 19 f2_18 rfl (hb_45 _ _ _ _) (by decide +kernel) (by decide +kernel) (by decide +kernel) (ha_45 _ _ _ _ _) ?_
                  refine zw_aload_n 20 f2_19 rfl rfl ?_
                  refine zw_dup 21 f2_20 rfl rfl ?_
                  refine zw_getI 0 24 f2_21 rfl g2_15_0 (hb_44 _ _ _ _) rfl rfl ?_
                  refine zw_iconst 1 25 f2_24 rfl (by decide +kernel) ?_
                  refine zw_iadd 1 26 f2_25 rfl (by decide +kernel) ?_
                  refine zw_put _ 29 f2_26 rfl g2_15_0 (hb_44 _ _ _ _) rfl (Nat.le_of_ble_eq_true rfl) (by decide +kernel) (hi_44_4 _ _ _ _ _) ?_
                  refine zw_vreturn f2_29 r2 u2 ⟨rfl, ?_⟩
                  refine zw_aload_n 10 f5_9 rfl rfl ?_
                  refine zw_iload_n 11 f5_10 rfl rfl ?_
                  refine zw_super_i 14 0 0 [.ref 51, .int c] [(0, .ref 51), (1, .int c)] f5_11 rfl k5_27_99 k5_27_98 (by decide +kernel) rfl (hb_51 _ _ _ _) (by decide +kernel) (Nat.le_of_ble_eq_true rfl) rfl rfl (by decide +kernel) (by decide +kernel) rfl (Nat.le_of_ble_eq_true rfl) rfl ?_
                  refine zw_aload_n 1 f38_0 rfl rfl ?_
                  refine zw_getfield 4 f38_1 rfl g38_7_1 (hb_51 _ _ _ _) rfl ?_
                  refine zw_bipush 11 6 f38_4 rfl (by decide +kernel) ?_
                  refine zw_virtual_v 9 0 0 [.ref 44, .int 11] [(0, .ref 44), (1, .int 11)] f38_6 rfl n38_13 k38_13_0 rfl (hb_44 _ _ _ _) (by decide +kernel) (Nat.le_of_ble_eq_true rfl) rfl rfl (by decide +kernel) (by decide +kernel) rfl (Nat.le_of_ble_eq_true rfl) rfl ?_
                  refine zw_aload_n 1 f2_0 rfl rfl ?_
                  refine zw_getI 1 4 f2_1 rfl g2_15_0 (hb_44 _ _ _ _) rfl rfl ?_
                  refine zw_bipush 50 6 f2_4 rfl (by decide +kernel) ?_
                  refine zw_ic_ge_f 9 29 f2_6 (by decide +kernel) rfl (by decide +kernel) ?_
                  refine zw_aload_n 10 f2_9 rfl rfl ?_
                  refine zw_getfield 13 f2_10 rfl g2_9_0 (hb_44 _ _ _ _) rfl ?_
                  refine zw_aload_n 14 f2_13 rfl rfl ?_
                  refine zw_getI 1 17 f2_14 rfl g2_15_0 (hb_44 _ _ _ _) rfl rfl ?_
                  refine zw_iload_n 18 f2_17 rfl rfl ?_
                  refine zw_ast 1 _ 19 f2_18 rfl (hb_45 _ _ _ _) (by decide +kernel) (by decide +kernel) (by decide +kernel) (ha_45 _ _ _ _ _) ?_
                  refine zw_aload_n 20 f2_19 rfl rfl ?_
                  refine zw_dup 21 f2_20 rfl rfl ?_
                  refine zw_getI 1 24 f2_21 rfl g2_15_0 (hb_44 _ _ _ _) rfl rfl ?_
                  refine zw_iconst 1 25 f2_24 rfl (by decide +kernel) ?_
                  refine zw_iadd 2 26 f2_25 rfl (by decide +kernel) ?_
                  refine zw_put _ 29 f2_26 rfl g2_15_0 (hb_44 _ _ _ _) rfl (Nat.le_of_ble_eq_true rfl) (by decide +kernel) (hi_44_4 _ _ _ _ _) ?_
                  refine zw_vreturn f2_29 r2 u2 ⟨rfl, ?_⟩
                  refine zw_aload_n 10 f38_9 rfl rfl ?_
                  refine zw_iload_n 11 f38_10 rfl rfl ?_
                  refine zw_virtual_i 14 0 0 [.ref 51, .int c] [(0, .ref 51), (1, .int c)] f38_11 rfl n38_23 k38_23_1 rfl (hb_51 _ _ _ _) (by decide +kernel) (Nat.le_of_ble_eq_true rfl) rfl rfl (by decide +kernel) (by decide +kernel) rfl (Nat.le_of_ble_eq_true rfl) rfl ?_
                  refine zw_aload_n 1 f8_0 rfl rfl ?_
                  refine zw_getfield 4 f8_1 rfl g8_7_1 (hb_51 _ _ _ _) rfl ?_
                  refine zw_bipush 41 6 f8_4 rfl (by decide +kernel) ?_
                  refine zw_virtual_v 9 0 0 [.ref 44, .int 41] [(0, .ref 44), (1, .int 41)] f8_6 rfl n8_13 k8_13_0 rfl (hb_44 _ _ _ _) (by decide +kernel) (Nat.le_of_ble_eq_true rfl) rfl rfl (by decide +kernel) (by decide +kernel) rfl (Nat.le_of_ble_eq_true rfl) rfl ?_
                  refine zw_aload_n 1 f2_0 rfl rfl ?_
                  refine zw_getI 2 4 f2_1 rfl g2_15_0 (hb_44 _ _ _ _) rfl rfl ?_
                  refine zw_bipush 50 6 f2_4 rfl (by decide +kernel) ?_
                  refine zw_ic_ge_f 9 29 f2_6 (by decide +kernel) rfl (by decide +kernel) ?_
                  refine zw_aload_n 10 f2_9 rfl rfl ?_
                  refine zw_getfield 13 f2_10 rfl g2_9_0 (hb_44 _ _ _ _) rfl ?_
                  refine zw_aload_n 14 f2_13 rfl rfl ?_
                  refine zw_getI 2 17 f2_14 rfl g2_15_0 (hb_44 _ _ _ _) rfl rfl ?_
                  refine zw_iload_n 18 f2_17 rfl rfl ?_
                  refine zw_ast 2 _ 19 f2_18 rfl (hb_45 _ _ _ _) (by decide +kernel) (by decide +kernel) (by decide +kernel) (ha_45 _ _ _ _ _) ?_
                  refine zw_aload_n 20 f2_19 rfl rfl ?_
                  refine zw_dup 21 f2_20 rfl rfl ?_
                  refine zw_getI 2 24 f2_21 rfl g2_15_0 (hb_44 _ _ _ _) rfl rfl ?_
                  refine zw_iconst 1 25 f2_24 rfl (by decide +kernel) ?_
                  refine zw_iadd 3 26 f2_25 rfl (by decide +kernel) ?_
                  refine zw_put _ 29 f2_26 rfl g2_15_0 (hb_44 _ _ _ _) rfl (Nat.le_of_ble_eq_true rfl) (by decide +kernel) (hi_44_4 _ _ _ _ _) ?_
                  refine zw_vreturn f2_29 r2 u2 ⟨rfl, ?_⟩
                  refine zw_aload_n 10 f8_9 rfl rfl ?_
                  refine zw_iload_n 11 f8_10 rfl rfl ?_
                  refine zw_aload_n 12 f8_11 rfl rfl ?_
                  refine zw_getfield 15 f8_12 rfl g8_7_1 (hb_51 _ _ _ _) rfl ?_
                  refine zw_getI (P 55 a.toNatClampNeg) 18 f8_15 rfl g8_27_0 (hb_44 _ _ _ _) rfl rfl ?_
                  refine zw_iadd (c + (P 55 a.toNatClampNeg)) 19 f8_18 rfl rfl ?_
                  refine zw_super_i 22 0 0 [.ref 51, .int (c + (P 55 a.toNatClampNeg))] [(0, .ref 51), (1, .int (c + (P 55 a.toNatClampNeg)))] f8_19 rfl k8_30_99 k8_30_98 (by decide +kernel) rfl (hb_51 _ _ _ _) (by decide +kernel) (Nat.le_of_ble_eq_true rfl) rfl rfl (by decide +kernel) (by decide +kernel) rfl (Nat.le_of_ble_eq_true rfl) rfl ?_
                  refine zw_aload_n 1 f37_0 rfl rfl ?_
                  refine zw_getfield 4 f37_1 rfl g37_7_1 (hb_51 _ _ _ _) rfl ?_
                  refine zw_bipush 10 6 f37_4 rfl (by decide +kernel) ?_
                  refine zw_virtual_v 9 0 0 [.ref 44, .int 10] [(0, .ref 44), (1, .int 10)] f37_6 rfl n37_13 k37_13_0 rfl (hb_44 _ _ _ _) (by decide +kernel) (Nat.le_of_ble_eq_true rfl) rfl rfl (by decide +kernel) (by decide +kernel) rfl (Nat.le_of_ble_eq_true rfl) rfl ?_
                  refine zw_aload_n 1 f2_0 rfl rfl ?_
                  refine zw_getI 3 4 f2_1 rfl g2_15_0 (hb_44 _ _ _ _) rfl rfl ?_
                  refine zw_bipush 50 6 f2_4 rfl (by decide +kernel) ?_
                  refine zw_ic_ge_f 9 29 f2_6 (by decide +kernel) rfl (by decide +kernel) ?_
                  refine zw_aload_n 10 f2_9 rfl rfl ?_
                  refine zw_getfield 13 f2_10 rfl g2_9_0 (hb_44 _ _ _ _) rfl ?_
                  refine zw_aload_n 14 f2_13 rfl rfl ?_
                  refine zw_getI 3 17 f2_14 rfl g2_15_0 (hb_44 _ _ _ _) rfl rfl ?_
                  refine zw_iload_n 18 f2_17 rfl rfl ?_
                  refine zw_ast 3 _ 19 f2_18 rfl (hb_45 _ _ _ _) (by decide +kernel) (by decide +kernel) (by decide +kernel) (ha_45 _ _ _ _ _) ?_
                  refine zw_aload_n 20 f2_19 rfl rfl ?_
                  refine zw_dup 21 f2_20 rfl rfl ?_
                  refine zw_getI 3 24 f2_21 rfl g2_15_0 (hb_44 _ _ _ _) rfl rfl ?_
                  refine zw_iconst 1 25 f2_24 rfl (by decide +kernel) ?_
                  refine zw_iadd 4 26 f2_25 rfl (by decide +kernel) ?_
                  refine zw_put _ 29 f2_26 rfl g2_15_0 (hb_44 _ _ _ _) rfl (Nat.le_of_ble_eq_true rfl) (by decide +kernel) (hi_44_4 _ _ _ _ _) ?_
                  refine zw_vreturn f2_29 r2 u2 ⟨rfl, ?_⟩
                  refine zw_iload_n 10 f37_9 rfl rfl ?_
                  refine zw_aload_n 11 f37_10 rfl rfl ?_
                  refine zw_getfield 14 f37_11 rfl g37_7_1 (hb_51 _ _ _ _) rfl ?_
                  refine zw_getI (P 54 a.toNatClampNeg) 17 f37_14 rfl g37_19_0 (hb_44 _ _ _ _) rfl rfl ?_
                  refine zw_iadd ((c + (P 55 a.toNatClampNeg)) + (P 54 a.toNatClampNeg)) 18 f37_17 rfl rfl ?_
                  refine zw_ireturn f37_18 r37 u37 ⟨_, rfl, ?_⟩
                  refine zw_ireturn f8_22 r8 u8 ⟨_, rfl, ?_⟩
                  refine zw_iconst 3 15 f38_14 rfl (by decide +kernel) ?_
                  refine zw_imul (((c + (P 55 a.toNatClampNeg)) + (P 54 a.toNatClampNeg)) * 3) 16 f38_15 rfl rfl ?_
                  refine zw_ireturn f38_16 r38 u38 ⟨_, rfl, ?_⟩
                  refine zw_aload_n 15 f5_14 rfl rfl ?_
                  refine zw_getfield 18 f5_15 rfl g5_7_1 (hb_51 _ _ _ _) rfl ?_
                  refine zw_getI (A 14 a.toNatClampNeg) 21 f5_18 rfl g5_23_0 (hb_44 _ _ _ _) rfl rfl ?_
                  refine zw_ixor ((((c + (P 55 a.toNatClampNeg)) + (P 54 a.toNatClampNeg)) * 3) ^^^ (A 14 a.toNatClampNeg)) 22 f5_21 rfl rfl ?_
                  refine zw_ireturn f5_22 r5 u5 ⟨_, rfl, ?_⟩
                  refine zw_virtual_i 121 0 0 [.ref 0, .int ((((c + (P 55 a.toNatClampNeg)) + (P 54 a.toNatClampNeg)) * 3) ^^^ (A 14 a.toNatClampNeg))] [(0, .ref 0), (1, .int ((((c + (P 55 a.toNatClampNeg)) + (P 54 a.toNatClampNeg)) * 3) ^^^ (A 14 a.toNatClampNeg)))] f101_118 rfl n101_181 k101_181_11 rfl (hb_0 _ _ _ _) (by decide +kernel) (Nat.le_of_ble_eq_true rfl) rfl rfl (by decide +kernel) (by decide +kernel) rfl (Nat.le_of_ble_eq_true rfl) rfl ?_
                  refine zw_aload_n 1 f106_0 rfl rfl ?_
                  refine zw_iconst 0 2 f106_1 rfl (by decide +kernel) ?_
                  refine zw_put _ 5 f106_2 rfl g106_70_11 (hb_0 _ _ _ _) rfl (Nat.le_of_ble_eq_true rfl) (by decide +kernel) (hi_0_7 _ _ _ _ _) ?_
                  refine zw_iload_n 6 f106_5 rfl rfl ?_
                  refine zw_ireturn f106_6 r106 u106 ⟨_, rfl, ?_⟩
                  refine zw_ireturn f101_121 r101 u101 ?_
                  exact ⟨_, _, _, _, rfl, (KQ.i rfl (KQ.i rfl (KQ.a rfl (KQ.i rfl (KQ.a rfl (KQ.i rfl (KQ.a rfl (KQ.i rfl (KQ.a rfl (KQ.i rfl (KQ.i rfl (KQ.i rfl (KQ.i rfl (KQ.i rfl KQ.rf)))))))))))))), by rw [show an_act nv P W a b c = ((((c + (P 55 a.toNatClampNeg)) + (P 54 a.toNatClampNeg)) * 3) ^^^ (A 14 a.toNatClampNeg)) from ((cI_y ⟨(qV.ofc (by omega) hc1 hc2), ⟨hc4, hc5⟩⟩).trans ((cI_n (kne (show b = 1 from hs10e) (by decide))).trans ((cI_y (show b = 1 from hs10e)).trans ((cI_n (kne hk (by decide))).trans ((cI_n (kne hk (by decide))).trans ((cI_n (kne hk (by decide))).trans ((cI_n (kne hk (by decide))).trans ((cI_y hk).trans (by rw [← hR.2.2.2.2.2.2 a.toNatClampNeg (fun _ => hk)])))))))))]⟩
                · refine zw_table_k 47 122 f101_75 hs10e (by decide +kernel) (by decide +kernel) (by decide +kernel) ?_
                  refine zw_aload_n 123 f101_122 rfl (zl1_ne rfl rfl (zl1_ne rfl rfl rfl)) ?_
                  refine zw_aload 125 f101_123 rfl zl1_eq ?_
                  refine zw_iload_n 126 f101_125 rfl (zl1_ne rfl rfl (zl1_ne rfl rfl rfl)) ?_
                  refine zw_virtual_i 129 0 0 [.ref 51, .int c] [(0, .ref 51), (1, .int c)] f101_126 rfl n101_295 k101_295_1 rfl (hb_51 _ _ _ _) (by decide +kernel) (Nat.le_of_ble_eq_true rfl) rfl rfl (by decide +kernel) (by decide +kernel) rfl (Nat.le_of_ble_eq_true rfl) rfl ?_
                  refine zw_aload_n 1 f4_0 rfl rfl ?_
                  refine zw_getfield 4 f4_1 rfl g4_7_1 (hb_51 _ _ _ _) rfl ?_
                  refine zw_bipush 50 6 f4_4 rfl (by decide +kernel) ?_
                  refine zw_virtual_v 9 0 0 [.ref 44, .int 50] [(0, .ref 44), (1, .int 50)] f4_6 rfl n4_13 k4_13_0 rfl (hb_44 _ _ _ _) (by decide +kernel) (Nat.le_of_ble_eq_true rfl) rfl rfl (by decide +kernel) (by decide +kernel) rfl (Nat.le_of_ble_eq_true rfl) rfl ?_
                  refine zw_aload_n 1 f2_0 rfl rfl ?_
                  refine zw_getI 0 4 f2_1 rfl g2_15_0 (hb_44 _ _ _ _) rfl rfl ?_
                  refine zw_bipush 50 6 f2_4 rfl (by decide +kernel) ?_
                  refine zw_ic_ge_f 9 29 f2_6 (by decide +kernel) rfl (by decide +kernel) ?_
                  refine zw_aload_n 10 f2_9 rfl rfl ?_
                  refine zw_getfield 13 f2_10 rfl g2_9_0 (hb_44 _ _ _ _) rfl ?_
                  refine zw_aload_n 14 f2_13 rfl rfl ?_
                  refine zw_getI 0 17 f2_14 rfl g2_15_0 (hb_44 _ _ _ _) rfl rfl ?_
                  refine zw_iload_n 18 f2_17 rfl rfl ?_
                  refine zw_ast 0 _ 19 f2_18 rfl (hb_45 _ _ _ _) (by decide +kernel) (by decide +kernel) (by decide +kernel) (ha_45 _ _ _ _ _) ?_
                  refine zw_aload_n 20 f2_19 rfl rfl ?_
                  refine zw_dup 21 f2_20 rfl rfl ?_
                  refine zw_getI 0 24 f2_21 rfl g2_15_0 (hb_44 _ _ _ _) rfl rfl ?_
                  refine zw_iconst 1 25 f2_24 rfl (by decide +kernel) ?_
                  refine zw_iadd 1 26 f2_25 rfl (by decide +kernel) ?_
                  refine zw_put _ 29 f2_26 rfl g2_15_0 (hb_44 _ _ _ _) rfl (Nat.le_of_ble_eq_true rfl) (by decide +kernel) (hi_44_4 _ _ _ _ _) ?_
                  refine zw_vreturn f2_29 r2 u2 ⟨rfl, ?_⟩
                  refine zw_aload_n 10 f4_9 rfl rfl ?_
                  refine zw_iload_n 11 f4_10 rfl rfl ?_
                  refine zw_super_i 14 0 0 [.ref 51, .int c] [(0, .ref 51), (1, .int c)] f4_11 rfl k4_19_99 k4_19_98 (by decide +kernel) rfl (hb_51 _ _ _ _) (by decide +kernel) (Nat.le_of_ble_eq_true rfl) rfl rfl (by decide +kernel) (by decide +kernel) rfl (Nat.le_of_ble_eq_true rfl) rfl ?_
                  refine zw_aload_n 1 f7_0 rfl rfl ?_
                  refine zw_getfield 4 f7_1 rfl g7_7_1 (hb_51 _ _ _ _) rfl ?_
                  refine zw_bipush 40 6 f7_4 rfl (by decide +kernel) ?_
                  refine zw_virtual_v 9 0 0 [.ref 44, .int 40] [(0, .ref 44), (1, .int 40)] f7_6 rfl n7_13 k7_13_0 rfl (hb_44 _ _ _ _) (by decide +kernel) (Nat.le_of_ble_eq_true rfl) rfl rfl (by decide +kernel) (by decide +kernel) rfl (Nat.le_of_ble_eq_true rfl) rfl ?_
                  refine zw_aload_n 1 f2_0 rfl rfl ?_
                  refine zw_getI 1 4 f2_1 rfl g2_15_0 (hb_44 _ _ _ _) rfl rfl ?_
                  refine zw_bipush 50 6 f2_4 rfl (by decide +kernel) ?_
                  refine zw_ic_ge_f 9 29 f2_6 (by decide +kernel) rfl (by decide +kernel) ?_
                  refine zw_aload_n 10 f2_9 rfl rfl ?_
                  refine zw_getfield 13 f2_10 rfl g2_9_0 (hb_44 _ _ _ _) rfl ?_
                  refine zw_aload_n 14 f2_13 rfl rfl ?_
                  refine zw_getI 1 17 f2_14 rfl g2_15_0 (hb_44 _ _ _ _) rfl rfl ?_
                  refine zw_iload_n 18 f2_17 rfl rfl ?_
                  refine zw_ast 1 _ 19 f2_18 rfl (hb_45 _ _ _ _) (by decide +kernel) (by decide +kernel) (by decide +kernel) (ha_45 _ _ _ _ _) ?_
                  refine zw_aload_n 20 f2_19 rfl rfl ?_
                  refine zw_dup 21 f2_20 rfl rfl ?_
                  refine zw_getI 1 24 f2_21 rfl g2_15_0 (hb_44 _ _ _ _) rfl rfl ?_
                  refine zw_iconst 1 25 f2_24 rfl (by decide +kernel) ?_
                  refine zw_iadd 2 26 f2_25 rfl (by decide +kernel) ?_
                  refine zw_put _ 29 f2_26 rfl g2_15_0 (hb_44 _ _ _ _) rfl (Nat.le_of_ble_eq_true rfl) (by decide +kernel) (hi_44_4 _ _ _ _ _) ?_
                  refine zw_vreturn f2_29 r2 u2 ⟨rfl, ?_⟩
                  refine zw_aload_n 10 f7_9 rfl rfl ?_
                  refine zw_iload_n 11 f7_10 rfl rfl ?_
                  refine zw_super_i 14 0 0 [.ref 51, .int c] [(0, .ref 51), (1, .int c)] f7_11 rfl k7_19_99 k7_19_98 (by decide +kernel) rfl (hb_51 _ _ _ _) (by decide +kernel) (Nat.le_of_ble_eq_true rfl) rfl rfl (by decide +kernel) (by decide +kernel) rfl (Nat.le_of_ble_eq_true rfl) rfl ?_
                  refine zw_aload_n 1 f39_0 rfl rfl ?_
                  refine zw_getfield 4 f39_1 rfl g39_7_1 (hb_51 _ _ _ _) rfl ?_
                  refine zw_bipush 12 6 f39_4 rfl (by decide +kernel) ?_
                  refine zw_virtual_v 9 0 0 [.ref 44, .int 12] [(0, .ref 44), (1, .int 12)] f39_6 rfl n39_13 k39_13_0 rfl (hb_44 _ _ _ _) (by decide +kernel) (Nat.le_of_ble_eq_true rfl) rfl rfl (by decide +kernel) (by decide +kernel) rfl (Nat.le_of_ble_eq_true rfl) rfl ?_
                  refine zw_aload_n 1 f2_0 rfl rfl ?_
                  refine zw_getI 2 4 f2_1 rfl g2_15_0 (hb_44 _ _ _ _) rfl rfl ?_
                  refine zw_bipush 50 6 f2_4 rfl (by decide +kernel) ?_
                  refine zw_ic_ge_f 9 29 f2_6 (by decide +kernel) rfl (by decide +kernel) ?_
                  refine zw_aload_n 10 f2_9 rfl rfl ?_
                  refine zw_getfield 13 f2_10 rfl g2_9_0 (hb_44 _ _ _ _) rfl ?_
                  refine zw_aload_n 14 f2_13 rfl rfl ?_
                  refine zw_getI 2 17 f2_14 rfl g2_15_0 (hb_44 _ _ _ _) rfl rfl ?_
                  refine zw_iload_n 18 f2_17 rfl rfl ?_
                  refine zw_ast 2 _ 19 f2_18 rfl (hb_45 _ _ _ _) (by decide +kernel) (by decide +kernel) (by decide +kernel) (ha_45 _ _ _ _ _) ?_
                  refine zw_aload_n 20 f2_19 rfl rfl ?_
                  refine zw_dup 21 f2_20 rfl rfl ?_
                  refine zw_getI 2 24 f2_21 rfl g2_15_0 (hb_44 _ _ _ _) rfl rfl ?_
                  refine zw_iconst 1 25 f2_24 rfl (by decide +kernel) ?_
                  refine zw_iadd 3 26 f2_25 rfl (by decide +kernel) ?_
                  refine zw_put _ 29 f2_26 rfl g2_15_0 (hb_44 _ _ _ _) rfl (Nat.le_of_ble_eq_true rfl) (by decide +kernel) (hi_44_4 _ _ _ _ _) ?_
                  refine zw_vreturn f2_29 r2 u2 ⟨rfl, ?_⟩
                  refine zw_iload_n 10 f39_9 rfl rfl ?_
                  refine zw_aload_n 11 f39_10 rfl rfl ?_
                  refine zw_getfield 14 f39_11 rfl g39_7_1 (hb_51 _ _ _ _) rfl ?_
                  refine zw_getI (P 54 a.toNatClampNeg) 17 f39_14 rfl g39_19_0 (hb_44 _ _ _ _) rfl rfl ?_
                  refine zw_ixor (c ^^^ (P 54 a.toNatClampNeg)) 18 f39_17 rfl rfl ?_
                  refine zw_ireturn f39_18 r39 u39 ⟨_, rfl, ?_⟩
                  refine zw_aload_n 15 f7_14 rfl rfl ?_
                  refine zw_getfield 18 f7_15 rfl g7_7_1 (hb_51 _ _ _ _) rfl ?_
                  refine zw_getI (P 56 a.toNatClampNeg) 21 f7_18 rfl g7_23_0 (hb_44 _ _ _ _) rfl rfl ?_
                  refine zw_iadd ((c ^^^ (P 54 a.toNatClampNeg)) + (P 56 a.toNatClampNeg)) 22 f7_21 rfl rfl ?_
                  refine zw_ireturn f7_22 r7 u7 ⟨_, rfl, ?_⟩
                  refine zw_aload_n 15 f4_14 rfl rfl ?_
                  refine zw_getfield 18 f4_15 rfl g4_7_1 (hb_51 _ _ _ _) rfl ?_
                  refine zw_getI (A 14 a.toNatClampNeg) 21 f4_18 rfl g4_23_0 (hb_44 _ _ _ _) rfl rfl ?_
                  refine zw_iadd (((c ^^^ (P 54 a.toNatClampNeg)) + (P 56 a.toNatClampNeg)) + (A 14 a.toNatClampNeg)) 22 f4_21 rfl rfl ?_
                  refine zw_ireturn f4_22 r4 u4 ⟨_, rfl, ?_⟩
                  refine zw_virtual_i 132 0 0 [.ref 0, .int (((c ^^^ (P 54 a.toNatClampNeg)) + (P 56 a.toNatClampNeg)) + (A 14 a.toNatClampNeg))] [(0, .ref 0), (1, .int (((c ^^^ (P 54 a.toNatClampNeg)) + (P 56 a.toNatClampNeg)) + (A 14 a.toNatClampNeg)))] f101_129 rfl n101_181 k101_181_11 rfl (hb_0 _ _ _ _) (by decide +kernel) (Nat.le_of_ble_eq_true rfl) rfl rfl (by decide +kernel) (by decide +kernel) rfl (Nat.le_of_ble_eq_true rfl) rfl ?_
                  refine zw_aload_n 1 f106_0 rfl rfl ?_
                  refine zw_iconst 0 2 f106_1 rfl (by decide +kernel) ?_
                  refine zw_put _ 5 f106_2 rfl g106_70_11 (hb_0 _ _ _ _) rfl (Nat.le_of_ble_eq_true rfl) (by decide +kernel) (hi_0_7 _ _ _ _ _) ?_
                  refine zw_iload_n 6 f106_5 rfl rfl ?_
                  refine zw_ireturn f106_6 r106 u106 ⟨_, rfl, ?_⟩
                  refine zw_ireturn f101_132 r101 u101 ?_
                  exact ⟨_, _, _, _, rfl, (KQ.i rfl (KQ.i rfl (KQ.a rfl (KQ.i rfl (KQ.a rfl (KQ.i rfl (KQ.a rfl (KQ.i rfl (KQ.i rfl (KQ.i rfl (KQ.i rfl (KQ.i rfl KQ.rf)))))))))))), by rw [show an_act nv P W a b c = (((c ^^^ (P 54 a.toNatClampNeg)) + (P 56 a.toNatClampNeg)) + (A 14 a.toNatClampNeg)) from ((cI_y ⟨(qV.ofc (by omega) hc1 hc2), ⟨hc4, hc5⟩⟩).trans ((cI_n (kne (show b = 2 from hs10e) (by decide))).trans ((cI_n (kne (show b = 2 from hs10e) (by decide))).trans ((cI_y (show b = 2 from hs10e)).trans ((cI_n (kne hk (by decide))).trans ((cI_n (kne hk (by decide))).trans ((cI_n (kne hk (by decide))).trans ((cI_n (kne hk (by decide))).trans ((cI_y hk).trans (by rw [← hR.2.2.2.2.2.2 a.toNatClampNeg (fun _ => hk)]))))))))))]⟩
set_option maxRecDepth 100000 in
set_option maxHeartbeats 0 in
theorem mx_act (ro : UInt32 → Nat × (Nat → Int32)) (nv np : Nat) (P : Nat → Nat → Int32) (W : qW) (L : qLog) (I : Nat → Nat → Int32) (G : Nat → Nat → Int64) (A : Nat → Nat → Int32) (B : Nat → Nat → Int64) (K : Int) (hR : mRS nv np P W L I G A B) (hp : MPa nv np P) (hW : wInv nv 10000 K P W) (hn : L.1 < 900000000) (hg : qLG L) (hi : mId I) (hQ : qKd nv P) (a b c : Int32) : zWp ro 180 0 [(0, .ref 52), (1, .int a), (2, .int b), (3, .int c)] [] (hS I G A B) 0 0 (fun r h1 => ∃ I2 G2 A2 B2, h1 = hS I2 G2 A2 B2 ∧ KQ fQu pQu I G A B I2 G2 A2 B2 ∧ mId I2 ∧ r = some (.int (an_act nv P W a b c))) := by
  have h8 := hp.1
  have h14 := hp.2.1
  obtain ⟨t, ht, et⟩ := hi.2.2
  refine zw_aload_n 1 f180_0 rfl rfl ?_
  refine zw_iload_n 2 f180_1 rfl rfl ?_
  refine zw_virtual_i 5 0 0 [.ref 52, .int a] [(0, .ref 52), (1, .int a)] f180_2 rfl n180_215 k180_215_12 rfl (hb_52 _ _ _ _) (by decide +kernel) (Nat.le_of_ble_eq_true rfl) rfl rfl (by decide +kernel) (by decide +kernel) rfl (Nat.le_of_ble_eq_true rfl) rfl ?_
  refine zw_iload_n 1 f123_0 rfl rfl ?_
  refine zw_iconst 0 2 f123_1 rfl (by decide +kernel) ?_
  refine zw_aload_n 3 f123_2 rfl rfl ?_
  refine zw_getI (nI nv) 6 f123_3 rfl g123_114_12 (hb_52 _ _ _ _) rfl hR.1.1 ?_
  refine zw_iconst 1 7 f123_6 rfl (by decide +kernel) ?_
  refine zw_isub ((nI nv) - 1) 8 f123_7 rfl rfl ?_
  refine zw_static_i 11 0 0 [.int a, .int 0, .int ((nI nv) - 1)] [] [(0, .int a), (1, .int 0), (2, .int ((nI nv) - 1))] f123_8 rfl k123_117_99 rfl (by decide +kernel) (Nat.le_of_ble_eq_true rfl) (Nat.le_of_ble_eq_true rfl) rfl rfl (by decide +kernel) (by decide +kernel) rfl (Nat.le_of_ble_eq_true rfl) rfl ?_
  refine zw_iload_n 1 f120_0 rfl rfl ?_
  refine zw_iload_n 2 f120_1 rfl rfl ?_
  refine zw_ic_lt 5 14 f120_2 (by decide +kernel) rfl (fun hc1 => ?_) (fun hc1 => ?_)
  · refine zw_iconst 0 15 f120_14 rfl (by decide +kernel) ?_
    refine zw_zreturn f120_15 r120 u120 (by decide +kernel) ⟨_, rfl, ?_⟩
    refine zw_zreturn f123_11 r123 u123 (by decide +kernel) ⟨_, rfl, ?_⟩
    refine zw_if_eq_t 17 f180_5 (by decide +kernel) (by decide +kernel) ?_
    refine zw_aload_n 18 f180_17 rfl rfl ?_
    refine zw_iconst 1 19 f180_18 rfl (by decide +kernel) ?_
    refine zw_virtual_i 22 0 0 [.ref 52, .int 1] [(0, .ref 52), (1, .int 1)] f180_19 rfl n180_209 k180_209_12 rfl (hb_52 _ _ _ _) (by decide +kernel) (Nat.le_of_ble_eq_true rfl) rfl rfl (by decide +kernel) (by decide +kernel) rfl (Nat.le_of_ble_eq_true rfl) rfl ?_
    refine zw_aload_n 1 f121_0 rfl rfl ?_
    refine zw_iload_n 2 f121_1 rfl rfl ?_
    refine zw_put _ 5 f121_2 rfl g121_111_12 (hb_52 _ _ _ _) rfl (Nat.le_of_ble_eq_true rfl) (by decide +kernel) (hi_52_27 _ _ _ _ _) ?_
    refine zw_iconst (-1) 6 f121_5 rfl (by decide +kernel) ?_
    refine zw_ireturn f121_6 r121 u121 ⟨_, rfl, ?_⟩
    refine zw_ireturn f180_22 r180 u180 ?_
    exact ⟨_, _, _, _, rfl, (KQ.i rfl KQ.rf), ⟨hi.1, hi.2.1, t, by omega, et⟩, by rw [show an_act nv P W a b c = (-1) from (cI_n (fun q => (qV.n0 (by omega) hc1) q.1))]⟩
  · refine zw_iload_n 6 f120_5 rfl rfl ?_
    refine zw_iload_n 7 f120_6 rfl rfl ?_
    refine zw_ic_gt 10 14 f120_7 (by decide +kernel) rfl (fun hc2 => ?_) (fun hc2 => ?_)
    · refine zw_iconst 0 15 f120_14 rfl (by decide +kernel) ?_
      refine zw_zreturn f120_15 r120 u120 (by decide +kernel) ⟨_, rfl, ?_⟩
      refine zw_zreturn f123_11 r123 u123 (by decide +kernel) ⟨_, rfl, ?_⟩
      refine zw_if_eq_t 17 f180_5 (by decide +kernel) (by decide +kernel) ?_
      refine zw_aload_n 18 f180_17 rfl rfl ?_
      refine zw_iconst 1 19 f180_18 rfl (by decide +kernel) ?_
      refine zw_virtual_i 22 0 0 [.ref 52, .int 1] [(0, .ref 52), (1, .int 1)] f180_19 rfl n180_209 k180_209_12 rfl (hb_52 _ _ _ _) (by decide +kernel) (Nat.le_of_ble_eq_true rfl) rfl rfl (by decide +kernel) (by decide +kernel) rfl (Nat.le_of_ble_eq_true rfl) rfl ?_
      refine zw_aload_n 1 f121_0 rfl rfl ?_
      refine zw_iload_n 2 f121_1 rfl rfl ?_
      refine zw_put _ 5 f121_2 rfl g121_111_12 (hb_52 _ _ _ _) rfl (Nat.le_of_ble_eq_true rfl) (by decide +kernel) (hi_52_27 _ _ _ _ _) ?_
      refine zw_iconst (-1) 6 f121_5 rfl (by decide +kernel) ?_
      refine zw_ireturn f121_6 r121 u121 ⟨_, rfl, ?_⟩
      refine zw_ireturn f180_22 r180 u180 ?_
      exact ⟨_, _, _, _, rfl, (KQ.i rfl KQ.rf), ⟨hi.1, hi.2.1, t, by omega, et⟩, by rw [show an_act nv P W a b c = (-1) from (cI_n (fun q => (qV.n1 (by omega) hc2) q.1))]⟩
    · refine zw_iconst 1 11 f120_10 rfl (by decide +kernel) ?_
      refine zw_goto 15 f120_11 (by decide +kernel) ?_
      refine zw_zreturn f120_15 r120 u120 (by decide +kernel) ⟨_, rfl, ?_⟩
      refine zw_zreturn f123_11 r123 u123 (by decide +kernel) ⟨_, rfl, ?_⟩
      refine zw_if_eq_f 8 17 f180_5 (by decide +kernel) rfl (by decide +kernel) ?_
      refine zw_iload_n 9 f180_8 rfl rfl ?_
      refine zw_iconst 0 10 f180_9 rfl (by decide +kernel) ?_
      refine zw_iconst 3 11 f180_10 rfl (by decide +kernel) ?_
      refine zw_static_i 14 0 0 [.int b, .int 0, .int 3] [] [(0, .int b), (1, .int 0), (2, .int 3)] f180_11 rfl k180_117_99 rfl (by decide +kernel) (Nat.le_of_ble_eq_true rfl) (Nat.le_of_ble_eq_true rfl) rfl rfl (by decide +kernel) (by decide +kernel) rfl (Nat.le_of_ble_eq_true rfl) rfl ?_
      refine zw_iload_n 1 f120_0 rfl rfl ?_
      refine zw_iload_n 2 f120_1 rfl rfl ?_
      refine zw_ic_lt 5 14 f120_2 (by decide +kernel) rfl (fun hc3 => ?_) (fun hc3 => ?_)
      · refine zw_iconst 0 15 f120_14 rfl (by decide +kernel) ?_
        refine zw_zreturn f120_15 r120 u120 (by decide +kernel) ⟨_, rfl, ?_⟩
        refine zw_if_ne_f 17 23 f180_14 (by decide +kernel) rfl (by decide +kernel) ?_
        refine zw_aload_n 18 f180_17 rfl rfl ?_
        refine zw_iconst 1 19 f180_18 rfl (by decide +kernel) ?_
        refine zw_virtual_i 22 0 0 [.ref 52, .int 1] [(0, .ref 52), (1, .int 1)] f180_19 rfl n180_209 k180_209_12 rfl (hb_52 _ _ _ _) (by decide +kernel) (Nat.le_of_ble_eq_true rfl) rfl rfl (by decide +kernel) (by decide +kernel) rfl (Nat.le_of_ble_eq_true rfl) rfl ?_
        refine zw_aload_n 1 f121_0 rfl rfl ?_
        refine zw_iload_n 2 f121_1 rfl rfl ?_
        refine zw_put _ 5 f121_2 rfl g121_111_12 (hb_52 _ _ _ _) rfl (Nat.le_of_ble_eq_true rfl) (by decide +kernel) (hi_52_27 _ _ _ _ _) ?_
        refine zw_iconst (-1) 6 f121_5 rfl (by decide +kernel) ?_
        refine zw_ireturn f121_6 r121 u121 ⟨_, rfl, ?_⟩
        refine zw_ireturn f180_22 r180 u180 ?_
        exact ⟨_, _, _, _, rfl, (KQ.i rfl KQ.rf), ⟨hi.1, hi.2.1, t, by omega, et⟩, by rw [show an_act nv P W a b c = (-1) from (cI_n (fun q => (fun q => q.1 hc3) q.2))]⟩
      · refine zw_iload_n 6 f120_5 rfl rfl ?_
        refine zw_iload_n 7 f120_6 rfl rfl ?_
        refine zw_ic_gt 10 14 f120_7 (by decide +kernel) rfl (fun hc4 => ?_) (fun hc4 => ?_)
        · refine zw_iconst 0 15 f120_14 rfl (by decide +kernel) ?_
          refine zw_zreturn f120_15 r120 u120 (by decide +kernel) ⟨_, rfl, ?_⟩
          refine zw_if_ne_f 17 23 f180_14 (by decide +kernel) rfl (by decide +kernel) ?_
          refine zw_aload_n 18 f180_17 rfl rfl ?_
          refine zw_iconst 1 19 f180_18 rfl (by decide +kernel) ?_
          refine zw_virtual_i 22 0 0 [.ref 52, .int 1] [(0, .ref 52), (1, .int 1)] f180_19 rfl n180_209 k180_209_12 rfl (hb_52 _ _ _ _) (by decide +kernel) (Nat.le_of_ble_eq_true rfl) rfl rfl (by decide +kernel) (by decide +kernel) rfl (Nat.le_of_ble_eq_true rfl) rfl ?_
          refine zw_aload_n 1 f121_0 rfl rfl ?_
          refine zw_iload_n 2 f121_1 rfl rfl ?_
          refine zw_put _ 5 f121_2 rfl g121_111_12 (hb_52 _ _ _ _) rfl (Nat.le_of_ble_eq_true rfl) (by decide +kernel) (hi_52_27 _ _ _ _ _) ?_
          refine zw_iconst (-1) 6 f121_5 rfl (by decide +kernel) ?_
          refine zw_ireturn f121_6 r121 u121 ⟨_, rfl, ?_⟩
          refine zw_ireturn f180_22 r180 u180 ?_
          exact ⟨_, _, _, _, rfl, (KQ.i rfl KQ.rf), ⟨hi.1, hi.2.1, t, by omega, et⟩, by rw [show an_act nv P W a b c = (-1) from (cI_n (fun q => (fun q => q.2 hc4) q.2))]⟩
        · refine zw_iconst 1 11 f120_10 rfl (by decide +kernel) ?_
          refine zw_goto 15 f120_11 (by decide +kernel) ?_
          refine zw_zreturn f120_15 r120 u120 (by decide +kernel) ⟨_, rfl, ?_⟩
          refine zw_if_ne_t 23 f180_14 (by decide +kernel) (by decide +kernel) ?_
          refine zw_aload_n 24 f180_23 rfl rfl ?_
          refine zw_iconst 0 25 f180_24 rfl (by decide +kernel) ?_
          refine zw_put _ 28 f180_25 rfl g180_246_12 (hb_52 _ _ _ _) rfl (Nat.le_of_ble_eq_true rfl) (by decide +kernel) (hi_52_29 _ _ _ _ _) ?_
          refine zw_aload_n 29 f180_28 rfl rfl ?_
          refine zw_iload_n 30 f180_29 rfl rfl ?_
          refine zw_if_ne 33 42 f180_30 (by decide +kernel) rfl (fun hc5 => ?_) (fun hc5 => ?_)
          · refine zw_iload_n 43 f180_42 rfl rfl ?_
            refine zw_iconst 1 44 f180_43 rfl (by decide +kernel) ?_
            refine zw_ic_ne 47 56 f180_44 (by decide +kernel) rfl (fun hc6 => ?_) (fun hc6 => ?_)
            · refine zw_iload_n 57 f180_56 rfl rfl ?_
              refine zw_iconst 2 58 f180_57 rfl (by decide +kernel) ?_
              refine zw_ic_ne 61 70 f180_58 (by decide +kernel) rfl (fun hc7 => ?_) (fun hc7 => ?_)
              · refine zw_aload_n 71 f180_70 rfl rfl ?_
                refine zw_iload_n 72 f180_71 rfl rfl ?_
                refine zw_iload_n 73 f180_72 rfl rfl ?_
                refine zw_virtual_i 76 0 0 [.ref 52, .int a, .int c] [(0, .ref 52), (1, .int a), (2, .int c)] f180_73 rfl n180_310 k180_310_12 rfl (hb_52 _ _ _ _) (by decide +kernel) (Nat.le_of_ble_eq_true rfl) rfl rfl (by decide +kernel) (by decide +kernel) rfl (Nat.le_of_ble_eq_true rfl) rfl ?_
                refine zw_iload_n 1 f179_0 rfl rfl ?_
                refine zw_istore_n _ 2 f179_1 rfl (by decide +kernel) rfl ?_
                refine zw_aload_n 3 f179_2 rfl (zl1_ne rfl rfl rfl) ?_
                refine zw_getfield 6 f179_3 rfl g179_7_12 (hb_52 _ _ _ _) rfl ?_
                refine zw_iload_n 7 f179_6 rfl (zl1_ne rfl rfl rfl) ?_
                rcases (k5 (hQ.1 a.toNatClampNeg ((qV.of (by omega) hc1 hc2)).1)) with hk | hk | hk | hk | hk
                · refine zw_iaload a.toNatClampNeg 0 8 f179_7 rfl (hb_53 _ _ _ _) rfl hc1 (zix (by decide) hc1 (show ¬ 8 ≤ a from ix_le hp.1 (by decide) (by decide) hc1 hc2)) ((congrFun (hR.2.1 53 (by omega) (by omega)) a.toNatClampNeg).trans hk) ?_
                  refine zw_iconst 1 9 f179_8 rfl (by decide +kernel) ?_
                  refine zw_ic_ne_t 22 f179_9 (by decide +kernel) (by decide +kernel) ?_
                  refine zw_aload_n 23 f179_22 rfl (zl1_ne rfl rfl rfl) ?_
                  refine zw_bipush 13 25 f179_23 rfl (by decide +kernel) ?_
                  refine zw_virtual_v 28 0 0 [.ref 52, .int 13] [(0, .ref 52), (1, .int 13)] f179_25 rfl n179_291 k179_291_12 rfl (hb_52 _ _ _ _) (by decide +kernel) (Nat.le_of_ble_eq_true rfl) rfl rfl (by decide +kernel) (by decide +kernel) rfl (Nat.le_of_ble_eq_true rfl) rfl ?_
                  refine zw_aload_n 1 f173_0 rfl rfl ?_
                  refine zw_getI 0 4 f173_1 rfl g173_246_12 (hb_52 _ _ _ _) rfl rfl ?_
                  refine zw_bipush 50 6 f173_4 rfl (by decide +kernel) ?_
                  refine zw_ic_ge_f 9 19 f173_6 (by decide +kernel) rfl (by decide +kernel) ?_
                  refine zw_aload_n 10 f173_9 rfl rfl ?_
                  refine zw_getfield 13 f173_10 rfl g173_74_12 (hb_52 _ _ _ _) rfl ?_
                  refine zw_aload_n 14 f173_13 rfl rfl ?_
                  refine zw_getI 0 17 f173_14 rfl g173_246_12 (hb_52 _ _ _ _) rfl rfl ?_
                  refine zw_iload_n 18 f173_17 rfl rfl ?_
                  refine zw_ast 0 _ 19 f173_18 rfl (hb_71 _ _ _ _) (by decide +kernel) (by decide +kernel) (by decide +kernel) (ha_71 _ _ _ _ _) ?_
                  refine zw_aload_n 20 f173_19 rfl rfl ?_
                  refine zw_dup 21 f173_20 rfl rfl ?_
                  refine zw_getI 0 24 f173_21 rfl g173_246_12 (hb_52 _ _ _ _) rfl rfl ?_
                  refine zw_iconst 1 25 f173_24 rfl (by decide +kernel) ?_
                  refine zw_iadd 1 26 f173_25 rfl (by decide +kernel) ?_
                  refine zw_put _ 29 f173_26 rfl g173_246_12 (hb_52 _ _ _ _) rfl (Nat.le_of_ble_eq_true rfl) (by decide +kernel) (hi_52_29 _ _ _ _ _) ?_
                  refine zw_vreturn f173_29 r173 u173 ⟨rfl, ?_⟩
                  refine zw_aload_n 29 f179_28 rfl (zl1_ne rfl rfl rfl) ?_
                  refine zw_iload_n 30 f179_29 rfl (zl1_ne rfl rfl rfl) ?_
                  refine zw_iload_n 31 f179_30 rfl zl1_eq ?_
                  refine zw_virtual_i 34 0 0 [.ref 52, .int a, .int c] [(0, .ref 52), (1, .int a), (2, .int c)] f179_31 rfl n179_304 k179_304_12 rfl (hb_52 _ _ _ _) (by decide +kernel) (Nat.le_of_ble_eq_true rfl) rfl rfl (by decide +kernel) (by decide +kernel) rfl (Nat.le_of_ble_eq_true rfl) rfl ?_
                  refine zw_aload_n 1 f177_0 rfl rfl ?_
                  refine zw_getfield 4 f177_1 rfl g177_7_12 (hb_52 _ _ _ _) rfl ?_
                  refine zw_iload_n 5 f177_4 rfl rfl ?_
                  refine zw_iaload a.toNatClampNeg 0 6 f177_5 rfl (hb_53 _ _ _ _) rfl hc1 (zix (by decide) hc1 (show ¬ 8 ≤ a from ix_le hp.1 (by decide) (by decide) hc1 hc2)) ((congrFun (hR.2.1 53 (by omega) (by omega)) a.toNatClampNeg).trans hk) ?_
                  refine zw_iconst 1 7 f177_6 rfl (by decide +kernel) ?_
                  refine zw_ic_ne_t 30 f177_7 (by decide +kernel) (by decide +kernel) ?_
                  refine zw_aload_n 31 f177_30 rfl rfl ?_
                  refine zw_getfield 34 f177_31 rfl g177_7_12 (hb_52 _ _ _ _) rfl ?_
                  refine zw_iload_n 35 f177_34 rfl rfl ?_
                  refine zw_iaload a.toNatClampNeg 0 36 f177_35 rfl (hb_53 _ _ _ _) rfl hc1 (zix (by decide) hc1 (show ¬ 8 ≤ a from ix_le hp.1 (by decide) (by decide) hc1 hc2)) ((congrFun (hR.2.1 53 (by omega) (by omega)) a.toNatClampNeg).trans hk) ?_
                  refine zw_iconst 4 37 f177_36 rfl (by decide +kernel) ?_
                  refine zw_ic_ne_t 60 f177_37 (by decide +kernel) (by decide +kernel) ?_
                  refine zw_aload_n 61 f177_60 rfl rfl ?_
                  refine zw_iload_n 62 f177_61 rfl rfl ?_
                  refine zw_iload_n 63 f177_62 rfl rfl ?_
                  refine zw_virtual_i 66 0 0 [.ref 52, .int a, .int c] [(0, .ref 52), (1, .int a), (2, .int c)] f177_63 rfl n177_301 k177_301_12 rfl (hb_52 _ _ _ _) (by decide +kernel) (Nat.le_of_ble_eq_true rfl) rfl rfl (by decide +kernel) (by decide +kernel) rfl (Nat.le_of_ble_eq_true rfl) rfl ?_
                  refine zw_aload_n 1 f176_0 rfl rfl ?_
                  refine zw_bipush 11 3 f176_1 rfl (by decide +kernel) ?_
                  refine zw_virtual_v 6 0 0 [.ref 52, .int 11] [(0, .ref 52), (1, .int 11)] f176_3 rfl n176_291 k176_291_12 rfl (hb_52 _ _ _ _) (by decide +kernel) (Nat.le_of_ble_eq_true rfl) rfl rfl (by decide +kernel) (by decide +kernel) rfl (Nat.le_of_ble_eq_true rfl) rfl ?_
                  refine zw_aload_n 1 f173_0 rfl rfl ?_
                  refine zw_getI 1 4 f173_1 rfl g173_246_12 (hb_52 _ _ _ _) rfl rfl ?_
                  refine zw_bipush 50 6 f173_4 rfl (by decide +kernel) ?_
                  refine zw_ic_ge_f 9 19 f173_6 (by decide +kernel) rfl (by decide +kernel) ?_
                  refine zw_aload_n 10 f173_9 rfl rfl ?_
                  refine zw_getfield 13 f173_10 rfl g173_74_12 (hb_52 _ _ _ _) rfl ?_
                  refine zw_aload_n 14 f173_13 rfl rfl ?_
                  refine zw_getI 1 17 f173_14 rfl g173_246_12 (hb_52 _ _ _ _) rfl rfl ?_
                  refine zw_iload_n 18 f173_17 rfl rfl ?_
                  refine zw_ast 1 _ 19 f173_18 rfl (hb_71 _ _ _ _) (by decide +kernel) (by decide +kernel) (by decide +kernel) (ha_71 _ _ _ _ _) ?_
                  refine zw_aload_n 20 f173_19 rfl rfl ?_
                  refine zw_dup 21 f173_20 rfl rfl ?_
                  refine zw_getI 1 24 f173_21 rfl g173_246_12 (hb_52 _ _ _ _) rfl rfl ?_
                  refine zw_iconst 1 25 f173_24 rfl (by decide +kernel) ?_
                  refine zw_iadd 2 26 f173_25 rfl (by decide +kernel) ?_
                  refine zw_put _ 29 f173_26 rfl g173_246_12 (hb_52 _ _ _ _) rfl (Nat.le_of_ble_eq_true rfl) (by decide +kernel) (hi_52_29 _ _ _ _ _) ?_
                  refine zw_vreturn f173_29 r173 u173 ⟨rfl, ?_⟩
                  refine zw_aload_n 7 f176_6 rfl rfl ?_
                  refine zw_iload_n 8 f176_7 rfl rfl ?_
                  refine zw_iload_n 9 f176_8 rfl rfl ?_
                  refine zw_virtual_i 12 0 0 [.ref 52, .int a, .int c] [(0, .ref 52), (1, .int a), (2, .int c)] f176_9 rfl n176_298 k176_298_12 rfl (hb_52 _ _ _ _) (by decide +kernel) (Nat.le_of_ble_eq_true rfl) rfl rfl (by decide +kernel) (by decide +kernel) rfl (Nat.le_of_ble_eq_true rfl) rfl ?_
                  refine zw_aload_n 1 f175_0 rfl rfl ?_
                  refine zw_getfield 4 f175_1 rfl g175_7_12 (hb_52 _ _ _ _) rfl ?_
                  refine zw_iload_n 5 f175_4 rfl rfl ?_
                  refine zw_iaload a.toNatClampNeg 0 6 f175_5 rfl (hb_53 _ _ _ _) rfl hc1 (zix (by decide) hc1 (show ¬ 8 ≤ a from ix_le hp.1 (by decide) (by decide) hc1 hc2)) ((congrFun (hR.2.1 53 (by omega) (by omega)) a.toNatClampNeg).trans hk) ?_
                  refine zw_iconst 2 7 f175_6 rfl (by decide +kernel) ?_
                  refine zw_ic_ne_t 25 f175_7 (by decide +kernel) (by decide +kernel) ?_
                  refine zw_aload_n 26 f175_25 rfl rfl ?_
                  refine zw_iload_n 27 f175_26 rfl rfl ?_
                  refine zw_virtual_i 30 0 0 [.ref 52, .int a] [(0, .ref 52), (1, .int a)] f175_27 rfl n175_158 k175_158_12 rfl (hb_52 _ _ _ _) (by decide +kernel) (Nat.le_of_ble_eq_true rfl) rfl rfl (by decide +kernel) (by decide +kernel) rfl (Nat.le_of_ble_eq_true rfl) rfl ?_
                  refine zw_aload_n 1 f126_0 rfl rfl ?_
                  refine zw_getfield 4 f126_1 rfl g126_7_12 (hb_52 _ _ _ _) rfl ?_
                  refine zw_iload_n 5 f126_4 rfl rfl ?_
                  refine zw_iaload a.toNatClampNeg 0 6 f126_5 rfl (hb_53 _ _ _ _) rfl hc1 (zix (by decide) hc1 (show ¬ 8 ≤ a from ix_le hp.1 (by decide) (by decide) hc1 hc2)) ((congrFun (hR.2.1 53 (by omega) (by omega)) a.toNatClampNeg).trans hk) ?_
                  refine zw_iconst 3 7 f126_6 rfl (by decide +kernel) ?_
                  refine zw_ic_eq_f 10 20 f126_7 (by decide +kernel) rfl (by decide +kernel) ?_
                  refine zw_aload_n 11 f126_10 rfl rfl ?_
                  refine zw_getfield 14 f126_11 rfl g126_7_12 (hb_52 _ _ _ _) rfl ?_
                  refine zw_iload_n 15 f126_14 rfl rfl ?_
                  refine zw_iaload a.toNatClampNeg 0 16 f126_15 rfl (hb_53 _ _ _ _) rfl hc1 (zix (by decide) hc1 (show ¬ 8 ≤ a from ix_le hp.1 (by decide) (by decide) hc1 hc2)) ((congrFun (hR.2.1 53 (by omega) (by omega)) a.toNatClampNeg).trans hk) ?_
                  refine zw_iconst 4 17 f126_16 rfl (by decide +kernel) ?_
                  refine zw_ic_ne_t 24 f126_17 (by decide +kernel) (by decide +kernel) ?_
                  refine zw_iconst 0 25 f126_24 rfl (by decide +kernel) ?_
                  refine zw_zreturn f126_25 r126 u126 (by decide +kernel) ⟨_, rfl, ?_⟩
                  refine zw_if_eq_t 53 f175_30 (by decide +kernel) (by decide +kernel) ?_
                  refine zw_aload_n 54 f175_53 rfl rfl ?_
                  refine zw_iload_n 55 f175_54 rfl rfl ?_
                  refine zw_iload_n 56 f175_55 rfl rfl ?_
                  refine zw_virtual_i 59 0 0 [.ref 52, .int a, .int c] [(0, .ref 52), (1, .int a), (2, .int c)] f175_56 rfl n175_294 k175_294_12 rfl (hb_52 _ _ _ _) (by decide +kernel) (Nat.le_of_ble_eq_true rfl) rfl rfl (by decide +kernel) (by decide +kernel) rfl (Nat.le_of_ble_eq_true rfl) rfl ?_
                  refine zw_aload_n 1 f174_0 rfl rfl ?_
                  refine zw_bipush 10 3 f174_1 rfl (by decide +kernel) ?_
                  refine zw_virtual_v 6 0 0 [.ref 52, .int 10] [(0, .ref 52), (1, .int 10)] f174_3 rfl n174_291 k174_291_12 rfl (hb_52 _ _ _ _) (by decide +kernel) (Nat.le_of_ble_eq_true rfl) rfl rfl (by decide +kernel) (by decide +kernel) rfl (Nat.le_of_ble_eq_true rfl) rfl ?_
                  refine zw_aload_n 1 f173_0 rfl rfl ?_
                  refine zw_getI 2 4 f173_1 rfl g173_246_12 (hb_52 _ _ _ _) rfl rfl ?_
                  refine zw_bipush 50 6 f173_4 rfl (by decide +kernel) ?_
                  refine zw_ic_ge_f 9 19 f173_6 (by decide +kernel) rfl (by decide +kernel) ?_
                  refine zw_aload_n 10 f173_9 rfl rfl ?_
                  refine zw_getfield 13 f173_10 rfl g173_74_12 (hb_52 _ _ _ _) rfl ?_
                  refine zw_aload_n 14 f173_13 rfl rfl ?_
                  refine zw_getI 2 17 f173_14 rfl g173_246_12 (hb_52 _ _ _ _) rfl rfl ?_
                  refine zw_iload_n 18 f173_17 rfl rfl ?_
                  refine zw_ast 2 _ 19 f173_18 rfl (hb_71 _ _ _ _) (by decide +kernel) (by decide +kernel) (by decide +kernel) (ha_71 _ _ _ _ _) ?_
                  refine zw_aload_n 20 f173_19 rfl rfl ?_
                  refine zw_dup 21 f173_20 rfl rfl ?_
                  refine zw_getI 2 24 f173_21 rfl g173_246_12 (hb_52 _ _ _ _) rfl rfl ?_
                  refine zw_iconst 1 25 f173_24 rfl (by decide +kernel) ?_
                  refine zw_iadd 3 26 f173_25 rfl (by decide +kernel) ?_
                  refine zw_put _ 29 f173_26 rfl g173_246_12 (hb_52 _ _ _ _) rfl (Nat.le_of_ble_eq_true rfl) (by decide +kernel) (hi_52_29 _ _ _ _ _) ?_
                  refine zw_vreturn f173_29 r173 u173 ⟨rfl, ?_⟩
                  refine zw_iload_n 7 f174_6 rfl rfl ?_
                  refine zw_aload_n 8 f174_7 rfl rfl ?_
                  refine zw_getfield 11 f174_8 rfl g174_13_12 (hb_52 _ _ _ _) rfl ?_
                  refine zw_iload_n 12 f174_11 rfl rfl ?_
                  refine zw_iaload a.toNatClampNeg (P 54 a.toNatClampNeg) 13 f174_12 rfl (hb_54 _ _ _ _) rfl hc1 (zix (by decide) hc1 (show ¬ 8 ≤ a from ix_le hp.1 (by decide) (by decide) hc1 hc2)) (congrFun ((hR.2.1 54 (by omega) (by omega))) a.toNatClampNeg) ?_
                  refine zw_iadd (c + (P 54 a.toNatClampNeg)) 14 f174_13 rfl rfl ?_
                  refine zw_ireturn f174_14 r174 u174 ⟨_, rfl, ?_⟩
                  refine zw_ireturn f175_59 r175 u175 ⟨_, rfl, ?_⟩
                  refine zw_iconst 3 13 f176_12 rfl (by decide +kernel) ?_
                  refine zw_imul ((c + (P 54 a.toNatClampNeg)) * 3) 14 f176_13 rfl rfl ?_
                  refine zw_ireturn f176_14 r176 u176 ⟨_, rfl, ?_⟩
                  refine zw_ireturn f177_66 r177 u177 ⟨_, rfl, ?_⟩
                  refine zw_istore _ 36 f179_34 rfl (by decide +kernel) rfl ?_
                  refine zw_iload 38 f179_36 rfl zl1_eq ?_
                  refine zw_aload_n 39 f179_38 rfl (zl1_ne rfl rfl (zl1_ne rfl rfl rfl)) ?_
                  refine zw_iload_n 40 f179_39 rfl (zl1_ne rfl rfl (zl1_ne rfl rfl rfl)) ?_
                  refine zw_iload_n 41 f179_40 rfl (zl1_ne rfl rfl zl1_eq) ?_
                  refine zw_virtual_i 44 0 0 [.ref 52, .int a, .int c] [(0, .ref 52), (1, .int a), (2, .int c)] f179_41 rfl n179_307 k179_307_12 rfl (hb_52 _ _ _ _) (by decide +kernel) (Nat.le_of_ble_eq_true rfl) rfl rfl (by decide +kernel) (by decide +kernel) rfl (Nat.le_of_ble_eq_true rfl) rfl ?_
                  refine zw_aload_n 1 f178_0 rfl rfl ?_
                  refine zw_getfield 4 f178_1 rfl g178_7_12 (hb_52 _ _ _ _) rfl ?_
                  refine zw_iload_n 5 f178_4 rfl rfl ?_
                  refine zw_iaload a.toNatClampNeg 0 6 f178_5 rfl (hb_53 _ _ _ _) rfl hc1 (zix (by decide) hc1 (show ¬ 8 ≤ a from ix_le hp.1 (by decide) (by decide) hc1 hc2)) ((congrFun (hR.2.1 53 (by omega) (by omega)) a.toNatClampNeg).trans hk) ?_
                  refine zw_iconst 4 7 f178_6 rfl (by decide +kernel) ?_
                  refine zw_ic_ne_t 16 f178_7 (by decide +kernel) (by decide +kernel) ?_
                  refine zw_aload_n 17 f178_16 rfl rfl ?_
                  refine zw_iload_n 18 f178_17 rfl rfl ?_
                  refine zw_virtual_i 21 0 0 [.ref 52, .int a] [(0, .ref 52), (1, .int a)] f178_18 rfl n178_158 k178_158_12 rfl (hb_52 _ _ _ _) (by decide +kernel) (Nat.le_of_ble_eq_true rfl) rfl rfl (by decide +kernel) (by decide +kernel) rfl (Nat.le_of_ble_eq_true rfl) rfl ?_
                  refine zw_aload_n 1 f126_0 rfl rfl ?_
                  refine zw_getfield 4 f126_1 rfl g126_7_12 (hb_52 _ _ _ _) rfl ?_
                  refine zw_iload_n 5 f126_4 rfl rfl ?_
                  refine zw_iaload a.toNatClampNeg 0 6 f126_5 rfl (hb_53 _ _ _ _) rfl hc1 (zix (by decide) hc1 (show ¬ 8 ≤ a from ix_le hp.1 (by decide) (by decide) hc1 hc2)) ((congrFun (hR.2.1 53 (by omega) (by omega)) a.toNatClampNeg).trans hk) ?_
                  refine zw_iconst 3 7 f126_6 rfl (by decide +kernel) ?_
                  refine zw_ic_eq_f 10 20 f126_7 (by decide +kernel) rfl (by decide +kernel) ?_
                  refine zw_aload_n 11 f126_10 rfl rfl ?_
                  refine zw_getfield 14 f126_11 rfl g126_7_12 (hb_52 _ _ _ _) rfl ?_
                  refine zw_iload_n 15 f126_14 rfl rfl ?_
                  refine zw_iaload a.toNatClampNeg 0 16 f126_15 rfl (hb_53 _ _ _ _) rfl hc1 (zix (by decide) hc1 (show ¬ 8 ≤ a from ix_le hp.1 (by decide) (by decide) hc1 hc2)) ((congrFun (hR.2.1 53 (by omega) (by omega)) a.toNatClampNeg).trans hk) ?_
                  refine zw_iconst 4 17 f126_16 rfl (by decide +kernel) ?_
                  refine zw_ic_ne_t 24 f126_17 (by decide +kernel) (by decide +kernel) ?_
                  refine zw_iconst 0 25 f126_24 rfl (by decide +kernel) ?_
                  refine zw_zreturn f126_25 r126 u126 (by decide +kernel) ⟨_, rfl, ?_⟩
                  refine zw_if_eq_t 30 f178_21 (by decide +kernel) (by decide +kernel) ?_
                  refine zw_aload_n 31 f178_30 rfl rfl ?_
                  refine zw_bipush 12 33 f178_31 rfl (by decide +kernel) ?_
                  refine zw_virtual_v 36 0 0 [.ref 52, .int 12] [(0, .ref 52), (1, .int 12)] f178_33 rfl n178_291 k178_291_12 rfl (hb_52 _ _ _ _) (by decide +kernel) (Nat.le_of_ble_eq_true rfl) rfl rfl (by decide +kernel) (by decide +kernel) rfl (Nat.le_of_ble_eq_true rfl) rfl ?_
                  refine zw_aload_n 1 f173_0 rfl rfl ?_
                  refine zw_getI 3 4 f173_1 rfl g173_246_12 (hb_52 _ _ _ _) rfl rfl ?_
                  refine zw_bipush 50 6 f173_4 rfl (by decide +kernel) ?_
                  refine zw_ic_ge_f 9 19 f173_6 (by decide +kernel) rfl (by decide +kernel) ?_
                  refine zw_aload_n 10 f173_9 rfl rfl ?_
                  refine zw_getfield 13 f173_10 rfl g173_74_12 (hb_52 _ _ _ _) rfl ?_
                  refine zw_aload_n 14 f173_13 rfl rfl ?_
                  refine zw_getI 3 17 f173_14 rfl g173_246_12 (hb_52 _ _ _ _) rfl rfl ?_
                  refine zw_iload_n 18 f173_17 rfl rfl ?_
                  refine zw_ast 3 _ 19 f173_18 rfl (hb_71 _ _ _ _) (by decide +kernel) (by decide +kernel) (by decide +kernel) (ha_71 _ _ _ _ _) ?_
                  refine zw_aload_n 20 f173_19 rfl rfl ?_
                  refine zw_dup 21 f173_20 rfl rfl ?_
                  refine zw_getI 3 24 f173_21 rfl g173_246_12 (hb_52 _ _ _ _) rfl rfl ?_
                  refine zw_iconst 1 25 f173_24 rfl (by decide +kernel) ?_
                  refine zw_iadd 4 26 f173_25 rfl (by decide +kernel) ?_
                  refine zw_put _ 29 f173_26 rfl g173_246_12 (hb_52 _ _ _ _) rfl (Nat.le_of_ble_eq_true rfl) (by decide +kernel) (hi_52_29 _ _ _ _ _) ?_
                  refine zw_vreturn f173_29 r173 u173 ⟨rfl, ?_⟩
                  refine zw_iload_n 37 f178_36 rfl rfl ?_
                  refine zw_aload_n 38 f178_37 rfl rfl ?_
                  refine zw_getfield 41 f178_38 rfl g178_13_12 (hb_52 _ _ _ _) rfl ?_
                  refine zw_iload_n 42 f178_41 rfl rfl ?_
                  refine zw_iaload a.toNatClampNeg (P 54 a.toNatClampNeg) 43 f178_42 rfl (hb_54 _ _ _ _) rfl hc1 (zix (by decide) hc1 (show ¬ 8 ≤ a from ix_le hp.1 (by decide) (by decide) hc1 hc2)) (congrFun ((hR.2.1 54 (by omega) (by omega))) a.toNatClampNeg) ?_
                  refine zw_ixor (c ^^^ (P 54 a.toNatClampNeg)) 44 f178_43 rfl rfl ?_
                  refine zw_aload_n 45 f178_44 rfl rfl ?_
                  refine zw_iload_n 46 f178_45 rfl rfl ?_
                  refine zw_virtual_i 49 0 0 [.ref 52, .int a] [(0, .ref 52), (1, .int a)] f178_46 rfl n178_158 k178_158_12 rfl (hb_52 _ _ _ _) (by decide +kernel) (Nat.le_of_ble_eq_true rfl) rfl rfl (by decide +kernel) (by decide +kernel) rfl (Nat.le_of_ble_eq_true rfl) rfl ?_
                  refine zw_aload_n 1 f126_0 rfl rfl ?_
                  refine zw_getfield 4 f126_1 rfl g126_7_12 (hb_52 _ _ _ _) rfl ?_
                  refine zw_iload_n 5 f126_4 rfl rfl ?_
                  refine zw_iaload a.toNatClampNeg 0 6 f126_5 rfl (hb_53 _ _ _ _) rfl hc1 (zix (by decide) hc1 (show ¬ 8 ≤ a from ix_le hp.1 (by decide) (by decide) hc1 hc2)) ((congrFun (hR.2.1 53 (by omega) (by omega)) a.toNatClampNeg).trans hk) ?_
                  refine zw_iconst 3 7 f126_6 rfl (by decide +kernel) ?_
                  refine zw_ic_eq_f 10 20 f126_7 (by decide +kernel) rfl (by decide +kernel) ?_
                  refine zw_aload_n 11 f126_10 rfl rfl ?_
                  refine zw_getfield 14 f126_11 rfl g126_7_12 (hb_52 _ _ _ _) rfl ?_
                  refine zw_iload_n 15 f126_14 rfl rfl ?_
                  refine zw_iaload a.toNatClampNeg 0 16 f126_15 rfl (hb_53 _ _ _ _) rfl hc1 (zix (by decide) hc1 (show ¬ 8 ≤ a from ix_le hp.1 (by decide) (by decide) hc1 hc2)) ((congrFun (hR.2.1 53 (by omega) (by omega)) a.toNatClampNeg).trans hk) ?_
                  refine zw_iconst 4 17 f126_16 rfl (by decide +kernel) ?_
                  refine zw_ic_ne_t 24 f126_17 (by decide +kernel) (by decide +kernel) ?_
                  refine zw_iconst 0 25 f126_24 rfl (by decide +kernel) ?_
                  refine zw_zreturn f126_25 r126 u126 (by decide +kernel) ⟨_, rfl, ?_⟩
                  refine zw_if_eq_t 61 f178_49 (by decide +kernel) (by decide +kernel) ?_
                  refine zw_iconst 0 62 f178_61 rfl (by decide +kernel) ?_
                  refine zw_iadd ((c ^^^ (P 54 a.toNatClampNeg)) + 0) 63 f178_62 rfl rfl ?_
                  refine zw_aload_n 64 f178_63 rfl rfl ?_
                  refine zw_getfield 67 f178_64 rfl g178_7_12 (hb_52 _ _ _ _) rfl ?_
                  refine zw_iload_n 68 f178_67 rfl rfl ?_
                  refine zw_iaload a.toNatClampNeg 0 69 f178_68 rfl (hb_53 _ _ _ _) rfl hc1 (zix (by decide) hc1 (show ¬ 8 ≤ a from ix_le hp.1 (by decide) (by decide) hc1 hc2)) ((congrFun (hR.2.1 53 (by omega) (by omega)) a.toNatClampNeg).trans hk) ?_
                  refine zw_iconst 4 70 f178_69 rfl (by decide +kernel) ?_
                  refine zw_ic_ne_t 82 f178_70 (by decide +kernel) (by decide +kernel) ?_
                  refine zw_iconst 0 83 f178_82 rfl (by decide +kernel) ?_
                  refine zw_iadd (((c ^^^ (P 54 a.toNatClampNeg)) + 0) + 0) 84 f178_83 rfl rfl ?_
                  refine zw_ireturn f178_84 r178 u178 ⟨_, rfl, ?_⟩
                  refine zw_isub (((c + (P 54 a.toNatClampNeg)) * 3) - (((c ^^^ (P 54 a.toNatClampNeg)) + 0) + 0)) 45 f179_44 rfl rfl ?_
                  refine zw_ireturn f179_45 r179 u179 ⟨_, rfl, ?_⟩
                  refine zw_virtual_i 79 0 0 [.ref 52, .int (((c + (P 54 a.toNatClampNeg)) * 3) - (((c ^^^ (P 54 a.toNatClampNeg)) + 0) + 0))] [(0, .ref 52), (1, .int (((c + (P 54 a.toNatClampNeg)) * 3) - (((c ^^^ (P 54 a.toNatClampNeg)) + 0) + 0)))] f180_76 rfl n180_205 k180_205_12 rfl (hb_52 _ _ _ _) (by decide +kernel) (Nat.le_of_ble_eq_true rfl) rfl rfl (by decide +kernel) (by decide +kernel) rfl (Nat.le_of_ble_eq_true rfl) rfl ?_
                  refine zw_aload_n 1 f122_0 rfl rfl ?_
                  refine zw_iconst 0 2 f122_1 rfl (by decide +kernel) ?_
                  refine zw_put _ 5 f122_2 rfl g122_111_12 (hb_52 _ _ _ _) rfl (Nat.le_of_ble_eq_true rfl) (by decide +kernel) (hi_52_27 _ _ _ _ _) ?_
                  refine zw_iload_n 6 f122_5 rfl rfl ?_
                  refine zw_ireturn f122_6 r122 u122 ⟨_, rfl, ?_⟩
                  refine zw_ireturn f180_79 r180 u180 ?_
                  exact ⟨_, _, _, _, rfl, (KQ.i rfl (KQ.i rfl (KQ.a rfl (KQ.i rfl (KQ.a rfl (KQ.i rfl (KQ.a rfl (KQ.i rfl (KQ.a rfl (KQ.i rfl KQ.rf)))))))))), ⟨hi.1, hi.2.1, 4, by omega, (show _ = nI 4 from rfl)⟩, by rw [show an_act nv P W a b c = (((c + (P 54 a.toNatClampNeg)) * 3) - (((c ^^^ (P 54 a.toNatClampNeg)) + 0) + 0)) from ((cI_y ⟨(qV.of (by omega) hc1 hc2), ⟨hc3, hc4⟩⟩).trans ((cI_n hc5).trans ((cI_n hc6).trans ((cI_n hc7).trans ((cI_y hk).trans (by simp only [Int32.add_zero]))))))]⟩
                · refine zw_iaload a.toNatClampNeg 1 8 f179_7 rfl (hb_53 _ _ _ _) rfl hc1 (zix (by decide) hc1 (show ¬ 8 ≤ a from ix_le hp.1 (by decide) (by decide) hc1 hc2)) ((congrFun (hR.2.1 53 (by omega) (by omega)) a.toNatClampNeg).trans hk) ?_
                  refine zw_iconst 1 9 f179_8 rfl (by decide +kernel) ?_
                  refine zw_ic_ne_f 12 22 f179_9 (by decide +kernel) rfl (by decide +kernel) ?_
                  refine zw_aload_n 13 f179_12 rfl (zl1_ne rfl rfl rfl) ?_
                  refine zw_bipush 21 15 f179_13 rfl (by decide +kernel) ?_
                  refine zw_virtual_v 18 0 0 [.ref 52, .int 21] [(0, .ref 52), (1, .int 21)] f179_15 rfl n179_291 k179_291_12 rfl (hb_52 _ _ _ _) (by decide +kernel) (Nat.le_of_ble_eq_true rfl) rfl rfl (by decide +kernel) (by decide +kernel) rfl (Nat.le_of_ble_eq_true rfl) rfl ?_
                  refine zw_aload_n 1 f173_0 rfl rfl ?_
                  refine zw_getI 0 4 f173_1 rfl g173_246_12 (hb_52 _ _ _ _) rfl rfl ?_
                  refine zw_bipush 50 6 f173_4 rfl (by decide +kernel) ?_
                  refine zw_ic_ge_f 9 19 f173_6 (by decide +kernel) rfl (by decide +kernel) ?_
                  refine zw_aload_n 10 f173_9 rfl rfl ?_
                  refine zw_getfield 13 f173_10 rfl g173_74_12 (hb_52 _ _ _ _) rfl ?_
                  refine zw_aload_n 14 f173_13 rfl rfl ?_
                  refine zw_getI 0 17 f173_14 rfl g173_246_12 (hb_52 _ _ _ _) rfl rfl ?_
                  refine zw_iload_n 18 f173_17 rfl rfl ?_
                  refine zw_ast 0 _ 19 f173_18 rfl (hb_71 _ _ _ _) (by decide +kernel) (by decide +kernel) (by decide +kernel) (ha_71 _ _ _ _ _) ?_
                  refine zw_aload_n 20 f173_19 rfl rfl ?_
                  refine zw_dup 21 f173_20 rfl rfl ?_
                  refine zw_getI 0 24 f173_21 rfl g173_246_12 (hb_52 _ _ _ _) rfl rfl ?_
                  refine zw_iconst 1 25 f173_24 rfl (by decide +kernel) ?_
                  refine zw_iadd 1 26 f173_25 rfl (by decide +kernel) ?_
                  refine zw_put _ 29 f173_26 rfl g173_246_12 (hb_52 _ _ _ _) rfl (Nat.le_of_ble_eq_true rfl) (by decide +kernel) (hi_52_29 _ _ _ _ _) ?_
                  refine zw_vreturn f173_29 r173 u173 ⟨rfl, ?_⟩
                  refine zw_iload_n 19 f179_18 rfl (zl1_ne rfl rfl rfl) ?_
                  refine zw_iconst 2 20 f179_19 rfl (by decide +kernel) ?_
                  refine zw_imul (c * 2) 21 f179_20 rfl rfl ?_
                  refine zw_istore_n _ 22 f179_21 rfl (by decide +kernel) rfl ?_
                  refine zw_aload_n 23 f179_22 rfl (zl1_ne rfl rfl (zl1_ne rfl rfl rfl)) ?_
                  refine zw_bipush 13 25 f179_23 rfl (by decide +kernel) ?_
                  refine zw_virtual_v 28 0 0 [.ref 52, .int 13] [(0, .ref 52), (1, .int 13)] f179_25 rfl n179_291 k179_291_12 rfl (hb_52 _ _ _ _) (by decide +kernel) (Nat.le_of_ble_eq_true rfl) rfl rfl (by decide +kernel) (by decide +kernel) rfl (Nat.le_of_ble_eq_true rfl) rfl ?_
                  refine zw_aload_n 1 f173_0 rfl rfl ?_
                  refine zw_getI 1 4 f173_1 rfl g173_246_12 (hb_52 _ _ _ _) rfl rfl ?_
                  refine zw_bipush 50 6 f173_4 rfl (by decide +kernel) ?_
                  refine zw_ic_ge_f 9 19 f173_6 (by decide +kernel) rfl (by decide +kernel) ?_
                  refine zw_aload_n 10 f173_9 rfl rfl ?_
                  refine zw_getfield 13 f173_10 rfl g173_74_12 (hb_52 _ _ _ _) rfl ?_
                  refine zw_aload_n 14 f173_13 rfl rfl ?_
                  refine zw_getI 1 17 f173_14 rfl g173_246_12 (hb_52 _ _ _ _) rfl rfl ?_
                  refine zw_iload_n 18 f173_17 rfl rfl ?_
                  refine zw_ast 1 _ 19 f173_18 rfl (hb_71 _ _ _ _) (by decide +kernel) (by decide +kernel) (by decide +kernel) (ha_71 _ _ _ _ _) ?_
                  refine zw_aload_n 20 f173_19 rfl rfl ?_
                  refine zw_dup 21 f173_20 rfl rfl ?_
                  refine zw_getI 1 24 f173_21 rfl g173_246_12 (hb_52 _ _ _ _) rfl rfl ?_
                  refine zw_iconst 1 25 f173_24 rfl (by decide +kernel) ?_
                  refine zw_iadd 2 26 f173_25 rfl (by decide +kernel) ?_
                  refine zw_put _ 29 f173_26 rfl g173_246_12 (hb_52 _ _ _ _) rfl (Nat.le_of_ble_eq_true rfl) (by decide +kernel) (hi_52_29 _ _ _ _ _) ?_
                  refine zw_vreturn f173_29 r173 u173 ⟨rfl, ?_⟩
                  refine zw_aload_n 29 f179_28 rfl (zl1_ne rfl rfl (zl1_ne rfl rfl rfl)) ?_
                  refine zw_iload_n 30 f179_29 rfl (zl1_ne rfl rfl (zl1_ne rfl rfl rfl)) ?_
                  refine zw_iload_n 31 f179_30 rfl zl1_eq ?_
                  refine zw_virtual_i 34 0 0 [.ref 52, .int a, .int (c * 2)] [(0, .ref 52), (1, .int a), (2, .int (c * 2))] f179_31 rfl n179_304 k179_304_12 rfl (hb_52 _ _ _ _) (by decide +kernel) (Nat.le_of_ble_eq_true rfl) rfl rfl (by decide +kernel) (by decide +kernel) rfl (Nat.le_of_ble_eq_true rfl) rfl ?_
                  refine zw_aload_n 1 f177_0 rfl rfl ?_
                  refine zw_getfield 4 f177_1 rfl g177_7_12 (hb_52 _ _ _ _) rfl ?_
                  refine zw_iload_n 5 f177_4 rfl rfl ?_
                  refine zw_iaload a.toNatClampNeg 1 6 f177_5 rfl (hb_53 _ _ _ _) rfl hc1 (zix (by decide) hc1 (show ¬ 8 ≤ a from ix_le hp.1 (by decide) (by decide) hc1 hc2)) ((congrFun (hR.2.1 53 (by omega) (by omega)) a.toNatClampNeg).trans hk) ?_
                  refine zw_iconst 1 7 f177_6 rfl (by decide +kernel) ?_
                  refine zw_ic_ne_f 10 30 f177_7 (by decide +kernel) rfl (by decide +kernel) ?_
                  refine zw_aload_n 11 f177_10 rfl rfl ?_
                  refine zw_bipush 20 13 f177_11 rfl (by decide +kernel) ?_
                  refine zw_virtual_v 16 0 0 [.ref 52, .int 20] [(0, .ref 52), (1, .int 20)] f177_13 rfl n177_291 k177_291_12 rfl (hb_52 _ _ _ _) (by decide +kernel) (Nat.le_of_ble_eq_true rfl) rfl rfl (by decide +kernel) (by decide +kernel) rfl (Nat.le_of_ble_eq_true rfl) rfl ?_
                  refine zw_aload_n 1 f173_0 rfl rfl ?_
                  refine zw_getI 2 4 f173_1 rfl g173_246_12 (hb_52 _ _ _ _) rfl rfl ?_
                  refine zw_bipush 50 6 f173_4 rfl (by decide +kernel) ?_
                  refine zw_ic_ge_f 9 19 f173_6 (by decide +kernel) rfl (by decide +kernel) ?_
                  refine zw_aload_n 10 f173_9 rfl rfl ?_
                  refine zw_getfield 13 f173_10 rfl g173_74_12 (hb_52 _ _ _ _) rfl ?_
                  refine zw_aload_n 14 f173_13 rfl rfl ?_
                  refine zw_getI 2 17 f173_14 rfl g173_246_12 (hb_52 _ _ _ _) rfl rfl ?_
                  refine zw_iload_n 18 f173_17 rfl rfl ?_
                  refine zw_ast 2 _ 19 f173_18 rfl (hb_71 _ _ _ _) (by decide +kernel) (by decide +kernel) (by decide +kernel) (ha_71 _ _ _ _ _) ?_
                  refine zw_aload_n 20 f173_19 rfl rfl ?_
                  refine zw_dup 21 f173_20 rfl rfl ?_
                  refine zw_getI 2 24 f173_21 rfl g173_246_12 (hb_52 _ _ _ _) rfl rfl ?_
                  refine zw_iconst 1 25 f173_24 rfl (by decide +kernel) ?_
                  refine zw_iadd 3 26 f173_25 rfl (by decide +kernel) ?_
                  refine zw_put _ 29 f173_26 rfl g173_246_12 (hb_52 _ _ _ _) rfl (Nat.le_of_ble_eq_true rfl) (by decide +kernel) (hi_52_29 _ _ _ _ _) ?_
                  refine zw_vreturn f173_29 r173 u173 ⟨rfl, ?_⟩
                  refine zw_aload_n 17 f177_16 rfl rfl ?_
                  refine zw_iload_n 18 f177_17 rfl rfl ?_
                  refine zw_iload_n 19 f177_18 rfl rfl ?_
                  refine zw_virtual_i 22 0 0 [.ref 52, .int a, .int (c * 2)] [(0, .ref 52), (1, .int a), (2, .int (c * 2))] f177_19 rfl n177_301 k177_301_12 rfl (hb_52 _ _ _ _) (by decide +kernel) (Nat.le_of_ble_eq_true rfl) rfl rfl (by decide +kernel) (by decide +kernel) rfl (Nat.le_of_ble_eq_true rfl) rfl ?_
                  refine zw_aload_n 1 f176_0 rfl rfl ?_
                  refine zw_bipush 11 3 f176_1 rfl (by decide +kernel) ?_
                  refine zw_virtual_v 6 0 0 [.ref 52, .int 11] [(0, .ref 52), (1, .int 11)] f176_3 rfl n176_291 k176_291_12 rfl (hb_52 _ _ _ _) (by decide +kernel) (Nat.le_of_ble_eq_true rfl) rfl rfl (by decide +kernel) (by decide +kernel) rfl (Nat.le_of_ble_eq_true rfl) rfl ?_
                  refine zw_aload_n 1 f173_0 rfl rfl ?_
                  refine zw_getI 3 4 f173_1 rfl g173_246_12 (hb_52 _ _ _ _) rfl rfl ?_
                  refine zw_bipush 50 6 f173_4 rfl (by decide +kernel) ?_
                  refine zw_ic_ge_f 9 19 f173_6 (by decide +kernel) rfl (by decide +kernel) ?_
                  refine zw_aload_n 10 f173_9 rfl rfl ?_
                  refine zw_getfield 13 f173_10 rfl g173_74_12 (hb_52 _ _ _ _) rfl ?_
                  refine zw_aload_n 14 f173_13 rfl rfl ?_
                  refine zw_getI 3 17 f173_14 rfl g173_246_12 (hb_52 _ _ _ _) rfl rfl ?_
                  refine zw_iload_n 18 f173_17 rfl rfl ?_
                  refine zw_ast 3 _ 19 f173_18 rfl (hb_71 _ _ _ _) (by decide +kernel) (by decide +kernel) (by decide +kernel) (ha_71 _ _ _ _ _) ?_
                  refine zw_aload_n 20 f173_19 rfl rfl ?_
                  refine zw_dup 21 f173_20 rfl rfl ?_
                  refine zw_getI 3 24 f173_21 rfl g173_246_12 (hb_52 _ _ _ _) rfl rfl ?_
                  refine zw_iconst 1 25 f173_24 rfl (by decide +kernel) ?_
                  refine zw_iadd 4 26 f173_25 rfl (by decide +kernel) ?_
                  refine zw_put _ 29 f173_26 rfl g173_246_12 (hb_52 _ _ _ _) rfl (Nat.le_of_ble_eq_true rfl) (by decide +kernel) (hi_52_29 _ _ _ _ _) ?_
                  refine zw_vreturn f173_29 r173 u173 ⟨rfl, ?_⟩
                  refine zw_aload_n 7 f176_6 rfl rfl ?_
                  refine zw_iload_n 8 f176_7 rfl rfl ?_
                  refine zw_iload_n 9 f176_8 rfl rfl ?_
                  refine zw_virtual_i 12 0 0 [.ref 52, .int a, .int (c * 2)] [(0, .ref 52), (1, .int a), (2, .int (c * 2))] f176_9 rfl n176_298 k176_298_12 rfl (hb_52 _ _ _ _) (by decide +kernel) (Nat.le_of_ble_eq_true rfl) rfl rfl (by decide +kernel) (by decide +kernel) rfl (Nat.le_of_ble_eq_true rfl) rfl ?_
                  refine zw_aload_n 1 f175_0 rfl rfl ?_
                  refine zw_getfield 4 f175_1 rfl g175_7_12 (hb_52 _ _ _ _) rfl ?_
                  refine zw_iload_n 5 f175_4 rfl rfl ?_
                  refine zw_iaload a.toNatClampNeg 1 6 f175_5 rfl (hb_53 _ _ _ _) rfl hc1 (zix (by decide) hc1 (show ¬ 8 ≤ a from ix_le hp.1 (by decide) (by decide) hc1 hc2)) ((congrFun (hR.2.1 53 (by omega) (by omega)) a.toNatClampNeg).trans hk) ?_
                  refine zw_iconst 2 7 f175_6 rfl (by decide +kernel) ?_
                  refine zw_ic_ne_t 25 f175_7 (by decide +kernel) (by decide +kernel) ?_
                  refine zw_aload_n 26 f175_25 rfl rfl ?_
                  refine zw_iload_n 27 f175_26 rfl rfl ?_
                  refine zw_virtual_i 30 0 0 [.ref 52, .int a] [(0, .ref 52), (1, .int a)] f175_27 rfl n175_158 k175_158_12 rfl (hb_52 _ _ _ _) (by decide +kernel) (Nat.le_of_ble_eq_true rfl) rfl rfl (by decide +kernel) (by decide +kernel) rfl (Nat.le_of_ble_eq_true rfl) rfl ?_
                  refine zw_aload_n 1 f126_0 rfl rfl ?_
                  refine zw_getfield 4 f126_1 rfl g126_7_12 (hb_52 _ _ _ _) rfl ?_
                  refine zw_iload_n 5 f126_4 rfl rfl ?_
                  refine zw_iaload a.toNatClampNeg 1 6 f126_5 rfl (hb_53 _ _ _ _) rfl hc1 (zix (by decide) hc1 (show ¬ 8 ≤ a from ix_le hp.1 (by decide) (by decide) hc1 hc2)) ((congrFun (hR.2.1 53 (by omega) (by omega)) a.toNatClampNeg).trans hk) ?_
                  refine zw_iconst 3 7 f126_6 rfl (by decide +kernel) ?_
                  refine zw_ic_eq_f 10 20 f126_7 (by decide +kernel) rfl (by decide +kernel) ?_
                  refine zw_aload_n 11 f126_10 rfl rfl ?_
                  refine zw_getfield 14 f126_11 rfl g126_7_12 (hb_52 _ _ _ _) rfl ?_
                  refine zw_iload_n 15 f126_14 rfl rfl ?_
                  refine zw_iaload a.toNatClampNeg 1 16 f126_15 rfl (hb_53 _ _ _ _) rfl hc1 (zix (by decide) hc1 (show ¬ 8 ≤ a from ix_le hp.1 (by decide) (by decide) hc1 hc2)) ((congrFun (hR.2.1 53 (by omega) (by omega)) a.toNatClampNeg).trans hk) ?_
                  refine zw_iconst 4 17 f126_16 rfl (by decide +kernel) ?_
                  refine zw_ic_ne_t 24 f126_17 (by decide +kernel) (by decide +kernel) ?_
                  refine zw_iconst 0 25 f126_24 rfl (by decide +kernel) ?_
                  refine zw_zreturn f126_25 r126 u126 (by decide +kernel) ⟨_, rfl, ?_⟩
                  refine zw_if_eq_t 53 f175_30 (by decide +kernel) (by decide +kernel) ?_
                  refine zw_aload_n 54 f175_53 rfl rfl ?_
                  refine zw_iload_n 55 f175_54 rfl rfl ?_
                  refine zw_iload_n 56 f175_55 rfl rfl ?_
                  refine zw_virtual_i 59 0 0 [.ref 52, .int a, .int (c * 2)] [(0, .ref 52), (1, .int a), (2, .int (c * 2))] f175_56 rfl n175_294 k175_294_12 rfl (hb_52 _ _ _ _) (by decide +kernel) (Nat.le_of_ble_eq_true rfl) rfl rfl (by decide +kernel) (by decide +kernel) rfl (Nat.le_of_ble_eq_true rfl) rfl ?_
                  refine zw_aload_n 1 f174_0 rfl rfl ?_
                  refine zw_bipush 10 3 f174_1 rfl (by decide +kernel) ?_
                  refine zw_virtual_v 6 0 0 [.ref 52, .int 10] [(0, .ref 52), (1, .int 10)] f174_3 rfl n174_291 k174_291_12 rfl (hb_52 _ _ _ _) (by decide +kernel) (Nat.le_of_ble_eq_true rfl) rfl rfl (by decide +kernel) (by decide +kernel) rfl (Nat.le_of_ble_eq_true rfl) rfl ?_
                  refine zw_aload_n 1 f173_0 rfl rfl ?_
                  refine zw_getI 4 4 f173_1 rfl g173_246_12 (hb_52 _ _ _ _) rfl rfl ?_
                  refine zw_bipush 50 6 f173_4 rfl (by decide +kernel) ?_
                  refine zw_ic_ge_f 9 19 f173_6 (by decide +kernel) rfl (by decide +kernel) ?_
                  refine zw_aload_n 10 f173_9 rfl rfl ?_
                  refine zw_getfield 13 f173_10 rfl g173_74_12 (hb_52 _ _ _ _) rfl ?_
                  refine zw_aload_n 14 f173_13 rfl rfl ?_
                  refine zw_getI 4 17 f173_14 rfl g173_246_12 (hb_52 _ _ _ _) rfl rfl ?_
                  refine zw_iload_n 18 f173_17 rfl rfl ?_
                  refine zw_ast 4 _ 19 f173_18 rfl (hb_71 _ _ _ _) (by decide +kernel) (by decide +kernel) (by decide +kernel) (ha_71 _ _ _ _ _) ?_
                  refine zw_aload_n 20 f173_19 rfl rfl ?_
                  refine zw_dup 21 f173_20 rfl rfl ?_
                  refine zw_getI 4 24 f173_21 rfl g173_246_12 (hb_52 _ _ _ _) rfl rfl ?_
                  refine zw_iconst 1 25 f173_24 rfl (by decide +kernel) ?_
                  refine zw_iadd 5 26 f173_25 rfl (by decide +kernel) ?_
                  refine zw_put _ 29 f173_26 rfl g173_246_12 (hb_52 _ _ _ _) rfl (Nat.le_of_ble_eq_true rfl) (by decide +kernel) (hi_52_29 _ _ _ _ _) ?_
                  refine zw_vreturn f173_29 r173 u173 ⟨rfl, ?_⟩
                  refine zw_iload_n 7 f174_6 rfl rfl ?_
                  refine zw_aload_n 8 f174_7 rfl rfl ?_
                  refine zw_getfield 11 f174_8 rfl g174_13_12 (hb_52 _ _ _ _) rfl ?_
                  refine zw_iload_n 12 f174_11 rfl rfl ?_
                  refine zw_iaload a.toNatClampNeg (P 54 a.toNatClampNeg) 13 f174_12 rfl (hb_54 _ _ _ _) rfl hc1 (zix (by decide) hc1 (show ¬ 8 ≤ a from ix_le hp.1 (by decide) (by decide) hc1 hc2)) (congrFun ((hR.2.1 54 (by omega) (by omega))) a.toNatClampNeg) ?_
                  refine zw_iadd ((c * 2) + (P 54 a.toNatClampNeg)) 14 f174_13 rfl rfl ?_
                  refine zw_ireturn f174_14 r174 u174 ⟨_, rfl, ?_⟩
                  refine zw_ireturn f175_59 r175 u175 ⟨_, rfl, ?_⟩
                  refine zw_iconst 3 13 f176_12 rfl (by decide +kernel) ?_
                  refine zw_imul (((c * 2) + (P 54 a.toNatClampNeg)) * 3) 14 f176_13 rfl rfl ?_
                  refine zw_ireturn f176_14 r176 u176 ⟨_, rfl, ?_⟩
                  refine zw_aload_n 23 f177_22 rfl rfl ?_
                  refine zw_getfield 26 f177_23 rfl g177_16_12 (hb_52 _ _ _ _) rfl ?_
                  refine zw_iload_n 27 f177_26 rfl rfl ?_
                  refine zw_iaload a.toNatClampNeg (P 55 a.toNatClampNeg) 28 f177_27 rfl (hb_55 _ _ _ _) rfl hc1 (zix (by decide) hc1 (show ¬ 8 ≤ a from ix_le hp.1 (by decide) (by decide) hc1 hc2)) (congrFun ((hR.2.1 55 (by omega) (by omega))) a.toNatClampNeg) ?_
                  refine zw_iadd ((((c * 2) + (P 54 a.toNatClampNeg)) * 3) + (P 55 a.toNatClampNeg)) 29 f177_28 rfl rfl ?_
                  refine zw_ireturn f177_29 r177 u177 ⟨_, rfl, ?_⟩
                  refine zw_istore _ 36 f179_34 rfl (by decide +kernel) rfl ?_
                  refine zw_iload 38 f179_36 rfl zl1_eq ?_
                  refine zw_aload_n 39 f179_38 rfl (zl1_ne rfl rfl (zl1_ne rfl rfl (zl1_ne rfl rfl rfl))) ?_
                  refine zw_iload_n 40 f179_39 rfl (zl1_ne rfl rfl (zl1_ne rfl rfl (zl1_ne rfl rfl rfl))) ?_
                  refine zw_iload_n 41 f179_40 rfl (zl1_ne rfl rfl zl1_eq) ?_
                  refine zw_virtual_i 44 0 0 [.ref 52, .int a, .int (c * 2)] [(0, .ref 52), (1, .int a), (2, .int (c * 2))] f179_41 rfl n179_307 k179_307_12 rfl (hb_52 _ _ _ _) (by decide +kernel) (Nat.le_of_ble_eq_true rfl) rfl rfl (by decide +kernel) (by decide +kernel) rfl (Nat.le_of_ble_eq_true rfl) rfl ?_
                  refine zw_aload_n 1 f178_0 rfl rfl ?_
                  refine zw_getfield 4 f178_1 rfl g178_7_12 (hb_52 _ _ _ _) rfl ?_
                  refine zw_iload_n 5 f178_4 rfl rfl ?_
                  refine zw_iaload a.toNatClampNeg 1 6 f178_5 rfl (hb_53 _ _ _ _) rfl hc1 (zix (by decide) hc1 (show ¬ 8 ≤ a from ix_le hp.1 (by decide) (by decide) hc1 hc2)) ((congrFun (hR.2.1 53 (by omega) (by omega)) a.toNatClampNeg).trans hk) ?_
                  refine zw_iconst 4 7 f178_6 rfl (by decide +kernel) ?_
                  refine zw_ic_ne_t 16 f178_7 (by decide +kernel) (by decide +kernel) ?_
                  refine zw_aload_n 17 f178_16 rfl rfl ?_
                  refine zw_iload_n 18 f178_17 rfl rfl ?_
                  refine zw_virtual_i 21 0 0 [.ref 52, .int a] [(0, .ref 52), (1, .int a)] f178_18 rfl n178_158 k178_158_12 rfl (hb_52 _ _ _ _) (by decide +kernel) (Nat.le_of_ble_eq_true rfl) rfl rfl (by decide +kernel) (by decide +kernel) rfl (Nat.le_of_ble_eq_true rfl) rfl ?_
                  refine zw_aload_n 1 f126_0 rfl rfl ?_
                  refine zw_getfield 4 f126_1 rfl g126_7_12 (hb_52 _ _ _ _) rfl ?_
                  refine zw_iload_n 5 f126_4 rfl rfl ?_
                  refine zw_iaload a.toNatClampNeg 1 6 f126_5 rfl (hb_53 _ _ _ _) rfl hc1 (zix (by decide) hc1 (show ¬ 8 ≤ a from ix_le hp.1 (by decide) (by decide) hc1 hc2)) ((congrFun (hR.2.1 53 (by omega) (by omega)) a.toNatClampNeg).trans hk) ?_
                  refine zw_iconst 3 7 f126_6 rfl (by decide +kernel) ?_
                  refine zw_ic_eq_f 10 20 f126_7 (by decide +kernel) rfl (by decide +kernel) ?_
                  refine zw_aload_n 11 f126_10 rfl rfl ?_
                  refine zw_getfield 14 f126_11 rfl g126_7_12 (hb_52 _ _ _ _) rfl ?_
                  refine zw_iload_n 15 f126_14 rfl rfl ?_
                  refine zw_iaload a.toNatClampNeg 1 16 f126_15 rfl (hb_53 _ _ _ _) rfl hc1 (zix (by decide) hc1 (show ¬ 8 ≤ a from ix_le hp.1 (by decide) (by decide) hc1 hc2)) ((congrFun (hR.2.1 53 (by omega) (by omega)) a.toNatClampNeg).trans hk) ?_
                  refine zw_iconst 4 17 f126_16 rfl (by decide +kernel) ?_
                  refine zw_ic_ne_t 24 f126_17 (by decide +kernel) (by decide +kernel) ?_
                  refine zw_iconst 0 25 f126_24 rfl (by decide +kernel) ?_
                  refine zw_zreturn f126_25 r126 u126 (by decide +kernel) ⟨_, rfl, ?_⟩
                  refine zw_if_eq_t 30 f178_21 (by decide +kernel) (by decide +kernel) ?_
                  refine zw_aload_n 31 f178_30 rfl rfl ?_
                  refine zw_bipush 12 33 f178_31 rfl (by decide +kernel) ?_
                  refine zw_virtual_v 36 0 0 [.ref 52, .int 12] [(0, .ref 52), (1, .int 12)] f178_33 rfl n178_291 k178_291_12 rfl (hb_52 _ _ _ _) (by decide +kernel) (Nat.le_of_ble_eq_true rfl) rfl rfl (by decide +kernel) (by decide +kernel) rfl (Nat.le_of_ble_eq_true rfl) rfl ?_
                  refine zw_aload_n 1 f173_0 rfl rfl ?_
                  refine zw_getI 5 4 f173_1 rfl g173_246_12 (hb_52 _ _ _ _) rfl rfl ?_
                  refine zw_bipush 50 6 f173_4 rfl (by decide +kernel) ?_
                  refine zw_ic_ge_f 9 19 f173_6 (by decide +kernel) rfl (by decide +kernel) ?_
                  refine zw_aload_n 10 f173_9 rfl rfl ?_
                  refine zw_getfield 13 f173_10 rfl g173_74_12 (hb_52 _ _ _ _) rfl ?_
                  refine zw_aload_n 14 f173_13 rfl rfl ?_
                  refine zw_getI 5 17 f173_14 rfl g173_246_12 (hb_52 _ _ _ _) rfl rfl ?_
                  refine zw_iload_n 18 f173_17 rfl rfl ?_
                  refine zw_ast 5 _ 19 f173_18 rfl (hb_71 _ _ _ _) (by decide +kernel) (by decide +kernel) (by decide +kernel) (ha_71 _ _ _ _ _) ?_
                  refine zw_aload_n 20 f173_19 rfl rfl ?_
                  refine zw_dup 21 f173_20 rfl rfl ?_
                  refine zw_getI 5 24 f173_21 rfl g173_246_12 (hb_52 _ _ _ _) rfl rfl ?_
                  refine zw_iconst 1 25 f173_24 rfl (by decide +kernel) ?_
                  refine zw_iadd 6 26 f173_25 rfl (by decide +kernel) ?_
                  refine zw_put _ 29 f173_26 rfl g173_246_12 (hb_52 _ _ _ _) rfl (Nat.le_of_ble_eq_true rfl) (by decide +kernel) (hi_52_29 _ _ _ _ _) ?_
                  refine zw_vreturn f173_29 r173 u173 ⟨rfl, ?_⟩
                  refine zw_iload_n 37 f178_36 rfl rfl ?_
                  refine zw_aload_n 38 f178_37 rfl rfl ?_
                  refine zw_getfield 41 f178_38 rfl g178_13_12 (hb_52 _ _ _ _) rfl ?_
                  refine zw_iload_n 42 f178_41 rfl rfl ?_
                  refine zw_iaload a.toNatClampNeg (P 54 a.toNatClampNeg) 43 f178_42 rfl (hb_54 _ _ _ _) rfl hc1 (zix (by decide) hc1 (show ¬ 8 ≤ a from ix_le hp.1 (by decide) (by decide) hc1 hc2)) (congrFun ((hR.2.1 54 (by omega) (by omega))) a.toNatClampNeg) ?_
                  refine zw_ixor ((c * 2) ^^^ (P 54 a.toNatClampNeg)) 44 f178_43 rfl rfl ?_
                  refine zw_aload_n 45 f178_44 rfl rfl ?_
                  refine zw_iload_n 46 f178_45 rfl rfl ?_
                  refine zw_virtual_i 49 0 0 [.ref 52, .int a] [(0, .ref 52), (1, .int a)] f178_46 rfl n178_158 k178_158_12 rfl (hb_52 _ _ _ _) (by decide +kernel) (Nat.le_of_ble_eq_true rfl) rfl rfl (by decide +kernel) (by decide +kernel) rfl (Nat.le_of_ble_eq_true rfl) rfl ?_
                  refine zw_aload_n 1 f126_0 rfl rfl ?_
                  refine zw_getfield 4 f126_1 rfl g126_7_12 (hb_52 _ _ _ _) rfl ?_
                  refine zw_iload_n 5 f126_4 rfl rfl ?_
                  refine zw_iaload a.toNatClampNeg 1 6 f126_5 rfl (hb_53 _ _ _ _) rfl hc1 (zix (by decide) hc1 (show ¬ 8 ≤ a from ix_le hp.1 (by decide) (by decide) hc1 hc2)) ((congrFun (hR.2.1 53 (by omega) (by omega)) a.toNatClampNeg).trans hk) ?_
                  refine zw_iconst 3 7 f126_6 rfl (by decide +kernel) ?_
                  refine zw_ic_eq_f 10 20 f126_7 (by decide +kernel) rfl (by decide +kernel) ?_
                  refine zw_aload_n 11 f126_10 rfl rfl ?_
                  refine zw_getfield 14 f126_11 rfl g126_7_12 (hb_52 _ _ _ _) rfl ?_
                  refine zw_iload_n 15 f126_14 rfl rfl ?_
                  refine zw_iaload a.toNatClampNeg 1 16 f126_15 rfl (hb_53 _ _ _ _) rfl hc1 (zix (by decide) hc1 (show ¬ 8 ≤ a from ix_le hp.1 (by decide) (by decide) hc1 hc2)) ((congrFun (hR.2.1 53 (by omega) (by omega)) a.toNatClampNeg).trans hk) ?_
                  refine zw_iconst 4 17 f126_16 rfl (by decide +kernel) ?_
                  refine zw_ic_ne_t 24 f126_17 (by decide +kernel) (by decide +kernel) ?_
                  refine zw_iconst 0 25 f126_24 rfl (by decide +kernel) ?_
                  refine zw_zreturn f126_25 r126 u126 (by decide +kernel) ⟨_, rfl, ?_⟩
                  refine zw_if_eq_t 61 f178_49 (by decide +kernel) (by decide +kernel) ?_
                  refine zw_iconst 0 62 f178_61 rfl (by decide +kernel) ?_
                  refine zw_iadd (((c * 2) ^^^ (P 54 a.toNatClampNeg)) + 0) 63 f178_62 rfl rfl ?_
                  refine zw_aload_n 64 f178_63 rfl rfl ?_
                  refine zw_getfield 67 f178_64 rfl g178_7_12 (hb_52 _ _ _ _) rfl ?_
                  refine zw_iload_n 68 f178_67 rfl rfl ?_
                  refine zw_iaload a.toNatClampNeg 1 69 f178_68 rfl (hb_53 _ _ _ _) rfl hc1 (zix (by decide) hc1 (show ¬ 8 ≤ a from ix_le hp.1 (by decide) (by decide) hc1 hc2)) ((congrFun (hR.2.1 53 (by omega) (by omega)) a.toNatClampNeg).trans hk) ?_
                  refine zw_iconst 4 70 f178_69 rfl (by decide +kernel) ?_
                  refine zw_ic_ne_t 82 f178_70 (by decide +kernel) (by decide +kernel) ?_
                  refine zw_iconst 0 83 f178_82 rfl (by decide +kernel) ?_
                  refine zw_iadd ((((c * 2) ^^^ (P 54 a.toNatClampNeg)) + 0) + 0) 84 f178_83 rfl rfl ?_
                  refine zw_ireturn f178_84 r178 u178 ⟨_, rfl, ?_⟩
                  refine zw_isub (((((c * 2) + (P 54 a.toNatClampNeg)) * 3) + (P 55 a.toNatClampNeg)) - ((((c * 2) ^^^ (P 54 a.toNatClampNeg)) + 0) + 0)) 45 f179_44 rfl rfl ?_
                  refine zw_ireturn f179_45 r179 u179 ⟨_, rfl, ?_⟩
                  refine zw_virtual_i 79 0 0 [.ref 52, .int (((((c * 2) + (P 54 a.toNatClampNeg)) * 3) + (P 55 a.toNatClampNeg)) - ((((c * 2) ^^^ (P 54 a.toNatClampNeg)) + 0) + 0))] [(0, .ref 52), (1, .int (((((c * 2) + (P 54 a.toNatClampNeg)) * 3) + (P 55 a.toNatClampNeg)) - ((((c * 2) ^^^ (P 54 a.toNatClampNeg)) + 0) + 0)))] f180_76 rfl n180_205 k180_205_12 rfl (hb_52 _ _ _ _) (by decide +kernel) (Nat.le_of_ble_eq_true rfl) rfl rfl (by decide +kernel) (by decide +kernel) rfl (Nat.le_of_ble_eq_true rfl) rfl ?_
                  refine zw_aload_n 1 f122_0 rfl rfl ?_
                  refine zw_iconst 0 2 f122_1 rfl (by decide +kernel) ?_
                  refine zw_put _ 5 f122_2 rfl g122_111_12 (hb_52 _ _ _ _) rfl (Nat.le_of_ble_eq_true rfl) (by decide +kernel) (hi_52_27 _ _ _ _ _) ?_
                  refine zw_iload_n 6 f122_5 rfl rfl ?_
                  refine zw_ireturn f122_6 r122 u122 ⟨_, rfl, ?_⟩
                  refine zw_ireturn f180_79 r180 u180 ?_
                  exact ⟨_, _, _, _, rfl, (KQ.i rfl (KQ.i rfl (KQ.a rfl (KQ.i rfl (KQ.a rfl (KQ.i rfl (KQ.a rfl (KQ.i rfl (KQ.a rfl (KQ.i rfl (KQ.a rfl (KQ.i rfl (KQ.a rfl (KQ.i rfl KQ.rf)))))))))))))), ⟨hi.1, hi.2.1, 6, by omega, (show _ = nI 6 from rfl)⟩, by rw [show an_act nv P W a b c = (((((c * 2) + (P 54 a.toNatClampNeg)) * 3) + (P 55 a.toNatClampNeg)) - ((((c * 2) ^^^ (P 54 a.toNatClampNeg)) + 0) + 0)) from ((cI_y ⟨(qV.of (by omega) hc1 hc2), ⟨hc3, hc4⟩⟩).trans ((cI_n hc5).trans ((cI_n hc6).trans ((cI_n hc7).trans ((cI_n (kne hk (by decide))).trans ((cI_y hk).trans (by simp only [Int32.add_zero])))))))]⟩
                · refine zw_iaload a.toNatClampNeg 2 8 f179_7 rfl (hb_53 _ _ _ _) rfl hc1 (zix (by decide) hc1 (show ¬ 8 ≤ a from ix_le hp.1 (by decide) (by decide) hc1 hc2)) ((congrFun (hR.2.1 53 (by omega) (by omega)) a.toNatClampNeg).trans hk) ?_
                  refine zw_iconst 1 9 f179_8 rfl (by decide +kernel) ?_
                  refine zw_ic_ne_t 22 f179_9 (by decide +kernel) (by decide +kernel) ?_
                  refine zw_aload_n 23 f179_22 rfl (zl1_ne rfl rfl rfl) ?_
                  refine zw_bipush 13 25 f179_23 rfl (by decide +kernel) ?_
                  refine zw_virtual_v 28 0 0 [.ref 52, .int 13] [(0, .ref 52), (1, .int 13)] f179_25 rfl n179_291 k179_291_12 rfl (hb_52 _ _ _ _) (by decide +kernel) (Nat.le_of_ble_eq_true rfl) rfl rfl (by decide +kernel) (by decide +kernel) rfl (Nat.le_of_ble_eq_true rfl) rfl ?_
                  refine zw_aload_n 1 f173_0 rfl rfl ?_
                  refine zw_getI 0 4 f173_1 rfl g173_246_12 (hb_52 _ _ _ _) rfl rfl ?_
                  refine zw_bipush 50 6 f173_4 rfl (by decide +kernel) ?_
                  refine zw_ic_ge_f 9 19 f173_6 (by decide +kernel) rfl (by decide +kernel) ?_
                  refine zw_aload_n 10 f173_9 rfl rfl ?_
                  refine zw_getfield 13 f173_10 rfl g173_74_12 (hb_52 _ _ _ _) rfl ?_
                  refine zw_aload_n 14 f173_13 rfl rfl ?_
                  refine zw_getI 0 17 f173_14 rfl g173_246_12 (hb_52 _ _ _ _) rfl rfl ?_
                  refine zw_iload_n 18 f173_17 rfl rfl ?_
                  refine zw_ast 0 _ 19 f173_18 rfl (hb_71 _ _ _ _) (by decide +kernel) (by decide +kernel) (by decide +kernel) (ha_71 _ _ _ _ _) ?_
                  refine zw_aload_n 20 f173_19 rfl rfl ?_
                  refine zw_dup 21 f173_20 rfl rfl ?_
                  refine zw_getI 0 24 f173_21 rfl g173_246_12 (hb_52 _ _ _ _) rfl rfl ?_
                  refine zw_iconst 1 25 f173_24 rfl (by decide +kernel) ?_
                  refine zw_iadd 1 26 f173_25 rfl (by decide +kernel) ?_
                  refine zw_put _ 29 f173_26 rfl g173_246_12 (hb_52 _ _ _ _) rfl (Nat.le_of_ble_eq_true rfl) (by decide +kernel) (hi_52_29 _ _ _ _ _) ?_
                  refine zw_vreturn f173_29 r173 u173 ⟨rfl, ?_⟩
                  refine zw_aload_n 29 f179_28 rfl (zl1_ne rfl rfl rfl) ?_
                  refine zw_iload_n 30 f179_29 rfl (zl1_ne rfl rfl rfl) ?_
                  refine zw_iload_n 31 f179_30 rfl zl1_eq ?_
                  refine zw_virtual_i 34 0 0 [.ref 52, .int a, .int c] [(0, .ref 52), (1, .int a), (2, .int c)] f179_31 rfl n179_304 k179_304_12 rfl (hb_52 _ _ _ _) (by decide +kernel) (Nat.le_of_ble_eq_true rfl) rfl rfl (by decide +kernel) (by decide +kernel) rfl (Nat.le_of_ble_eq_true rfl) rfl ?_
                  refine zw_aload_n 1 f177_0 rfl rfl ?_
                  refine zw_getfield 4 f177_1 rfl g177_7_12 (hb_52 _ _ _ _) rfl ?_
                  refine zw_iload_n 5 f177_4 rfl rfl ?_
                  refine zw_iaload a.toNatClampNeg 2 6 f177_5 rfl (hb_53 _ _ _ _) rfl hc1 (zix (by decide) hc1 (show ¬ 8 ≤ a from ix_le hp.1 (by decide) (by decide) hc1 hc2)) ((congrFun (hR.2.1 53 (by omega) (by omega)) a.toNatClampNeg).trans hk) ?_
                  refine zw_iconst 1 7 f177_6 rfl (by decide +kernel) ?_
                  refine zw_ic_ne_t 30 f177_7 (by decide +kernel) (by decide +kernel) ?_
                  refine zw_aload_n 31 f177_30 rfl rfl ?_
                  refine zw_getfield 34 f177_31 rfl g177_7_12 (hb_52 _ _ _ _) rfl ?_
                  refine zw_iload_n 35 f177_34 rfl rfl ?_
                  refine zw_iaload a.toNatClampNeg 2 36 f177_35 rfl (hb_53 _ _ _ _) rfl hc1 (zix (by decide) hc1 (show ¬ 8 ≤ a from ix_le hp.1 (by decide) (by decide) hc1 hc2)) ((congrFun (hR.2.1 53 (by omega) (by omega)) a.toNatClampNeg).trans hk) ?_
                  refine zw_iconst 4 37 f177_36 rfl (by decide +kernel) ?_
                  refine zw_ic_ne_t 60 f177_37 (by decide +kernel) (by decide +kernel) ?_
                  refine zw_aload_n 61 f177_60 rfl rfl ?_
                  refine zw_iload_n 62 f177_61 rfl rfl ?_
                  refine zw_iload_n 63 f177_62 rfl rfl ?_
                  refine zw_virtual_i 66 0 0 [.ref 52, .int a, .int c] [(0, .ref 52), (1, .int a), (2, .int c)] f177_63 rfl n177_301 k177_301_12 rfl (hb_52 _ _ _ _) (by decide +kernel) (Nat.le_of_ble_eq_true rfl) rfl rfl (by decide +kernel) (by decide +kernel) rfl (Nat.le_of_ble_eq_true rfl) rfl ?_
                  refine zw_aload_n 1 f176_0 rfl rfl ?_
                  refine zw_bipush 11 3 f176_1 rfl (by decide +kernel) ?_
                  refine zw_virtual_v 6 0 0 [.ref 52, .int 11] [(0, .ref 52), (1, .int 11)] f176_3 rfl n176_291 k176_291_12 rfl (hb_52 _ _ _ _) (by decide +kernel) (Nat.le_of_ble_eq_true rfl) rfl rfl (by decide +kernel) (by decide +kernel) rfl (Nat.le_of_ble_eq_true rfl) rfl ?_
                  refine zw_aload_n 1 f173_0 rfl rfl ?_
                  refine zw_getI 1 4 f173_1 rfl g173_246_12 (hb_52 _ _ _ _) rfl rfl ?_
                  refine zw_bipush 50 6 f173_4 rfl (by decide +kernel) ?_
                  refine zw_ic_ge_f 9 19 f173_6 (by decide +kernel) rfl (by decide +kernel) ?_
                  refine zw_aload_n 10 f173_9 rfl rfl ?_
                  refine zw_getfield 13 f173_10 rfl g173_74_12 (hb_52 _ _ _ _) rfl ?_
                  refine zw_aload_n 14 f173_13 rfl rfl ?_
                  refine zw_getI 1 17 f173_14 rfl g173_246_12 (hb_52 _ _ _ _) rfl rfl ?_
                  refine zw_iload_n 18 f173_17 rfl rfl ?_
                  refine zw_ast 1 _ 19 f173_18 rfl (hb_71 _ _ _ _) (by decide +kernel) (by decide +kernel) (by decide +kernel) (ha_71 _ _ _ _ _) ?_
                  refine zw_aload_n 20 f173_19 rfl rfl ?_
                  refine zw_dup 21 f173_20 rfl rfl ?_
                  refine zw_getI 1 24 f173_21 rfl g173_246_12 (hb_52 _ _ _ _) rfl rfl ?_
                  refine zw_iconst 1 25 f173_24 rfl (by decide +kernel) ?_
                  refine zw_iadd 2 26 f173_25 rfl (by decide +kernel) ?_
                  refine zw_put _ 29 f173_26 rfl g173_246_12 (hb_52 _ _ _ _) rfl (Nat.le_of_ble_eq_true rfl) (by decide +kernel) (hi_52_29 _ _ _ _ _) ?_
                  refine zw_vreturn f173_29 r173 u173 ⟨rfl, ?_⟩
                  refine zw_aload_n 7 f176_6 rfl rfl ?_
                  refine zw_iload_n 8 f176_7 rfl rfl ?_
                  refine zw_iload_n 9 f176_8 rfl rfl ?_
                  refine zw_virtual_i 12 0 0 [.ref 52, .int a, .int c] [(0, .ref 52), (1, .int a), (2, .int c)] f176_9 rfl n176_298 k176_298_12 rfl (hb_52 _ _ _ _) (by decide +kernel) (Nat.le_of_ble_eq_true rfl) rfl rfl (by decide +kernel) (by decide +kernel) rfl (Nat.le_of_ble_eq_true rfl) rfl ?_
                  refine zw_aload_n 1 f175_0 rfl rfl ?_
                  refine zw_getfield 4 f175_1 rfl g175_7_12 (hb_52 _ _ _ _) rfl ?_
                  refine zw_iload_n 5 f175_4 rfl rfl ?_
                  refine zw_iaload a.toNatClampNeg 2 6 f175_5 rfl (hb_53 _ _ _ _) rfl hc1 (zix (by decide) hc1 (show ¬ 8 ≤ a from ix_le hp.1 (by decide) (by decide) hc1 hc2)) ((congrFun (hR.2.1 53 (by omega) (by omega)) a.toNatClampNeg).trans hk) ?_
                  refine zw_iconst 2 7 f175_6 rfl (by decide +kernel) ?_
                  refine zw_ic_ne_f 10 25 f175_7 (by decide +kernel) rfl (by decide +kernel) ?_
                  refine zw_aload_n 11 f175_10 rfl rfl ?_
                  refine zw_bipush 30 13 f175_11 rfl (by decide +kernel) ?_
                  refine zw_virtual_v 16 0 0 [.ref 52, .int 30] [(0, .ref 52), (1, .int 30)] f175_13 rfl n175_291 k175_291_12 rfl (hb_52 _ _ _ _) (by decide +kernel) (Nat.le_of_ble_eq_true rfl) rfl rfl (by decide +kernel) (by decide +kernel) rfl (Nat.le_of_ble_eq_true rfl) rfl ?_
                  refine zw_aload_n 1 f173_0 rfl rfl ?_
                  refine zw_getI 2 4 f173_1 rfl g173_246_12 (hb_52 _ _ _ _) rfl rfl ?_
                  refine zw_bipush 50 6 f173_4 rfl (by decide +kernel) ?_
                  refine zw_ic_ge_f 9 19 f173_6 (by decide +kernel) rfl (by decide +kernel) ?_
                  refine zw_aload_n 10 f173_9 rfl rfl ?_
                  refine zw_getfield 13 f173_10 rfl g173_74_12 (hb_52 _ _ _ _) rfl ?_
                  refine zw_aload_n 14 f173_13 rfl rfl ?_
                  refine zw_getI 2 17 f173_14 rfl g173_246_12 (hb_52 _ _ _ _) rfl rfl ?_
                  refine zw_iload_n 18 f173_17 rfl rfl ?_
                  refine zw_ast 2 _ 19 f173_18 rfl (hb_71 _ _ _ _) (by decide +kernel) (by decide +kernel) (by decide +kernel) (ha_71 _ _ _ _ _) ?_
                  refine zw_aload_n 20 f173_19 rfl rfl ?_
                  refine zw_dup 21 f173_20 rfl rfl ?_
                  refine zw_getI 2 24 f173_21 rfl g173_246_12 (hb_52 _ _ _ _) rfl rfl ?_
                  refine zw_iconst 1 25 f173_24 rfl (by decide +kernel) ?_
                  refine zw_iadd 3 26 f173_25 rfl (by decide +kernel) ?_
                  refine zw_put _ 29 f173_26 rfl g173_246_12 (hb_52 _ _ _ _) rfl (Nat.le_of_ble_eq_true rfl) (by decide +kernel) (hi_52_29 _ _ _ _ _) ?_
                  refine zw_vreturn f173_29 r173 u173 ⟨rfl, ?_⟩
                  refine zw_aload_n 17 f175_16 rfl rfl ?_
                  refine zw_iload_n 18 f175_17 rfl rfl ?_
                  refine zw_iload_n 19 f175_18 rfl rfl ?_
                  refine zw_virtual_i 22 0 0 [.ref 52, .int a, .int c] [(0, .ref 52), (1, .int a), (2, .int c)] f175_19 rfl n175_294 k175_294_12 rfl (hb_52 _ _ _ _) (by decide +kernel) (Nat.le_of_ble_eq_true rfl) rfl rfl (by decide +kernel) (by decide +kernel) rfl (Nat.le_of_ble_eq_true rfl) rfl ?_
                  refine zw_aload_n 1 f174_0 rfl rfl ?_
                  refine zw_bipush 10 3 f174_1 rfl (by decide +kernel) ?_
                  refine zw_virtual_v 6 0 0 [.ref 52, .int 10] [(0, .ref 52), (1, .int 10)] f174_3 rfl n174_291 k174_291_12 rfl (hb_52 _ _ _ _) (by decide +kernel) (Nat.le_of_ble_eq_true rfl) rfl rfl (by decide +kernel) (by decide +kernel) rfl (Nat.le_of_ble_eq_true rfl) rfl ?_
                  refine zw_aload_n 1 f173_0 rfl rfl ?_
                  refine zw_getI 3 4 f173_1 rfl g173_246_12 (hb_52 _ _ _ _) rfl rfl ?_
                  refine zw_bipush 50 6 f173_4 rfl (by decide +kernel) ?_
                  refine zw_ic_ge_f 9 19 f173_6 (by decide +kernel) rfl (by decide +kernel) ?_
                  refine zw_aload_n 10 f173_9 rfl rfl ?_
                  refine zw_getfield 13 f173_10 rfl g173_74_12 (hb_52 _ _ _ _) rfl ?_
                  refine zw_aload_n 14 f173_13 rfl rfl ?_
                  refine zw_getI 3 17 f173_14 rfl g173_246_12 (hb_52 _ _ _ _) rfl rfl ?_
                  refine zw_iload_n 18 f173_17 rfl rfl ?_
                  refine zw_ast 3 _ 19 f173_18 rfl (hb_71 _ _ _ _) (by decide +kernel) (by decide +kernel) (by decide +kernel) (ha_71 _ _ _ _ _) ?_
                  refine zw_aload_n 20 f173_19 rfl rfl ?_
                  refine zw_dup 21 f173_20 rfl rfl ?_
                  refine zw_getI 3 24 f173_21 rfl g173_246_12 (hb_52 _ _ _ _) rfl rfl ?_
                  refine zw_iconst 1 25 f173_24 rfl (by decide +kernel) ?_
                  refine zw_iadd 4 26 f173_25 rfl (by decide +kernel) ?_
                  refine zw_put _ 29 f173_26 rfl g173_246_12 (hb_52 _ _ _ _) rfl (Nat.le_of_ble_eq_true rfl) (by decide +kernel) (hi_52_29 _ _ _ _ _) ?_
                  refine zw_vreturn f173_29 r173 u173 ⟨rfl, ?_⟩
                  refine zw_iload_n 7 f174_6 rfl rfl ?_
                  refine zw_aload_n 8 f174_7 rfl rfl ?_
                  refine zw_getfield 11 f174_8 rfl g174_13_12 (hb_52 _ _ _ _) rfl ?_
                  refine zw_iload_n 12 f174_11 rfl rfl ?_
                  refine zw_iaload a.toNatClampNeg (P 54 a.toNatClampNeg) 13 f174_12 rfl (hb_54 _ _ _ _) rfl hc1 (zix (by decide) hc1 (show ¬ 8 ≤ a from ix_le hp.1 (by decide) (by decide) hc1 hc2)) (congrFun ((hR.2.1 54 (by omega) (by omega))) a.toNatClampNeg) ?_
                  refine zw_iadd (c + (P 54 a.toNatClampNeg)) 14 f174_13 rfl rfl ?_
                  refine zw_ireturn f174_14 r174 u174 ⟨_, rfl, ?_⟩
                  refine zw_iconst 2 23 f175_22 rfl (by decide +kernel) ?_
                  refine zw_imul ((c + (P 54 a.toNatClampNeg)) * 2) 24 f175_23 rfl rfl ?_
                  refine zw_ireturn f175_24 r175 u175 ⟨_, rfl, ?_⟩
                  refine zw_iconst 3 13 f176_12 rfl (by decide +kernel) ?_
                  refine zw_imul (((c + (P 54 a.toNatClampNeg)) * 2) * 3) 14 f176_13 rfl rfl ?_
                  refine zw_ireturn f176_14 r176 u176 ⟨_, rfl, ?_⟩
                  refine zw_ireturn f177_66 r177 u177 ⟨_, rfl, ?_⟩
                  refine zw_istore _ 36 f179_34 rfl (by decide +kernel) rfl ?_
                  refine zw_iload 38 f179_36 rfl zl1_eq ?_
                  refine zw_aload_n 39 f179_38 rfl (zl1_ne rfl rfl (zl1_ne rfl rfl rfl)) ?_
                  refine zw_iload_n 40 f179_39 rfl (zl1_ne rfl rfl (zl1_ne rfl rfl rfl)) ?_
                  refine zw_iload_n 41 f179_40 rfl (zl1_ne rfl rfl zl1_eq) ?_
                  refine zw_virtual_i 44 0 0 [.ref 52, .int a, .int c] [(0, .ref 52), (1, .int a), (2, .int c)] f179_41 rfl n179_307 k179_307_12 rfl (hb_52 _ _ _ _) (by decide +kernel) (Nat.le_of_ble_eq_true rfl) rfl rfl (by decide +kernel) (by decide +kernel) rfl (Nat.le_of_ble_eq_true rfl) rfl ?_
                  refine zw_aload_n 1 f178_0 rfl rfl ?_
                  refine zw_getfield 4 f178_1 rfl g178_7_12 (hb_52 _ _ _ _) rfl ?_
                  refine zw_iload_n 5 f178_4 rfl rfl ?_
                  refine zw_iaload a.toNatClampNeg 2 6 f178_5 rfl (hb_53 _ _ _ _) rfl hc1 (zix (by decide) hc1 (show ¬ 8 ≤ a from ix_le hp.1 (by decide) (by decide) hc1 hc2)) ((congrFun (hR.2.1 53 (by omega) (by omega)) a.toNatClampNeg).trans hk) ?_
                  refine zw_iconst 4 7 f178_6 rfl (by decide +kernel) ?_
                  refine zw_ic_ne_t 16 f178_7 (by decide +kernel) (by decide +kernel) ?_
                  refine zw_aload_n 17 f178_16 rfl rfl ?_
                  refine zw_iload_n 18 f178_17 rfl rfl ?_
                  refine zw_virtual_i 21 0 0 [.ref 52, .int a] [(0, .ref 52), (1, .int a)] f178_18 rfl n178_158 k178_158_12 rfl (hb_52 _ _ _ _) (by decide +kernel) (Nat.le_of_ble_eq_true rfl) rfl rfl (by decide +kernel) (by decide +kernel) rfl (Nat.le_of_ble_eq_true rfl) rfl ?_
                  refine zw_aload_n 1 f126_0 rfl rfl ?_
                  refine zw_getfield 4 f126_1 rfl g126_7_12 (hb_52 _ _ _ _) rfl ?_
                  refine zw_iload_n 5 f126_4 rfl rfl ?_
                  refine zw_iaload a.toNatClampNeg 2 6 f126_5 rfl (hb_53 _ _ _ _) rfl hc1 (zix (by decide) hc1 (show ¬ 8 ≤ a from ix_le hp.1 (by decide) (by decide) hc1 hc2)) ((congrFun (hR.2.1 53 (by omega) (by omega)) a.toNatClampNeg).trans hk) ?_
                  refine zw_iconst 3 7 f126_6 rfl (by decide +kernel) ?_
                  refine zw_ic_eq_f 10 20 f126_7 (by decide +kernel) rfl (by decide +kernel) ?_
                  refine zw_aload_n 11 f126_10 rfl rfl ?_
                  refine zw_getfield 14 f126_11 rfl g126_7_12 (hb_52 _ _ _ _) rfl ?_
                  refine zw_iload_n 15 f126_14 rfl rfl ?_
                  refine zw_iaload a.toNatClampNeg 2 16 f126_15 rfl (hb_53 _ _ _ _) rfl hc1 (zix (by decide) hc1 (show ¬ 8 ≤ a from ix_le hp.1 (by decide) (by decide) hc1 hc2)) ((congrFun (hR.2.1 53 (by omega) (by omega)) a.toNatClampNeg).trans hk) ?_
                  refine zw_iconst 4 17 f126_16 rfl (by decide +kernel) ?_
                  refine zw_ic_ne_t 24 f126_17 (by decide +kernel) (by decide +kernel) ?_
                  refine zw_iconst 0 25 f126_24 rfl (by decide +kernel) ?_
                  refine zw_zreturn f126_25 r126 u126 (by decide +kernel) ⟨_, rfl, ?_⟩
                  refine zw_if_eq_t 30 f178_21 (by decide +kernel) (by decide +kernel) ?_
                  refine zw_aload_n 31 f178_30 rfl rfl ?_
                  refine zw_bipush 12 33 f178_31 rfl (by decide +kernel) ?_
                  refine zw_virtual_v 36 0 0 [.ref 52, .int 12] [(0, .ref 52), (1, .int 12)] f178_33 rfl n178_291 k178_291_12 rfl (hb_52 _ _ _ _) (by decide +kernel) (Nat.le_of_ble_eq_true rfl) rfl rfl (by decide +kernel) (by decide +kernel) rfl (Nat.le_of_ble_eq_true rfl) rfl ?_
                  refine zw_aload_n 1 f173_0 rfl rfl ?_
                  refine zw_getI 4 4 f173_1 rfl g173_246_12 (hb_52 _ _ _ _) rfl rfl ?_
                  refine zw_bipush 50 6 f173_4 rfl (by decide +kernel) ?_
                  refine zw_ic_ge_f 9 19 f173_6 (by decide +kernel) rfl (by decide +kernel) ?_
                  refine zw_aload_n 10 f173_9 rfl rfl ?_
                  refine zw_getfield 13 f173_10 rfl g173_74_12 (hb_52 _ _ _ _) rfl ?_
                  refine zw_aload_n 14 f173_13 rfl rfl ?_
                  refine zw_getI 4 17 f173_14 rfl g173_246_12 (hb_52 _ _ _ _) rfl rfl ?_
                  refine zw_iload_n 18 f173_17 rfl rfl ?_
                  refine zw_ast 4 _ 19 f173_18 rfl (hb_71 _ _ _ _) (by decide +kernel) (by decide +kernel) (by decide +kernel) (ha_71 _ _ _ _ _) ?_
                  refine zw_aload_n 20 f173_19 rfl rfl ?_
                  refine zw_dup 21 f173_20 rfl rfl ?_
                  refine zw_getI 4 24 f173_21 rfl g173_246_12 (hb_52 _ _ _ _) rfl rfl ?_
                  refine zw_iconst 1 25 f173_24 rfl (by decide +kernel) ?_
                  refine zw_iadd 5 26 f173_25 rfl (by decide +kernel) ?_
                  refine zw_put _ 29 f173_26 rfl g173_246_12 (hb_52 _ _ _ _) rfl (Nat.le_of_ble_eq_true rfl) (by decide +kernel) (hi_52_29 _ _ _ _ _) ?_
                  refine zw_vreturn f173_29 r173 u173 ⟨rfl, ?_⟩
                  refine zw_iload_n 37 f178_36 rfl rfl ?_
                  refine zw_aload_n 38 f178_37 rfl rfl ?_
                  refine zw_getfield 41 f178_38 rfl g178_13_12 (hb_52 _ _ _ _) rfl ?_
                  refine zw_iload_n 42 f178_41 rfl rfl ?_
                  refine zw_iaload a.toNatClampNeg (P 54 a.toNatClampNeg) 43 f178_42 rfl (hb_54 _ _ _ _) rfl hc1 (zix (by decide) hc1 (show ¬ 8 ≤ a from ix_le hp.1 (by decide) (by decide) hc1 hc2)) (congrFun ((hR.2.1 54 (by omega) (by omega))) a.toNatClampNeg) ?_
                  refine zw_ixor (c ^^^ (P 54 a.toNatClampNeg)) 44 f178_43 rfl rfl ?_
                  refine zw_aload_n 45 f178_44 rfl rfl ?_
                  refine zw_iload_n 46 f178_45 rfl rfl ?_
                  refine zw_virtual_i 49 0 0 [.ref 52, .int a] [(0, .ref 52), (1, .int a)] f178_46 rfl n178_158 k178_158_12 rfl (hb_52 _ _ _ _) (by decide +kernel) (Nat.le_of_ble_eq_true rfl) rfl rfl (by decide +kernel) (by decide +kernel) rfl (Nat.le_of_ble_eq_true rfl) rfl ?_
                  refine zw_aload_n 1 f126_0 rfl rfl ?_
                  refine zw_getfield 4 f126_1 rfl g126_7_12 (hb_52 _ _ _ _) rfl ?_
                  refine zw_iload_n 5 f126_4 rfl rfl ?_
                  refine zw_iaload a.toNatClampNeg 2 6 f126_5 rfl (hb_53 _ _ _ _) rfl hc1 (zix (by decide) hc1 (show ¬ 8 ≤ a from ix_le hp.1 (by decide) (by decide) hc1 hc2)) ((congrFun (hR.2.1 53 (by omega) (by omega)) a.toNatClampNeg).trans hk) ?_
                  refine zw_iconst 3 7 f126_6 rfl (by decide +kernel) ?_
                  refine zw_ic_eq_f 10 20 f126_7 (by decide +kernel) rfl (by decide +kernel) ?_
                  refine zw_aload_n 11 f126_10 rfl rfl ?_
                  refine zw_getfield 14 f126_11 rfl g126_7_12 (hb_52 _ _ _ _) rfl ?_
                  refine zw_iload_n 15 f126_14 rfl rfl ?_
                  refine zw_iaload a.toNatClampNeg 2 16 f126_15 rfl (hb_53 _ _ _ _) rfl hc1 (zix (by decide) hc1 (show ¬ 8 ≤ a from ix_le hp.1 (by decide) (by decide) hc1 hc2)) ((congrFun (hR.2.1 53 (by omega) (by omega)) a.toNatClampNeg).trans hk) ?_
                  refine zw_iconst 4 17 f126_16 rfl (by decide +kernel) ?_
                  refine zw_ic_ne_t 24 f126_17 (by decide +kernel) (by decide +kernel) ?_
                  refine zw_iconst 0 25 f126_24 rfl (by decide +kernel) ?_
                  refine zw_zreturn f126_25 r126 u126 (by decide +kernel) ⟨_, rfl, ?_⟩
                  refine zw_if_eq_t 61 f178_49 (by decide +kernel) (by decide +kernel) ?_
                  refine zw_iconst 0 62 f178_61 rfl (by decide +kernel) ?_
                  refine zw_iadd ((c ^^^ (P 54 a.toNatClampNeg)) + 0) 63 f178_62 rfl rfl ?_
                  refine zw_aload_n 64 f178_63 rfl rfl ?_
                  refine zw_getfield 67 f178_64 rfl g178_7_12 (hb_52 _ _ _ _) rfl ?_
                  refine zw_iload_n 68 f178_67 rfl rfl ?_
                  refine zw_iaload a.toNatClampNeg 2 69 f178_68 rfl (hb_53 _ _ _ _) rfl hc1 (zix (by decide) hc1 (show ¬ 8 ≤ a from ix_le hp.1 (by decide) (by decide) hc1 hc2)) ((congrFun (hR.2.1 53 (by omega) (by omega)) a.toNatClampNeg).trans hk) ?_
                  refine zw_iconst 4 70 f178_69 rfl (by decide +kernel) ?_
                  refine zw_ic_ne_t 82 f178_70 (by decide +kernel) (by decide +kernel) ?_
                  refine zw_iconst 0 83 f178_82 rfl (by decide +kernel) ?_
                  refine zw_iadd (((c ^^^ (P 54 a.toNatClampNeg)) + 0) + 0) 84 f178_83 rfl rfl ?_
                  refine zw_ireturn f178_84 r178 u178 ⟨_, rfl, ?_⟩
                  refine zw_isub ((((c + (P 54 a.toNatClampNeg)) * 2) * 3) - (((c ^^^ (P 54 a.toNatClampNeg)) + 0) + 0)) 45 f179_44 rfl rfl ?_
                  refine zw_ireturn f179_45 r179 u179 ⟨_, rfl, ?_⟩
                  refine zw_virtual_i 79 0 0 [.ref 52, .int ((((c + (P 54 a.toNatClampNeg)) * 2) * 3) - (((c ^^^ (P 54 a.toNatClampNeg)) + 0) + 0))] [(0, .ref 52), (1, .int ((((c + (P 54 a.toNatClampNeg)) * 2) * 3) - (((c ^^^ (P 54 a.toNatClampNeg)) + 0) + 0)))] f180_76 rfl n180_205 k180_205_12 rfl (hb_52 _ _ _ _) (by decide +kernel) (Nat.le_of_ble_eq_true rfl) rfl rfl (by decide +kernel) (by decide +kernel) rfl (Nat.le_of_ble_eq_true rfl) rfl ?_
                  refine zw_aload_n 1 f122_0 rfl rfl ?_
                  refine zw_iconst 0 2 f122_1 rfl (by decide +kernel) ?_
                  refine zw_put _ 5 f122_2 rfl g122_111_12 (hb_52 _ _ _ _) rfl (Nat.le_of_ble_eq_true rfl) (by decide +kernel) (hi_52_27 _ _ _ _ _) ?_
                  refine zw_iload_n 6 f122_5 rfl rfl ?_
                  refine zw_ireturn f122_6 r122 u122 ⟨_, rfl, ?_⟩
                  refine zw_ireturn f180_79 r180 u180 ?_
                  exact ⟨_, _, _, _, rfl, (KQ.i rfl (KQ.i rfl (KQ.a rfl (KQ.i rfl (KQ.a rfl (KQ.i rfl (KQ.a rfl (KQ.i rfl (KQ.a rfl (KQ.i rfl (KQ.a rfl (KQ.i rfl KQ.rf)))))))))))), ⟨hi.1, hi.2.1, 5, by omega, (show _ = nI 5 from rfl)⟩, by rw [show an_act nv P W a b c = ((((c + (P 54 a.toNatClampNeg)) * 2) * 3) - (((c ^^^ (P 54 a.toNatClampNeg)) + 0) + 0)) from ((cI_y ⟨(qV.of (by omega) hc1 hc2), ⟨hc3, hc4⟩⟩).trans ((cI_n hc5).trans ((cI_n hc6).trans ((cI_n hc7).trans ((cI_n (kne hk (by decide))).trans ((cI_n (kne hk (by decide))).trans ((cI_y hk).trans (by simp only [Int32.add_zero]))))))))]⟩
                · refine zw_iaload a.toNatClampNeg 3 8 f179_7 rfl (hb_53 _ _ _ _) rfl hc1 (zix (by decide) hc1 (show ¬ 8 ≤ a from ix_le hp.1 (by decide) (by decide) hc1 hc2)) ((congrFun (hR.2.1 53 (by omega) (by omega)) a.toNatClampNeg).trans hk) ?_
                  refine zw_iconst 1 9 f179_8 rfl (by decide +kernel) ?_
                  refine zw_ic_ne_t 22 f179_9 (by decide +kernel) (by decide +kernel) ?_
                  refine zw_aload_n 23 f179_22 rfl (zl1_ne rfl rfl rfl) ?_
                  refine zw_bipush 13 25 f179_23 rfl (by decide +kernel) ?_
                  refine zw_virtual_v 28 0 0 [.ref 52, .int 13] [(0, .ref 52), (1, .int 13)] f179_25 rfl n179_291 k179_291_12 rfl (hb_52 _ _ _ _) (by decide +kernel) (Nat.le_of_ble_eq_true rfl) rfl rfl (by decide +kernel) (by decide +kernel) rfl (Nat.le_of_ble_eq_true rfl) rfl ?_
                  refine zw_aload_n 1 f173_0 rfl rfl ?_
                  refine zw_getI 0 4 f173_1 rfl g173_246_12 (hb_52 _ _ _ _) rfl rfl ?_
                  refine zw_bipush 50 6 f173_4 rfl (by decide +kernel) ?_
                  refine zw_ic_ge_f 9 19 f173_6 (by decide +kernel) rfl (by decide +kernel) ?_
                  refine zw_aload_n 10 f173_9 rfl rfl ?_
                  refine zw_getfield 13 f173_10 rfl g173_74_12 (hb_52 _ _ _ _) rfl ?_
                  refine zw_aload_n 14 f173_13 rfl rfl ?_
                  refine zw_getI 0 17 f173_14 rfl g173_246_12 (hb_52 _ _ _ _) rfl rfl ?_
                  refine zw_iload_n 18 f173_17 rfl rfl ?_
                  refine zw_ast 0 _ 19 f173_18 rfl (hb_71 _ _ _ _) (by decide +kernel) (by decide +kernel) (by decide +kernel) (ha_71 _ _ _ _ _) ?_
                  refine zw_aload_n 20 f173_19 rfl rfl ?_
                  refine zw_dup 21 f173_20 rfl rfl ?_
                  refine zw_getI 0 24 f173_21 rfl g173_246_12 (hb_52 _ _ _ _) rfl rfl ?_
                  refine zw_iconst 1 25 f173_24 rfl (by decide +kernel) ?_
                  refine zw_iadd 1 26 f173_25 rfl (by decide +kernel) ?_
                  refine zw_put _ 29 f173_26 rfl g173_246_12 (hb_52 _ _ _ _) rfl (Nat.le_of_ble_eq_true rfl) (by decide +kernel) (hi_52_29 _ _ _ _ _) ?_
                  refine zw_vreturn f173_29 r173 u173 ⟨rfl, ?_⟩
                  refine zw_aload_n 29 f179_28 rfl (zl1_ne rfl rfl rfl) ?_
                  refine zw_iload_n 30 f179_29 rfl (zl1_ne rfl rfl rfl) ?_
                  refine zw_iload_n 31 f179_30 rfl zl1_eq ?_
                  refine zw_virtual_i 34 0 0 [.ref 52, .int a, .int c] [(0, .ref 52), (1, .int a), (2, .int c)] f179_31 rfl n179_304 k179_304_12 rfl (hb_52 _ _ _ _) (by decide +kernel) (Nat.le_of_ble_eq_true rfl) rfl rfl (by decide +kernel) (by decide +kernel) rfl (Nat.le_of_ble_eq_true rfl) rfl ?_
                  refine zw_aload_n 1 f177_0 rfl rfl ?_
                  refine zw_getfield 4 f177_1 rfl g177_7_12 (hb_52 _ _ _ _) rfl ?_
                  refine zw_iload_n 5 f177_4 rfl rfl ?_
                  refine zw_iaload a.toNatClampNeg 3 6 f177_5 rfl (hb_53 _ _ _ _) rfl hc1 (zix (by decide) hc1 (show ¬ 8 ≤ a from ix_le hp.1 (by decide) (by decide) hc1 hc2)) ((congrFun (hR.2.1 53 (by omega) (by omega)) a.toNatClampNeg).trans hk) ?_
                  refine zw_iconst 1 7 f177_6 rfl (by decide +kernel) ?_
                  refine zw_ic_ne_t 30 f177_7 (by decide +kernel) (by decide +kernel) ?_
                  refine zw_aload_n 31 f177_30 rfl rfl ?_
                  refine zw_getfield 34 f177_31 rfl g177_7_12 (hb_52 _ _ _ _) rfl ?_
                  refine zw_iload_n 35 f177_34 rfl rfl ?_
                  refine zw_iaload a.toNatClampNeg 3 36 f177_35 rfl (hb_53 _ _ _ _) rfl hc1 (zix (by decide) hc1 (show ¬ 8 ≤ a from ix_le hp.1 (by decide) (by decide) hc1 hc2)) ((congrFun (hR.2.1 53 (by omega) (by omega)) a.toNatClampNeg).trans hk) ?_
                  refine zw_iconst 4 37 f177_36 rfl (by decide +kernel) ?_
                  refine zw_ic_ne_t 60 f177_37 (by decide +kernel) (by decide +kernel) ?_
                  refine zw_aload_n 61 f177_60 rfl rfl ?_
                  refine zw_iload_n 62 f177_61 rfl rfl ?_
                  refine zw_iload_n 63 f177_62 rfl rfl ?_
                  refine zw_virtual_i 66 0 0 [.ref 52, .int a, .int c] [(0, .ref 52), (1, .int a), (2, .int c)] f177_63 rfl n177_301 k177_301_12 rfl (hb_52 _ _ _ _) (by decide +kernel) (Nat.le_of_ble_eq_true rfl) rfl rfl (by decide +kernel) (by decide +kernel) rfl (Nat.le_of_ble_eq_true rfl) rfl ?_
                  refine zw_aload_n 1 f176_0 rfl rfl ?_
                  refine zw_bipush 11 3 f176_1 rfl (by decide +kernel) ?_
                  refine zw_virtual_v 6 0 0 [.ref 52, .int 11] [(0, .ref 52), (1, .int 11)] f176_3 rfl n176_291 k176_291_12 rfl (hb_52 _ _ _ _) (by decide +kernel) (Nat.le_of_ble_eq_true rfl) rfl rfl (by decide +kernel) (by decide +kernel) rfl (Nat.le_of_ble_eq_true rfl) rfl ?_
                  refine zw_aload_n 1 f173_0 rfl rfl ?_
                  refine zw_getI 1 4 f173_1 rfl g173_246_12 (hb_52 _ _ _ _) rfl rfl ?_
                  refine zw_bipush 50 6 f173_4 rfl (by decide +kernel) ?_
                  refine zw_ic_ge_f 9 19 f173_6 (by decide +kernel) rfl (by decide +kernel) ?_
                  refine zw_aload_n 10 f173_9 rfl rfl ?_
                  refine zw_getfield 13 f173_10 rfl g173_74_12 (hb_52 _ _ _ _) rfl ?_
                  refine zw_aload_n 14 f173_13 rfl rfl ?_
                  refine zw_getI 1 17 f173_14 rfl g173_246_12 (hb_52 _ _ _ _) rfl rfl ?_
                  refine zw_iload_n 18 f173_17 rfl rfl ?_
                  refine zw_ast 1 _ 19 f173_18 rfl (hb_71 _ _ _ _) (by decide +kernel) (by decide +kernel) (by decide +kernel) (ha_71 _ _ _ _ _) ?_
                  refine zw_aload_n 20 f173_19 rfl rfl ?_
                  refine zw_dup 21 f173_20 rfl rfl ?_
                  refine zw_getI 1 24 f173_21 rfl g173_246_12 (hb_52 _ _ _ _) rfl rfl ?_
                  refine zw_iconst 1 25 f173_24 rfl (by decide +kernel) ?_
                  refine zw_iadd 2 26 f173_25 rfl (by decide +kernel) ?_
                  refine zw_put _ 29 f173_26 rfl g173_246_12 (hb_52 _ _ _ _) rfl (Nat.le_of_ble_eq_true rfl) (by decide +kernel) (hi_52_29 _ _ _ _ _) ?_
                  refine zw_vreturn f173_29 r173 u173 ⟨rfl, ?_⟩
                  refine zw_aload_n 7 f176_6 rfl rfl ?_
                  refine zw_iload_n 8 f176_7 rfl rfl ?_
                  refine zw_iload_n 9 f176_8 rfl rfl ?_
                  refine zw_virtual_i 12 0 0 [.ref 52, .int a, .int c] [(0, .ref 52), (1, .int a), (2, .int c)] f176_9 rfl n176_298 k176_298_12 rfl (hb_52 _ _ _ _) (by decide +kernel) (Nat.le_of_ble_eq_true rfl) rfl rfl (by decide +kernel) (by decide +kernel) rfl (Nat.le_of_ble_eq_true rfl) rfl ?_
                  refine zw_aload_n 1 f175_0 rfl rfl ?_
                  refine zw_getfield 4 f175_1 rfl g175_7_12 (hb_52 _ _ _ _) rfl ?_
                  refine zw_iload_n 5 f175_4 rfl rfl ?_
                  refine zw_iaload a.toNatClampNeg 3 6 f175_5 rfl (hb_53 _ _ _ _) rfl hc1 (zix (by decide) hc1 (show ¬ 8 ≤ a from ix_le hp.1 (by decide) (by decide) hc1 hc2)) ((congrFun (hR.2.1 53 (by omega) (by omega)) a.toNatClampNeg).trans hk) ?_
                  refine zw_iconst 2 7 f175_6 rfl (by decide +kernel) ?_
                  refine zw_ic_ne_t 25 f175_7 (by decide +kernel) (by decide +kernel) ?_
                  refine zw_aload_n 26 f175_25 rfl rfl ?_
                  refine zw_iload_n 27 f175_26 rfl rfl ?_
                  refine zw_virtual_i 30 0 0 [.ref 52, .int a] [(0, .ref 52), (1, .int a)] f175_27 rfl n175_158 k175_158_12 rfl (hb_52 _ _ _ _) (by decide +kernel) (Nat.le_of_ble_eq_true rfl) rfl rfl (by decide +kernel) (by decide +kernel) rfl (Nat.le_of_ble_eq_true rfl) rfl ?_
                  refine zw_aload_n 1 f126_0 rfl rfl ?_
                  refine zw_getfield 4 f126_1 rfl g126_7_12 (hb_52 _ _ _ _) rfl ?_
                  refine zw_iload_n 5 f126_4 rfl rfl ?_
                  refine zw_iaload a.toNatClampNeg 3 6 f126_5 rfl (hb_53 _ _ _ _) rfl hc1 (zix (by decide) hc1 (show ¬ 8 ≤ a from ix_le hp.1 (by decide) (by decide) hc1 hc2)) ((congrFun (hR.2.1 53 (by omega) (by omega)) a.toNatClampNeg).trans hk) ?_
                  refine zw_iconst 3 7 f126_6 rfl (by decide +kernel) ?_
                  refine zw_ic_eq_t 20 f126_7 (by decide +kernel) (by decide +kernel) ?_
                  refine zw_iconst 1 21 f126_20 rfl (by decide +kernel) ?_
                  refine zw_goto 25 f126_21 (by decide +kernel) ?_
                  refine zw_zreturn f126_25 r126 u126 (by decide +kernel) ⟨_, rfl, ?_⟩
                  refine zw_if_eq_f 33 53 f175_30 (by decide +kernel) rfl (by decide +kernel) ?_
                  refine zw_aload_n 34 f175_33 rfl rfl ?_
                  refine zw_bipush 41 36 f175_34 rfl (by decide +kernel) ?_
                  refine zw_virtual_v 39 0 0 [.ref 52, .int 41] [(0, .ref 52), (1, .int 41)] f175_36 rfl n175_291 k175_291_12 rfl (hb_52 _ _ _ _) (by decide +kernel) (Nat.le_of_ble_eq_true rfl) rfl rfl (by decide +kernel) (by decide +kernel) rfl (Nat.le_of_ble_eq_true rfl) rfl ?_
                  refine zw_aload_n 1 f173_0 rfl rfl ?_
                  refine zw_getI 2 4 f173_1 rfl g173_246_12 (hb_52 _ _ _ _) rfl rfl ?_
                  refine zw_bipush 50 6 f173_4 rfl (by decide +kernel) ?_
                  refine zw_ic_ge_f 9 19 f173_6 (by decide +kernel) rfl (by decide +kernel) ?_
                  refine zw_aload_n 10 f173_9 rfl rfl ?_
                  refine zw_getfield 13 f173_10 rfl g173_74_12 (hb_52 _ _ _ _) rfl ?_
                  refine zw_aload_n 14 f173_13 rfl rfl ?_
                  refine zw_getI 2 17 f173_14 rfl g173_246_12 (hb_52 _ _ _ _) rfl rfl ?_
                  refine zw_iload_n 18 f173_17 rfl rfl ?_
                  refine zw_ast 2 _ 19 f173_18 rfl (hb_71 _ _ _ _) (by decide +kernel) (by decide +kernel) (by decide +kernel) (ha_71 _ _ _ _ _) ?_
                  refine zw_aload_n 20 f173_19 rfl rfl ?_
                  refine zw_dup 21 f173_20 rfl rfl ?_
                  refine zw_getI 2 24 f173_21 rfl g173_246_12 (hb_52 _ _ _ _) rfl rfl ?_
                  refine zw_iconst 1 25 f173_24 rfl (by decide +kernel) ?_
                  refine zw_iadd 3 26 f173_25 rfl (by decide +kernel) ?_
                  refine zw_put _ 29 f173_26 rfl g173_246_12 (hb_52 _ _ _ _) rfl (Nat.le_of_ble_eq_true rfl) (by decide +kernel) (hi_52_29 _ _ _ _ _) ?_
                  refine zw_vreturn f173_29 r173 u173 ⟨rfl, ?_⟩
                  refine zw_aload_n 40 f175_39 rfl rfl ?_
                  refine zw_iload_n 41 f175_40 rfl rfl ?_
                  refine zw_iload_n 42 f175_41 rfl rfl ?_
                  refine zw_aload_n 43 f175_42 rfl rfl ?_
                  refine zw_getfield 46 f175_43 rfl g175_16_12 (hb_52 _ _ _ _) rfl ?_
                  refine zw_iload_n 47 f175_46 rfl rfl ?_
                  refine zw_iaload a.toNatClampNeg (P 55 a.toNatClampNeg) 48 f175_47 rfl (hb_55 _ _ _ _) rfl hc1 (zix (by decide) hc1 (show ¬ 8 ≤ a from ix_le hp.1 (by decide) (by decide) hc1 hc2)) (congrFun ((hR.2.1 55 (by omega) (by omega))) a.toNatClampNeg) ?_
                  refine zw_iadd (c + (P 55 a.toNatClampNeg)) 49 f175_48 rfl rfl ?_
                  refine zw_virtual_i 52 0 0 [.ref 52, .int a, .int (c + (P 55 a.toNatClampNeg))] [(0, .ref 52), (1, .int a), (2, .int (c + (P 55 a.toNatClampNeg)))] f175_49 rfl n175_294 k175_294_12 rfl (hb_52 _ _ _ _) (by decide +kernel) (Nat.le_of_ble_eq_true rfl) rfl rfl (by decide +kernel) (by decide +kernel) rfl (Nat.le_of_ble_eq_true rfl) rfl ?_
                  refine zw_aload_n 1 f174_0 rfl rfl ?_
                  refine zw_bipush 10 3 f174_1 rfl (by decide +kernel) ?_
                  refine zw_virtual_v 6 0 0 [.ref 52, .int 10] [(0, .ref 52), (1, .int 10)] f174_3 rfl n174_291 k174_291_12 rfl (hb_52 _ _ _ _) (by decide +kernel) (Nat.le_of_ble_eq_true rfl) rfl rfl (by decide +kernel) (by decide +kernel) rfl (Nat.le_of_ble_eq_true rfl) rfl ?_
                  refine zw_aload_n 1 f173_0 rfl rfl ?_
                  refine zw_getI 3 4 f173_1 rfl g173_246_12 (hb_52 _ _ _ _) rfl rfl ?_
                  refine zw_bipush 50 6 f173_4 rfl (by decide +kernel) ?_
                  refine zw_ic_ge_f 9 19 f173_6 (by decide +kernel) rfl (by decide +kernel) ?_
                  refine zw_aload_n 10 f173_9 rfl rfl ?_
                  refine zw_getfield 13 f173_10 rfl g173_74_12 (hb_52 _ _ _ _) rfl ?_
                  refine zw_aload_n 14 f173_13 rfl rfl ?_
                  refine zw_getI 3 17 f173_14 rfl g173_246_12 (hb_52 _ _ _ _) rfl rfl ?_
                  refine zw_iload_n 18 f173_17 rfl rfl ?_
                  refine zw_ast 3 _ 19 f173_18 rfl (hb_71 _ _ _ _) (by decide +kernel) (by decide +kernel) (by decide +kernel) (ha_71 _ _ _ _ _) ?_
                  refine zw_aload_n 20 f173_19 rfl rfl ?_
                  refine zw_dup 21 f173_20 rfl rfl ?_
                  refine zw_getI 3 24 f173_21 rfl g173_246_12 (hb_52 _ _ _ _) rfl rfl ?_
                  refine zw_iconst 1 25 f173_24 rfl (by decide +kernel) ?_
                  refine zw_iadd 4 26 f173_25 rfl (by decide +kernel) ?_
                  refine zw_put _ 29 f173_26 rfl g173_246_12 (hb_52 _ _ _ _) rfl (Nat.le_of_ble_eq_true rfl) (by decide +kernel) (hi_52_29 _ _ _ _ _) ?_
                  refine zw_vreturn f173_29 r173 u173 ⟨rfl, ?_⟩
                  refine zw_iload_n 7 f174_6 rfl rfl ?_
                  refine zw_aload_n 8 f174_7 rfl rfl ?_
                  refine zw_getfield 11 f174_8 rfl g174_13_12 (hb_52 _ _ _ _) rfl ?_
                  refine zw_iload_n 12 f174_11 rfl rfl ?_
                  refine zw_iaload a.toNatClampNeg (P 54 a.toNatClampNeg) 13 f174_12 rfl (hb_54 _ _ _ _) rfl hc1 (zix (by decide) hc1 (show ¬ 8 ≤ a from ix_le hp.1 (by decide) (by decide) hc1 hc2)) (congrFun ((hR.2.1 54 (by omega) (by omega))) a.toNatClampNeg) ?_
                  refine zw_iadd ((c + (P 55 a.toNatClampNeg)) + (P 54 a.toNatClampNeg)) 14 f174_13 rfl rfl ?_
                  refine zw_ireturn f174_14 r174 u174 ⟨_, rfl, ?_⟩
                  refine zw_ireturn f175_52 r175 u175 ⟨_, rfl, ?_⟩
                  refine zw_iconst 3 13 f176_12 rfl (by decide +kernel) ?_
                  refine zw_imul (((c + (P 55 a.toNatClampNeg)) + (P 54 a.toNatClampNeg)) * 3) 14 f176_13 rfl rfl ?_
                  refine zw_ireturn f176_14 r176 u176 ⟨_, rfl, ?_⟩
                  refine zw_ireturn f177_66 r177 u177 ⟨_, rfl, ?_⟩
                  refine zw_istore _ 36 f179_34 rfl (by decide +kernel) rfl ?_
                  refine zw_iload 38 f179_36 rfl zl1_eq ?_
                  refine zw_aload_n 39 f179_38 rfl (zl1_ne rfl rfl (zl1_ne rfl rfl rfl)) ?_
                  refine zw_iload_n 40 f179_39 rfl (zl1_ne rfl rfl (zl1_ne rfl rfl rfl)) ?_
                  refine zw_iload_n 41 f179_40 rfl (zl1_ne rfl rfl zl1_eq) ?_
                  refine zw_virtual_i 44 0 0 [.ref 52, .int a, .int c] [(0, .ref 52), (1, .int a), (2, .int c)] f179_41 rfl n179_307 k179_307_12 rfl (hb_52 _ _ _ _) (by decide +kernel) (Nat.le_of_ble_eq_true rfl) rfl rfl (by decide +kernel) (by decide +kernel) rfl (Nat.le_of_ble_eq_true rfl) rfl ?_
                  refine zw_aload_n 1 f178_0 rfl rfl ?_
                  refine zw_getfield 4 f178_1 rfl g178_7_12 (hb_52 _ _ _ _) rfl ?_
                  refine zw_iload_n 5 f178_4 rfl rfl ?_
                  refine zw_iaload a.toNatClampNeg 3 6 f178_5 rfl (hb_53 _ _ _ _) rfl hc1 (zix (by decide) hc1 (show ¬ 8 ≤ a from ix_le hp.1 (by decide) (by decide) hc1 hc2)) ((congrFun (hR.2.1 53 (by omega) (by omega)) a.toNatClampNeg).trans hk) ?_
                  refine zw_iconst 4 7 f178_6 rfl (by decide +kernel) ?_
                  refine zw_ic_ne_t 16 f178_7 (by decide +kernel) (by decide +kernel) ?_
                  refine zw_aload_n 17 f178_16 rfl rfl ?_
                  refine zw_iload_n 18 f178_17 rfl rfl ?_
                  refine zw_virtual_i 21 0 0 [.ref 52, .int a] [(0, .ref 52), (1, .int a)] f178_18 rfl n178_158 k178_158_12 rfl (hb_52 _ _ _ _) (by decide +kernel) (Nat.le_of_ble_eq_true rfl) rfl rfl (by decide +kernel) (by decide +kernel) rfl (Nat.le_of_ble_eq_true rfl) rfl ?_
                  refine zw_aload_n 1 f126_0 rfl rfl ?_
                  refine zw_getfield 4 f126_1 rfl g126_7_12 (hb_52 _ _ _ _) rfl ?_
                  refine zw_iload_n 5 f126_4 rfl rfl ?_
                  refine zw_iaload a.toNatClampNeg 3 6 f126_5 rfl (hb_53 _ _ _ _) rfl hc1 (zix (by decide) hc1 (show ¬ 8 ≤ a from ix_le hp.1 (by decide) (by decide) hc1 hc2)) ((congrFun (hR.2.1 53 (by omega) (by omega)) a.toNatClampNeg).trans hk) ?_
                  refine zw_iconst 3 7 f126_6 rfl (by decide +kernel) ?_
                  refine zw_ic_eq_t 20 f126_7 (by decide +kernel) (by decide +kernel) ?_
                  refine zw_iconst 1 21 f126_20 rfl (by decide +kernel) ?_
                  refine zw_goto 25 f126_21 (by decide +kernel) ?_
                  refine zw_zreturn f126_25 r126 u126 (by decide +kernel) ⟨_, rfl, ?_⟩
                  refine zw_if_eq_f 24 30 f178_21 (by decide +kernel) rfl (by decide +kernel) ?_
                  refine zw_aload_n 25 f178_24 rfl rfl ?_
                  refine zw_bipush 40 27 f178_25 rfl (by decide +kernel) ?_
                  refine zw_virtual_v 30 0 0 [.ref 52, .int 40] [(0, .ref 52), (1, .int 40)] f178_27 rfl n178_291 k178_291_12 rfl (hb_52 _ _ _ _) (by decide +kernel) (Nat.le_of_ble_eq_true rfl) rfl rfl (by decide +kernel) (by decide +kernel) rfl (Nat.le_of_ble_eq_true rfl) rfl ?_
                  refine zw_aload_n 1 f173_0 rfl rfl ?_
                  refine zw_getI 4 4 f173_1 rfl g173_246_12 (hb_52 _ _ _ _) rfl rfl ?_
                  refine zw_bipush 50 6 f173_4 rfl (by decide +kernel) ?_
                  refine zw_ic_ge_f 9 19 f173_6 (by decide +kernel) rfl (by decide +kernel) ?_
                  refine zw_aload_n 10 f173_9 rfl rfl ?_
                  refine zw_getfield 13 f173_10 rfl g173_74_12 (hb_52 _ _ _ _) rfl ?_
                  refine zw_aload_n 14 f173_13 rfl rfl ?_
                  refine zw_getI 4 17 f173_14 rfl g173_246_12 (hb_52 _ _ _ _) rfl rfl ?_
                  refine zw_iload_n 18 f173_17 rfl rfl ?_
                  refine zw_ast 4 _ 19 f173_18 rfl (hb_71 _ _ _ _) (by decide +kernel) (by decide +kernel) (by decide +kernel) (ha_71 _ _ _ _ _) ?_
                  refine zw_aload_n 20 f173_19 rfl rfl ?_
                  refine zw_dup 21 f173_20 rfl rfl ?_
                  refine zw_getI 4 24 f173_21 rfl g173_246_12 (hb_52 _ _ _ _) rfl rfl ?_
                  refine zw_iconst 1 25 f173_24 rfl (by decide +kernel) ?_
                  refine zw_iadd 5 26 f173_25 rfl (by decide +kernel) ?_
                  refine zw_put _ 29 f173_26 rfl g173_246_12 (hb_52 _ _ _ _) rfl (Nat.le_of_ble_eq_true rfl) (by decide +kernel) (hi_52_29 _ _ _ _ _) ?_
                  refine zw_vreturn f173_29 r173 u173 ⟨rfl, ?_⟩
                  refine zw_aload_n 31 f178_30 rfl rfl ?_
                  refine zw_bipush 12 33 f178_31 rfl (by decide +kernel) ?_
                  refine zw_virtual_v 36 0 0 [.ref 52, .int 12] [(0, .ref 52), (1, .int 12)] f178_33 rfl n178_291 k178_291_12 rfl (hb_52 _ _ _ _) (by decide +kernel) (Nat.le_of_ble_eq_true rfl) rfl rfl (by decide +kernel) (by decide +kernel) rfl (Nat.le_of_ble_eq_true rfl) rfl ?_
                  refine zw_aload_n 1 f173_0 rfl rfl ?_
                  refine zw_getI 5 4 f173_1 rfl g173_246_12 (hb_52 _ _ _ _) rfl rfl ?_
                  refine zw_bipush 50 6 f173_4 rfl (by decide +kernel) ?_
                  refine zw_ic_ge_f 9 19 f173_6 (by decide +kernel) rfl (by decide +kernel) ?_
                  refine zw_aload_n 10 f173_9 rfl rfl ?_
                  refine zw_getfield 13 f173_10 rfl g173_74_12 (hb_52 _ _ _ _) rfl ?_
                  refine zw_aload_n 14 f173_13 rfl rfl ?_
                  refine zw_getI 5 17 f173_14 rfl g173_246_12 (hb_52 _ _ _ _) rfl rfl ?_
                  refine zw_iload_n 18 f173_17 rfl rfl ?_
                  refine zw_ast 5 _ 19 f173_18 rfl (hb_71 _ _ _ _) (by decide +kernel) (by decide +kernel) (by decide +kernel) (ha_71 _ _ _ _ _) ?_
                  refine zw_aload_n 20 f173_19 rfl rfl ?_
                  refine zw_dup 21 f173_20 rfl rfl ?_
                  refine zw_getI 5 24 f173_21 rfl g173_246_12 (hb_52 _ _ _ _) rfl rfl ?_
                  refine zw_iconst 1 25 f173_24 rfl (by decide +kernel) ?_
                  refine zw_iadd 6 26 f173_25 rfl (by decide +kernel) ?_
                  refine zw_put _ 29 f173_26 rfl g173_246_12 (hb_52 _ _ _ _) rfl (Nat.le_of_ble_eq_true rfl) (by decide +kernel) (hi_52_29 _ _ _ _ _) ?_
                  refine zw_vreturn f173_29 r173 u173 ⟨rfl, ?_⟩
                  refine zw_iload_n 37 f178_36 rfl rfl ?_
                  refine zw_aload_n 38 f178_37 rfl rfl ?_
                  refine zw_getfield 41 f178_38 rfl g178_13_12 (hb_52 _ _ _ _) rfl ?_
                  refine zw_iload_n 42 f178_41 rfl rfl ?_
                  refine zw_iaload a.toNatClampNeg (P 54 a.toNatClampNeg) 43 f178_42 rfl (hb_54 _ _ _ _) rfl hc1 (zix (by decide) hc1 (show ¬ 8 ≤ a from ix_le hp.1 (by decide) (by decide) hc1 hc2)) (congrFun ((hR.2.1 54 (by omega) (by omega))) a.toNatClampNeg) ?_
                  refine zw_ixor (c ^^^ (P 54 a.toNatClampNeg)) 44 f178_43 rfl rfl ?_
                  refine zw_aload_n 45 f178_44 rfl rfl ?_
                  refine zw_iload_n 46 f178_45 rfl rfl ?_
                  refine zw_virtual_i 49 0 0 [.ref 52, .int a] [(0, .ref 52), (1, .int a)] f178_46 rfl n178_158 k178_158_12 rfl (hb_52 _ _ _ _) (by decide +kernel) (Nat.le_of_ble_eq_true rfl) rfl rfl (by decide +kernel) (by decide +kernel) rfl (Nat.le_of_ble_eq_true rfl) rfl ?_
                  refine zw_aload_n 1 f126_0 rfl rfl ?_
                  refine zw_getfield 4 f126_1 rfl g126_7_12 (hb_52 _ _ _ _) rfl ?_
                  refine zw_iload_n 5 f126_4 rfl rfl ?_
                  refine zw_iaload a.toNatClampNeg 3 6 f126_5 rfl (hb_53 _ _ _ _) rfl hc1 (zix (by decide) hc1 (show ¬ 8 ≤ a from ix_le hp.1 (by decide) (by decide) hc1 hc2)) ((congrFun (hR.2.1 53 (by omega) (by omega)) a.toNatClampNeg).trans hk) ?_
                  refine zw_iconst 3 7 f126_6 rfl (by decide +kernel) ?_
                  refine zw_ic_eq_t 20 f126_7 (by decide +kernel) (by decide +kernel) ?_
                  refine zw_iconst 1 21 f126_20 rfl (by decide +kernel) ?_
                  refine zw_goto 25 f126_21 (by decide +kernel) ?_
                  refine zw_zreturn f126_25 r126 u126 (by decide +kernel) ⟨_, rfl, ?_⟩
                  refine zw_if_eq_f 52 61 f178_49 (by decide +kernel) rfl (by decide +kernel) ?_
                  refine zw_aload_n 53 f178_52 rfl rfl ?_
                  refine zw_getfield 56 f178_53 rfl g178_19_12 (hb_52 _ _ _ _) rfl ?_
                  refine zw_iload_n 57 f178_56 rfl rfl ?_
                  refine zw_iaload a.toNatClampNeg (P 56 a.toNatClampNeg) 58 f178_57 rfl (hb_56 _ _ _ _) rfl hc1 (zix (by decide) hc1 (show ¬ 8 ≤ a from ix_le hp.1 (by decide) (by decide) hc1 hc2)) (congrFun ((hR.2.1 56 (by omega) (by omega))) a.toNatClampNeg) ?_
                  refine zw_goto 62 f178_58 (by decide +kernel) ?_
                  refine zw_iadd ((c ^^^ (P 54 a.toNatClampNeg)) + (P 56 a.toNatClampNeg)) 63 f178_62 rfl rfl ?_
                  refine zw_aload_n 64 f178_63 rfl rfl ?_
                  refine zw_getfield 67 f178_64 rfl g178_7_12 (hb_52 _ _ _ _) rfl ?_
                  refine zw_iload_n 68 f178_67 rfl rfl ?_
                  refine zw_iaload a.toNatClampNeg 3 69 f178_68 rfl (hb_53 _ _ _ _) rfl hc1 (zix (by decide) hc1 (show ¬ 8 ≤ a from ix_le hp.1 (by decide) (by decide) hc1 hc2)) ((congrFun (hR.2.1 53 (by omega) (by omega)) a.toNatClampNeg).trans hk) ?_
                  refine zw_iconst 4 70 f178_69 rfl (by decide +kernel) ?_
                  refine zw_ic_ne_t 82 f178_70 (by decide +kernel) (by decide +kernel) ?_
                  refine zw_iconst 0 83 f178_82 rfl (by decide +kernel) ?_
                  refine zw_iadd (((c ^^^ (P 54 a.toNatClampNeg)) + (P 56 a.toNatClampNeg)) + 0) 84 f178_83 rfl rfl ?_
                  refine zw_ireturn f178_84 r178 u178 ⟨_, rfl, ?_⟩
                  refine zw_isub ((((c + (P 55 a.toNatClampNeg)) + (P 54 a.toNatClampNeg)) * 3) - (((c ^^^ (P 54 a.toNatClampNeg)) + (P 56 a.toNatClampNeg)) + 0)) 45 f179_44 rfl rfl ?_
                  refine zw_ireturn f179_45 r179 u179 ⟨_, rfl, ?_⟩
                  refine zw_virtual_i 79 0 0 [.ref 52, .int ((((c + (P 55 a.toNatClampNeg)) + (P 54 a.toNatClampNeg)) * 3) - (((c ^^^ (P 54 a.toNatClampNeg)) + (P 56 a.toNatClampNeg)) + 0))] [(0, .ref 52), (1, .int ((((c + (P 55 a.toNatClampNeg)) + (P 54 a.toNatClampNeg)) * 3) - (((c ^^^ (P 54 a.toNatClampNeg)) + (P 56 a.toNatClampNeg)) + 0)))] f180_76 rfl n180_205 k180_205_12 rfl (hb_52 _ _ _ _) (by decide +kernel) (Nat.le_of_ble_eq_true rfl) rfl rfl (by decide +kernel) (by decide +kernel) rfl (Nat.le_of_ble_eq_true rfl) rfl ?_
                  refine zw_aload_n 1 f122_0 rfl rfl ?_
                  refine zw_iconst 0 2 f122_1 rfl (by decide +kernel) ?_
                  refine zw_put _ 5 f122_2 rfl g122_111_12 (hb_52 _ _ _ _) rfl (Nat.le_of_ble_eq_true rfl) (by decide +kernel) (hi_52_27 _ _ _ _ _) ?_
                  refine zw_iload_n 6 f122_5 rfl rfl ?_
                  refine zw_ireturn f122_6 r122 u122 ⟨_, rfl, ?_⟩
                  refine zw_ireturn f180_79 r180 u180 ?_
                  exact ⟨_, _, _, _, rfl, (KQ.i rfl (KQ.i rfl (KQ.a rfl (KQ.i rfl (KQ.a rfl (KQ.i rfl (KQ.a rfl (KQ.i rfl (KQ.a rfl (KQ.i rfl (KQ.a rfl (KQ.i rfl (KQ.a rfl (KQ.i rfl KQ.rf)))))))))))))), ⟨hi.1, hi.2.1, 6, by omega, (show _ = nI 6 from rfl)⟩, by rw [show an_act nv P W a b c = ((((c + (P 55 a.toNatClampNeg)) + (P 54 a.toNatClampNeg)) * 3) - (((c ^^^ (P 54 a.toNatClampNeg)) + (P 56 a.toNatClampNeg)) + 0)) from ((cI_y ⟨(qV.of (by omega) hc1 hc2), ⟨hc3, hc4⟩⟩).trans ((cI_n hc5).trans ((cI_n hc6).trans ((cI_n hc7).trans ((cI_n (kne hk (by decide))).trans ((cI_n (kne hk (by decide))).trans ((cI_n (kne hk (by decide))).trans ((cI_y hk).trans (by simp only [Int32.add_zero])))))))))]⟩
                · refine zw_iaload a.toNatClampNeg 4 8 f179_7 rfl (hb_53 _ _ _ _) rfl hc1 (zix (by decide) hc1 (show ¬ 8 ≤ a from ix_le hp.1 (by decide) (by decide) hc1 hc2)) ((congrFun (hR.2.1 53 (by omega) (by omega)) a.toNatClampNeg).trans hk) ?_
                  refine zw_iconst 1 9 f179_8 rfl (by decide +kernel) ?_
                  refine zw_ic_ne_t 22 f179_9 (by decide +kernel) (by decide +kernel) ?_
                  refine zw_aload_n 23 f179_22 rfl (zl1_ne rfl rfl rfl) ?_
                  refine zw_bipush 13 25 f179_23 rfl (by decide +kernel) ?_
                  refine zw_virtual_v 28 0 0 [.ref 52, .int 13] [(0, .ref 52), (1, .int 13)] f179_25 rfl n179_291 k179_291_12 rfl (hb_52 _ _ _ _) (by decide +kernel) (Nat.le_of_ble_eq_true rfl) rfl rfl (by decide +kernel) (by decide +kernel) rfl (Nat.le_of_ble_eq_true rfl) rfl ?_
                  refine zw_aload_n 1 f173_0 rfl rfl ?_
                  refine zw_getI 0 4 f173_1 rfl g173_246_12 (hb_52 _ _ _ _) rfl rfl ?_
                  refine zw_bipush 50 6 f173_4 rfl (by decide +kernel) ?_
                  refine zw_ic_ge_f 9 19 f173_6 (by decide +kernel) rfl (by decide +kernel) ?_
                  refine zw_aload_n 10 f173_9 rfl rfl ?_
                  refine zw_getfield 13 f173_10 rfl g173_74_12 (hb_52 _ _ _ _) rfl ?_
                  refine zw_aload_n 14 f173_13 rfl rfl ?_
                  refine zw_getI 0 17 f173_14 rfl g173_246_12 (hb_52 _ _ _ _) rfl rfl ?_
                  refine zw_iload_n 18 f173_17 rfl rfl ?_
                  refine zw_ast 0 _ 19 f173_18 rfl (hb_71 _ _ _ _) (by decide +kernel) (by decide +kernel) (by decide +kernel) (ha_71 _ _ _ _ _) ?_
                  refine zw_aload_n 20 f173_19 rfl rfl ?_
                  refine zw_dup 21 f173_20 rfl rfl ?_
                  refine zw_getI 0 24 f173_21 rfl g173_246_12 (hb_52 _ _ _ _) rfl rfl ?_
                  refine zw_iconst 1 25 f173_24 rfl (by decide +kernel) ?_
                  refine zw_iadd 1 26 f173_25 rfl (by decide +kernel) ?_
                  refine zw_put _ 29 f173_26 rfl g173_246_12 (hb_52 _ _ _ _) rfl (Nat.le_of_ble_eq_true rfl) (by decide +kernel) (hi_52_29 _ _ _ _ _) ?_
                  refine zw_vreturn f173_29 r173 u173 ⟨rfl, ?_⟩
                  refine zw_aload_n 29 f179_28 rfl (zl1_ne rfl rfl rfl) ?_
                  refine zw_iload_n 30 f179_29 rfl (zl1_ne rfl rfl rfl) ?_
                  refine zw_iload_n 31 f179_30 rfl zl1_eq ?_
                  refine zw_virtual_i 34 0 0 [.ref 52, .int a, .int c] [(0, .ref 52), (1, .int a), (2, .int c)] f179_31 rfl n179_304 k179_304_12 rfl (hb_52 _ _ _ _) (by decide +kernel) (Nat.le_of_ble_eq_true rfl) rfl rfl (by decide +kernel) (by decide +kernel) rfl (Nat.le_of_ble_eq_true rfl) rfl ?_
                  refine zw_aload_n 1 f177_0 rfl rfl ?_
                  refine zw_getfield 4 f177_1 rfl g177_7_12 (hb_52 _ _ _ _) rfl ?_
                  refine zw_iload_n 5 f177_4 rfl rfl ?_
                  refine zw_iaload a.toNatClampNeg 4 6 f177_5 rfl (hb_53 _ _ _ _) rfl hc1 (zix (by decide) hc1 (show ¬ 8 ≤ a from ix_le hp.1 (by decide) (by decide) hc1 hc2)) ((congrFun (hR.2.1 53 (by omega) (by omega)) a.toNatClampNeg).trans hk) ?_
                  refine zw_iconst 1 7 f177_6 rfl (by decide +kernel) ?_
                  refine zw_ic_ne_t 30 f177_7 (by decide +kernel) (by decide +kernel) ?_
                  refine zw_aload_n 31 f177_30 rfl rfl ?_
                  refine zw_getfield 34 f177_31 rfl g177_7_12 (hb_52 _ _ _ _) rfl ?_
                  refine zw_iload_n 35 f177_34 rfl rfl ?_
                  refine zw_iaload a.toNatClampNeg 4 36 f177_35 rfl (hb_53 _ _ _ _) rfl hc1 (zix (by decide) hc1 (show ¬ 8 ≤ a from ix_le hp.1 (by decide) (by decide) hc1 hc2)) ((congrFun (hR.2.1 53 (by omega) (by omega)) a.toNatClampNeg).trans hk) ?_
                  refine zw_iconst 4 37 f177_36 rfl (by decide +kernel) ?_
                  refine zw_ic_ne_f 40 60 f177_37 (by decide +kernel) rfl (by decide +kernel) ?_
                  refine zw_aload_n 41 f177_40 rfl rfl ?_
                  refine zw_bipush 51 43 f177_41 rfl (by decide +kernel) ?_
                  refine zw_virtual_v 46 0 0 [.ref 52, .int 51] [(0, .ref 52), (1, .int 51)] f177_43 rfl n177_291 k177_291_12 rfl (hb_52 _ _ _ _) (by decide +kernel) (Nat.le_of_ble_eq_true rfl) rfl rfl (by decide +kernel) (by decide +kernel) rfl (Nat.le_of_ble_eq_true rfl) rfl ?_
                  refine zw_aload_n 1 f173_0 rfl rfl ?_
                  refine zw_getI 1 4 f173_1 rfl g173_246_12 (hb_52 _ _ _ _) rfl rfl ?_
                  refine zw_bipush 50 6 f173_4 rfl (by decide +kernel) ?_
                  refine zw_ic_ge_f 9 19 f173_6 (by decide +kernel) rfl (by decide +kernel) ?_
                  refine zw_aload_n 10 f173_9 rfl rfl ?_
                  refine zw_getfield 13 f173_10 rfl g173_74_12 (hb_52 _ _ _ _) rfl ?_
                  refine zw_aload_n 14 f173_13 rfl rfl ?_
                  refine zw_getI 1 17 f173_14 rfl g173_246_12 (hb_52 _ _ _ _) rfl rfl ?_
                  refine zw_iload_n 18 f173_17 rfl rfl ?_
                  refine zw_ast 1 _ 19 f173_18 rfl (hb_71 _ _ _ _) (by decide +kernel) (by decide +kernel) (by decide +kernel) (ha_71 _ _ _ _ _) ?_
                  refine zw_aload_n 20 f173_19 rfl rfl ?_
                  refine zw_dup 21 f173_20 rfl rfl ?_
                  refine zw_getI 1 24 f173_21 rfl g173_246_12 (hb_52 _ _ _ _) rfl rfl ?_
                  refine zw_iconst 1 25 f173_24 rfl (by decide +kernel) ?_
                  refine zw_iadd 2 26 f173_25 rfl (by decide +kernel) ?_
                  refine zw_put _ 29 f173_26 rfl g173_246_12 (hb_52 _ _ _ _) rfl (Nat.le_of_ble_eq_true rfl) (by decide +kernel) (hi_52_29 _ _ _ _ _) ?_
                  refine zw_vreturn f173_29 r173 u173 ⟨rfl, ?_⟩
                  refine zw_aload_n 47 f177_46 rfl rfl ?_
                  refine zw_iload_n 48 f177_47 rfl rfl ?_
                  refine zw_iload_n 49 f177_48 rfl rfl ?_
                  refine zw_virtual_i 52 0 0 [.ref 52, .int a, .int c] [(0, .ref 52), (1, .int a), (2, .int c)] f177_49 rfl n177_301 k177_301_12 rfl (hb_52 _ _ _ _) (by decide +kernel) (Nat.le_of_ble_eq_true rfl) rfl rfl (by decide +kernel) (by decide +kernel) rfl (Nat.le_of_ble_eq_true rfl) rfl ?_
                  refine zw_aload_n 1 f176_0 rfl rfl ?_
                  refine zw_bipush 11 3 f176_1 rfl (by decide +kernel) ?_
                  refine zw_virtual_v 6 0 0 [.ref 52, .int 11] [(0, .ref 52), (1, .int 11)] f176_3 rfl n176_291 k176_291_12 rfl (hb_52 _ _ _ _) (by decide +kernel) (Nat.le_of_ble_eq_true rfl) rfl rfl (by decide +kernel) (by decide +kernel) rfl (Nat.le_of_ble_eq_true rfl) rfl ?_
                  refine zw_aload_n 1 f173_0 rfl rfl ?_
                  refine zw_getI 2 4 f173_1 rfl g173_246_12 (hb_52 _ _ _ _) rfl rfl ?_
                  refine zw_bipush 50 6 f173_4 rfl (by decide +kernel) ?_
                  refine zw_ic_ge_f 9 19 f173_6 (by decide +kernel) rfl (by decide +kernel) ?_
                  refine zw_aload_n 10 f173_9 rfl rfl ?_
                  refine zw_getfield 13 f173_10 rfl g173_74_12 (hb_52 _ _ _ _) rfl ?_
                  refine zw_aload_n 14 f173_13 rfl rfl ?_
                  refine zw_getI 2 17 f173_14 rfl g173_246_12 (hb_52 _ _ _ _) rfl rfl ?_
                  refine zw_iload_n 18 f173_17 rfl rfl ?_
                  refine zw_ast 2 _ 19 f173_18 rfl (hb_71 _ _ _ _) (by decide +kernel) (by decide +kernel) (by decide +kernel) (ha_71 _ _ _ _ _) ?_
                  refine zw_aload_n 20 f173_19 rfl rfl ?_
                  refine zw_dup 21 f173_20 rfl rfl ?_
                  refine zw_getI 2 24 f173_21 rfl g173_246_12 (hb_52 _ _ _ _) rfl rfl ?_
                  refine zw_iconst 1 25 f173_24 rfl (by decide +kernel) ?_
                  refine zw_iadd 3 26 f173_25 rfl (by decide +kernel) ?_
                  refine zw_put _ 29 f173_26 rfl g173_246_12 (hb_52 _ _ _ _) rfl (Nat.le_of_ble_eq_true rfl) (by decide +kernel) (hi_52_29 _ _ _ _ _) ?_
                  refine zw_vreturn f173_29 r173 u173 ⟨rfl, ?_⟩
                  refine zw_aload_n 7 f176_6 rfl rfl ?_
                  refine zw_iload_n 8 f176_7 rfl rfl ?_
                  refine zw_iload_n 9 f176_8 rfl rfl ?_
                  refine zw_virtual_i 12 0 0 [.ref 52, .int a, .int c] [(0, .ref 52), (1, .int a), (2, .int c)] f176_9 rfl n176_298 k176_298_12 rfl (hb_52 _ _ _ _) (by decide +kernel) (Nat.le_of_ble_eq_true rfl) rfl rfl (by decide +kernel) (by decide +kernel) rfl (Nat.le_of_ble_eq_true rfl) rfl ?_
                  refine zw_aload_n 1 f175_0 rfl rfl ?_
                  refine zw_getfield 4 f175_1 rfl g175_7_12 (hb_52 _ _ _ _) rfl ?_
                  refine zw_iload_n 5 f175_4 rfl rfl ?_
                  refine zw_iaload a.toNatClampNeg 4 6 f175_5 rfl (hb_53 _ _ _ _) rfl hc1 (zix (by decide) hc1 (show ¬ 8 ≤ a from ix_le hp.1 (by decide) (by decide) hc1 hc2)) ((congrFun (hR.2.1 53 (by omega) (by omega)) a.toNatClampNeg).trans hk) ?_
                  refine zw_iconst 2 7 f175_6 rfl (by decide +kernel) ?_
                  refine zw_ic_ne_t 25 f175_7 (by decide +kernel) (by decide +kernel) ?_
                  refine zw_aload_n 26 f175_25 rfl rfl ?_
                  refine zw_iload_n 27 f175_26 rfl rfl ?_
                  refine zw_virtual_i 30 0 0 [.ref 52, .int a] [(0, .ref 52), (1, .int a)] f175_27 rfl n175_158 k175_158_12 rfl (hb_52 _ _ _ _) (by decide +kernel) (Nat.le_of_ble_eq_true rfl) rfl rfl (by decide +kernel) (by decide +kernel) rfl (Nat.le_of_ble_eq_true rfl) rfl ?_
                  refine zw_aload_n 1 f126_0 rfl rfl ?_
                  refine zw_getfield 4 f126_1 rfl g126_7_12 (hb_52 _ _ _ _) rfl ?_
                  refine zw_iload_n 5 f126_4 rfl rfl ?_
                  refine zw_iaload a.toNatClampNeg 4 6 f126_5 rfl (hb_53 _ _ _ _) rfl hc1 (zix (by decide) hc1 (show ¬ 8 ≤ a from ix_le hp.1 (by decide) (by decide) hc1 hc2)) ((congrFun (hR.2.1 53 (by omega) (by omega)) a.toNatClampNeg).trans hk) ?_
                  refine zw_iconst 3 7 f126_6 rfl (by decide +kernel) ?_
                  refine zw_ic_eq_f 10 20 f126_7 (by decide +kernel) rfl (by decide +kernel) ?_
                  refine zw_aload_n 11 f126_10 rfl rfl ?_
                  refine zw_getfield 14 f126_11 rfl g126_7_12 (hb_52 _ _ _ _) rfl ?_
                  refine zw_iload_n 15 f126_14 rfl rfl ?_
                  refine zw_iaload a.toNatClampNeg 4 16 f126_15 rfl (hb_53 _ _ _ _) rfl hc1 (zix (by decide) hc1 (show ¬ 8 ≤ a from ix_le hp.1 (by decide) (by decide) hc1 hc2)) ((congrFun (hR.2.1 53 (by omega) (by omega)) a.toNatClampNeg).trans hk) ?_
                  refine zw_iconst 4 17 f126_16 rfl (by decide +kernel) ?_
                  refine zw_ic_ne_f 20 24 f126_17 (by decide +kernel) rfl (by decide +kernel) ?_
                  refine zw_iconst 1 21 f126_20 rfl (by decide +kernel) ?_
                  refine zw_goto 25 f126_21 (by decide +kernel) ?_
                  refine zw_zreturn f126_25 r126 u126 (by decide +kernel) ⟨_, rfl, ?_⟩
                  refine zw_if_eq_f 33 53 f175_30 (by decide +kernel) rfl (by decide +kernel) ?_
                  refine zw_aload_n 34 f175_33 rfl rfl ?_
                  refine zw_bipush 41 36 f175_34 rfl (by decide +kernel) ?_
                  refine zw_virtual_v 39 0 0 [.ref 52, .int 41] [(0, .ref 52), (1, .int 41)] f175_36 rfl n175_291 k175_291_12 rfl (hb_52 _ _ _ _) (by decide +kernel) (Nat.le_of_ble_eq_true rfl) rfl rfl (by decide +kernel) (by decide +kernel) rfl (Nat.le_of_ble_eq_true rfl) rfl ?_
                  refine zw_aload_n 1 f173_0 rfl rfl ?_
                  refine zw_getI 3 4 f173_1 rfl g173_246_12 (hb_52 _ _ _ _) rfl rfl ?_
                  refine zw_bipush 50 6 f173_4 rfl (by decide +kernel) ?_
                  refine zw_ic_ge_f 9 19 f173_6 (by decide +kernel) rfl (by decide +kernel) ?_
                  refine zw_aload_n 10 f173_9 rfl rfl ?_
                  refine zw_getfield 13 f173_10 rfl g173_74_12 (hb_52 _ _ _ _) rfl ?_
                  refine zw_aload_n 14 f173_13 rfl rfl ?_
                  refine zw_getI 3 17 f173_14 rfl g173_246_12 (hb_52 _ _ _ _) rfl rfl ?_
                  refine zw_iload_n 18 f173_17 rfl rfl ?_
                  refine zw_ast 3 _ 19 f173_18 rfl (hb_71 _ _ _ _) (by decide +kernel) (by decide +kernel) (by decide +kernel) (ha_71 _ _ _ _ _) ?_
                  refine zw_aload_n 20 f173_19 rfl rfl ?_
                  refine zw_dup 21 f173_20 rfl rfl ?_
                  refine zw_getI 3 24 f173_21 rfl g173_246_12 (hb_52 _ _ _ _) rfl rfl ?_
                  refine zw_iconst 1 25 f173_24 rfl (by decide +kernel) ?_
                  refine zw_iadd 4 26 f173_25 rfl (by decide +kernel) ?_
                  refine zw_put _ 29 f173_26 rfl g173_246_12 (hb_52 _ _ _ _) rfl (Nat.le_of_ble_eq_true rfl) (by decide +kernel) (hi_52_29 _ _ _ _ _) ?_
                  refine zw_vreturn f173_29 r173 u173 ⟨rfl, ?_⟩
                  refine zw_aload_n 40 f175_39 rfl rfl ?_
                  refine zw_iload_n 41 f175_40 rfl rfl ?_
                  refine zw_iload_n 42 f175_41 rfl rfl ?_
                  refine zw_aload_n 43 f175_42 rfl rfl ?_
                  refine zw_getfield 46 f175_43 rfl g175_16_12 (hb_52 _ _ _ _) rfl ?_
                  refine zw_iload_n 47 f175_46 rfl rfl ?_
                  refine zw_iaload a.toNatClampNeg (P 55 a.toNatClampNeg) 48 f175_47 rfl (hb_55 _ _ _ _) rfl hc1 (zix (by decide) hc1 (show ¬ 8 ≤ a from ix_le hp.1 (by decide) (by decide) hc1 hc2)) (congrFun ((hR.2.1 55 (by omega) (by omega))) a.toNatClampNeg) ?_
                  refine zw_iadd (c + (P 55 a.toNatClampNeg)) 49 f175_48 rfl rfl ?_
                  refine zw_virtual_i 52 0 0 [.ref 52, .int a, .int (c + (P 55 a.toNatClampNeg))] [(0, .ref 52), (1, .int a), (2, .int (c + (P 55 a.toNatClampNeg)))] f175_49 rfl n175_294 k175_294_12 rfl (hb_52 _ _ _ _) (by decide +kernel) (Nat.le_of_ble_eq_true rfl) rfl rfl (by decide +kernel) (by decide +kernel) rfl (Nat.le_of_ble_eq_true rfl) rfl ?_
                  refine zw_aload_n 1 f174_0 rfl rfl ?_
                  refine zw_bipush 10 3 f174_1 rfl (by decide +kernel) ?_
                  refine zw_virtual_v 6 0 0 [.ref 52, .int 10] [(0, .ref 52), (1, .int 10)] f174_3 rfl n174_291 k174_291_12 rfl (hb_52 _ _ _ _) (by decide +kernel) (Nat.le_of_ble_eq_true rfl) rfl rfl (by decide +kernel) (by decide +kernel) rfl (Nat.le_of_ble_eq_true rfl) rfl ?_
                  refine zw_aload_n 1 f173_0 rfl rfl ?_
                  refine zw_getI 4 4 f173_1 rfl g173_246_12 (hb_52 _ _ _ _) rfl rfl ?_
                  refine zw_bipush 50 6 f173_4 rfl (by decide +kernel) ?_
                  refine zw_ic_ge_f 9 19 f173_6 (by decide +kernel) rfl (by decide +kernel) ?_
                  refine zw_aload_n 10 f173_9 rfl rfl ?_
                  refine zw_getfield 13 f173_10 rfl g173_74_12 (hb_52 _ _ _ _) rfl ?_
                  refine zw_aload_n 14 f173_13 rfl rfl ?_
                  refine zw_getI 4 17 f173_14 rfl g173_246_12 (hb_52 _ _ _ _) rfl rfl ?_
                  refine zw_iload_n 18 f173_17 rfl rfl ?_
                  refine zw_ast 4 _ 19 f173_18 rfl (hb_71 _ _ _ _) (by decide +kernel) (by decide +kernel) (by decide +kernel) (ha_71 _ _ _ _ _) ?_
                  refine zw_aload_n 20 f173_19 rfl rfl ?_
                  refine zw_dup 21 f173_20 rfl rfl ?_
                  refine zw_getI 4 24 f173_21 rfl g173_246_12 (hb_52 _ _ _ _) rfl rfl ?_
                  refine zw_iconst 1 25 f173_24 rfl (by decide +kernel) ?_
                  refine zw_iadd 5 26 f173_25 rfl (by decide +kernel) ?_
                  refine zw_put _ 29 f173_26 rfl g173_246_12 (hb_52 _ _ _ _) rfl (Nat.le_of_ble_eq_true rfl) (by decide +kernel) (hi_52_29 _ _ _ _ _) ?_
                  refine zw_vreturn f173_29 r173 u173 ⟨rfl, ?_⟩
                  refine zw_iload_n 7 f174_6 rfl rfl ?_
                  refine zw_aload_n 8 f174_7 rfl rfl ?_
                  refine zw_getfield 11 f174_8 rfl g174_13_12 (hb_52 _ _ _ _) rfl ?_
                  refine zw_iload_n 12 f174_11 rfl rfl ?_
                  refine zw_iaload a.toNatClampNeg (P 54 a.toNatClampNeg) 13 f174_12 rfl (hb_54 _ _ _ _) rfl hc1 (zix (by decide) hc1 (show ¬ 8 ≤ a from ix_le hp.1 (by decide) (by decide) hc1 hc2)) (congrFun ((hR.2.1 54 (by omega) (by omega))) a.toNatClampNeg) ?_
                  refine zw_iadd ((c + (P 55 a.toNatClampNeg)) + (P 54 a.toNatClampNeg)) 14 f174_13 rfl rfl ?_
                  refine zw_ireturn f174_14 r174 u174 ⟨_, rfl, ?_⟩
                  refine zw_ireturn f175_52 r175 u175 ⟨_, rfl, ?_⟩
                  refine zw_iconst 3 13 f176_12 rfl (by decide +kernel) ?_
                  refine zw_imul (((c + (P 55 a.toNatClampNeg)) + (P 54 a.toNatClampNeg)) * 3) 14 f176_13 rfl rfl ?_
                  refine zw_ireturn f176_14 r176 u176 ⟨_, rfl, ?_⟩
                  refine zw_aload_n 53 f177_52 rfl rfl ?_
                  refine zw_getfield 56 f177_53 rfl g177_55_12 (hb_52 _ _ _ _) rfl ?_
                  refine zw_iload_n 57 f177_56 rfl rfl ?_
                  refine zw_iaload a.toNatClampNeg ((W.2.2.2.2.2.2.2) a.toNatClampNeg) 58 f177_57 rfl (hb_66 _ _ _ _) rfl hc1 (zix (by decide) hc1 (show ¬ 8 ≤ a from ix_le hp.1 (by decide) (by decide) hc1 hc2)) (congrFun (hR.cnt) a.toNatClampNeg) ?_
                  refine zw_ixor ((((c + (P 55 a.toNatClampNeg)) + (P 54 a.toNatClampNeg)) * 3) ^^^ ((W.2.2.2.2.2.2.2) a.toNatClampNeg)) 59 f177_58 rfl rfl ?_
                  refine zw_ireturn f177_59 r177 u177 ⟨_, rfl, ?_⟩
                  refine zw_istore _ 36 f179_34 rfl (by decide +kernel) rfl ?_
                  refine zw_iload 38 f179_36 rfl zl1_eq ?_
                  refine zw_aload_n 39 f179_38 rfl (zl1_ne rfl rfl (zl1_ne rfl rfl rfl)) ?_
                  refine zw_iload_n 40 f179_39 rfl (zl1_ne rfl rfl (zl1_ne rfl rfl rfl)) ?_
                  refine zw_iload_n 41 f179_40 rfl (zl1_ne rfl rfl zl1_eq) ?_
                  refine zw_virtual_i 44 0 0 [.ref 52, .int a, .int c] [(0, .ref 52), (1, .int a), (2, .int c)] f179_41 rfl n179_307 k179_307_12 rfl (hb_52 _ _ _ _) (by decide +kernel) (Nat.le_of_ble_eq_true rfl) rfl rfl (by decide +kernel) (by decide +kernel) rfl (Nat.le_of_ble_eq_true rfl) rfl ?_
                  refine zw_aload_n 1 f178_0 rfl rfl ?_
                  refine zw_getfield 4 f178_1 rfl g178_7_12 (hb_52 _ _ _ _) rfl ?_
                  refine zw_iload_n 5 f178_4 rfl rfl ?_
                  refine zw_iaload a.toNatClampNeg 4 6 f178_5 rfl (hb_53 _ _ _ _) rfl hc1 (zix (by decide) hc1 (show ¬ 8 ≤ a from ix_le hp.1 (by decide) (by decide) hc1 hc2)) ((congrFun (hR.2.1 53 (by omega) (by omega)) a.toNatClampNeg).trans hk) ?_
                  refine zw_iconst 4 7 f178_6 rfl (by decide +kernel) ?_
                  refine zw_ic_ne_f 10 16 f178_7 (by decide +kernel) rfl (by decide +kernel) ?_
                  refine zw_aload_n 11 f178_10 rfl rfl ?_
                  refine zw_bipush 50 13 f178_11 rfl (by decide +kernel) ?_
                  refine zw_virtual_v 16 0 0 [.ref 52, .int 50] [(0, .ref 52), (1, .int 50)] f178_13 rfl n178_291 k178_291_12 rfl (hb_52 _ _ _ _) (by decide +kernel) (Nat.le_of_ble_eq_true rfl) rfl rfl (by decide +kernel) (by decide +kernel) rfl (Nat.le_of_ble_eq_true rfl) rfl ?_
                  refine zw_aload_n 1 f173_0 rfl rfl ?_
                  refine zw_getI 5 4 f173_1 rfl g173_246_12 (hb_52 _ _ _ _) rfl rfl ?_
                  refine zw_bipush 50 6 f173_4 rfl (by decide +kernel) ?_
                  refine zw_ic_ge_f 9 19 f173_6 (by decide +kernel) rfl (by decide +kernel) ?_
                  refine zw_aload_n 10 f173_9 rfl rfl ?_
                  refine zw_getfield 13 f173_10 rfl g173_74_12 (hb_52 _ _ _ _) rfl ?_
                  refine zw_aload_n 14 f173_13 rfl rfl ?_
                  refine zw_getI 5 17 f173_14 rfl g173_246_12 (hb_52 _ _ _ _) rfl rfl ?_
                  refine zw_iload_n 18 f173_17 rfl rfl ?_
                  refine zw_ast 5 _ 19 f173_18 rfl (hb_71 _ _ _ _) (by decide +kernel) (by decide +kernel) (by decide +kernel) (ha_71 _ _ _ _ _) ?_
                  refine zw_aload_n 20 f173_19 rfl rfl ?_
                  refine zw_dup 21 f173_20 rfl rfl ?_
                  refine zw_getI 5 24 f173_21 rfl g173_246_12 (hb_52 _ _ _ _) rfl rfl ?_
                  refine zw_iconst 1 25 f173_24 rfl (by decide +kernel) ?_
                  refine zw_iadd 6 26 f173_25 rfl (by decide +kernel) ?_
                  refine zw_put _ 29 f173_26 rfl g173_246_12 (hb_52 _ _ _ _) rfl (Nat.le_of_ble_eq_true rfl) (by decide +kernel) (hi_52_29 _ _ _ _ _) ?_
                  refine zw_vreturn f173_29 r173 u173 ⟨rfl, ?_⟩
                  refine zw_aload_n 17 f178_16 rfl rfl ?_
                  refine zw_iload_n 18 f178_17 rfl rfl ?_
                  refine zw_virtual_i 21 0 0 [.ref 52, .int a] [(0, .ref 52), (1, .int a)] f178_18 rfl n178_158 k178_158_12 rfl (hb_52 _ _ _ _) (by decide +kernel) (Nat.le_of_ble_eq_true rfl) rfl rfl (by decide +kernel) (by decide +kernel) rfl (Nat.le_of_ble_eq_true rfl) rfl ?_
                  refine zw_aload_n 1 f126_0 rfl rfl ?_
                  refine zw_getfield 4 f126_1 rfl g126_7_12 (hb_52 _ _ _ _) rfl ?_
                  refine zw_iload_n 5 f126_4 rfl rfl ?_
                  refine zw_iaload a.toNatClampNeg 4 6 f126_5 rfl (hb_53 _ _ _ _) rfl hc1 (zix (by decide) hc1 (show ¬ 8 ≤ a from ix_le hp.1 (by decide) (by decide) hc1 hc2)) ((congrFun (hR.2.1 53 (by omega) (by omega)) a.toNatClampNeg).trans hk) ?_
                  refine zw_iconst 3 7 f126_6 rfl (by decide +kernel) ?_
                  refine zw_ic_eq_f 10 20 f126_7 (by decide +kernel) rfl (by decide +kernel) ?_
                  refine zw_aload_n 11 f126_10 rfl rfl ?_
                  refine zw_getfield 14 f126_11 rfl g126_7_12 (hb_52 _ _ _ _) rfl ?_
                  refine zw_iload_n 15 f126_14 rfl rfl ?_
                  refine zw_iaload a.toNatClampNeg 4 16 f126_15 rfl (hb_53 _ _ _ _) rfl hc1 (zix (by decide) hc1 (show ¬ 8 ≤ a from ix_le hp.1 (by decide) (by decide) hc1 hc2)) ((congrFun (hR.2.1 53 (by omega) (by omega)) a.toNatClampNeg).trans hk) ?_
                  refine zw_iconst 4 17 f126_16 rfl (by decide +kernel) ?_
                  refine zw_ic_ne_f 20 24 f126_17 (by decide +kernel) rfl (by decide +kernel) ?_
                  refine zw_iconst 1 21 f126_20 rfl (by decide +kernel) ?_
                  refine zw_goto 25 f126_21 (by decide +kernel) ?_
                  refine zw_zreturn f126_25 r126 u126 (by decide +kernel) ⟨_, rfl, ?_⟩
                  refine zw_if_eq_f 24 30 f178_21 (by decide +kernel) rfl (by decide +kernel) ?_
                  refine zw_aload_n 25 f178_24 rfl rfl ?_
                  refine zw_bipush 40 27 f178_25 rfl (by decide +kernel) ?_
                  refine zw_virtual_v 30 0 0 [.ref 52, .int 40] [(0, .ref 52), (1, .int 40)] f178_27 rfl n178_291 k178_291_12 rfl (hb_52 _ _ _ _) (by decide +kernel) (Nat.le_of_ble_eq_true rfl) rfl rfl (by decide +kernel) (by decide +kernel) rfl (Nat.le_of_ble_eq_true rfl) rfl ?_
                  refine zw_aload_n 1 f173_0 rfl rfl ?_
                  refine zw_getI 6 4 f173_1 rfl g173_246_12 (hb_52 _ _ _ _) rfl rfl ?_
                  refine zw_bipush 50 6 f173_4 rfl (by decide +kernel) ?_
                  refine zw_ic_ge_f 9 19 f173_6 (by decide +kernel) rfl (by decide +kernel) ?_
                  refine zw_aload_n 10 f173_9 rfl rfl ?_
                  refine zw_getfield 13 f173_10 rfl g173_74_12 (hb_52 _ _ _ _) rfl ?_
                  refine zw_aload_n 14 f173_13 rfl rfl ?_
                  refine zw_getI 6 17 f173_14 rfl g173_246_12 (hb_52 _ _ _ _) rfl rfl ?_
                  refine zw_iload_n 18 f173_17 rfl rfl ?_
                  refine zw_ast 6 _ 19 f173_18 rfl (hb_71 _ _ _ _) (by decide +kernel) (by decide +kernel) (by decide +kernel) (ha_71 _ _ _ _ _) ?_
                  refine zw_aload_n 20 f173_19 rfl rfl ?_
                  refine zw_dup 21 f173_20 rfl rfl ?_
                  refine zw_getI 6 24 f173_21 rfl g173_246_12 (hb_52 _ _ _ _) rfl rfl ?_
                  refine zw_iconst 1 25 f173_24 rfl (by decide +kernel) ?_
                  refine zw_iadd 7 26 f173_25 rfl (by decide +kernel) ?_
                  refine zw_put _ 29 f173_26 rfl g173_246_12 (hb_52 _ _ _ _) rfl (Nat.le_of_ble_eq_true rfl) (by decide +kernel) (hi_52_29 _ _ _ _ _) ?_
                  refine zw_vreturn f173_29 r173 u173 ⟨rfl, ?_⟩
                  refine zw_aload_n 31 f178_30 rfl rfl ?_
                  refine zw_bipush 12 33 f178_31 rfl (by decide +kernel) ?_
                  refine zw_virtual_v 36 0 0 [.ref 52, .int 12] [(0, .ref 52), (1, .int 12)] f178_33 rfl n178_291 k178_291_12 rfl (hb_52 _ _ _ _) (by decide +kernel) (Nat.le_of_ble_eq_true rfl) rfl rfl (by decide +kernel) (by decide +kernel) rfl (Nat.le_of_ble_eq_true rfl) rfl ?_
                  refine zw_aload_n 1 f173_0 rfl rfl ?_
                  refine zw_getI 7 4 f173_1 rfl g173_246_12 (hb_52 _ _ _ _) rfl rfl ?_
                  refine zw_bipush 50 6 f173_4 rfl (by decide +kernel) ?_
                  refine zw_ic_ge_f 9 19 f173_6 (by decide +kernel) rfl (by decide +kernel) ?_
                  refine zw_aload_n 10 f173_9 rfl rfl ?_
                  refine zw_getfield 13 f173_10 rfl g173_74_12 (hb_52 _ _ _ _) rfl ?_
                  refine zw_aload_n 14 f173_13 rfl rfl ?_
                  refine zw_getI 7 17 f173_14 rfl g173_246_12 (hb_52 _ _ _ _) rfl rfl ?_
                  refine zw_iload_n 18 f173_17 rfl rfl ?_
                  refine zw_ast 7 _ 19 f173_18 rfl (hb_71 _ _ _ _) (by decide +kernel) (by decide +kernel) (by decide +kernel) (ha_71 _ _ _ _ _) ?_
                  refine zw_aload_n 20 f173_19 rfl rfl ?_
                  refine zw_dup 21 f173_20 rfl rfl ?_
                  refine zw_getI 7 24 f173_21 rfl g173_246_12 (hb_52 _ _ _ _) rfl rfl ?_
                  refine zw_iconst 1 25 f173_24 rfl (by decide +kernel) ?_
                  refine zw_iadd 8 26 f173_25 rfl (by decide +kernel) ?_
                  refine zw_put _ 29 f173_26 rfl g173_246_12 (hb_52 _ _ _ _) rfl (Nat.le_of_ble_eq_true rfl) (by decide +kernel) (hi_52_29 _ _ _ _ _) ?_
                  refine zw_vreturn f173_29 r173 u173 ⟨rfl, ?_⟩
                  refine zw_iload_n 37 f178_36 rfl rfl ?_
                  refine zw_aload_n 38 f178_37 rfl rfl ?_
                  refine zw_getfield 41 f178_38 rfl g178_13_12 (hb_52 _ _ _ _) rfl ?_
                  refine zw_iload_n 42 f178_41 rfl rfl ?_
                  refine zw_iaload a.toNatClampNeg (P 54 a.toNatClampNeg) 43 f178_42 rfl (hb_54 _ _ _ _) rfl hc1 (zix (by decide) hc1 (show ¬ 8 ≤ a from ix_le hp.1 (by decide) (by decide) hc1 hc2)) (congrFun ((hR.2.1 54 (by omega) (by omega))) a.toNatClampNeg) ?_
                  refine zw_ixor (c ^^^ (P 54 a.toNatClampNeg)) 44 f178_43 rfl rfl ?_
                  refine zw_aload_n 45 f178_44 rfl rfl ?_
                  refine zw_iload_n 46 f178_45 rfl rfl ?_
                  refine zw_virtual_i 49 0 0 [.ref 52, .int a] [(0, .ref 52), (1, .int a)] f178_46 rfl n178_158 k178_158_12 rfl (hb_52 _ _ _ _) (by decide +kernel) (Nat.le_of_ble_eq_true rfl) rfl rfl (by decide +kernel) (by decide +kernel) rfl (Nat.le_of_ble_eq_true rfl) rfl ?_
                  refine zw_aload_n 1 f126_0 rfl rfl ?_
                  refine zw_getfield 4 f126_1 rfl g126_7_12 (hb_52 _ _ _ _) rfl ?_
                  refine zw_iload_n 5 f126_4 rfl rfl ?_
                  refine zw_iaload a.toNatClampNeg 4 6 f126_5 rfl (hb_53 _ _ _ _) rfl hc1 (zix (by decide) hc1 (show ¬ 8 ≤ a from ix_le hp.1 (by decide) (by decide) hc1 hc2)) ((congrFun (hR.2.1 53 (by omega) (by omega)) a.toNatClampNeg).trans hk) ?_
                  refine zw_iconst 3 7 f126_6 rfl (by decide +kernel) ?_
                  refine zw_ic_eq_f 10 20 f126_7 (by decide +kernel) rfl (by decide +kernel) ?_
                  refine zw_aload_n 11 f126_10 rfl rfl ?_
                  refine zw_getfield 14 f126_11 rfl g126_7_12 (hb_52 _ _ _ _) rfl ?_
                  refine zw_iload_n 15 f126_14 rfl rfl ?_
                  refine zw_iaload a.toNatClampNeg 4 16 f126_15 rfl (hb_53 _ _ _ _) rfl hc1 (zix (by decide) hc1 (show ¬ 8 ≤ a from ix_le hp.1 (by decide) (by decide) hc1 hc2)) ((congrFun (hR.2.1 53 (by omega) (by omega)) a.toNatClampNeg).trans hk) ?_
                  refine zw_iconst 4 17 f126_16 rfl (by decide +kernel) ?_
                  refine zw_ic_ne_f 20 24 f126_17 (by decide +kernel) rfl (by decide +kernel) ?_
                  refine zw_iconst 1 21 f126_20 rfl (by decide +kernel) ?_
                  refine zw_goto 25 f126_21 (by decide +kernel) ?_
                  refine zw_zreturn f126_25 r126 u126 (by decide +kernel) ⟨_, rfl, ?_⟩
                  refine zw_if_eq_f 52 61 f178_49 (by decide +kernel) rfl (by decide +kernel) ?_
                  refine zw_aload_n 53 f178_52 rfl rfl ?_
                  refine zw_getfield 56 f178_53 rfl g178_19_12 (hb_52 _ _ _ _) rfl ?_
                  refine zw_iload_n 57 f178_56 rfl rfl ?_
                  refine zw_iaload a.toNatClampNeg (P 56 a.toNatClampNeg) 58 f178_57 rfl (hb_56 _ _ _ _) rfl hc1 (zix (by decide) hc1 (show ¬ 8 ≤ a from ix_le hp.1 (by decide) (by decide) hc1 hc2)) (congrFun ((hR.2.1 56 (by omega) (by omega))) a.toNatClampNeg) ?_
                  refine zw_goto 62 f178_58 (by decide +kernel) ?_
                  refine zw_iadd ((c ^^^ (P 54 a.toNatClampNeg)) + (P 56 a.toNatClampNeg)) 63 f178_62 rfl rfl ?_
                  refine zw_aload_n 64 f178_63 rfl rfl ?_
                  refine zw_getfield 67 f178_64 rfl g178_7_12 (hb_52 _ _ _ _) rfl ?_
                  refine zw_iload_n 68 f178_67 rfl rfl ?_
                  refine zw_iaload a.toNatClampNeg 4 69 f178_68 rfl (hb_53 _ _ _ _) rfl hc1 (zix (by decide) hc1 (show ¬ 8 ≤ a from ix_le hp.1 (by decide) (by decide) hc1 hc2)) ((congrFun (hR.2.1 53 (by omega) (by omega)) a.toNatClampNeg).trans hk) ?_
                  refine zw_iconst 4 70 f178_69 rfl (by decide +kernel) ?_
                  refine zw_ic_ne_f 73 82 f178_70 (by decide +kernel) rfl (by decide +kernel) ?_
                  refine zw_aload_n 74 f178_73 rfl rfl ?_
                  refine zw_getfield 77 f178_74 rfl g178_55_12 (hb_52 _ _ _ _) rfl ?_
                  refine zw_iload_n 78 f178_77 rfl rfl ?_
                  refine zw_iaload a.toNatClampNeg ((W.2.2.2.2.2.2.2) a.toNatClampNeg) 79 f178_78 rfl (hb_66 _ _ _ _) rfl hc1 (zix (by decide) hc1 (show ¬ 8 ≤ a from ix_le hp.1 (by decide) (by decide) hc1 hc2)) (congrFun (hR.cnt) a.toNatClampNeg) ?_
                  refine zw_goto 83 f178_79 (by decide +kernel) ?_
                  refine zw_iadd (((c ^^^ (P 54 a.toNatClampNeg)) + (P 56 a.toNatClampNeg)) + ((W.2.2.2.2.2.2.2) a.toNatClampNeg)) 84 f178_83 rfl rfl ?_
                  refine zw_ireturn f178_84 r178 u178 ⟨_, rfl, ?_⟩
                  refine zw_isub (((((c + (P 55 a.toNatClampNeg)) + (P 54 a.toNatClampNeg)) * 3) ^^^ ((W.2.2.2.2.2.2.2) a.toNatClampNeg)) - (((c ^^^ (P 54 a.toNatClampNeg)) + (P 56 a.toNatClampNeg)) + ((W.2.2.2.2.2.2.2) a.toNatClampNeg))) 45 f179_44 rfl rfl ?_
                  refine zw_ireturn f179_45 r179 u179 ⟨_, rfl, ?_⟩
                  refine zw_virtual_i 79 0 0 [.ref 52, .int (((((c + (P 55 a.toNatClampNeg)) + (P 54 a.toNatClampNeg)) * 3) ^^^ ((W.2.2.2.2.2.2.2) a.toNatClampNeg)) - (((c ^^^ (P 54 a.toNatClampNeg)) + (P 56 a.toNatClampNeg)) + ((W.2.2.2.2.2.2.2) a.toNatClampNeg)))] [(0, .ref 52), (1, .int (((((c + (P 55 a.toNatClampNeg)) + (P 54 a.toNatClampNeg)) * 3) ^^^ ((W.2.2.2.2.2.2.2) a.toNatClampNeg)) - (((c ^^^ (P 54 a.toNatClampNeg)) + (P 56 a.toNatClampNeg)) + ((W.2.2.2.2.2.2.2) a.toNatClampNeg))))] f180_76 rfl n180_205 k180_205_12 rfl (hb_52 _ _ _ _) (by decide +kernel) (Nat.le_of_ble_eq_true rfl) rfl rfl (by decide +kernel) (by decide +kernel) rfl (Nat.le_of_ble_eq_true rfl) rfl ?_
                  refine zw_aload_n 1 f122_0 rfl rfl ?_
                  refine zw_iconst 0 2 f122_1 rfl (by decide +kernel) ?_
                  refine zw_put _ 5 f122_2 rfl g122_111_12 (hb_52 _ _ _ _) rfl (Nat.le_of_ble_eq_true rfl) (by decide +kernel) (hi_52_27 _ _ _ _ _) ?_
                  refine zw_iload_n 6 f122_5 rfl rfl ?_
                  refine zw_ireturn f122_6 r122 u122 ⟨_, rfl, ?_⟩
                  refine zw_ireturn f180_79 r180 u180 ?_
                  exact ⟨_, _, _, _, rfl, (KQ.i rfl (KQ.i rfl (KQ.a rfl (KQ.i rfl (KQ.a rfl (KQ.i rfl (KQ.a rfl (KQ.i rfl (KQ.a rfl (KQ.i rfl (KQ.a rfl (KQ.i rfl (KQ.a rfl (KQ.i rfl (KQ.a rfl (KQ.i rfl (KQ.a rfl (KQ.i rfl KQ.rf)))))))))))))))))), ⟨hi.1, hi.2.1, 8, by omega, (show _ = nI 8 from rfl)⟩, by rw [show an_act nv P W a b c = (((((c + (P 55 a.toNatClampNeg)) + (P 54 a.toNatClampNeg)) * 3) ^^^ ((W.2.2.2.2.2.2.2) a.toNatClampNeg)) - (((c ^^^ (P 54 a.toNatClampNeg)) + (P 56 a.toNatClampNeg)) + ((W.2.2.2.2.2.2.2) a.toNatClampNeg))) from ((cI_y ⟨(qV.of (by omega) hc1 hc2), ⟨hc3, hc4⟩⟩).trans ((cI_n hc5).trans ((cI_n hc6).trans ((cI_n hc7).trans ((cI_n (kne hk (by decide))).trans ((cI_n (kne hk (by decide))).trans ((cI_n (kne hk (by decide))).trans ((cI_n (kne hk (by decide))).trans ((cI_y hk).trans rfl)))))))))]⟩
              · refine zw_aload_n 62 f180_61 rfl rfl ?_
                refine zw_iload_n 63 f180_62 rfl rfl ?_
                refine zw_iload_n 64 f180_63 rfl rfl ?_
                refine zw_virtual_i 67 0 0 [.ref 52, .int a, .int c] [(0, .ref 52), (1, .int a), (2, .int c)] f180_64 rfl n180_307 k180_307_12 rfl (hb_52 _ _ _ _) (by decide +kernel) (Nat.le_of_ble_eq_true rfl) rfl rfl (by decide +kernel) (by decide +kernel) rfl (Nat.le_of_ble_eq_true rfl) rfl ?_
                refine zw_aload_n 1 f178_0 rfl rfl ?_
                refine zw_getfield 4 f178_1 rfl g178_7_12 (hb_52 _ _ _ _) rfl ?_
                refine zw_iload_n 5 f178_4 rfl rfl ?_
                rcases (k5 (hQ.1 a.toNatClampNeg ((qV.of (by omega) hc1 hc2)).1)) with hk | hk | hk | hk | hk
                · refine zw_iaload a.toNatClampNeg 0 6 f178_5 rfl (hb_53 _ _ _ _) rfl hc1 (zix (by decide) hc1 (show ¬ 8 ≤ a from ix_le hp.1 (by decide) (by decide) hc1 hc2)) ((congrFun (hR.2.1 53 (by omega) (by omega)) a.toNatClampNeg).trans hk) ?_
                  refine zw_iconst 4 7 f178_6 rfl (by decide +kernel) ?_
                  refine zw_ic_ne_t 16 f178_7 (by decide +kernel) (by decide +kernel) ?_
                  refine zw_aload_n 17 f178_16 rfl rfl ?_
                  refine zw_iload_n 18 f178_17 rfl rfl ?_
                  refine zw_virtual_i 21 0 0 [.ref 52, .int a] [(0, .ref 52), (1, .int a)] f178_18 rfl n178_158 k178_158_12 rfl (hb_52 _ _ _ _) (by decide +kernel) (Nat.le_of_ble_eq_true rfl) rfl rfl (by decide +kernel) (by decide +kernel) rfl (Nat.le_of_ble_eq_true rfl) rfl ?_
                  refine zw_aload_n 1 f126_0 rfl rfl ?_
                  refine zw_getfield 4 f126_1 rfl g126_7_12 (hb_52 _ _ _ _) rfl ?_
                  refine zw_iload_n 5 f126_4 rfl rfl ?_
                  refine zw_iaload a.toNatClampNeg 0 6 f126_5 rfl (hb_53 _ _ _ _) rfl hc1 (zix (by decide) hc1 (show ¬ 8 ≤ a from ix_le hp.1 (by decide) (by decide) hc1 hc2)) ((congrFun (hR.2.1 53 (by omega) (by omega)) a.toNatClampNeg).trans hk) ?_
                  refine zw_iconst 3 7 f126_6 rfl (by decide +kernel) ?_
                  refine zw_ic_eq_f 10 20 f126_7 (by decide +kernel) rfl (by decide +kernel) ?_
                  refine zw_aload_n 11 f126_10 rfl rfl ?_
                  refine zw_getfield 14 f126_11 rfl g126_7_12 (hb_52 _ _ _ _) rfl ?_
                  refine zw_iload_n 15 f126_14 rfl rfl ?_
                  refine zw_iaload a.toNatClampNeg 0 16 f126_15 rfl (hb_53 _ _ _ _) rfl hc1 (zix (by decide) hc1 (show ¬ 8 ≤ a from ix_le hp.1 (by decide) (by decide) hc1 hc2)) ((congrFun (hR.2.1 53 (by omega) (by omega)) a.toNatClampNeg).trans hk) ?_
                  refine zw_iconst 4 17 f126_16 rfl (by decide +kernel) ?_
                  refine zw_ic_ne_t 24 f126_17 (by decide +kernel) (by decide +kernel) ?_
                  refine zw_iconst 0 25 f126_24 rfl (by decide +kernel) ?_
                  refine zw_zreturn f126_25 r126 u126 (by decide +kernel) ⟨_, rfl, ?_⟩
                  refine zw_if_eq_t 30 f178_21 (by decide +kernel) (by decide +kernel) ?_
                  refine zw_aload_n 31 f178_30 rfl rfl ?_
                  refine zw_bipush 12 33 f178_31 rfl (by decide +kernel) ?_
                  refine zw_virtual_v 36 0 0 [.ref 52, .int 12] [(0, .ref 52), (1, .int 12)] f178_33 rfl n178_291 k178_291_12 rfl (hb_52 _ _ _ _) (by decide +kernel) (Nat.le_of_ble_eq_true rfl) rfl rfl (by decide +kernel) (by decide +kernel) rfl (Nat.le_of_ble_eq_true rfl) rfl ?_
                  refine zw_aload_n 1 f173_0 rfl rfl ?_
                  refine zw_getI 0 4 f173_1 rfl g173_246_12 (hb_52 _ _ _ _) rfl rfl ?_
                  refine zw_bipush 50 6 f173_4 rfl (by decide +kernel) ?_
                  refine zw_ic_ge_f 9 19 f173_6 (by decide +kernel) rfl (by decide +kernel) ?_
                  refine zw_aload_n 10 f173_9 rfl rfl ?_
                  refine zw_getfield 13 f173_10 rfl g173_74_12 (hb_52 _ _ _ _) rfl ?_
                  refine zw_aload_n 14 f173_13 rfl rfl ?_
                  refine zw_getI 0 17 f173_14 rfl g173_246_12 (hb_52 _ _ _ _) rfl rfl ?_
                  refine zw_iload_n 18 f173_17 rfl rfl ?_
                  refine zw_ast 0 _ 19 f173_18 rfl (hb_71 _ _ _ _) (by decide +kernel) (by decide +kernel) (by decide +kernel) (ha_71 _ _ _ _ _) ?_
                  refine zw_aload_n 20 f173_19 rfl rfl ?_
                  refine zw_dup 21 f173_20 rfl rfl ?_
                  refine zw_getI 0 24 f173_21 rfl g173_246_12 (hb_52 _ _ _ _) rfl rfl ?_
                  refine zw_iconst 1 25 f173_24 rfl (by decide +kernel) ?_
                  refine zw_iadd 1 26 f173_25 rfl (by decide +kernel) ?_
                  refine zw_put _ 29 f173_26 rfl g173_246_12 (hb_52 _ _ _ _) rfl (Nat.le_of_ble_eq_true rfl) (by decide +kernel) (hi_52_29 _ _ _ _ _) ?_
                  refine zw_vreturn f173_29 r173 u173 ⟨rfl, ?_⟩
                  refine zw_iload_n 37 f178_36 rfl rfl ?_
                  refine zw_aload_n 38 f178_37 rfl rfl ?_
                  refine zw_getfield 41 f178_38 rfl g178_13_12 (hb_52 _ _ _ _) rfl ?_
                  refine zw_iload_n 42 f178_41 rfl rfl ?_
                  refine zw_iaload a.toNatClampNeg (P 54 a.toNatClampNeg) 43 f178_42 rfl (hb_54 _ _ _ _) rfl hc1 (zix (by decide) hc1 (show ¬ 8 ≤ a from ix_le hp.1 (by decide) (by decide) hc1 hc2)) (congrFun ((hR.2.1 54 (by omega) (by omega))) a.toNatClampNeg) ?_
                  refine zw_ixor (c ^^^ (P 54 a.toNatClampNeg)) 44 f178_43 rfl rfl ?_
                  refine zw_aload_n 45 f178_44 rfl rfl ?_
                  refine zw_iload_n 46 f178_45 rfl rfl ?_
                  refine zw_virtual_i 49 0 0 [.ref 52, .int a] [(0, .ref 52), (1, .int a)] f178_46 rfl n178_158 k178_158_12 rfl (hb_52 _ _ _ _) (by decide +kernel) (Nat.le_of_ble_eq_true rfl) rfl rfl (by decide +kernel) (by decide +kernel) rfl (Nat.le_of_ble_eq_true rfl) rfl ?_
                  refine zw_aload_n 1 f126_0 rfl rfl ?_
                  refine zw_getfield 4 f126_1 rfl g126_7_12 (hb_52 _ _ _ _) rfl ?_
                  refine zw_iload_n 5 f126_4 rfl rfl ?_
                  refine zw_iaload a.toNatClampNeg 0 6 f126_5 rfl (hb_53 _ _ _ _) rfl hc1 (zix (by decide) hc1 (show ¬ 8 ≤ a from ix_le hp.1 (by decide) (by decide) hc1 hc2)) ((congrFun (hR.2.1 53 (by omega) (by omega)) a.toNatClampNeg).trans hk) ?_
                  refine zw_iconst 3 7 f126_6 rfl (by decide +kernel) ?_
                  refine zw_ic_eq_f 10 20 f126_7 (by decide +kernel) rfl (by decide +kernel) ?_
                  refine zw_aload_n 11 f126_10 rfl rfl ?_
                  refine zw_getfield 14 f126_11 rfl g126_7_12 (hb_52 _ _ _ _) rfl ?_
                  refine zw_iload_n 15 f126_14 rfl rfl ?_
                  refine zw_iaload a.toNatClampNeg 0 16 f126_15 rfl (hb_53 _ _ _ _) rfl hc1 (zix (by decide) hc1 (show ¬ 8 ≤ a from ix_le hp.1 (by decide) (by decide) hc1 hc2)) ((congrFun (hR.2.1 53 (by omega) (by omega)) a.toNatClampNeg).trans hk) ?_
                  refine zw_iconst 4 17 f126_16 rfl (by decide +kernel) ?_
                  refine zw_ic_ne_t 24 f126_17 (by decide +kernel) (by decide +kernel) ?_
                  refine zw_iconst 0 25 f126_24 rfl (by decide +kernel) ?_
                  refine zw_zreturn f126_25 r126 u126 (by decide +kernel) ⟨_, rfl, ?_⟩
                  refine zw_if_eq_t 61 f178_49 (by decide +kernel) (by decide +kernel) ?_
                  refine zw_iconst 0 62 f178_61 rfl (by decide +kernel) ?_
                  refine zw_iadd ((c ^^^ (P 54 a.toNatClampNeg)) + 0) 63 f178_62 rfl rfl ?_
                  refine zw_aload_n 64 f178_63 rfl rfl ?_
                  refine zw_getfield 67 f178_64 rfl g178_7_12 (hb_52 _ _ _ _) rfl ?_
                  refine zw_iload_n 68 f178_67 rfl rfl ?_
                  refine zw_iaload a.toNatClampNeg 0 69 f178_68 rfl (hb_53 _ _ _ _) rfl hc1 (zix (by decide) hc1 (show ¬ 8 ≤ a from ix_le hp.1 (by decide) (by decide) hc1 hc2)) ((congrFun (hR.2.1 53 (by omega) (by omega)) a.toNatClampNeg).trans hk) ?_
                  refine zw_iconst 4 70 f178_69 rfl (by decide +kernel) ?_
                  refine zw_ic_ne_t 82 f178_70 (by decide +kernel) (by decide +kernel) ?_
                  refine zw_iconst 0 83 f178_82 rfl (by decide +kernel) ?_
                  refine zw_iadd (((c ^^^ (P 54 a.toNatClampNeg)) + 0) + 0) 84 f178_83 rfl rfl ?_
                  refine zw_ireturn f178_84 r178 u178 ⟨_, rfl, ?_⟩
                  refine zw_goto 76 f180_67 (by decide +kernel) ?_
                  refine zw_virtual_i 79 0 0 [.ref 52, .int (((c ^^^ (P 54 a.toNatClampNeg)) + 0) + 0)] [(0, .ref 52), (1, .int (((c ^^^ (P 54 a.toNatClampNeg)) + 0) + 0))] f180_76 rfl n180_205 k180_205_12 rfl (hb_52 _ _ _ _) (by decide +kernel) (Nat.le_of_ble_eq_true rfl) rfl rfl (by decide +kernel) (by decide +kernel) rfl (Nat.le_of_ble_eq_true rfl) rfl ?_
                  refine zw_aload_n 1 f122_0 rfl rfl ?_
                  refine zw_iconst 0 2 f122_1 rfl (by decide +kernel) ?_
                  refine zw_put _ 5 f122_2 rfl g122_111_12 (hb_52 _ _ _ _) rfl (Nat.le_of_ble_eq_true rfl) (by decide +kernel) (hi_52_27 _ _ _ _ _) ?_
                  refine zw_iload_n 6 f122_5 rfl rfl ?_
                  refine zw_ireturn f122_6 r122 u122 ⟨_, rfl, ?_⟩
                  refine zw_ireturn f180_79 r180 u180 ?_
                  exact ⟨_, _, _, _, rfl, (KQ.i rfl (KQ.i rfl (KQ.a rfl (KQ.i rfl KQ.rf)))), ⟨hi.1, hi.2.1, 1, by omega, (show _ = nI 1 from rfl)⟩, by rw [show an_act nv P W a b c = (((c ^^^ (P 54 a.toNatClampNeg)) + 0) + 0) from ((cI_y ⟨(qV.of (by omega) hc1 hc2), ⟨hc3, hc4⟩⟩).trans ((cI_n hc5).trans ((cI_n hc6).trans ((cI_y (Decidable.of_not_not hc7)).trans ((cI_y hk).trans (by simp only [Int32.add_zero]))))))]⟩
                · refine zw_iaload a.toNatClampNeg 1 6 f178_5 rfl (hb_53 _ _ _ _) rfl hc1 (zix (by decide) hc1 (show ¬ 8 ≤ a from ix_le hp.1 (by decide) (by decide) hc1 hc2)) ((congrFun (hR.2.1 53 (by omega) (by omega)) a.toNatClampNeg).trans hk) ?_
                  refine zw_iconst 4 7 f178_6 rfl (by decide +kernel) ?_
                  refine zw_ic_ne_t 16 f178_7 (by decide +kernel) (by decide +kernel) ?_
                  refine zw_aload_n 17 f178_16 rfl rfl ?_
                  refine zw_iload_n 18 f178_17 rfl rfl ?_
                  refine zw_virtual_i 21 0 0 [.ref 52, .int a] [(0, .ref 52), (1, .int a)] f178_18 rfl n178_158 k178_158_12 rfl (hb_52 _ _ _ _) (by decide +kernel) (Nat.le_of_ble_eq_true rfl) rfl rfl (by decide +kernel) (by decide +kernel) rfl (Nat.le_of_ble_eq_true rfl) rfl ?_
                  refine zw_aload_n 1 f126_0 rfl rfl ?_
                  refine zw_getfield 4 f126_1 rfl g126_7_12 (hb_52 _ _ _ _) rfl ?_
                  refine zw_iload_n 5 f126_4 rfl rfl ?_
                  refine zw_iaload a.toNatClampNeg 1 6 f126_5 rfl (hb_53 _ _ _ _) rfl hc1 (zix (by decide) hc1 (show ¬ 8 ≤ a from ix_le hp.1 (by decide) (by decide) hc1 hc2)) ((congrFun (hR.2.1 53 (by omega) (by omega)) a.toNatClampNeg).trans hk) ?_
                  refine zw_iconst 3 7 f126_6 rfl (by decide +kernel) ?_
                  refine zw_ic_eq_f 10 20 f126_7 (by decide +kernel) rfl (by decide +kernel) ?_
                  refine zw_aload_n 11 f126_10 rfl rfl ?_
                  refine zw_getfield 14 f126_11 rfl g126_7_12 (hb_52 _ _ _ _) rfl ?_
                  refine zw_iload_n 15 f126_14 rfl rfl ?_
                  refine zw_iaload a.toNatClampNeg 1 16 f126_15 rfl (hb_53 _ _ _ _) rfl hc1 (zix (by decide) hc1 (show ¬ 8 ≤ a from ix_le hp.1 (by decide) (by decide) hc1 hc2)) ((congrFun (hR.2.1 53 (by omega) (by omega)) a.toNatClampNeg).trans hk) ?_
                  refine zw_iconst 4 17 f126_16 rfl (by decide +kernel) ?_
                  refine zw_ic_ne_t 24 f126_17 (by decide +kernel) (by decide +kernel) ?_
                  refine zw_iconst 0 25 f126_24 rfl (by decide +kernel) ?_
                  refine zw_zreturn f126_25 r126 u126 (by decide +kernel) ⟨_, rfl, ?_⟩
                  refine zw_if_eq_t 30 f178_21 (by decide +kernel) (by decide +kernel) ?_
                  refine zw_aload_n 31 f178_30 rfl rfl ?_
                  refine zw_bipush 12 33 f178_31 rfl (by decide +kernel) ?_
                  refine zw_virtual_v 36 0 0 [.ref 52, .int 12] [(0, .ref 52), (1, .int 12)] f178_33 rfl n178_291 k178_291_12 rfl (hb_52 _ _ _ _) (by decide +kernel) (Nat.le_of_ble_eq_true rfl) rfl rfl (by decide +kernel) (by decide +kernel) rfl (Nat.le_of_ble_eq_true rfl) rfl ?_
                  refine zw_aload_n 1 f173_0 rfl rfl ?_
                  refine zw_getI 0 4 f173_1 rfl g173_246_12 (hb_52 _ _ _ _) rfl rfl ?_
                  refine zw_bipush 50 6 f173_4 rfl (by decide +kernel) ?_
                  refine zw_ic_ge_f 9 19 f173_6 (by decide +kernel) rfl (by decide +kernel) ?_
                  refine zw_aload_n 10 f173_9 rfl rfl ?_
                  refine zw_getfield 13 f173_10 rfl g173_74_12 (hb_52 _ _ _ _) rfl ?_
                  refine zw_aload_n 14 f173_13 rfl rfl ?_
                  refine zw_getI 0 17 f173_14 rfl g173_246_12 (hb_52 _ _ _ _) rfl rfl ?_
                  refine zw_iload_n 18 f173_17 rfl rfl ?_
                  refine zw_ast 0 _ 19 f173_18 rfl (hb_71 _ _ _ _) (by decide +kernel) (by decide +kernel) (by decide +kernel) (ha_71 _ _ _ _ _) ?_
                  refine zw_aload_n 20 f173_19 rfl rfl ?_
                  refine zw_dup 21 f173_20 rfl rfl ?_
                  refine zw_getI 0 24 f173_21 rfl g173_246_12 (hb_52 _ _ _ _) rfl rfl ?_
                  refine zw_iconst 1 25 f173_24 rfl (by decide +kernel) ?_
                  refine zw_iadd 1 26 f173_25 rfl (by decide +kernel) ?_
                  refine zw_put _ 29 f173_26 rfl g173_246_12 (hb_52 _ _ _ _) rfl (Nat.le_of_ble_eq_true rfl) (by decide +kernel) (hi_52_29 _ _ _ _ _) ?_
                  refine zw_vreturn f173_29 r173 u173 ⟨rfl, ?_⟩
                  refine zw_iload_n 37 f178_36 rfl rfl ?_
                  refine zw_aload_n 38 f178_37 rfl rfl ?_
                  refine zw_getfield 41 f178_38 rfl g178_13_12 (hb_52 _ _ _ _) rfl ?_
                  refine zw_iload_n 42 f178_41 rfl rfl ?_
                  refine zw_iaload a.toNatClampNeg (P 54 a.toNatClampNeg) 43 f178_42 rfl (hb_54 _ _ _ _) rfl hc1 (zix (by decide) hc1 (show ¬ 8 ≤ a from ix_le hp.1 (by decide) (by decide) hc1 hc2)) (congrFun ((hR.2.1 54 (by omega) (by omega))) a.toNatClampNeg) ?_
                  refine zw_ixor (c ^^^ (P 54 a.toNatClampNeg)) 44 f178_43 rfl rfl ?_
                  refine zw_aload_n 45 f178_44 rfl rfl ?_
                  refine zw_iload_n 46 f178_45 rfl rfl ?_
                  refine zw_virtual_i 49 0 0 [.ref 52, .int a] [(0, .ref 52), (1, .int a)] f178_46 rfl n178_158 k178_158_12 rfl (hb_52 _ _ _ _) (by decide +kernel) (Nat.le_of_ble_eq_true rfl) rfl rfl (by decide +kernel) (by decide +kernel) rfl (Nat.le_of_ble_eq_true rfl) rfl ?_
                  refine zw_aload_n 1 f126_0 rfl rfl ?_
                  refine zw_getfield 4 f126_1 rfl g126_7_12 (hb_52 _ _ _ _) rfl ?_
                  refine zw_iload_n 5 f126_4 rfl rfl ?_
                  refine zw_iaload a.toNatClampNeg 1 6 f126_5 rfl (hb_53 _ _ _ _) rfl hc1 (zix (by decide) hc1 (show ¬ 8 ≤ a from ix_le hp.1 (by decide) (by decide) hc1 hc2)) ((congrFun (hR.2.1 53 (by omega) (by omega)) a.toNatClampNeg).trans hk) ?_
                  refine zw_iconst 3 7 f126_6 rfl (by decide +kernel) ?_
                  refine zw_ic_eq_f 10 20 f126_7 (by decide +kernel) rfl (by decide +kernel) ?_
                  refine zw_aload_n 11 f126_10 rfl rfl ?_
                  refine zw_getfield 14 f126_11 rfl g126_7_12 (hb_52 _ _ _ _) rfl ?_
                  refine zw_iload_n 15 f126_14 rfl rfl ?_
                  refine zw_iaload a.toNatClampNeg 1 16 f126_15 rfl (hb_53 _ _ _ _) rfl hc1 (zix (by decide) hc1 (show ¬ 8 ≤ a from ix_le hp.1 (by decide) (by decide) hc1 hc2)) ((congrFun (hR.2.1 53 (by omega) (by omega)) a.toNatClampNeg).trans hk) ?_
                  refine zw_iconst 4 17 f126_16 rfl (by decide +kernel) ?_
                  refine zw_ic_ne_t 24 f126_17 (by decide +kernel) (by decide +kernel) ?_
                  refine zw_iconst 0 25 f126_24 rfl (by decide +kernel) ?_
                  refine zw_zreturn f126_25 r126 u126 (by decide +kernel) ⟨_, rfl, ?_⟩
                  refine zw_if_eq_t 61 f178_49 (by decide +kernel) (by decide +kernel) ?_
                  refine zw_iconst 0 62 f178_61 rfl (by decide +kernel) ?_
                  refine zw_iadd ((c ^^^ (P 54 a.toNatClampNeg)) + 0) 63 f178_62 rfl rfl ?_
                  refine zw_aload_n 64 f178_63 rfl rfl ?_
                  refine zw_getfield 67 f178_64 rfl g178_7_12 (hb_52 _ _ _ _) rfl ?_
                  refine zw_iload_n 68 f178_67 rfl rfl ?_
                  refine zw_iaload a.toNatClampNeg 1 69 f178_68 rfl (hb_53 _ _ _ _) rfl hc1 (zix (by decide) hc1 (show ¬ 8 ≤ a from ix_le hp.1 (by decide) (by decide) hc1 hc2)) ((congrFun (hR.2.1 53 (by omega) (by omega)) a.toNatClampNeg).trans hk) ?_
                  refine zw_iconst 4 70 f178_69 rfl (by decide +kernel) ?_
                  refine zw_ic_ne_t 82 f178_70 (by decide +kernel) (by decide +kernel) ?_
                  refine zw_iconst 0 83 f178_82 rfl (by decide +kernel) ?_
                  refine zw_iadd (((c ^^^ (P 54 a.toNatClampNeg)) + 0) + 0) 84 f178_83 rfl rfl ?_
                  refine zw_ireturn f178_84 r178 u178 ⟨_, rfl, ?_⟩
                  refine zw_goto 76 f180_67 (by decide +kernel) ?_
                  refine zw_virtual_i 79 0 0 [.ref 52, .int (((c ^^^ (P 54 a.toNatClampNeg)) + 0) + 0)] [(0, .ref 52), (1, .int (((c ^^^ (P 54 a.toNatClampNeg)) + 0) + 0))] f180_76 rfl n180_205 k180_205_12 rfl (hb_52 _ _ _ _) (by decide +kernel) (Nat.le_of_ble_eq_true rfl) rfl rfl (by decide +kernel) (by decide +kernel) rfl (Nat.le_of_ble_eq_true rfl) rfl ?_
                  refine zw_aload_n 1 f122_0 rfl rfl ?_
                  refine zw_iconst 0 2 f122_1 rfl (by decide +kernel) ?_
                  refine zw_put _ 5 f122_2 rfl g122_111_12 (hb_52 _ _ _ _) rfl (Nat.le_of_ble_eq_true rfl) (by decide +kernel) (hi_52_27 _ _ _ _ _) ?_
                  refine zw_iload_n 6 f122_5 rfl rfl ?_
                  refine zw_ireturn f122_6 r122 u122 ⟨_, rfl, ?_⟩
                  refine zw_ireturn f180_79 r180 u180 ?_
                  exact ⟨_, _, _, _, rfl, (KQ.i rfl (KQ.i rfl (KQ.a rfl (KQ.i rfl KQ.rf)))), ⟨hi.1, hi.2.1, 1, by omega, (show _ = nI 1 from rfl)⟩, by rw [show an_act nv P W a b c = (((c ^^^ (P 54 a.toNatClampNeg)) + 0) + 0) from ((cI_y ⟨(qV.of (by omega) hc1 hc2), ⟨hc3, hc4⟩⟩).trans ((cI_n hc5).trans ((cI_n hc6).trans ((cI_y (Decidable.of_not_not hc7)).trans ((cI_n (kne hk (by decide))).trans ((cI_y hk).trans (by simp only [Int32.add_zero])))))))]⟩
                · refine zw_iaload a.toNatClampNeg 2 6 f178_5 rfl (hb_53 _ _ _ _) rfl hc1 (zix (by decide) hc1 (show ¬ 8 ≤ a from ix_le hp.1 (by decide) (by decide) hc1 hc2)) ((congrFun (hR.2.1 53 (by omega) (by omega)) a.toNatClampNeg).trans hk) ?_
                  refine zw_iconst 4 7 f178_6 rfl (by decide +kernel) ?_
                  refine zw_ic_ne_t 16 f178_7 (by decide +kernel) (by decide +kernel) ?_
                  refine zw_aload_n 17 f178_16 rfl rfl ?_
                  refine zw_iload_n 18 f178_17 rfl rfl ?_
                  refine zw_virtual_i 21 0 0 [.ref 52, .int a] [(0, .ref 52), (1, .int a)] f178_18 rfl n178_158 k178_158_12 rfl (hb_52 _ _ _ _) (by decide +kernel) (Nat.le_of_ble_eq_true rfl) rfl rfl (by decide +kernel) (by decide +kernel) rfl (Nat.le_of_ble_eq_true rfl) rfl ?_
                  refine zw_aload_n 1 f126_0 rfl rfl ?_
                  refine zw_getfield 4 f126_1 rfl g126_7_12 (hb_52 _ _ _ _) rfl ?_
                  refine zw_iload_n 5 f126_4 rfl rfl ?_
                  refine zw_iaload a.toNatClampNeg 2 6 f126_5 rfl (hb_53 _ _ _ _) rfl hc1 (zix (by decide) hc1 (show ¬ 8 ≤ a from ix_le hp.1 (by decide) (by decide) hc1 hc2)) ((congrFun (hR.2.1 53 (by omega) (by omega)) a.toNatClampNeg).trans hk) ?_
                  refine zw_iconst 3 7 f126_6 rfl (by decide +kernel) ?_
                  refine zw_ic_eq_f 10 20 f126_7 (by decide +kernel) rfl (by decide +kernel) ?_
                  refine zw_aload_n 11 f126_10 rfl rfl ?_
                  refine zw_getfield 14 f126_11 rfl g126_7_12 (hb_52 _ _ _ _) rfl ?_
                  refine zw_iload_n 15 f126_14 rfl rfl ?_
                  refine zw_iaload a.toNatClampNeg 2 16 f126_15 rfl (hb_53 _ _ _ _) rfl hc1 (zix (by decide) hc1 (show ¬ 8 ≤ a from ix_le hp.1 (by decide) (by decide) hc1 hc2)) ((congrFun (hR.2.1 53 (by omega) (by omega)) a.toNatClampNeg).trans hk) ?_
                  refine zw_iconst 4 17 f126_16 rfl (by decide +kernel) ?_
                  refine zw_ic_ne_t 24 f126_17 (by decide +kernel) (by decide +kernel) ?_
                  refine zw_iconst 0 25 f126_24 rfl (by decide +kernel) ?_
                  refine zw_zreturn f126_25 r126 u126 (by decide +kernel) ⟨_, rfl, ?_⟩
                  refine zw_if_eq_t 30 f178_21 (by decide +kernel) (by decide +kernel) ?_
                  refine zw_aload_n 31 f178_30 rfl rfl ?_
                  refine zw_bipush 12 33 f178_31 rfl (by decide +kernel) ?_
                  refine zw_virtual_v 36 0 0 [.ref 52, .int 12] [(0, .ref 52), (1, .int 12)] f178_33 rfl n178_291 k178_291_12 rfl (hb_52 _ _ _ _) (by decide +kernel) (Nat.le_of_ble_eq_true rfl) rfl rfl (by decide +kernel) (by decide +kernel) rfl (Nat.le_of_ble_eq_true rfl) rfl ?_
                  refine zw_aload_n 1 f173_0 rfl rfl ?_
                  refine zw_getI 0 4 f173_1 rfl g173_246_12 (hb_52 _ _ _ _) rfl rfl ?_
                  refine zw_bipush 50 6 f173_4 rfl (by decide +kernel) ?_
                  refine zw_ic_ge_f 9 19 f173_6 (by decide +kernel) rfl (by decide +kernel) ?_
                  refine zw_aload_n 10 f173_9 rfl rfl ?_
                  refine zw_getfield 13 f173_10 rfl g173_74_12 (hb_52 _ _ _ _) rfl ?_
                  refine zw_aload_n 14 f173_13 rfl rfl ?_
                  refine zw_getI 0 17 f173_14 rfl g173_246_12 (hb_52 _ _ _ _) rfl rfl ?_
                  refine zw_iload_n 18 f173_17 rfl rfl ?_
                  refine zw_ast 0 _ 19 f173_18 rfl (hb_71 _ _ _ _) (by decide +kernel) (by decide +kernel) (by decide +kernel) (ha_71 _ _ _ _ _) ?_
                  refine zw_aload_n 20 f173_19 rfl rfl ?_
                  refine zw_dup 21 f173_20 rfl rfl ?_
                  refine zw_getI 0 24 f173_21 rfl g173_246_12 (hb_52 _ _ _ _) rfl rfl ?_
                  refine zw_iconst 1 25 f173_24 rfl (by decide +kernel) ?_
                  refine zw_iadd 1 26 f173_25 rfl (by decide +kernel) ?_
                  refine zw_put _ 29 f173_26 rfl g173_246_12 (hb_52 _ _ _ _) rfl (Nat.le_of_ble_eq_true rfl) (by decide +kernel) (hi_52_29 _ _ _ _ _) ?_
                  refine zw_vreturn f173_29 r173 u173 ⟨rfl, ?_⟩
                  refine zw_iload_n 37 f178_36 rfl rfl ?_
                  refine zw_aload_n 38 f178_37 rfl rfl ?_
                  refine zw_getfield 41 f178_38 rfl g178_13_12 (hb_52 _ _ _ _) rfl ?_
                  refine zw_iload_n 42 f178_41 rfl rfl ?_
                  refine zw_iaload a.toNatClampNeg (P 54 a.toNatClampNeg) 43 f178_42 rfl (hb_54 _ _ _ _) rfl hc1 (zix (by decide) hc1 (show ¬ 8 ≤ a from ix_le hp.1 (by decide) (by decide) hc1 hc2)) (congrFun ((hR.2.1 54 (by omega) (by omega))) a.toNatClampNeg) ?_
                  refine zw_ixor (c ^^^ (P 54 a.toNatClampNeg)) 44 f178_43 rfl rfl ?_
                  refine zw_aload_n 45 f178_44 rfl rfl ?_
                  refine zw_iload_n 46 f178_45 rfl rfl ?_
                  refine zw_virtual_i 49 0 0 [.ref 52, .int a] [(0, .ref 52), (1, .int a)] f178_46 rfl n178_158 k178_158_12 rfl (hb_52 _ _ _ _) (by decide +kernel) (Nat.le_of_ble_eq_true rfl) rfl rfl (by decide +kernel) (by decide +kernel) rfl (Nat.le_of_ble_eq_true rfl) rfl ?_
                  refine zw_aload_n 1 f126_0 rfl rfl ?_
                  refine zw_getfield 4 f126_1 rfl g126_7_12 (hb_52 _ _ _ _) rfl ?_
                  refine zw_iload_n 5 f126_4 rfl rfl ?_
                  refine zw_iaload a.toNatClampNeg 2 6 f126_5 rfl (hb_53 _ _ _ _) rfl hc1 (zix (by decide) hc1 (show ¬ 8 ≤ a from ix_le hp.1 (by decide) (by decide) hc1 hc2)) ((congrFun (hR.2.1 53 (by omega) (by omega)) a.toNatClampNeg).trans hk) ?_
                  refine zw_iconst 3 7 f126_6 rfl (by decide +kernel) ?_
                  refine zw_ic_eq_f 10 20 f126_7 (by decide +kernel) rfl (by decide +kernel) ?_
                  refine zw_aload_n 11 f126_10 rfl rfl ?_
                  refine zw_getfield 14 f126_11 rfl g126_7_12 (hb_52 _ _ _ _) rfl ?_
                  refine zw_iload_n 15 f126_14 rfl rfl ?_
                  refine zw_iaload a.toNatClampNeg 2 16 f126_15 rfl (hb_53 _ _ _ _) rfl hc1 (zix (by decide) hc1 (show ¬ 8 ≤ a from ix_le hp.1 (by decide) (by decide) hc1 hc2)) ((congrFun (hR.2.1 53 (by omega) (by omega)) a.toNatClampNeg).trans hk) ?_
                  refine zw_iconst 4 17 f126_16 rfl (by decide +kernel) ?_
                  refine zw_ic_ne_t 24 f126_17 (by decide +kernel) (by decide +kernel) ?_
                  refine zw_iconst 0 25 f126_24 rfl (by decide +kernel) ?_
                  refine zw_zreturn f126_25 r126 u126 (by decide +kernel) ⟨_, rfl, ?_⟩
                  refine zw_if_eq_t 61 f178_49 (by decide +kernel) (by decide +kernel) ?_
                  refine zw_iconst 0 62 f178_61 rfl (by decide +kernel) ?_
                  refine zw_iadd ((c ^^^ (P 54 a.toNatClampNeg)) + 0) 63 f178_62 rfl rfl ?_
                  refine zw_aload_n 64 f178_63 rfl rfl ?_
                  refine zw_getfield 67 f178_64 rfl g178_7_12 (hb_52 _ _ _ _) rfl ?_
                  refine zw_iload_n 68 f178_67 rfl rfl ?_
                  refine zw_iaload a.toNatClampNeg 2 69 f178_68 rfl (hb_53 _ _ _ _) rfl hc1 (zix (by decide) hc1 (show ¬ 8 ≤ a from ix_le hp.1 (by decide) (by decide) hc1 hc2)) ((congrFun (hR.2.1 53 (by omega) (by omega)) a.toNatClampNeg).trans hk) ?_
                  refine zw_iconst 4 70 f178_69 rfl (by decide +kernel) ?_
                  refine zw_ic_ne_t 82 f178_70 (by decide +kernel) (by decide +kernel) ?_
                  refine zw_iconst 0 83 f178_82 rfl (by decide +kernel) ?_
                  refine zw_iadd (((c ^^^ (P 54 a.toNatClampNeg)) + 0) + 0) 84 f178_83 rfl rfl ?_
                  refine zw_ireturn f178_84 r178 u178 ⟨_, rfl, ?_⟩
                  refine zw_goto 76 f180_67 (by decide +kernel) ?_
                  refine zw_virtual_i 79 0 0 [.ref 52, .int (((c ^^^ (P 54 a.toNatClampNeg)) + 0) + 0)] [(0, .ref 52), (1, .int (((c ^^^ (P 54 a.toNatClampNeg)) + 0) + 0))] f180_76 rfl n180_205 k180_205_12 rfl (hb_52 _ _ _ _) (by decide +kernel) (Nat.le_of_ble_eq_true rfl) rfl rfl (by decide +kernel) (by decide +kernel) rfl (Nat.le_of_ble_eq_true rfl) rfl ?_
                  refine zw_aload_n 1 f122_0 rfl rfl ?_
                  refine zw_iconst 0 2 f122_1 rfl (by decide +kernel) ?_
                  refine zw_put _ 5 f122_2 rfl g122_111_12 (hb_52 _ _ _ _) rfl (Nat.le_of_ble_eq_true rfl) (by decide +kernel) (hi_52_27 _ _ _ _ _) ?_
                  refine zw_iload_n 6 f122_5 rfl rfl ?_
                  refine zw_ireturn f122_6 r122 u122 ⟨_, rfl, ?_⟩
                  refine zw_ireturn f180_79 r180 u180 ?_
                  exact ⟨_, _, _, _, rfl, (KQ.i rfl (KQ.i rfl (KQ.a rfl (KQ.i rfl KQ.rf)))), ⟨hi.1, hi.2.1, 1, by omega, (show _ = nI 1 from rfl)⟩, by rw [show an_act nv P W a b c = (((c ^^^ (P 54 a.toNatClampNeg)) + 0) + 0) from ((cI_y ⟨(qV.of (by omega) hc1 hc2), ⟨hc3, hc4⟩⟩).trans ((cI_n hc5).trans ((cI_n hc6).trans ((cI_y (Decidable.of_not_not hc7)).trans ((cI_n (kne hk (by decide))).trans ((cI_n (kne hk (by decide))).trans ((cI_y hk).trans (by simp only [Int32.add_zero]))))))))]⟩
                · refine zw_iaload a.toNatClampNeg 3 6 f178_5 rfl (hb_53 _ _ _ _) rfl hc1 (zix (by decide) hc1 (show ¬ 8 ≤ a from ix_le hp.1 (by decide) (by decide) hc1 hc2)) ((congrFun (hR.2.1 53 (by omega) (by omega)) a.toNatClampNeg).trans hk) ?_
                  refine zw_iconst 4 7 f178_6 rfl (by decide +kernel) ?_
                  refine zw_ic_ne_t 16 f178_7 (by decide +kernel) (by decide +kernel) ?_
                  refine zw_aload_n 17 f178_16 rfl rfl ?_
                  refine zw_iload_n 18 f178_17 rfl rfl ?_
                  refine zw_virtual_i 21 0 0 [.ref 52, .int a] [(0, .ref 52), (1, .int a)] f178_18 rfl n178_158 k178_158_12 rfl (hb_52 _ _ _ _) (by decide +kernel) (Nat.le_of_ble_eq_true rfl) rfl rfl (by decide +kernel) (by decide +kernel) rfl (Nat.le_of_ble_eq_true rfl) rfl ?_
                  refine zw_aload_n 1 f126_0 rfl rfl ?_
                  refine zw_getfield 4 f126_1 rfl g126_7_12 (hb_52 _ _ _ _) rfl ?_
                  refine zw_iload_n 5 f126_4 rfl rfl ?_
                  refine zw_iaload a.toNatClampNeg 3 6 f126_5 rfl (hb_53 _ _ _ _) rfl hc1 (zix (by decide) hc1 (show ¬ 8 ≤ a from ix_le hp.1 (by decide) (by decide) hc1 hc2)) ((congrFun (hR.2.1 53 (by omega) (by omega)) a.toNatClampNeg).trans hk) ?_
                  refine zw_iconst 3 7 f126_6 rfl (by decide +kernel) ?_
                  refine zw_ic_eq_t 20 f126_7 (by decide +kernel) (by decide +kernel) ?_
                  refine zw_iconst 1 21 f126_20 rfl (by decide +kernel) ?_
                  refine zw_goto 25 f126_21 (by decide +kernel) ?_
                  refine zw_zreturn f126_25 r126 u126 (by decide +kernel) ⟨_, rfl, ?_⟩
                  refine zw_if_eq_f 24 30 f178_21 (by decide +kernel) rfl (by decide +kernel) ?_
                  refine zw_aload_n 25 f178_24 rfl rfl ?_
                  refine zw_bipush 40 27 f178_25 rfl (by decide +kernel) ?_
                  refine zw_virtual_v 30 0 0 [.ref 52, .int 40] [(0, .ref 52), (1, .int 40)] f178_27 rfl n178_291 k178_291_12 rfl (hb_52 _ _ _ _) (by decide +kernel) (Nat.le_of_ble_eq_true rfl) rfl rfl (by decide +kernel) (by decide +kernel) rfl (Nat.le_of_ble_eq_true rfl) rfl ?_
                  refine zw_aload_n 1 f173_0 rfl rfl ?_
                  refine zw_getI 0 4 f173_1 rfl g173_246_12 (hb_52 _ _ _ _) rfl rfl ?_
                  refine zw_bipush 50 6 f173_4 rfl (by decide +kernel) ?_
                  refine zw_ic_ge_f 9 19 f173_6 (by decide +kernel) rfl (by decide +kernel) ?_
                  refine zw_aload_n 10 f173_9 rfl rfl ?_
                  refine zw_getfield 13 f173_10 rfl g173_74_12 (hb_52 _ _ _ _) rfl ?_
                  refine zw_aload_n 14 f173_13 rfl rfl ?_
                  refine zw_getI 0 17 f173_14 rfl g173_246_12 (hb_52 _ _ _ _) rfl rfl ?_
                  refine zw_iload_n 18 f173_17 rfl rfl ?_
                  refine zw_ast 0 _ 19 f173_18 rfl (hb_71 _ _ _ _) (by decide +kernel) (by decide +kernel) (by decide +kernel) (ha_71 _ _ _ _ _) ?_
                  refine zw_aload_n 20 f173_19 rfl rfl ?_
                  refine zw_dup 21 f173_20 rfl rfl ?_
                  refine zw_getI 0 24 f173_21 rfl g173_246_12 (hb_52 _ _ _ _) rfl rfl ?_
                  refine zw_iconst 1 25 f173_24 rfl (by decide +kernel) ?_
                  refine zw_iadd 1 26 f173_25 rfl (by decide +kernel) ?_
                  refine zw_put _ 29 f173_26 rfl g173_246_12 (hb_52 _ _ _ _) rfl (Nat.le_of_ble_eq_true rfl) (by decide +kernel) (hi_52_29 _ _ _ _ _) ?_
                  refine zw_vreturn f173_29 r173 u173 ⟨rfl, ?_⟩
                  refine zw_aload_n 31 f178_30 rfl rfl ?_
                  refine zw_bipush 12 33 f178_31 rfl (by decide +kernel) ?_
                  refine zw_virtual_v 36 0 0 [.ref 52, .int 12] [(0, .ref 52), (1, .int 12)] f178_33 rfl n178_291 k178_291_12 rfl (hb_52 _ _ _ _) (by decide +kernel) (Nat.le_of_ble_eq_true rfl) rfl rfl (by decide +kernel) (by decide +kernel) rfl (Nat.le_of_ble_eq_true rfl) rfl ?_
                  refine zw_aload_n 1 f173_0 rfl rfl ?_
                  refine zw_getI 1 4 f173_1 rfl g173_246_12 (hb_52 _ _ _ _) rfl rfl ?_
                  refine zw_bipush 50 6 f173_4 rfl (by decide +kernel) ?_
                  refine zw_ic_ge_f 9 19 f173_6 (by decide +kernel) rfl (by decide +kernel) ?_
                  refine zw_aload_n 10 f173_9 rfl rfl ?_
                  refine zw_getfield 13 f173_10 rfl g173_74_12 (hb_52 _ _ _ _) rfl ?_
                  refine zw_aload_n 14 f173_13 rfl rfl ?_
                  refine zw_getI 1 17 f173_14 rfl g173_246_12 (hb_52 _ _ _ _) rfl rfl ?_
                  refine zw_iload_n 18 f173_17 rfl rfl ?_
                  refine zw_ast 1 _ 19 f173_18 rfl (hb_71 _ _ _ _) (by decide +kernel) (by decide +kernel) (by decide +kernel) (ha_71 _ _ _ _ _) ?_
                  refine zw_aload_n 20 f173_19 rfl rfl ?_
                  refine zw_dup 21 f173_20 rfl rfl ?_
                  refine zw_getI 1 24 f173_21 rfl g173_246_12 (hb_52 _ _ _ _) rfl rfl ?_
                  refine zw_iconst 1 25 f173_24 rfl (by decide +kernel) ?_
                  refine zw_iadd 2 26 f173_25 rfl (by decide +kernel) ?_
                  refine zw_put _ 29 f173_26 rfl g173_246_12 (hb_52 _ _ _ _) rfl (Nat.le_of_ble_eq_true rfl) (by decide +kernel) (hi_52_29 _ _ _ _ _) ?_
                  refine zw_vreturn f173_29 r173 u173 ⟨rfl, ?_⟩
                  refine zw_iload_n 37 f178_36 rfl rfl ?_
                  refine zw_aload_n 38 f178_37 rfl rfl ?_
                  refine zw_getfield 41 f178_38 rfl g178_13_12 (hb_52 _ _ _ _) rfl ?_
                  refine zw_iload_n 42 f178_41 rfl rfl ?_
                  refine zw_iaload a.toNatClampNeg (P 54 a.toNatClampNeg) 43 f178_42 rfl (hb_54 _ _ _ _) rfl hc1 (zix (by decide) hc1 (show ¬ 8 ≤ a from ix_le hp.1 (by decide) (by decide) hc1 hc2)) (congrFun ((hR.2.1 54 (by omega) (by omega))) a.toNatClampNeg) ?_
                  refine zw_ixor (c ^^^ (P 54 a.toNatClampNeg)) 44 f178_43 rfl rfl ?_
                  refine zw_aload_n 45 f178_44 rfl rfl ?_
                  refine zw_iload_n 46 f178_45 rfl rfl ?_
                  refine zw_virtual_i 49 0 0 [.ref 52, .int a] [(0, .ref 52), (1, .int a)] f178_46 rfl n178_158 k178_158_12 rfl (hb_52 _ _ _ _) (by decide +kernel) (Nat.le_of_ble_eq_true rfl) rfl rfl (by decide +kernel) (by decide +kernel) rfl (Nat.le_of_ble_eq_true rfl) rfl ?_
                  refine zw_aload_n 1 f126_0 rfl rfl ?_
                  refine zw_getfield 4 f126_1 rfl g126_7_12 (hb_52 _ _ _ _) rfl ?_
                  refine zw_iload_n 5 f126_4 rfl rfl ?_
                  refine zw_iaload a.toNatClampNeg 3 6 f126_5 rfl (hb_53 _ _ _ _) rfl hc1 (zix (by decide) hc1 (show ¬ 8 ≤ a from ix_le hp.1 (by decide) (by decide) hc1 hc2)) ((congrFun (hR.2.1 53 (by omega) (by omega)) a.toNatClampNeg).trans hk) ?_
                  refine zw_iconst 3 7 f126_6 rfl (by decide +kernel) ?_
                  refine zw_ic_eq_t 20 f126_7 (by decide +kernel) (by decide +kernel) ?_
                  refine zw_iconst 1 21 f126_20 rfl (by decide +kernel) ?_
                  refine zw_goto 25 f126_21 (by decide +kernel) ?_
                  refine zw_zreturn f126_25 r126 u126 (by decide +kernel) ⟨_, rfl, ?_⟩
                  refine zw_if_eq_f 52 61 f178_49 (by decide +kernel) rfl (by decide +kernel) ?_
                  refine zw_aload_n 53 f178_52 rfl rfl ?_
                  refine zw_getfield 56 f178_53 rfl g178_19_12 (hb_52 _ _ _ _) rfl ?_
                  refine zw_iload_n 57 f178_56 rfl rfl ?_
                  refine zw_iaload a.toNatClampNeg (P 56 a.toNatClampNeg) 58 f178_57 rfl (hb_56 _ _ _ _) rfl hc1 (zix (by decide) hc1 (show ¬ 8 ≤ a from ix_le hp.1 (by decide) (by decide) hc1 hc2)) (congrFun ((hR.2.1 56 (by omega) (by omega))) a.toNatClampNeg) ?_
                  refine zw_goto 62 f178_58 (by decide +kernel) ?_
                  refine zw_iadd ((c ^^^ (P 54 a.toNatClampNeg)) + (P 56 a.toNatClampNeg)) 63 f178_62 rfl rfl ?_
                  refine zw_aload_n 64 f178_63 rfl rfl ?_
                  refine zw_getfield 67 f178_64 rfl g178_7_12 (hb_52 _ _ _ _) rfl ?_
                  refine zw_iload_n 68 f178_67 rfl rfl ?_
                  refine zw_iaload a.toNatClampNeg 3 69 f178_68 rfl (hb_53 _ _ _ _) rfl hc1 (zix (by decide) hc1 (show ¬ 8 ≤ a from ix_le hp.1 (by decide) (by decide) hc1 hc2)) ((congrFun (hR.2.1 53 (by omega) (by omega)) a.toNatClampNeg).trans hk) ?_
                  refine zw_iconst 4 70 f178_69 rfl (by decide +kernel) ?_
                  refine zw_ic_ne_t 82 f178_70 (by decide +kernel) (by decide +kernel) ?_
                  refine zw_iconst 0 83 f178_82 rfl (by decide +kernel) ?_
                  refine zw_iadd (((c ^^^ (P 54 a.toNatClampNeg)) + (P 56 a.toNatClampNeg)) + 0) 84 f178_83 rfl rfl ?_
                  refine zw_ireturn f178_84 r178 u178 ⟨_, rfl, ?_⟩
                  refine zw_goto 76 f180_67 (by decide +kernel) ?_
                  refine zw_virtual_i 79 0 0 [.ref 52, .int (((c ^^^ (P 54 a.toNatClampNeg)) + (P 56 a.toNatClampNeg)) + 0)] [(0, .ref 52), (1, .int (((c ^^^ (P 54 a.toNatClampNeg)) + (P 56 a.toNatClampNeg)) + 0))] f180_76 rfl n180_205 k180_205_12 rfl (hb_52 _ _ _ _) (by decide +kernel) (Nat.le_of_ble_eq_true rfl) rfl rfl (by decide +kernel) (by decide +kernel) rfl (Nat.le_of_ble_eq_true rfl) rfl ?_
                  refine zw_aload_n 1 f122_0 rfl rfl ?_
                  refine zw_iconst 0 2 f122_1 rfl (by decide +kernel) ?_
                  refine zw_put _ 5 f122_2 rfl g122_111_12 (hb_52 _ _ _ _) rfl (Nat.le_of_ble_eq_true rfl) (by decide +kernel) (hi_52_27 _ _ _ _ _) ?_
                  refine zw_iload_n 6 f122_5 rfl rfl ?_
                  refine zw_ireturn f122_6 r122 u122 ⟨_, rfl, ?_⟩
                  refine zw_ireturn f180_79 r180 u180 ?_
                  exact ⟨_, _, _, _, rfl, (KQ.i rfl (KQ.i rfl (KQ.a rfl (KQ.i rfl (KQ.a rfl (KQ.i rfl KQ.rf)))))), ⟨hi.1, hi.2.1, 2, by omega, (show _ = nI 2 from rfl)⟩, by rw [show an_act nv P W a b c = (((c ^^^ (P 54 a.toNatClampNeg)) + (P 56 a.toNatClampNeg)) + 0) from ((cI_y ⟨(qV.of (by omega) hc1 hc2), ⟨hc3, hc4⟩⟩).trans ((cI_n hc5).trans ((cI_n hc6).trans ((cI_y (Decidable.of_not_not hc7)).trans ((cI_n (kne hk (by decide))).trans ((cI_n (kne hk (by decide))).trans ((cI_n (kne hk (by decide))).trans ((cI_y hk).trans (by simp only [Int32.add_zero])))))))))]⟩
                · refine zw_iaload a.toNatClampNeg 4 6 f178_5 rfl (hb_53 _ _ _ _) rfl hc1 (zix (by decide) hc1 (show ¬ 8 ≤ a from ix_le hp.1 (by decide) (by decide) hc1 hc2)) ((congrFun (hR.2.1 53 (by omega) (by omega)) a.toNatClampNeg).trans hk) ?_
                  refine zw_iconst 4 7 f178_6 rfl (by decide +kernel) ?_
                  refine zw_ic_ne_f 10 16 f178_7 (by decide +kernel) rfl (by decide +kernel) ?_
                  refine zw_aload_n 11 f178_10 rfl rfl ?_
                  refine zw_bipush 50 13 f178_11 rfl (by decide +kernel) ?_
                  refine zw_virtual_v 16 0 0 [.ref 52, .int 50] [(0, .ref 52), (1, .int 50)] f178_13 rfl n178_291 k178_291_12 rfl (hb_52 _ _ _ _) (by decide +kernel) (Nat.le_of_ble_eq_true rfl) rfl rfl (by decide +kernel) (by decide +kernel) rfl (Nat.le_of_ble_eq_true rfl) rfl ?_
                  refine zw_aload_n 1 f173_0 rfl rfl ?_
                  refine zw_getI 0 4 f173_1 rfl g173_246_12 (hb_52 _ _ _ _) rfl rfl ?_
                  refine zw_bipush 50 6 f173_4 rfl (by decide +kernel) ?_
                  refine zw_ic_ge_f 9 19 f173_6 (by decide +kernel) rfl (by decide +kernel) ?_
                  refine zw_aload_n 10 f173_9 rfl rfl ?_
                  refine zw_getfield 13 f173_10 rfl g173_74_12 (hb_52 _ _ _ _) rfl ?_
                  refine zw_aload_n 14 f173_13 rfl rfl ?_
                  refine zw_getI 0 17 f173_14 rfl g173_246_12 (hb_52 _ _ _ _) rfl rfl ?_
                  refine zw_iload_n 18 f173_17 rfl rfl ?_
                  refine zw_ast 0 _ 19 f173_18 rfl (hb_71 _ _ _ _) (by decide +kernel) (by decide +kernel) (by decide +kernel) (ha_71 _ _ _ _ _) ?_
                  refine zw_aload_n 20 f173_19 rfl rfl ?_
                  refine zw_dup 21 f173_20 rfl rfl ?_
                  refine zw_getI 0 24 f173_21 rfl g173_246_12 (hb_52 _ _ _ _) rfl rfl ?_
                  refine zw_iconst 1 25 f173_24 rfl (by decide +kernel) ?_
                  refine zw_iadd 1 26 f173_25 rfl (by decide +kernel) ?_
                  refine zw_put _ 29 f173_26 rfl g173_246_12 (hb_52 _ _ _ _) rfl (Nat.le_of_ble_eq_true rfl) (by decide +kernel) (hi_52_29 _ _ _ _ _) ?_
                  refine zw_vreturn f173_29 r173 u173 ⟨rfl, ?_⟩
                  refine zw_aload_n 17 f178_16 rfl rfl ?_
                  refine zw_iload_n 18 f178_17 rfl rfl ?_
                  refine zw_virtual_i 21 0 0 [.ref 52, .int a] [(0, .ref 52), (1, .int a)] f178_18 rfl n178_158 k178_158_12 rfl (hb_52 _ _ _ _) (by decide +kernel) (Nat.le_of_ble_eq_true rfl) rfl rfl (by decide +kernel) (by decide +kernel) rfl (Nat.le_of_ble_eq_true rfl) rfl ?_
                  refine zw_aload_n 1 f126_0 rfl rfl ?_
                  refine zw_getfield 4 f126_1 rfl g126_7_12 (hb_52 _ _ _ _) rfl ?_
                  refine zw_iload_n 5 f126_4 rfl rfl ?_
                  refine zw_iaload a.toNatClampNeg 4 6 f126_5 rfl (hb_53 _ _ _ _) rfl hc1 (zix (by decide) hc1 (show ¬ 8 ≤ a from ix_le hp.1 (by decide) (by decide) hc1 hc2)) ((congrFun (hR.2.1 53 (by omega) (by omega)) a.toNatClampNeg).trans hk) ?_
                  refine zw_iconst 3 7 f126_6 rfl (by decide +kernel) ?_
                  refine zw_ic_eq_f 10 20 f126_7 (by decide +kernel) rfl (by decide +kernel) ?_
                  refine zw_aload_n 11 f126_10 rfl rfl ?_
                  refine zw_getfield 14 f126_11 rfl g126_7_12 (hb_52 _ _ _ _) rfl ?_
                  refine zw_iload_n 15 f126_14 rfl rfl ?_
                  refine zw_iaload a.toNatClampNeg 4 16 f126_15 rfl (hb_53 _ _ _ _) rfl hc1 (zix (by decide) hc1 (show ¬ 8 ≤ a from ix_le hp.1 (by decide) (by decide) hc1 hc2)) ((congrFun (hR.2.1 53 (by omega) (by omega)) a.toNatClampNeg).trans hk) ?_
                  refine zw_iconst 4 17 f126_16 rfl (by decide +kernel) ?_
                  refine zw_ic_ne_f 20 24 f126_17 (by decide +kernel) rfl (by decide +kernel) ?_
                  refine zw_iconst 1 21 f126_20 rfl (by decide +kernel) ?_
                  refine zw_goto 25 f126_21 (by decide +kernel) ?_
                  refine zw_zreturn f126_25 r126 u126 (by decide +kernel) ⟨_, rfl, ?_⟩
                  refine zw_if_eq_f 24 30 f178_21 (by decide +kernel) rfl (by decide +kernel) ?_
                  refine zw_aload_n 25 f178_24 rfl rfl ?_
                  refine zw_bipush 40 27 f178_25 rfl (by decide +kernel) ?_
                  refine zw_virtual_v 30 0 0 [.ref 52, .int 40] [(0, .ref 52), (1, .int 40)] f178_27 rfl n178_291 k178_291_12 rfl (hb_52 _ _ _ _) (by decide +kernel) (Nat.le_of_ble_eq_true rfl) rfl rfl (by decide +kernel) (by decide +kernel) rfl (Nat.le_of_ble_eq_true rfl) rfl ?_
                  refine zw_aload_n 1 f173_0 rfl rfl ?_
                  refine zw_getI 1 4 f173_1 rfl g173_246_12 (hb_52 _ _ _ _) rfl rfl ?_
                  refine zw_bipush 50 6 f173_4 rfl (by decide +kernel) ?_
                  refine zw_ic_ge_f 9 19 f173_6 (by decide +kernel) rfl (by decide +kernel) ?_
                  refine zw_aload_n 10 f173_9 rfl rfl ?_
                  refine zw_getfield 13 f173_10 rfl g173_74_12 (hb_52 _ _ _ _) rfl ?_
                  refine zw_aload_n 14 f173_13 rfl rfl ?_
                  refine zw_getI 1 17 f173_14 rfl g173_246_12 (hb_52 _ _ _ _) rfl rfl ?_
                  refine zw_iload_n 18 f173_17 rfl rfl ?_
                  refine zw_ast 1 _ 19 f173_18 rfl (hb_71 _ _ _ _) (by decide +kernel) (by decide +kernel) (by decide +kernel) (ha_71 _ _ _ _ _) ?_
                  refine zw_aload_n 20 f173_19 rfl rfl ?_
                  refine zw_dup 21 f173_20 rfl rfl ?_
                  refine zw_getI 1 24 f173_21 rfl g173_246_12 (hb_52 _ _ _ _) rfl rfl ?_
                  refine zw_iconst 1 25 f173_24 rfl (by decide +kernel) ?_
                  refine zw_iadd 2 26 f173_25 rfl (by decide +kernel) ?_
                  refine zw_put _ 29 f173_26 rfl g173_246_12 (hb_52 _ _ _ _) rfl (Nat.le_of_ble_eq_true rfl) (by decide +kernel) (hi_52_29 _ _ _ _ _) ?_
                  refine zw_vreturn f173_29 r173 u173 ⟨rfl, ?_⟩
                  refine zw_aload_n 31 f178_30 rfl rfl ?_
                  refine zw_bipush 12 33 f178_31 rfl (by decide +kernel) ?_
                  refine zw_virtual_v 36 0 0 [.ref 52, .int 12] [(0, .ref 52), (1, .int 12)] f178_33 rfl n178_291 k178_291_12 rfl (hb_52 _ _ _ _) (by decide +kernel) (Nat.le_of_ble_eq_true rfl) rfl rfl (by decide +kernel) (by decide +kernel) rfl (Nat.le_of_ble_eq_true rfl) rfl ?_
                  refine zw_aload_n 1 f173_0 rfl rfl ?_
                  refine zw_getI 2 4 f173_1 rfl g173_246_12 (hb_52 _ _ _ _) rfl rfl ?_
                  refine zw_bipush 50 6 f173_4 rfl (by decide +kernel) ?_
                  refine zw_ic_ge_f 9 19 f173_6 (by decide +kernel) rfl (by decide +kernel) ?_
                  refine zw_aload_n 10 f173_9 rfl rfl ?_
                  refine zw_getfield 13 f173_10 rfl g173_74_12 (hb_52 _ _ _ _) rfl ?_
                  refine zw_aload_n 14 f173_13 rfl rfl ?_
                  refine zw_getI 2 17 f173_14 rfl g173_246_12 (hb_52 _ _ _ _) rfl rfl ?_
                  refine zw_iload_n 18 f173_17 rfl rfl ?_
                  refine zw_ast 2 _ 19 f173_18 rfl (hb_71 _ _ _ _) (by decide +kernel) (by decide +kernel) (by decide +kernel) (ha_71 _ _ _ _ _) ?_
                  refine zw_aload_n 20 f173_19 rfl rfl ?_
                  refine zw_dup 21 f173_20 rfl rfl ?_
                  refine zw_getI 2 24 f173_21 rfl g173_246_12 (hb_52 _ _ _ _) rfl rfl ?_
                  refine zw_iconst 1 25 f173_24 rfl (by decide +kernel) ?_
                  refine zw_iadd 3 26 f173_25 rfl (by decide +kernel) ?_
                  refine zw_put _ 29 f173_26 rfl g173_246_12 (hb_52 _ _ _ _) rfl (Nat.le_of_ble_eq_true rfl) (by decide +kernel) (hi_52_29 _ _ _ _ _) ?_
                  refine zw_vreturn f173_29 r173 u173 ⟨rfl, ?_⟩
                  refine zw_iload_n 37 f178_36 rfl rfl ?_
                  refine zw_aload_n 38 f178_37 rfl rfl ?_
                  refine zw_getfield 41 f178_38 rfl g178_13_12 (hb_52 _ _ _ _) rfl ?_
                  refine zw_iload_n 42 f178_41 rfl rfl ?_
                  refine zw_iaload a.toNatClampNeg (P 54 a.toNatClampNeg) 43 f178_42 rfl (hb_54 _ _ _ _) rfl hc1 (zix (by decide) hc1 (show ¬ 8 ≤ a from ix_le hp.1 (by decide) (by decide) hc1 hc2)) (congrFun ((hR.2.1 54 (by omega) (by omega))) a.toNatClampNeg) ?_
                  refine zw_ixor (c ^^^ (P 54 a.toNatClampNeg)) 44 f178_43 rfl rfl ?_
                  refine zw_aload_n 45 f178_44 rfl rfl ?_
                  refine zw_iload_n 46 f178_45 rfl rfl ?_
                  refine zw_virtual_i 49 0 0 [.ref 52, .int a] [(0, .ref 52), (1, .int a)] f178_46 rfl n178_158 k178_158_12 rfl (hb_52 _ _ _ _) (by decide +kernel) (Nat.le_of_ble_eq_true rfl) rfl rfl (by decide +kernel) (by decide +kernel) rfl (Nat.le_of_ble_eq_true rfl) rfl ?_
                  refine zw_aload_n 1 f126_0 rfl rfl ?_
                  refine zw_getfield 4 f126_1 rfl g126_7_12 (hb_52 _ _ _ _) rfl ?_
                  refine zw_iload_n 5 f126_4 rfl rfl ?_
                  refine zw_iaload a.toNatClampNeg 4 6 f126_5 rfl (hb_53 _ _ _ _) rfl hc1 (zix (by decide) hc1 (show ¬ 8 ≤ a from ix_le hp.1 (by decide) (by decide) hc1 hc2)) ((congrFun (hR.2.1 53 (by omega) (by omega)) a.toNatClampNeg).trans hk) ?_
                  refine zw_iconst 3 7 f126_6 rfl (by decide +kernel) ?_
                  refine zw_ic_eq_f 10 20 f126_7 (by decide +kernel) rfl (by decide +kernel) ?_
                  refine zw_aload_n 11 f126_10 rfl rfl ?_
                  refine zw_getfield 14 f126_11 rfl g126_7_12 (hb_52 _ _ _ _) rfl ?_
                  refine zw_iload_n 15 f126_14 rfl rfl ?_
                  refine zw_iaload a.toNatClampNeg 4 16 f126_15 rfl (hb_53 _ _ _ _) rfl hc1 (zix (by decide) hc1 (show ¬ 8 ≤ a from ix_le hp.1 (by decide) (by decide) hc1 hc2)) ((congrFun (hR.2.1 53 (by omega) (by omega)) a.toNatClampNeg).trans hk) ?_
                  refine zw_iconst 4 17 f126_16 rfl (by decide +kernel) ?_
                  refine zw_ic_ne_f 20 24 f126_17 (by decide +kernel) rfl (by decide +kernel) ?_
                  refine zw_iconst 1 21 f126_20 rfl (by decide +kernel) ?_
                  refine zw_goto 25 f126_21 (by decide +kernel) ?_
                  refine zw_zreturn f126_25 r126 u126 (by decide +kernel) ⟨_, rfl, ?_⟩
                  refine zw_if_eq_f 52 61 f178_49 (by decide +kernel) rfl (by decide +kernel) ?_
                  refine zw_aload_n 53 f178_52 rfl rfl ?_
                  refine zw_getfield 56 f178_53 rfl g178_19_12 (hb_52 _ _ _ _) rfl ?_
                  refine zw_iload_n 57 f178_56 rfl rfl ?_
                  refine zw_iaload a.toNatClampNeg (P 56 a.toNatClampNeg) 58 f178_57 rfl (hb_56 _ _ _ _) rfl hc1 (zix (by decide) hc1 (show ¬ 8 ≤ a from ix_le hp.1 (by decide) (by decide) hc1 hc2)) (congrFun ((hR.2.1 56 (by omega) (by omega))) a.toNatClampNeg) ?_
                  refine zw_goto 62 f178_58 (by decide +kernel) ?_
                  refine zw_iadd ((c ^^^ (P 54 a.toNatClampNeg)) + (P 56 a.toNatClampNeg)) 63 f178_62 rfl rfl ?_
                  refine zw_aload_n 64 f178_63 rfl rfl ?_
                  refine zw_getfield 67 f178_64 rfl g178_7_12 (hb_52 _ _ _ _) rfl ?_
                  refine zw_iload_n 68 f178_67 rfl rfl ?_
                  refine zw_iaload a.toNatClampNeg 4 69 f178_68 rfl (hb_53 _ _ _ _) rfl hc1 (zix (by decide) hc1 (show ¬ 8 ≤ a from ix_le hp.1 (by decide) (by decide) hc1 hc2)) ((congrFun (hR.2.1 53 (by omega) (by omega)) a.toNatClampNeg).trans hk) ?_
                  refine zw_iconst 4 70 f178_69 rfl (by decide +kernel) ?_
                  refine zw_ic_ne_f 73 82 f178_70 (by decide +kernel) rfl (by decide +kernel) ?_
                  refine zw_aload_n 74 f178_73 rfl rfl ?_
                  refine zw_getfield 77 f178_74 rfl g178_55_12 (hb_52 _ _ _ _) rfl ?_
                  refine zw_iload_n 78 f178_77 rfl rfl ?_
                  refine zw_iaload a.toNatClampNeg ((W.2.2.2.2.2.2.2) a.toNatClampNeg) 79 f178_78 rfl (hb_66 _ _ _ _) rfl hc1 (zix (by decide) hc1 (show ¬ 8 ≤ a from ix_le hp.1 (by decide) (by decide) hc1 hc2)) (congrFun (hR.cnt) a.toNatClampNeg) ?_
                  refine zw_goto 83 f178_79 (by decide +kernel) ?_
                  refine zw_iadd (((c ^^^ (P 54 a.toNatClampNeg)) + (P 56 a.toNatClampNeg)) + ((W.2.2.2.2.2.2.2) a.toNatClampNeg)) 84 f178_83 rfl rfl ?_
                  refine zw_ireturn f178_84 r178 u178 ⟨_, rfl, ?_⟩
                  refine zw_goto 76 f180_67 (by decide +kernel) ?_
                  refine zw_virtual_i 79 0 0 [.ref 52, .int (((c ^^^ (P 54 a.toNatClampNeg)) + (P 56 a.toNatClampNeg)) + ((W.2.2.2.2.2.2.2) a.toNatClampNeg))] [(0, .ref 52), (1, .int (((c ^^^ (P 54 a.toNatClampNeg)) + (P 56 a.toNatClampNeg)) + ((W.2.2.2.2.2.2.2) a.toNatClampNeg)))] f180_76 rfl n180_205 k180_205_12 rfl (hb_52 _ _ _ _) (by decide +kernel) (Nat.le_of_ble_eq_true rfl) rfl rfl (by decide +kernel) (by decide +kernel) rfl (Nat.le_of_ble_eq_true rfl) rfl ?_
                  refine zw_aload_n 1 f122_0 rfl rfl ?_
                  refine zw_iconst 0 2 f122_1 rfl (by decide +kernel) ?_
                  refine zw_put _ 5 f122_2 rfl g122_111_12 (hb_52 _ _ _ _) rfl (Nat.le_of_ble_eq_true rfl) (by decide +kernel) (hi_52_27 _ _ _ _ _) ?_
                  refine zw_iload_n 6 f122_5 rfl rfl ?_
                  refine zw_ireturn f122_6 r122 u122 ⟨_, rfl, ?_⟩
                  refine zw_ireturn f180_79 r180 u180 ?_
                  exact ⟨_, _, _, _, rfl, (KQ.i rfl (KQ.i rfl (KQ.a rfl (KQ.i rfl (KQ.a rfl (KQ.i rfl (KQ.a rfl (KQ.i rfl KQ.rf)))))))), ⟨hi.1, hi.2.1, 3, by omega, (show _ = nI 3 from rfl)⟩, by rw [show an_act nv P W a b c = (((c ^^^ (P 54 a.toNatClampNeg)) + (P 56 a.toNatClampNeg)) + ((W.2.2.2.2.2.2.2) a.toNatClampNeg)) from ((cI_y ⟨(qV.of (by omega) hc1 hc2), ⟨hc3, hc4⟩⟩).trans ((cI_n hc5).trans ((cI_n hc6).trans ((cI_y (Decidable.of_not_not hc7)).trans ((cI_n (kne hk (by decide))).trans ((cI_n (kne hk (by decide))).trans ((cI_n (kne hk (by decide))).trans ((cI_n (kne hk (by decide))).trans ((cI_y hk).trans rfl)))))))))]⟩
            · refine zw_aload_n 48 f180_47 rfl rfl ?_
              refine zw_iload_n 49 f180_48 rfl rfl ?_
              refine zw_iload_n 50 f180_49 rfl rfl ?_
              refine zw_virtual_i 53 0 0 [.ref 52, .int a, .int c] [(0, .ref 52), (1, .int a), (2, .int c)] f180_50 rfl n180_304 k180_304_12 rfl (hb_52 _ _ _ _) (by decide +kernel) (Nat.le_of_ble_eq_true rfl) rfl rfl (by decide +kernel) (by decide +kernel) rfl (Nat.le_of_ble_eq_true rfl) rfl ?_
              refine zw_aload_n 1 f177_0 rfl rfl ?_
              refine zw_getfield 4 f177_1 rfl g177_7_12 (hb_52 _ _ _ _) rfl ?_
              refine zw_iload_n 5 f177_4 rfl rfl ?_
              rcases (k5 (hQ.1 a.toNatClampNeg ((qV.of (by omega) hc1 hc2)).1)) with hk | hk | hk | hk | hk
              · refine zw_iaload a.toNatClampNeg 0 6 f177_5 rfl (hb_53 _ _ _ _) rfl hc1 (zix (by decide) hc1 (show ¬ 8 ≤ a from ix_le hp.1 (by decide) (by decide) hc1 hc2)) ((congrFun (hR.2.1 53 (by omega) (by omega)) a.toNatClampNeg).trans hk) ?_
                refine zw_iconst 1 7 f177_6 rfl (by decide +kernel) ?_
                refine zw_ic_ne_t 30 f177_7 (by decide +kernel) (by decide +kernel) ?_
                refine zw_aload_n 31 f177_30 rfl rfl ?_
                refine zw_getfield 34 f177_31 rfl g177_7_12 (hb_52 _ _ _ _) rfl ?_
                refine zw_iload_n 35 f177_34 rfl rfl ?_
                refine zw_iaload a.toNatClampNeg 0 36 f177_35 rfl (hb_53 _ _ _ _) rfl hc1 (zix (by decide) hc1 (show ¬ 8 ≤ a from ix_le hp.1 (by decide) (by decide) hc1 hc2)) ((congrFun (hR.2.1 53 (by omega) (by omega)) a.toNatClampNeg).trans hk) ?_
                refine zw_iconst 4 37 f177_36 rfl (by decide +kernel) ?_
                refine zw_ic_ne_t 60 f177_37 (by decide +kernel) (by decide +kernel) ?_
                refine zw_aload_n 61 f177_60 rfl rfl ?_
                refine zw_iload_n 62 f177_61 rfl rfl ?_
                refine zw_iload_n 63 f177_62 rfl rfl ?_
                refine zw_virtual_i 66 0 0 [.ref 52, .int a, .int c] [(0, .ref 52), (1, .int a), (2, .int c)] f177_63 rfl n177_301 k177_301_12 rfl (hb_52 _ _ _ _) (by decide +kernel) (Nat.le_of_ble_eq_true rfl) rfl rfl (by decide +kernel) (by decide +kernel) rfl (Nat.le_of_ble_eq_true rfl) rfl ?_
                refine zw_aload_n 1 f176_0 rfl rfl ?_
                refine zw_bipush 11 3 f176_1 rfl (by decide +kernel) ?_
                refine zw_virtual_v 6 0 0 [.ref 52, .int 11] [(0, .ref 52), (1, .int 11)] f176_3 rfl n176_291 k176_291_12 rfl (hb_52 _ _ _ _) (by decide +kernel) (Nat.le_of_ble_eq_true rfl) rfl rfl (by decide +kernel) (by decide +kernel) rfl (Nat.le_of_ble_eq_true rfl) rfl ?_
                refine zw_aload_n 1 f173_0 rfl rfl ?_
                refine zw_getI 0 4 f173_1 rfl g173_246_12 (hb_52 _ _ _ _) rfl rfl ?_
                refine zw_bipush 50 6 f173_4 rfl (by decide +kernel) ?_
                refine zw_ic_ge_f 9 19 f173_6 (by decide +kernel) rfl (by decide +kernel) ?_
                refine zw_aload_n 10 f173_9 rfl rfl ?_
                refine zw_getfield 13 f173_10 rfl g173_74_12 (hb_52 _ _ _ _) rfl ?_
                refine zw_aload_n 14 f173_13 rfl rfl ?_
                refine zw_getI 0 17 f173_14 rfl g173_246_12 (hb_52 _ _ _ _) rfl rfl ?_
                refine zw_iload_n 18 f173_17 rfl rfl ?_
                refine zw_ast 0 _ 19 f173_18 rfl (hb_71 _ _ _ _) (by decide +kernel) (by decide +kernel) (by decide +kernel) (ha_71 _ _ _ _ _) ?_
                refine zw_aload_n 20 f173_19 rfl rfl ?_
                refine zw_dup 21 f173_20 rfl rfl ?_
                refine zw_getI 0 24 f173_21 rfl g173_246_12 (hb_52 _ _ _ _) rfl rfl ?_
                refine zw_iconst 1 25 f173_24 rfl (by decide +kernel) ?_
                refine zw_iadd 1 26 f173_25 rfl (by decide +kernel) ?_
                refine zw_put _ 29 f173_26 rfl g173_246_12 (hb_52 _ _ _ _) rfl (Nat.le_of_ble_eq_true rfl) (by decide +kernel) (hi_52_29 _ _ _ _ _) ?_
                refine zw_vreturn f173_29 r173 u173 ⟨rfl, ?_⟩
                refine zw_aload_n 7 f176_6 rfl rfl ?_
                refine zw_iload_n 8 f176_7 rfl rfl ?_
                refine zw_iload_n 9 f176_8 rfl rfl ?_
                refine zw_virtual_i 12 0 0 [.ref 52, .int a, .int c] [(0, .ref 52), (1, .int a), (2, .int c)] f176_9 rfl n176_298 k176_298_12 rfl (hb_52 _ _ _ _) (by decide +kernel) (Nat.le_of_ble_eq_true rfl) rfl rfl (by decide +kernel) (by decide +kernel) rfl (Nat.le_of_ble_eq_true rfl) rfl ?_
                refine zw_aload_n 1 f175_0 rfl rfl ?_
                refine zw_getfield 4 f175_1 rfl g175_7_12 (hb_52 _ _ _ _) rfl ?_
                refine zw_iload_n 5 f175_4 rfl rfl ?_
                refine zw_iaload a.toNatClampNeg 0 6 f175_5 rfl (hb_53 _ _ _ _) rfl hc1 (zix (by decide) hc1 (show ¬ 8 ≤ a from ix_le hp.1 (by decide) (by decide) hc1 hc2)) ((congrFun (hR.2.1 53 (by omega) (by omega)) a.toNatClampNeg).trans hk) ?_
                refine zw_iconst 2 7 f175_6 rfl (by decide +kernel) ?_
                refine zw_ic_ne_t 25 f175_7 (by decide +kernel) (by decide +kernel) ?_
                refine zw_aload_n 26 f175_25 rfl rfl ?_
                refine zw_iload_n 27 f175_26 rfl rfl ?_
                refine zw_virtual_i 30 0 0 [.ref 52, .int a] [(0, .ref 52), (1, .int a)] f175_27 rfl n175_158 k175_158_12 rfl (hb_52 _ _ _ _) (by decide +kernel) (Nat.le_of_ble_eq_true rfl) rfl rfl (by decide +kernel) (by decide +kernel) rfl (Nat.le_of_ble_eq_true rfl) rfl ?_
                refine zw_aload_n 1 f126_0 rfl rfl ?_
                refine zw_getfield 4 f126_1 rfl g126_7_12 (hb_52 _ _ _ _) rfl ?_
                refine zw_iload_n 5 f126_4 rfl rfl ?_
                refine zw_iaload a.toNatClampNeg 0 6 f126_5 rfl (hb_53 _ _ _ _) rfl hc1 (zix (by decide) hc1 (show ¬ 8 ≤ a from ix_le hp.1 (by decide) (by decide) hc1 hc2)) ((congrFun (hR.2.1 53 (by omega) (by omega)) a.toNatClampNeg).trans hk) ?_
                refine zw_iconst 3 7 f126_6 rfl (by decide +kernel) ?_
                refine zw_ic_eq_f 10 20 f126_7 (by decide +kernel) rfl (by decide +kernel) ?_
                refine zw_aload_n 11 f126_10 rfl rfl ?_
                refine zw_getfield 14 f126_11 rfl g126_7_12 (hb_52 _ _ _ _) rfl ?_
                refine zw_iload_n 15 f126_14 rfl rfl ?_
                refine zw_iaload a.toNatClampNeg 0 16 f126_15 rfl (hb_53 _ _ _ _) rfl hc1 (zix (by decide) hc1 (show ¬ 8 ≤ a from ix_le hp.1 (by decide) (by decide) hc1 hc2)) ((congrFun (hR.2.1 53 (by omega) (by omega)) a.toNatClampNeg).trans hk) ?_
                refine zw_iconst 4 17 f126_16 rfl (by decide +kernel) ?_
                refine zw_ic_ne_t 24 f126_17 (by decide +kernel) (by decide +kernel) ?_
                refine zw_iconst 0 25 f126_24 rfl (by decide +kernel) ?_
                refine zw_zreturn f126_25 r126 u126 (by decide +kernel) ⟨_, rfl, ?_⟩
                refine zw_if_eq_t 53 f175_30 (by decide +kernel) (by decide +kernel) ?_
                refine zw_aload_n 54 f175_53 rfl rfl ?_
                refine zw_iload_n 55 f175_54 rfl rfl ?_
                refine zw_iload_n 56 f175_55 rfl rfl ?_
                refine zw_virtual_i 59 0 0 [.ref 52, .int a, .int c] [(0, .ref 52), (1, .int a), (2, .int c)] f175_56 rfl n175_294 k175_294_12 rfl (hb_52 _ _ _ _) (by decide +kernel) (Nat.le_of_ble_eq_true rfl) rfl rfl (by decide +kernel) (by decide +kernel) rfl (Nat.le_of_ble_eq_true rfl) rfl ?_
                refine zw_aload_n 1 f174_0 rfl rfl ?_
                refine zw_bipush 10 3 f174_1 rfl (by decide +kernel) ?_
                refine zw_virtual_v 6 0 0 [.ref 52, .int 10] [(0, .ref 52), (1, .int 10)] f174_3 rfl n174_291 k174_291_12 rfl (hb_52 _ _ _ _) (by decide +kernel) (Nat.le_of_ble_eq_true rfl) rfl rfl (by decide +kernel) (by decide +kernel) rfl (Nat.le_of_ble_eq_true rfl) rfl ?_
                refine zw_aload_n 1 f173_0 rfl rfl ?_
                refine zw_getI 1 4 f173_1 rfl g173_246_12 (hb_52 _ _ _ _) rfl rfl ?_
                refine zw_bipush 50 6 f173_4 rfl (by decide +kernel) ?_
                refine zw_ic_ge_f 9 19 f173_6 (by decide +kernel) rfl (by decide +kernel) ?_
                refine zw_aload_n 10 f173_9 rfl rfl ?_
                refine zw_getfield 13 f173_10 rfl g173_74_12 (hb_52 _ _ _ _) rfl ?_
                refine zw_aload_n 14 f173_13 rfl rfl ?_
                refine zw_getI 1 17 f173_14 rfl g173_246_12 (hb_52 _ _ _ _) rfl rfl ?_
                refine zw_iload_n 18 f173_17 rfl rfl ?_
                refine zw_ast 1 _ 19 f173_18 rfl (hb_71 _ _ _ _) (by decide +kernel) (by decide +kernel) (by decide +kernel) (ha_71 _ _ _ _ _) ?_
                refine zw_aload_n 20 f173_19 rfl rfl ?_
                refine zw_dup 21 f173_20 rfl rfl ?_
                refine zw_getI 1 24 f173_21 rfl g173_246_12 (hb_52 _ _ _ _) rfl rfl ?_
                refine zw_iconst 1 25 f173_24 rfl (by decide +kernel) ?_
                refine zw_iadd 2 26 f173_25 rfl (by decide +kernel) ?_
                refine zw_put _ 29 f173_26 rfl g173_246_12 (hb_52 _ _ _ _) rfl (Nat.le_of_ble_eq_true rfl) (by decide +kernel) (hi_52_29 _ _ _ _ _) ?_
                refine zw_vreturn f173_29 r173 u173 ⟨rfl, ?_⟩
                refine zw_iload_n 7 f174_6 rfl rfl ?_
                refine zw_aload_n 8 f174_7 rfl rfl ?_
                refine zw_getfield 11 f174_8 rfl g174_13_12 (hb_52 _ _ _ _) rfl ?_
                refine zw_iload_n 12 f174_11 rfl rfl ?_
                refine zw_iaload a.toNatClampNeg (P 54 a.toNatClampNeg) 13 f174_12 rfl (hb_54 _ _ _ _) rfl hc1 (zix (by decide) hc1 (show ¬ 8 ≤ a from ix_le hp.1 (by decide) (by decide) hc1 hc2)) (congrFun ((hR.2.1 54 (by omega) (by omega))) a.toNatClampNeg) ?_
                refine zw_iadd (c + (P 54 a.toNatClampNeg)) 14 f174_13 rfl rfl ?_
                refine zw_ireturn f174_14 r174 u174 ⟨_, rfl, ?_⟩
                refine zw_ireturn f175_59 r175 u175 ⟨_, rfl, ?_⟩
                refine zw_iconst 3 13 f176_12 rfl (by decide +kernel) ?_
                refine zw_imul ((c + (P 54 a.toNatClampNeg)) * 3) 14 f176_13 rfl rfl ?_
                refine zw_ireturn f176_14 r176 u176 ⟨_, rfl, ?_⟩
                refine zw_ireturn f177_66 r177 u177 ⟨_, rfl, ?_⟩
                refine zw_goto 76 f180_53 (by decide +kernel) ?_
                refine zw_virtual_i 79 0 0 [.ref 52, .int ((c + (P 54 a.toNatClampNeg)) * 3)] [(0, .ref 52), (1, .int ((c + (P 54 a.toNatClampNeg)) * 3))] f180_76 rfl n180_205 k180_205_12 rfl (hb_52 _ _ _ _) (by decide +kernel) (Nat.le_of_ble_eq_true rfl) rfl rfl (by decide +kernel) (by decide +kernel) rfl (Nat.le_of_ble_eq_true rfl) rfl ?_
                refine zw_aload_n 1 f122_0 rfl rfl ?_
                refine zw_iconst 0 2 f122_1 rfl (by decide +kernel) ?_
                refine zw_put _ 5 f122_2 rfl g122_111_12 (hb_52 _ _ _ _) rfl (Nat.le_of_ble_eq_true rfl) (by decide +kernel) (hi_52_27 _ _ _ _ _) ?_
                refine zw_iload_n 6 f122_5 rfl rfl ?_
                refine zw_ireturn f122_6 r122 u122 ⟨_, rfl, ?_⟩
                refine zw_ireturn f180_79 r180 u180 ?_
                exact ⟨_, _, _, _, rfl, (KQ.i rfl (KQ.i rfl (KQ.a rfl (KQ.i rfl (KQ.a rfl (KQ.i rfl KQ.rf)))))), ⟨hi.1, hi.2.1, 2, by omega, (show _ = nI 2 from rfl)⟩, by rw [show an_act nv P W a b c = ((c + (P 54 a.toNatClampNeg)) * 3) from ((cI_y ⟨(qV.of (by omega) hc1 hc2), ⟨hc3, hc4⟩⟩).trans ((cI_n hc5).trans ((cI_y (Decidable.of_not_not hc6)).trans ((cI_y hk).trans rfl))))]⟩
              · refine zw_iaload a.toNatClampNeg 1 6 f177_5 rfl (hb_53 _ _ _ _) rfl hc1 (zix (by decide) hc1 (show ¬ 8 ≤ a from ix_le hp.1 (by decide) (by decide) hc1 hc2)) ((congrFun (hR.2.1 53 (by omega) (by omega)) a.toNatClampNeg).trans hk) ?_
                refine zw_iconst 1 7 f177_6 rfl (by decide +kernel) ?_
                refine zw_ic_ne_f 10 30 f177_7 (by decide +kernel) rfl (by decide +kernel) ?_
                refine zw_aload_n 11 f177_10 rfl rfl ?_
                refine zw_bipush 20 13 f177_11 rfl (by decide +kernel) ?_
                refine zw_virtual_v 16 0 0 [.ref 52, .int 20] [(0, .ref 52), (1, .int 20)] f177_13 rfl n177_291 k177_291_12 rfl (hb_52 _ _ _ _) (by decide +kernel) (Nat.le_of_ble_eq_true rfl) rfl rfl (by decide +kernel) (by decide +kernel) rfl (Nat.le_of_ble_eq_true rfl) rfl ?_
                refine zw_aload_n 1 f173_0 rfl rfl ?_
                refine zw_getI 0 4 f173_1 rfl g173_246_12 (hb_52 _ _ _ _) rfl rfl ?_
                refine zw_bipush 50 6 f173_4 rfl (by decide +kernel) ?_
                refine zw_ic_ge_f 9 19 f173_6 (by decide +kernel) rfl (by decide +kernel) ?_
                refine zw_aload_n 10 f173_9 rfl rfl ?_
                refine zw_getfield 13 f173_10 rfl g173_74_12 (hb_52 _ _ _ _) rfl ?_
                refine zw_aload_n 14 f173_13 rfl rfl ?_
                refine zw_getI 0 17 f173_14 rfl g173_246_12 (hb_52 _ _ _ _) rfl rfl ?_
                refine zw_iload_n 18 f173_17 rfl rfl ?_
                refine zw_ast 0 _ 19 f173_18 rfl (hb_71 _ _ _ _) (by decide +kernel) (by decide +kernel) (by decide +kernel) (ha_71 _ _ _ _ _) ?_
                refine zw_aload_n 20 f173_19 rfl rfl ?_
                refine zw_dup 21 f173_20 rfl rfl ?_
                refine zw_getI 0 24 f173_21 rfl g173_246_12 (hb_52 _ _ _ _) rfl rfl ?_
                refine zw_iconst 1 25 f173_24 rfl (by decide +kernel) ?_
                refine zw_iadd 1 26 f173_25 rfl (by decide +kernel) ?_
                refine zw_put _ 29 f173_26 rfl g173_246_12 (hb_52 _ _ _ _) rfl (Nat.le_of_ble_eq_true rfl) (by decide +kernel) (hi_52_29 _ _ _ _ _) ?_
                refine zw_vreturn f173_29 r173 u173 ⟨rfl, ?_⟩
                refine zw_aload_n 17 f177_16 rfl rfl ?_
                refine zw_iload_n 18 f177_17 rfl rfl ?_
                refine zw_iload_n 19 f177_18 rfl rfl ?_
                refine zw_virtual_i 22 0 0 [.ref 52, .int a, .int c] [(0, .ref 52), (1, .int a), (2, .int c)] f177_19 rfl n177_301 k177_301_12 rfl (hb_52 _ _ _ _) (by decide +kernel) (Nat.le_of_ble_eq_true rfl) rfl rfl (by decide +kernel) (by decide +kernel) rfl (Nat.le_of_ble_eq_true rfl) rfl ?_
                refine zw_aload_n 1 f176_0 rfl rfl ?_
                refine zw_bipush 11 3 f176_1 rfl (by decide +kernel) ?_
                refine zw_virtual_v 6 0 0 [.ref 52, .int 11] [(0, .ref 52), (1, .int 11)] f176_3 rfl n176_291 k176_291_12 rfl (hb_52 _ _ _ _) (by decide +kernel) (Nat.le_of_ble_eq_true rfl) rfl rfl (by decide +kernel) (by decide +kernel) rfl (Nat.le_of_ble_eq_true rfl) rfl ?_
                refine zw_aload_n 1 f173_0 rfl rfl ?_
                refine zw_getI 1 4 f173_1 rfl g173_246_12 (hb_52 _ _ _ _) rfl rfl ?_
                refine zw_bipush 50 6 f173_4 rfl (by decide +kernel) ?_
                refine zw_ic_ge_f 9 19 f173_6 (by decide +kernel) rfl (by decide +kernel) ?_
                refine zw_aload_n 10 f173_9 rfl rfl ?_
                refine zw_getfield 13 f173_10 rfl g173_74_12 (hb_52 _ _ _ _) rfl ?_
                refine zw_aload_n 14 f173_13 rfl rfl ?_
                refine zw_getI 1 17 f173_14 rfl g173_246_12 (hb_52 _ _ _ _) rfl rfl ?_
                refine zw_iload_n 18 f173_17 rfl rfl ?_
                refine zw_ast 1 _ 19 f173_18 rfl (hb_71 _ _ _ _) (by decide +kernel) (by decide +kernel) (by decide +kernel) (ha_71 _ _ _ _ _) ?_
                refine zw_aload_n 20 f173_19 rfl rfl ?_
                refine zw_dup 21 f173_20 rfl rfl ?_
                refine zw_getI 1 24 f173_21 rfl g173_246_12 (hb_52 _ _ _ _) rfl rfl ?_
                refine zw_iconst 1 25 f173_24 rfl (by decide +kernel) ?_
                refine zw_iadd 2 26 f173_25 rfl (by decide +kernel) ?_
                refine zw_put _ 29 f173_26 rfl g173_246_12 (hb_52 _ _ _ _) rfl (Nat.le_of_ble_eq_true rfl) (by decide +kernel) (hi_52_29 _ _ _ _ _) ?_
                refine zw_vreturn f173_29 r173 u173 ⟨rfl, ?_⟩
                refine zw_aload_n 7 f176_6 rfl rfl ?_
                refine zw_iload_n 8 f176_7 rfl rfl ?_
                refine zw_iload_n 9 f176_8 rfl rfl ?_
                refine zw_virtual_i 12 0 0 [.ref 52, .int a, .int c] [(0, .ref 52), (1, .int a), (2, .int c)] f176_9 rfl n176_298 k176_298_12 rfl (hb_52 _ _ _ _) (by decide +kernel) (Nat.le_of_ble_eq_true rfl) rfl rfl (by decide +kernel) (by decide +kernel) rfl (Nat.le_of_ble_eq_true rfl) rfl ?_
                refine zw_aload_n 1 f175_0 rfl rfl ?_
                refine zw_getfield 4 f175_1 rfl g175_7_12 (hb_52 _ _ _ _) rfl ?_
                refine zw_iload_n 5 f175_4 rfl rfl ?_
                refine zw_iaload a.toNatClampNeg 1 6 f175_5 rfl (hb_53 _ _ _ _) rfl hc1 (zix (by decide) hc1 (show ¬ 8 ≤ a from ix_le hp.1 (by decide) (by decide) hc1 hc2)) ((congrFun (hR.2.1 53 (by omega) (by omega)) a.toNatClampNeg).trans hk) ?_
                refine zw_iconst 2 7 f175_6 rfl (by decide +kernel) ?_
                refine zw_ic_ne_t 25 f175_7 (by decide +kernel) (by decide +kernel) ?_
                refine zw_aload_n 26 f175_25 rfl rfl ?_
                refine zw_iload_n 27 f175_26 rfl rfl ?_
                refine zw_virtual_i 30 0 0 [.ref 52, .int a] [(0, .ref 52), (1, .int a)] f175_27 rfl n175_158 k175_158_12 rfl (hb_52 _ _ _ _) (by decide +kernel) (Nat.le_of_ble_eq_true rfl) rfl rfl (by decide +kernel) (by decide +kernel) rfl (Nat.le_of_ble_eq_true rfl) rfl ?_
                refine zw_aload_n 1 f126_0 rfl rfl ?_
                refine zw_getfield 4 f126_1 rfl g126_7_12 (hb_52 _ _ _ _) rfl ?_
                refine zw_iload_n 5 f126_4 rfl rfl ?_
                refine zw_iaload a.toNatClampNeg 1 6 f126_5 rfl (hb_53 _ _ _ _) rfl hc1 (zix (by decide) hc1 (show ¬ 8 ≤ a from ix_le hp.1 (by decide) (by decide) hc1 hc2)) ((congrFun (hR.2.1 53 (by omega) (by omega)) a.toNatClampNeg).trans hk) ?_
                refine zw_iconst 3 7 f126_6 rfl (by decide +kernel) ?_
                refine zw_ic_eq_f 10 20 f126_7 (by decide +kernel) rfl (by decide +kernel) ?_
                refine zw_aload_n 11 f126_10 rfl rfl ?_
                refine zw_getfield 14 f126_11 rfl g126_7_12 (hb_52 _ _ _ _) rfl ?_
                refine zw_iload_n 15 f126_14 rfl rfl ?_
                refine zw_iaload a.toNatClampNeg 1 16 f126_15 rfl (hb_53 _ _ _ _) rfl hc1 (zix (by decide) hc1 (show ¬ 8 ≤ a from ix_le hp.1 (by decide) (by decide) hc1 hc2)) ((congrFun (hR.2.1 53 (by omega) (by omega)) a.toNatClampNeg).trans hk) ?_
                refine zw_iconst 4 17 f126_16 rfl (by decide +kernel) ?_
                refine zw_ic_ne_t 24 f126_17 (by decide +kernel) (by decide +kernel) ?_
                refine zw_iconst 0 25 f126_24 rfl (by decide +kernel) ?_
                refine zw_zreturn f126_25 r126 u126 (by decide +kernel) ⟨_, rfl, ?_⟩
                refine zw_if_eq_t 53 f175_30 (by decide +kernel) (by decide +kernel) ?_
                refine zw_aload_n 54 f175_53 rfl rfl ?_
                refine zw_iload_n 55 f175_54 rfl rfl ?_
                refine zw_iload_n 56 f175_55 rfl rfl ?_
                refine zw_virtual_i 59 0 0 [.ref 52, .int a, .int c] [(0, .ref 52), (1, .int a), (2, .int c)] f175_56 rfl n175_294 k175_294_12 rfl (hb_52 _ _ _ _) (by decide +kernel) (Nat.le_of_ble_eq_true rfl) rfl rfl (by decide +kernel) (by decide +kernel) rfl (Nat.le_of_ble_eq_true rfl) rfl ?_
                refine zw_aload_n 1 f174_0 rfl rfl ?_
                refine zw_bipush 10 3 f174_1 rfl (by decide +kernel) ?_
                refine zw_virtual_v 6 0 0 [.ref 52, .int 10] [(0, .ref 52), (1, .int 10)] f174_3 rfl n174_291 k174_291_12 rfl (hb_52 _ _ _ _) (by decide +kernel) (Nat.le_of_ble_eq_true rfl) rfl rfl (by decide +kernel) (by decide +kernel) rfl (Nat.le_of_ble_eq_true rfl) rfl ?_
                refine zw_aload_n 1 f173_0 rfl rfl ?_
                refine zw_getI 2 4 f173_1 rfl g173_246_12 (hb_52 _ _ _ _) rfl rfl ?_
                refine zw_bipush 50 6 f173_4 rfl (by decide +kernel) ?_
                refine zw_ic_ge_f 9 19 f173_6 (by decide +kernel) rfl (by decide +kernel) ?_
                refine zw_aload_n 10 f173_9 rfl rfl ?_
                refine zw_getfield 13 f173_10 rfl g173_74_12 (hb_52 _ _ _ _) rfl ?_
                refine zw_aload_n 14 f173_13 rfl rfl ?_
                refine zw_getI 2 17 f173_14 rfl g173_246_12 (hb_52 _ _ _ _) rfl rfl ?_
                refine zw_iload_n 18 f173_17 rfl rfl ?_
                refine zw_ast 2 _ 19 f173_18 rfl (hb_71 _ _ _ _) (by decide +kernel) (by decide +kernel) (by decide +kernel) (ha_71 _ _ _ _ _) ?_
                refine zw_aload_n 20 f173_19 rfl rfl ?_
                refine zw_dup 21 f173_20 rfl rfl ?_
                refine zw_getI 2 24 f173_21 rfl g173_246_12 (hb_52 _ _ _ _) rfl rfl ?_
                refine zw_iconst 1 25 f173_24 rfl (by decide +kernel) ?_
                refine zw_iadd 3 26 f173_25 rfl (by decide +kernel) ?_
                refine zw_put _ 29 f173_26 rfl g173_246_12 (hb_52 _ _ _ _) rfl (Nat.le_of_ble_eq_true rfl) (by decide +kernel) (hi_52_29 _ _ _ _ _) ?_
                refine zw_vreturn f173_29 r173 u173 ⟨rfl, ?_⟩
                refine zw_iload_n 7 f174_6 rfl rfl ?_
                refine zw_aload_n 8 f174_7 rfl rfl ?_
                refine zw_getfield 11 f174_8 rfl g174_13_12 (hb_52 _ _ _ _) rfl ?_
                refine zw_iload_n 12 f174_11 rfl rfl ?_
                refine zw_iaload a.toNatClampNeg (P 54 a.toNatClampNeg) 13 f174_12 rfl (hb_54 _ _ _ _) rfl hc1 (zix (by decide) hc1 (show ¬ 8 ≤ a from ix_le hp.1 (by decide) (by decide) hc1 hc2)) (congrFun ((hR.2.1 54 (by omega) (by omega))) a.toNatClampNeg) ?_
                refine zw_iadd (c + (P 54 a.toNatClampNeg)) 14 f174_13 rfl rfl ?_
                refine zw_ireturn f174_14 r174 u174 ⟨_, rfl, ?_⟩
                refine zw_ireturn f175_59 r175 u175 ⟨_, rfl, ?_⟩
                refine zw_iconst 3 13 f176_12 rfl (by decide +kernel) ?_
                refine zw_imul ((c + (P 54 a.toNatClampNeg)) * 3) 14 f176_13 rfl rfl ?_
                refine zw_ireturn f176_14 r176 u176 ⟨_, rfl, ?_⟩
                refine zw_aload_n 23 f177_22 rfl rfl ?_
                refine zw_getfield 26 f177_23 rfl g177_16_12 (hb_52 _ _ _ _) rfl ?_
                refine zw_iload_n 27 f177_26 rfl rfl ?_
                refine zw_iaload a.toNatClampNeg (P 55 a.toNatClampNeg) 28 f177_27 rfl (hb_55 _ _ _ _) rfl hc1 (zix (by decide) hc1 (show ¬ 8 ≤ a from ix_le hp.1 (by decide) (by decide) hc1 hc2)) (congrFun ((hR.2.1 55 (by omega) (by omega))) a.toNatClampNeg) ?_
                refine zw_iadd (((c + (P 54 a.toNatClampNeg)) * 3) + (P 55 a.toNatClampNeg)) 29 f177_28 rfl rfl ?_
                refine zw_ireturn f177_29 r177 u177 ⟨_, rfl, ?_⟩
                refine zw_goto 76 f180_53 (by decide +kernel) ?_
                refine zw_virtual_i 79 0 0 [.ref 52, .int (((c + (P 54 a.toNatClampNeg)) * 3) + (P 55 a.toNatClampNeg))] [(0, .ref 52), (1, .int (((c + (P 54 a.toNatClampNeg)) * 3) + (P 55 a.toNatClampNeg)))] f180_76 rfl n180_205 k180_205_12 rfl (hb_52 _ _ _ _) (by decide +kernel) (Nat.le_of_ble_eq_true rfl) rfl rfl (by decide +kernel) (by decide +kernel) rfl (Nat.le_of_ble_eq_true rfl) rfl ?_
                refine zw_aload_n 1 f122_0 rfl rfl ?_
                refine zw_iconst 0 2 f122_1 rfl (by decide +kernel) ?_
                refine zw_put _ 5 f122_2 rfl g122_111_12 (hb_52 _ _ _ _) rfl (Nat.le_of_ble_eq_true rfl) (by decide +kernel) (hi_52_27 _ _ _ _ _) ?_
                refine zw_iload_n 6 f122_5 rfl rfl ?_
                refine zw_ireturn f122_6 r122 u122 ⟨_, rfl, ?_⟩
                refine zw_ireturn f180_79 r180 u180 ?_
                exact ⟨_, _, _, _, rfl, (KQ.i rfl (KQ.i rfl (KQ.a rfl (KQ.i rfl (KQ.a rfl (KQ.i rfl (KQ.a rfl (KQ.i rfl KQ.rf)))))))), ⟨hi.1, hi.2.1, 3, by omega, (show _ = nI 3 from rfl)⟩, by rw [show an_act nv P W a b c = (((c + (P 54 a.toNatClampNeg)) * 3) + (P 55 a.toNatClampNeg)) from ((cI_y ⟨(qV.of (by omega) hc1 hc2), ⟨hc3, hc4⟩⟩).trans ((cI_n hc5).trans ((cI_y (Decidable.of_not_not hc6)).trans ((cI_n (kne hk (by decide))).trans ((cI_y hk).trans rfl)))))]⟩
              · refine zw_iaload a.toNatClampNeg 2 6 f177_5 rfl (hb_53 _ _ _ _) rfl hc1 (zix (by decide) hc1 (show ¬ 8 ≤ a from ix_le hp.1 (by decide) (by decide) hc1 hc2)) ((congrFun (hR.2.1 53 (by omega) (by omega)) a.toNatClampNeg).trans hk) ?_
                refine zw_iconst 1 7 f177_6 rfl (by decide +kernel) ?_
                refine zw_ic_ne_t 30 f177_7 (by decide +kernel) (by decide +kernel) ?_
                refine zw_aload_n 31 f177_30 rfl rfl ?_
                refine zw_getfield 34 f177_31 rfl g177_7_12 (hb_52 _ _ _ _) rfl ?_
                refine zw_iload_n 35 f177_34 rfl rfl ?_
                refine zw_iaload a.toNatClampNeg 2 36 f177_35 rfl (hb_53 _ _ _ _) rfl hc1 (zix (by decide) hc1 (show ¬ 8 ≤ a from ix_le hp.1 (by decide) (by decide) hc1 hc2)) ((congrFun (hR.2.1 53 (by omega) (by omega)) a.toNatClampNeg).trans hk) ?_
                refine zw_iconst 4 37 f177_36 rfl (by decide +kernel) ?_
                refine zw_ic_ne_t 60 f177_37 (by decide +kernel) (by decide +kernel) ?_
                refine zw_aload_n 61 f177_60 rfl rfl ?_
                refine zw_iload_n 62 f177_61 rfl rfl ?_
                refine zw_iload_n 63 f177_62 rfl rfl ?_
                refine zw_virtual_i 66 0 0 [.ref 52, .int a, .int c] [(0, .ref 52), (1, .int a), (2, .int c)] f177_63 rfl n177_301 k177_301_12 rfl (hb_52 _ _ _ _) (by decide +kernel) (Nat.le_of_ble_eq_true rfl) rfl rfl (by decide +kernel) (by decide +kernel) rfl (Nat.le_of_ble_eq_true rfl) rfl ?_
                refine zw_aload_n 1 f176_0 rfl rfl ?_
                refine zw_bipush 11 3 f176_1 rfl (by decide +kernel) ?_
                refine zw_virtual_v 6 0 0 [.ref 52, .int 11] [(0, .ref 52), (1, .int 11)] f176_3 rfl n176_291 k176_291_12 rfl (hb_52 _ _ _ _) (by decide +kernel) (Nat.le_of_ble_eq_true rfl) rfl rfl (by decide +kernel) (by decide +kernel) rfl (Nat.le_of_ble_eq_true rfl) rfl ?_
                refine zw_aload_n 1 f173_0 rfl rfl ?_
                refine zw_getI 0 4 f173_1 rfl g173_246_12 (hb_52 _ _ _ _) rfl rfl ?_
                refine zw_bipush 50 6 f173_4 rfl (by decide +kernel) ?_
                refine zw_ic_ge_f 9 19 f173_6 (by decide +kernel) rfl (by decide +kernel) ?_
                refine zw_aload_n 10 f173_9 rfl rfl ?_
                refine zw_getfield 13 f173_10 rfl g173_74_12 (hb_52 _ _ _ _) rfl ?_
                refine zw_aload_n 14 f173_13 rfl rfl ?_
                refine zw_getI 0 17 f173_14 rfl g173_246_12 (hb_52 _ _ _ _) rfl rfl ?_
                refine zw_iload_n 18 f173_17 rfl rfl ?_
                refine zw_ast 0 _ 19 f173_18 rfl (hb_71 _ _ _ _) (by decide +kernel) (by decide +kernel) (by decide +kernel) (ha_71 _ _ _ _ _) ?_
                refine zw_aload_n 20 f173_19 rfl rfl ?_
                refine zw_dup 21 f173_20 rfl rfl ?_
                refine zw_getI 0 24 f173_21 rfl g173_246_12 (hb_52 _ _ _ _) rfl rfl ?_
                refine zw_iconst 1 25 f173_24 rfl (by decide +kernel) ?_
                refine zw_iadd 1 26 f173_25 rfl (by decide +kernel) ?_
                refine zw_put _ 29 f173_26 rfl g173_246_12 (hb_52 _ _ _ _) rfl (Nat.le_of_ble_eq_true rfl) (by decide +kernel) (hi_52_29 _ _ _ _ _) ?_
                refine zw_vreturn f173_29 r173 u173 ⟨rfl, ?_⟩
                refine zw_aload_n 7 f176_6 rfl rfl ?_
                refine zw_iload_n 8 f176_7 rfl rfl ?_
                refine zw_iload_n 9 f176_8 rfl rfl ?_
                refine zw_virtual_i 12 0 0 [.ref 52, .int a, .int c] [(0, .ref 52), (1, .int a), (2, .int c)] f176_9 rfl n176_298 k176_298_12 rfl (hb_52 _ _ _ _) (by decide +kernel) (Nat.le_of_ble_eq_true rfl) rfl rfl (by decide +kernel) (by decide +kernel) rfl (Nat.le_of_ble_eq_true rfl) rfl ?_
                refine zw_aload_n 1 f175_0 rfl rfl ?_
                refine zw_getfield 4 f175_1 rfl g175_7_12 (hb_52 _ _ _ _) rfl ?_
                refine zw_iload_n 5 f175_4 rfl rfl ?_
                refine zw_iaload a.toNatClampNeg 2 6 f175_5 rfl (hb_53 _ _ _ _) rfl hc1 (zix (by decide) hc1 (show ¬ 8 ≤ a from ix_le hp.1 (by decide) (by decide) hc1 hc2)) ((congrFun (hR.2.1 53 (by omega) (by omega)) a.toNatClampNeg).trans hk) ?_
                refine zw_iconst 2 7 f175_6 rfl (by decide +kernel) ?_
                refine zw_ic_ne_f 10 25 f175_7 (by decide +kernel) rfl (by decide +kernel) ?_
                refine zw_aload_n 11 f175_10 rfl rfl ?_
                refine zw_bipush 30 13 f175_11 rfl (by decide +kernel) ?_
                refine zw_virtual_v 16 0 0 [.ref 52, .int 30] [(0, .ref 52), (1, .int 30)] f175_13 rfl n175_291 k175_291_12 rfl (hb_52 _ _ _ _) (by decide +kernel) (Nat.le_of_ble_eq_true rfl) rfl rfl (by decide +kernel) (by decide +kernel) rfl (Nat.le_of_ble_eq_true rfl) rfl ?_
                refine zw_aload_n 1 f173_0 rfl rfl ?_
                refine zw_getI 1 4 f173_1 rfl g173_246_12 (hb_52 _ _ _ _) rfl rfl ?_
                refine zw_bipush 50 6 f173_4 rfl (by decide +kernel) ?_
                refine zw_ic_ge_f 9 19 f173_6 (by decide +kernel) rfl (by decide +kernel) ?_
                refine zw_aload_n 10 f173_9 rfl rfl ?_
                refine zw_getfield 13 f173_10 rfl g173_74_12 (hb_52 _ _ _ _) rfl ?_
                refine zw_aload_n 14 f173_13 rfl rfl ?_
                refine zw_getI 1 17 f173_14 rfl g173_246_12 (hb_52 _ _ _ _) rfl rfl ?_
                refine zw_iload_n 18 f173_17 rfl rfl ?_
                refine zw_ast 1 _ 19 f173_18 rfl (hb_71 _ _ _ _) (by decide +kernel) (by decide +kernel) (by decide +kernel) (ha_71 _ _ _ _ _) ?_
                refine zw_aload_n 20 f173_19 rfl rfl ?_
                refine zw_dup 21 f173_20 rfl rfl ?_
                refine zw_getI 1 24 f173_21 rfl g173_246_12 (hb_52 _ _ _ _) rfl rfl ?_
                refine zw_iconst 1 25 f173_24 rfl (by decide +kernel) ?_
                refine zw_iadd 2 26 f173_25 rfl (by decide +kernel) ?_
                refine zw_put _ 29 f173_26 rfl g173_246_12 (hb_52 _ _ _ _) rfl (Nat.le_of_ble_eq_true rfl) (by decide +kernel) (hi_52_29 _ _ _ _ _) ?_
                refine zw_vreturn f173_29 r173 u173 ⟨rfl, ?_⟩
                refine zw_aload_n 17 f175_16 rfl rfl ?_
                refine zw_iload_n 18 f175_17 rfl rfl ?_
                refine zw_iload_n 19 f175_18 rfl rfl ?_
                refine zw_virtual_i 22 0 0 [.ref 52, .int a, .int c] [(0, .ref 52), (1, .int a), (2, .int c)] f175_19 rfl n175_294 k175_294_12 rfl (hb_52 _ _ _ _) (by decide +kernel) (Nat.le_of_ble_eq_true rfl) rfl rfl (by decide +kernel) (by decide +kernel) rfl (Nat.le_of_ble_eq_true rfl) rfl ?_
                refine zw_aload_n 1 f174_0 rfl rfl ?_
                refine zw_bipush 10 3 f174_1 rfl (by decide +kernel) ?_
                refine zw_virtual_v 6 0 0 [.ref 52, .int 10] [(0, .ref 52), (1, .int 10)] f174_3 rfl n174_291 k174_291_12 rfl (hb_52 _ _ _ _) (by decide +kernel) (Nat.le_of_ble_eq_true rfl) rfl rfl (by decide +kernel) (by decide +kernel) rfl (Nat.le_of_ble_eq_true rfl) rfl ?_
                refine zw_aload_n 1 f173_0 rfl rfl ?_
                refine zw_getI 2 4 f173_1 rfl g173_246_12 (hb_52 _ _ _ _) rfl rfl ?_
                refine zw_bipush 50 6 f173_4 rfl (by decide +kernel) ?_
                refine zw_ic_ge_f 9 19 f173_6 (by decide +kernel) rfl (by decide +kernel) ?_
                refine zw_aload_n 10 f173_9 rfl rfl ?_
                refine zw_getfield 13 f173_10 rfl g173_74_12 (hb_52 _ _ _ _) rfl ?_
                refine zw_aload_n 14 f173_13 rfl rfl ?_
                refine zw_getI 2 17 f173_14 rfl g173_246_12 (hb_52 _ _ _ _) rfl rfl ?_
                refine zw_iload_n 18 f173_17 rfl rfl ?_
                refine zw_ast 2 _ 19 f173_18 rfl (hb_71 _ _ _ _) (by decide +kernel) (by decide +kernel) (by decide +kernel) (ha_71 _ _ _ _ _) ?_
                refine zw_aload_n 20 f173_19 rfl rfl ?_
                refine zw_dup 21 f173_20 rfl rfl ?_
                refine zw_getI 2 24 f173_21 rfl g173_246_12 (hb_52 _ _ _ _) rfl rfl ?_
                refine zw_iconst 1 25 f173_24 rfl (by decide +kernel) ?_
                refine zw_iadd 3 26 f173_25 rfl (by decide +kernel) ?_
                refine zw_put _ 29 f173_26 rfl g173_246_12 (hb_52 _ _ _ _) rfl (Nat.le_of_ble_eq_true rfl) (by decide +kernel) (hi_52_29 _ _ _ _ _) ?_
                refine zw_vreturn f173_29 r173 u173 ⟨rfl, ?_⟩
                refine zw_iload_n 7 f174_6 rfl rfl ?_
                refine zw_aload_n 8 f174_7 rfl rfl ?_
                refine zw_getfield 11 f174_8 rfl g174_13_12 (hb_52 _ _ _ _) rfl ?_
                refine zw_iload_n 12 f174_11 rfl rfl ?_
                refine zw_iaload a.toNatClampNeg (P 54 a.toNatClampNeg) 13 f174_12 rfl (hb_54 _ _ _ _) rfl hc1 (zix (by decide) hc1 (show ¬ 8 ≤ a from ix_le hp.1 (by decide) (by decide) hc1 hc2)) (congrFun ((hR.2.1 54 (by omega) (by omega))) a.toNatClampNeg) ?_
                refine zw_iadd (c + (P 54 a.toNatClampNeg)) 14 f174_13 rfl rfl ?_
                refine zw_ireturn f174_14 r174 u174 ⟨_, rfl, ?_⟩
                refine zw_iconst 2 23 f175_22 rfl (by decide +kernel) ?_
                refine zw_imul ((c + (P 54 a.toNatClampNeg)) * 2) 24 f175_23 rfl rfl ?_
                refine zw_ireturn f175_24 r175 u175 ⟨_, rfl, ?_⟩
                refine zw_iconst 3 13 f176_12 rfl (by decide +kernel) ?_
                refine zw_imul (((c + (P 54 a.toNatClampNeg)) * 2) * 3) 14 f176_13 rfl rfl ?_
                refine zw_ireturn f176_14 r176 u176 ⟨_, rfl, ?_⟩
                refine zw_ireturn f177_66 r177 u177 ⟨_, rfl, ?_⟩
                refine zw_goto 76 f180_53 (by decide +kernel) ?_
                refine zw_virtual_i 79 0 0 [.ref 52, .int (((c + (P 54 a.toNatClampNeg)) * 2) * 3)] [(0, .ref 52), (1, .int (((c + (P 54 a.toNatClampNeg)) * 2) * 3))] f180_76 rfl n180_205 k180_205_12 rfl (hb_52 _ _ _ _) (by decide +kernel) (Nat.le_of_ble_eq_true rfl) rfl rfl (by decide +kernel) (by decide +kernel) rfl (Nat.le_of_ble_eq_true rfl) rfl ?_
                refine zw_aload_n 1 f122_0 rfl rfl ?_
                refine zw_iconst 0 2 f122_1 rfl (by decide +kernel) ?_
                refine zw_put _ 5 f122_2 rfl g122_111_12 (hb_52 _ _ _ _) rfl (Nat.le_of_ble_eq_true rfl) (by decide +kernel) (hi_52_27 _ _ _ _ _) ?_
                refine zw_iload_n 6 f122_5 rfl rfl ?_
                refine zw_ireturn f122_6 r122 u122 ⟨_, rfl, ?_⟩
                refine zw_ireturn f180_79 r180 u180 ?_
                exact ⟨_, _, _, _, rfl, (KQ.i rfl (KQ.i rfl (KQ.a rfl (KQ.i rfl (KQ.a rfl (KQ.i rfl (KQ.a rfl (KQ.i rfl KQ.rf)))))))), ⟨hi.1, hi.2.1, 3, by omega, (show _ = nI 3 from rfl)⟩, by rw [show an_act nv P W a b c = (((c + (P 54 a.toNatClampNeg)) * 2) * 3) from ((cI_y ⟨(qV.of (by omega) hc1 hc2), ⟨hc3, hc4⟩⟩).trans ((cI_n hc5).trans ((cI_y (Decidable.of_not_not hc6)).trans ((cI_n (kne hk (by decide))).trans ((cI_n (kne hk (by decide))).trans ((cI_y hk).trans rfl))))))]⟩
              · refine zw_iaload a.toNatClampNeg 3 6 f177_5 rfl (hb_53 _ _ _ _) rfl hc1 (zix (by decide) hc1 (show ¬ 8 ≤ a from ix_le hp.1 (by decide) (by decide) hc1 hc2)) ((congrFun (hR.2.1 53 (by omega) (by omega)) a.toNatClampNeg).trans hk) ?_
                refine zw_iconst 1 7 f177_6 rfl (by decide +kernel) ?_
                refine zw_ic_ne_t 30 f177_7 (by decide +kernel) (by decide +kernel) ?_
                refine zw_aload_n 31 f177_30 rfl rfl ?_
                refine zw_getfield 34 f177_31 rfl g177_7_12 (hb_52 _ _ _ _) rfl ?_
                refine zw_iload_n 35 f177_34 rfl rfl ?_
                refine zw_iaload a.toNatClampNeg 3 36 f177_35 rfl (hb_53 _ _ _ _) rfl hc1 (zix (by decide) hc1 (show ¬ 8 ≤ a from ix_le hp.1 (by decide) (by decide) hc1 hc2)) ((congrFun (hR.2.1 53 (by omega) (by omega)) a.toNatClampNeg).trans hk) ?_
                refine zw_iconst 4 37 f177_36 rfl (by decide +kernel) ?_
                refine zw_ic_ne_t 60 f177_37 (by decide +kernel) (by decide +kernel) ?_
                refine zw_aload_n 61 f177_60 rfl rfl ?_
                refine zw_iload_n 62 f177_61 rfl rfl ?_
                refine zw_iload_n 63 f177_62 rfl rfl ?_
                refine zw_virtual_i 66 0 0 [.ref 52, .int a, .int c] [(0, .ref 52), (1, .int a), (2, .int c)] f177_63 rfl n177_301 k177_301_12 rfl (hb_52 _ _ _ _) (by decide +kernel) (Nat.le_of_ble_eq_true rfl) rfl rfl (by decide +kernel) (by decide +kernel) rfl (Nat.le_of_ble_eq_true rfl) rfl ?_
                refine zw_aload_n 1 f176_0 rfl rfl ?_
                refine zw_bipush 11 3 f176_1 rfl (by decide +kernel) ?_
                refine zw_virtual_v 6 0 0 [.ref 52, .int 11] [(0, .ref 52), (1, .int 11)] f176_3 rfl n176_291 k176_291_12 rfl (hb_52 _ _ _ _) (by decide +kernel) (Nat.le_of_ble_eq_true rfl) rfl rfl (by decide +kernel) (by decide +kernel) rfl (Nat.le_of_ble_eq_true rfl) rfl ?_
                refine zw_aload_n 1 f173_0 rfl rfl ?_
                refine zw_getI 0 4 f173_1 rfl g173_246_12 (hb_52 _ _ _ _) rfl rfl ?_
                refine zw_bipush 50 6 f173_4 rfl (by decide +kernel) ?_
                refine zw_ic_ge_f 9 19 f173_6 (by decide +kernel) rfl (by decide +kernel) ?_
                refine zw_aload_n 10 f173_9 rfl rfl ?_
                refine zw_getfield 13 f173_10 rfl g173_74_12 (hb_52 _ _ _ _) rfl ?_
                refine zw_aload_n 14 f173_13 rfl rfl ?_
                refine zw_getI 0 17 f173_14 rfl g173_246_12 (hb_52 _ _ _ _) rfl rfl ?_
                refine zw_iload_n 18 f173_17 rfl rfl ?_
                refine zw_ast 0 _ 19 f173_18 rfl (hb_71 _ _ _ _) (by decide +kernel) (by decide +kernel) (by decide +kernel) (ha_71 _ _ _ _ _) ?_
                refine zw_aload_n 20 f173_19 rfl rfl ?_
                refine zw_dup 21 f173_20 rfl rfl ?_
                refine zw_getI 0 24 f173_21 rfl g173_246_12 (hb_52 _ _ _ _) rfl rfl ?_
                refine zw_iconst 1 25 f173_24 rfl (by decide +kernel) ?_
                refine zw_iadd 1 26 f173_25 rfl (by decide +kernel) ?_
                refine zw_put _ 29 f173_26 rfl g173_246_12 (hb_52 _ _ _ _) rfl (Nat.le_of_ble_eq_true rfl) (by decide +kernel) (hi_52_29 _ _ _ _ _) ?_
                refine zw_vreturn f173_29 r173 u173 ⟨rfl, ?_⟩
                refine zw_aload_n 7 f176_6 rfl rfl ?_
                refine zw_iload_n 8 f176_7 rfl rfl ?_
                refine zw_iload_n 9 f176_8 rfl rfl ?_
                refine zw_virtual_i 12 0 0 [.ref 52, .int a, .int c] [(0, .ref 52), (1, .int a), (2, .int c)] f176_9 rfl n176_298 k176_298_12 rfl (hb_52 _ _ _ _) (by decide +kernel) (Nat.le_of_ble_eq_true rfl) rfl rfl (by decide +kernel) (by decide +kernel) rfl (Nat.le_of_ble_eq_true rfl) rfl ?_
                refine zw_aload_n 1 f175_0 rfl rfl ?_
                refine zw_getfield 4 f175_1 rfl g175_7_12 (hb_52 _ _ _ _) rfl ?_
                refine zw_iload_n 5 f175_4 rfl rfl ?_
                refine zw_iaload a.toNatClampNeg 3 6 f175_5 rfl (hb_53 _ _ _ _) rfl hc1 (zix (by decide) hc1 (show ¬ 8 ≤ a from ix_le hp.1 (by decide) (by decide) hc1 hc2)) ((congrFun (hR.2.1 53 (by omega) (by omega)) a.toNatClampNeg).trans hk) ?_
                refine zw_iconst 2 7 f175_6 rfl (by decide +kernel) ?_
                refine zw_ic_ne_t 25 f175_7 (by decide +kernel) (by decide +kernel) ?_
                refine zw_aload_n 26 f175_25 rfl rfl ?_
                refine zw_iload_n 27 f175_26 rfl rfl ?_
                refine zw_virtual_i 30 0 0 [.ref 52, .int a] [(0, .ref 52), (1, .int a)] f175_27 rfl n175_158 k175_158_12 rfl (hb_52 _ _ _ _) (by decide +kernel) (Nat.le_of_ble_eq_true rfl) rfl rfl (by decide +kernel) (by decide +kernel) rfl (Nat.le_of_ble_eq_true rfl) rfl ?_
                refine zw_aload_n 1 f126_0 rfl rfl ?_
                refine zw_getfield 4 f126_1 rfl g126_7_12 (hb_52 _ _ _ _) rfl ?_
                refine zw_iload_n 5 f126_4 rfl rfl ?_
                refine zw_iaload a.toNatClampNeg 3 6 f126_5 rfl (hb_53 _ _ _ _) rfl hc1 (zix (by decide) hc1 (show ¬ 8 ≤ a from ix_le hp.1 (by decide) (by decide) hc1 hc2)) ((congrFun (hR.2.1 53 (by omega) (by omega)) a.toNatClampNeg).trans hk) ?_
                refine zw_iconst 3 7 f126_6 rfl (by decide +kernel) ?_
                refine zw_ic_eq_t 20 f126_7 (by decide +kernel) (by decide +kernel) ?_
                refine zw_iconst 1 21 f126_20 rfl (by decide +kernel) ?_
                refine zw_goto 25 f126_21 (by decide +kernel) ?_
                refine zw_zreturn f126_25 r126 u126 (by decide +kernel) ⟨_, rfl, ?_⟩
                refine zw_if_eq_f 33 53 f175_30 (by decide +kernel) rfl (by decide +kernel) ?_
                refine zw_aload_n 34 f175_33 rfl rfl ?_
                refine zw_bipush 41 36 f175_34 rfl (by decide +kernel) ?_
                refine zw_virtual_v 39 0 0 [.ref 52, .int 41] [(0, .ref 52), (1, .int 41)] f175_36 rfl n175_291 k175_291_12 rfl (hb_52 _ _ _ _) (by decide +kernel) (Nat.le_of_ble_eq_true rfl) rfl rfl (by decide +kernel) (by decide +kernel) rfl (Nat.le_of_ble_eq_true rfl) rfl ?_
                refine zw_aload_n 1 f173_0 rfl rfl ?_
                refine zw_getI 1 4 f173_1 rfl g173_246_12 (hb_52 _ _ _ _) rfl rfl ?_
                refine zw_bipush 50 6 f173_4 rfl (by decide +kernel) ?_
                refine zw_ic_ge_f 9 19 f173_6 (by decide +kernel) rfl (by decide +kernel) ?_
                refine zw_aload_n 10 f173_9 rfl rfl ?_
                refine zw_getfield 13 f173_10 rfl g173_74_12 (hb_52 _ _ _ _) rfl ?_
                refine zw_aload_n 14 f173_13 rfl rfl ?_
                refine zw_getI 1 17 f173_14 rfl g173_246_12 (hb_52 _ _ _ _) rfl rfl ?_
                refine zw_iload_n 18 f173_17 rfl rfl ?_
                refine zw_ast 1 _ 19 f173_18 rfl (hb_71 _ _ _ _) (by decide +kernel) (by decide +kernel) (by decide +kernel) (ha_71 _ _ _ _ _) ?_
                refine zw_aload_n 20 f173_19 rfl rfl ?_
                refine zw_dup 21 f173_20 rfl rfl ?_
                refine zw_getI 1 24 f173_21 rfl g173_246_12 (hb_52 _ _ _ _) rfl rfl ?_
                refine zw_iconst 1 25 f173_24 rfl (by decide +kernel) ?_
                refine zw_iadd 2 26 f173_25 rfl (by decide +kernel) ?_
                refine zw_put _ 29 f173_26 rfl g173_246_12 (hb_52 _ _ _ _) rfl (Nat.le_of_ble_eq_true rfl) (by decide +kernel) (hi_52_29 _ _ _ _ _) ?_
                refine zw_vreturn f173_29 r173 u173 ⟨rfl, ?_⟩
                refine zw_aload_n 40 f175_39 rfl rfl ?_
                refine zw_iload_n 41 f175_40 rfl rfl ?_
                refine zw_iload_n 42 f175_41 rfl rfl ?_
                refine zw_aload_n 43 f175_42 rfl rfl ?_
                refine zw_getfield 46 f175_43 rfl g175_16_12 (hb_52 _ _ _ _) rfl ?_
                refine zw_iload_n 47 f175_46 rfl rfl ?_
                refine zw_iaload a.toNatClampNeg (P 55 a.toNatClampNeg) 48 f175_47 rfl (hb_55 _ _ _ _) rfl hc1 (zix (by decide) hc1 (show ¬ 8 ≤ a from ix_le hp.1 (by decide) (by decide) hc1 hc2)) (congrFun ((hR.2.1 55 (by omega) (by omega))) a.toNatClampNeg) ?_
                refine zw_iadd (c + (P 55 a.toNatClampNeg)) 49 f175_48 rfl rfl ?_
                refine zw_virtual_i 52 0 0 [.ref 52, .int a, .int (c + (P 55 a.toNatClampNeg))] [(0, .ref 52), (1, .int a), (2, .int (c + (P 55 a.toNatClampNeg)))] f175_49 rfl n175_294 k175_294_12 rfl (hb_52 _ _ _ _) (by decide +kernel) (Nat.le_of_ble_eq_true rfl) rfl rfl (by decide +kernel) (by decide +kernel) rfl (Nat.le_of_ble_eq_true rfl) rfl ?_
                refine zw_aload_n 1 f174_0 rfl rfl ?_
                refine zw_bipush 10 3 f174_1 rfl (by decide +kernel) ?_
                refine zw_virtual_v 6 0 0 [.ref 52, .int 10] [(0, .ref 52), (1, .int 10)] f174_3 rfl n174_291 k174_291_12 rfl (hb_52 _ _ _ _) (by decide +kernel) (Nat.le_of_ble_eq_true rfl) rfl rfl (by decide +kernel) (by decide +kernel) rfl (Nat.le_of_ble_eq_true rfl) rfl ?_
                refine zw_aload_n 1 f173_0 rfl rfl ?_
                refine zw_getI 2 4 f173_1 rfl g173_246_12 (hb_52 _ _ _ _) rfl rfl ?_
                refine zw_bipush 50 6 f173_4 rfl (by decide +kernel) ?_
                refine zw_ic_ge_f 9 19 f173_6 (by decide +kernel) rfl (by decide +kernel) ?_
                refine zw_aload_n 10 f173_9 rfl rfl ?_
                refine zw_getfield 13 f173_10 rfl g173_74_12 (hb_52 _ _ _ _) rfl ?_
                refine zw_aload_n 14 f173_13 rfl rfl ?_
                refine zw_getI 2 17 f173_14 rfl g173_246_12 (hb_52 _ _ _ _) rfl rfl ?_
                refine zw_iload_n 18 f173_17 rfl rfl ?_
                refine zw_ast 2 _ 19 f173_18 rfl (hb_71 _ _ _ _) (by decide +kernel) (by decide +kernel) (by decide +kernel) (ha_71 _ _ _ _ _) ?_
                refine zw_aload_n 20 f173_19 rfl rfl ?_
                refine zw_dup 21 f173_20 rfl rfl ?_
                refine zw_getI 2 24 f173_21 rfl g173_246_12 (hb_52 _ _ _ _) rfl rfl ?_
                refine zw_iconst 1 25 f173_24 rfl (by decide +kernel) ?_
                refine zw_iadd 3 26 f173_25 rfl (by decide +kernel) ?_
                refine zw_put _ 29 f173_26 rfl g173_246_12 (hb_52 _ _ _ _) rfl (Nat.le_of_ble_eq_true rfl) (by decide +kernel) (hi_52_29 _ _ _ _ _) ?_
                refine zw_vreturn f173_29 r173 u173 ⟨rfl, ?_⟩
                refine zw_iload_n 7 f174_6 rfl rfl ?_
                refine zw_aload_n 8 f174_7 rfl rfl ?_
                refine zw_getfield 11 f174_8 rfl g174_13_12 (hb_52 _ _ _ _) rfl ?_
                refine zw_iload_n 12 f174_11 rfl rfl ?_
                refine zw_iaload a.toNatClampNeg (P 54 a.toNatClampNeg) 13 f174_12 rfl (hb_54 _ _ _ _) rfl hc1 (zix (by decide) hc1 (show ¬ 8 ≤ a from ix_le hp.1 (by decide) (by decide) hc1 hc2)) (congrFun ((hR.2.1 54 (by omega) (by omega))) a.toNatClampNeg) ?_
                refine zw_iadd ((c + (P 55 a.toNatClampNeg)) + (P 54 a.toNatClampNeg)) 14 f174_13 rfl rfl ?_
                refine zw_ireturn f174_14 r174 u174 ⟨_, rfl, ?_⟩
                refine zw_ireturn f175_52 r175 u175 ⟨_, rfl, ?_⟩
                refine zw_iconst 3 13 f176_12 rfl (by decide +kernel) ?_
                refine zw_imul (((c + (P 55 a.toNatClampNeg)) + (P 54 a.toNatClampNeg)) * 3) 14 f176_13 rfl rfl ?_
                refine zw_ireturn f176_14 r176 u176 ⟨_, rfl, ?_⟩
                refine zw_ireturn f177_66 r177 u177 ⟨_, rfl, ?_⟩
                refine zw_goto 76 f180_53 (by decide +kernel) ?_
                refine zw_virtual_i 79 0 0 [.ref 52, .int (((c + (P 55 a.toNatClampNeg)) + (P 54 a.toNatClampNeg)) * 3)] [(0, .ref 52), (1, .int (((c + (P 55 a.toNatClampNeg)) + (P 54 a.toNatClampNeg)) * 3))] f180_76 rfl n180_205 k180_205_12 rfl (hb_52 _ _ _ _) (by decide +kernel) (Nat.le_of_ble_eq_true rfl) rfl rfl (by decide +kernel) (by decide +kernel) rfl (Nat.le_of_ble_eq_true rfl) rfl ?_
                refine zw_aload_n 1 f122_0 rfl rfl ?_
                refine zw_iconst 0 2 f122_1 rfl (by decide +kernel) ?_
                refine zw_put _ 5 f122_2 rfl g122_111_12 (hb_52 _ _ _ _) rfl (Nat.le_of_ble_eq_true rfl) (by decide +kernel) (hi_52_27 _ _ _ _ _) ?_
                refine zw_iload_n 6 f122_5 rfl rfl ?_
                refine zw_ireturn f122_6 r122 u122 ⟨_, rfl, ?_⟩
                refine zw_ireturn f180_79 r180 u180 ?_
                exact ⟨_, _, _, _, rfl, (KQ.i rfl (KQ.i rfl (KQ.a rfl (KQ.i rfl (KQ.a rfl (KQ.i rfl (KQ.a rfl (KQ.i rfl KQ.rf)))))))), ⟨hi.1, hi.2.1, 3, by omega, (show _ = nI 3 from rfl)⟩, by rw [show an_act nv P W a b c = (((c + (P 55 a.toNatClampNeg)) + (P 54 a.toNatClampNeg)) * 3) from ((cI_y ⟨(qV.of (by omega) hc1 hc2), ⟨hc3, hc4⟩⟩).trans ((cI_n hc5).trans ((cI_y (Decidable.of_not_not hc6)).trans ((cI_n (kne hk (by decide))).trans ((cI_n (kne hk (by decide))).trans ((cI_n (kne hk (by decide))).trans ((cI_y hk).trans rfl)))))))]⟩
              · refine zw_iaload a.toNatClampNeg 4 6 f177_5 rfl (hb_53 _ _ _ _) rfl hc1 (zix (by decide) hc1 (show ¬ 8 ≤ a from ix_le hp.1 (by decide) (by decide) hc1 hc2)) ((congrFun (hR.2.1 53 (by omega) (by omega)) a.toNatClampNeg).trans hk) ?_
                refine zw_iconst 1 7 f177_6 rfl (by decide +kernel) ?_
                refine zw_ic_ne_t 30 f177_7 (by decide +kernel) (by decide +kernel) ?_
                refine zw_aload_n 31 f177_30 rfl rfl ?_
                refine zw_getfield 34 f177_31 rfl g177_7_12 (hb_52 _ _ _ _) rfl ?_
                refine zw_iload_n 35 f177_34 rfl rfl ?_
                refine zw_iaload a.toNatClampNeg 4 36 f177_35 rfl (hb_53 _ _ _ _) rfl hc1 (zix (by decide) hc1 (show ¬ 8 ≤ a from ix_le hp.1 (by decide) (by decide) hc1 hc2)) ((congrFun (hR.2.1 53 (by omega) (by omega)) a.toNatClampNeg).trans hk) ?_
                refine zw_iconst 4 37 f177_36 rfl (by decide +kernel) ?_
                refine zw_ic_ne_f 40 60 f177_37 (by decide +kernel) rfl (by decide +kernel) ?_
                refine zw_aload_n 41 f177_40 rfl rfl ?_
                refine zw_bipush 51 43 f177_41 rfl (by decide +kernel) ?_
                refine zw_virtual_v 46 0 0 [.ref 52, .int 51] [(0, .ref 52), (1, .int 51)] f177_43 rfl n177_291 k177_291_12 rfl (hb_52 _ _ _ _) (by decide +kernel) (Nat.le_of_ble_eq_true rfl) rfl rfl (by decide +kernel) (by decide +kernel) rfl (Nat.le_of_ble_eq_true rfl) rfl ?_
                refine zw_aload_n 1 f173_0 rfl rfl ?_
                refine zw_getI 0 4 f173_1 rfl g173_246_12 (hb_52 _ _ _ _) rfl rfl ?_
                refine zw_bipush 50 6 f173_4 rfl (by decide +kernel) ?_
                refine zw_ic_ge_f 9 19 f173_6 (by decide +kernel) rfl (by decide +kernel) ?_
                refine zw_aload_n 10 f173_9 rfl rfl ?_
                refine zw_getfield 13 f173_10 rfl g173_74_12 (hb_52 _ _ _ _) rfl ?_
                refine zw_aload_n 14 f173_13 rfl rfl ?_
                refine zw_getI 0 17 f173_14 rfl g173_246_12 (hb_52 _ _ _ _) rfl rfl ?_
                refine zw_iload_n 18 f173_17 rfl rfl ?_
                refine zw_ast 0 _ 19 f173_18 rfl (hb_71 _ _ _ _) (by decide +kernel) (by decide +kernel) (by decide +kernel) (ha_71 _ _ _ _ _) ?_
                refine zw_aload_n 20 f173_19 rfl rfl ?_
                refine zw_dup 21 f173_20 rfl rfl ?_
                refine zw_getI 0 24 f173_21 rfl g173_246_12 (hb_52 _ _ _ _) rfl rfl ?_
                refine zw_iconst 1 25 f173_24 rfl (by decide +kernel) ?_
                refine zw_iadd 1 26 f173_25 rfl (by decide +kernel) ?_
                refine zw_put _ 29 f173_26 rfl g173_246_12 (hb_52 _ _ _ _) rfl (Nat.le_of_ble_eq_true rfl) (by decide +kernel) (hi_52_29 _ _ _ _ _) ?_
                refine zw_vreturn f173_29 r173 u173 ⟨rfl, ?_⟩
                refine zw_aload_n 47 f177_46 rfl rfl ?_
                refine zw_iload_n 48 f177_47 rfl rfl ?_
                refine zw_iload_n 49 f177_48 rfl rfl ?_
                refine zw_virtual_i 52 0 0 [.ref 52, .int a, .int c] [(0, .ref 52), (1, .int a), (2, .int c)] f177_49 rfl n177_301 k177_301_12 rfl (hb_52 _ _ _ _) (by decide +kernel) (Nat.le_of_ble_eq_true rfl) rfl rfl (by decide +kernel) (by decide +kernel) rfl (Nat.le_of_ble_eq_true rfl) rfl ?_
                refine zw_aload_n 1 f176_0 rfl rfl ?_
                refine zw_bipush 11 3 f176_1 rfl (by decide +kernel) ?_
                refine zw_virtual_v 6 0 0 [.ref 52, .int 11] [(0, .ref 52), (1, .int 11)] f176_3 rfl n176_291 k176_291_12 rfl (hb_52 _ _ _ _) (by decide +kernel) (Nat.le_of_ble_eq_true rfl) rfl rfl (by decide +kernel) (by decide +kernel) rfl (Nat.le_of_ble_eq_true rfl) rfl ?_
                refine zw_aload_n 1 f173_0 rfl rfl ?_
                refine zw_getI 1 4 f173_1 rfl g173_246_12 (hb_52 _ _ _ _) rfl rfl ?_
                refine zw_bipush 50 6 f173_4 rfl (by decide +kernel) ?_
                refine zw_ic_ge_f 9 19 f173_6 (by decide +kernel) rfl (by decide +kernel) ?_
                refine zw_aload_n 10 f173_9 rfl rfl ?_
                refine zw_getfield 13 f173_10 rfl g173_74_12 (hb_52 _ _ _ _) rfl ?_
                refine zw_aload_n 14 f173_13 rfl rfl ?_
                refine zw_getI 1 17 f173_14 rfl g173_246_12 (hb_52 _ _ _ _) rfl rfl ?_
                refine zw_iload_n 18 f173_17 rfl rfl ?_
                refine zw_ast 1 _ 19 f173_18 rfl (hb_71 _ _ _ _) (by decide +kernel) (by decide +kernel) (by decide +kernel) (ha_71 _ _ _ _ _) ?_
                refine zw_aload_n 20 f173_19 rfl rfl ?_
                refine zw_dup 21 f173_20 rfl rfl ?_
                refine zw_getI 1 24 f173_21 rfl g173_246_12 (hb_52 _ _ _ _) rfl rfl ?_
                refine zw_iconst 1 25 f173_24 rfl (by decide +kernel) ?_
                refine zw_iadd 2 26 f173_25 rfl (by decide +kernel) ?_
                refine zw_put _ 29 f173_26 rfl g173_246_12 (hb_52 _ _ _ _) rfl (Nat.le_of_ble_eq_true rfl) (by decide +kernel) (hi_52_29 _ _ _ _ _) ?_
                refine zw_vreturn f173_29 r173 u173 ⟨rfl, ?_⟩
                refine zw_aload_n 7 f176_6 rfl rfl ?_
                refine zw_iload_n 8 f176_7 rfl rfl ?_
                refine zw_iload_n 9 f176_8 rfl rfl ?_
                refine zw_virtual_i 12 0 0 [.ref 52, .int a, .int c] [(0, .ref 52), (1, .int a), (2, .int c)] f176_9 rfl n176_298 k176_298_12 rfl (hb_52 _ _ _ _) (by decide +kernel) (Nat.le_of_ble_eq_true rfl) rfl rfl (by decide +kernel) (by decide +kernel) rfl (Nat.le_of_ble_eq_true rfl) rfl ?_
                refine zw_aload_n 1 f175_0 rfl rfl ?_
                refine zw_getfield 4 f175_1 rfl g175_7_12 (hb_52 _ _ _ _) rfl ?_
                refine zw_iload_n 5 f175_4 rfl rfl ?_
                refine zw_iaload a.toNatClampNeg 4 6 f175_5 rfl (hb_53 _ _ _ _) rfl hc1 (zix (by decide) hc1 (show ¬ 8 ≤ a from ix_le hp.1 (by decide) (by decide) hc1 hc2)) ((congrFun (hR.2.1 53 (by omega) (by omega)) a.toNatClampNeg).trans hk) ?_
                refine zw_iconst 2 7 f175_6 rfl (by decide +kernel) ?_
                refine zw_ic_ne_t 25 f175_7 (by decide +kernel) (by decide +kernel) ?_
                refine zw_aload_n 26 f175_25 rfl rfl ?_
                refine zw_iload_n 27 f175_26 rfl rfl ?_
                refine zw_virtual_i 30 0 0 [.ref 52, .int a] [(0, .ref 52), (1, .int a)] f175_27 rfl n175_158 k175_158_12 rfl (hb_52 _ _ _ _) (by decide +kernel) (Nat.le_of_ble_eq_true rfl) rfl rfl (by decide +kernel) (by decide +kernel) rfl (Nat.le_of_ble_eq_true rfl) rfl ?_
                refine zw_aload_n 1 f126_0 rfl rfl ?_
                refine zw_getfield 4 f126_1 rfl g126_7_12 (hb_52 _ _ _ _) rfl ?_
                refine zw_iload_n 5 f126_4 rfl rfl ?_
                refine zw_iaload a.toNatClampNeg 4 6 f126_5 rfl (hb_53 _ _ _ _) rfl hc1 (zix (by decide) hc1 (show ¬ 8 ≤ a from ix_le hp.1 (by decide) (by decide) hc1 hc2)) ((congrFun (hR.2.1 53 (by omega) (by omega)) a.toNatClampNeg).trans hk) ?_
                refine zw_iconst 3 7 f126_6 rfl (by decide +kernel) ?_
                refine zw_ic_eq_f 10 20 f126_7 (by decide +kernel) rfl (by decide +kernel) ?_
                refine zw_aload_n 11 f126_10 rfl rfl ?_
                refine zw_getfield 14 f126_11 rfl g126_7_12 (hb_52 _ _ _ _) rfl ?_
                refine zw_iload_n 15 f126_14 rfl rfl ?_
                refine zw_iaload a.toNatClampNeg 4 16 f126_15 rfl (hb_53 _ _ _ _) rfl hc1 (zix (by decide) hc1 (show ¬ 8 ≤ a from ix_le hp.1 (by decide) (by decide) hc1 hc2)) ((congrFun (hR.2.1 53 (by omega) (by omega)) a.toNatClampNeg).trans hk) ?_
                refine zw_iconst 4 17 f126_16 rfl (by decide +kernel) ?_
                refine zw_ic_ne_f 20 24 f126_17 (by decide +kernel) rfl (by decide +kernel) ?_
                refine zw_iconst 1 21 f126_20 rfl (by decide +kernel) ?_
                refine zw_goto 25 f126_21 (by decide +kernel) ?_
                refine zw_zreturn f126_25 r126 u126 (by decide +kernel) ⟨_, rfl, ?_⟩
                refine zw_if_eq_f 33 53 f175_30 (by decide +kernel) rfl (by decide +kernel) ?_
                refine zw_aload_n 34 f175_33 rfl rfl ?_
                refine zw_bipush 41 36 f175_34 rfl (by decide +kernel) ?_
                refine zw_virtual_v 39 0 0 [.ref 52, .int 41] [(0, .ref 52), (1, .int 41)] f175_36 rfl n175_291 k175_291_12 rfl (hb_52 _ _ _ _) (by decide +kernel) (Nat.le_of_ble_eq_true rfl) rfl rfl (by decide +kernel) (by decide +kernel) rfl (Nat.le_of_ble_eq_true rfl) rfl ?_
                refine zw_aload_n 1 f173_0 rfl rfl ?_
                refine zw_getI 2 4 f173_1 rfl g173_246_12 (hb_52 _ _ _ _) rfl rfl ?_
                refine zw_bipush 50 6 f173_4 rfl (by decide +kernel) ?_
                refine zw_ic_ge_f 9 19 f173_6 (by decide +kernel) rfl (by decide +kernel) ?_
                refine zw_aload_n 10 f173_9 rfl rfl ?_
                refine zw_getfield 13 f173_10 rfl g173_74_12 (hb_52 _ _ _ _) rfl ?_
                refine zw_aload_n 14 f173_13 rfl rfl ?_
                refine zw_getI 2 17 f173_14 rfl g173_246_12 (hb_52 _ _ _ _) rfl rfl ?_
                refine zw_iload_n 18 f173_17 rfl rfl ?_
                refine zw_ast 2 _ 19 f173_18 rfl (hb_71 _ _ _ _) (by decide +kernel) (by decide +kernel) (by decide +kernel) (ha_71 _ _ _ _ _) ?_
                refine zw_aload_n 20 f173_19 rfl rfl ?_
                refine zw_dup 21 f173_20 rfl rfl ?_
                refine zw_getI 2 24 f173_21 rfl g173_246_12 (hb_52 _ _ _ _) rfl rfl ?_
                refine zw_iconst 1 25 f173_24 rfl (by decide +kernel) ?_
                refine zw_iadd 3 26 f173_25 rfl (by decide +kernel) ?_
                refine zw_put _ 29 f173_26 rfl g173_246_12 (hb_52 _ _ _ _) rfl (Nat.le_of_ble_eq_true rfl) (by decide +kernel) (hi_52_29 _ _ _ _ _) ?_
                refine zw_vreturn f173_29 r173 u173 ⟨rfl, ?_⟩
                refine zw_aload_n 40 f175_39 rfl rfl ?_
                refine zw_iload_n 41 f175_40 rfl rfl ?_
                refine zw_iload_n 42 f175_41 rfl rfl ?_
                refine zw_aload_n 43 f175_42 rfl rfl ?_
                refine zw_getfield 46 f175_43 rfl g175_16_12 (hb_52 _ _ _ _) rfl ?_
                refine zw_iload_n 47 f175_46 rfl rfl ?_
                refine zw_iaload a.toNatClampNeg (P 55 a.toNatClampNeg) 48 f175_47 rfl (hb_55 _ _ _ _) rfl hc1 (zix (by decide) hc1 (show ¬ 8 ≤ a from ix_le hp.1 (by decide) (by decide) hc1 hc2)) (congrFun ((hR.2.1 55 (by omega) (by omega))) a.toNatClampNeg) ?_
                refine zw_iadd (c + (P 55 a.toNatClampNeg)) 49 f175_48 rfl rfl ?_
                refine zw_virtual_i 52 0 0 [.ref 52, .int a, .int (c + (P 55 a.toNatClampNeg))] [(0, .ref 52), (1, .int a), (2, .int (c + (P 55 a.toNatClampNeg)))] f175_49 rfl n175_294 k175_294_12 rfl (hb_52 _ _ _ _) (by decide +kernel) (Nat.le_of_ble_eq_true rfl) rfl rfl (by decide +kernel) (by decide +kernel) rfl (Nat.le_of_ble_eq_true rfl) rfl ?_
                refine zw_aload_n 1 f174_0 rfl rfl ?_
                refine zw_bipush 10 3 f174_1 rfl (by decide +kernel) ?_
                refine zw_virtual_v 6 0 0 [.ref 52, .int 10] [(0, .ref 52), (1, .int 10)] f174_3 rfl n174_291 k174_291_12 rfl (hb_52 _ _ _ _) (by decide +kernel) (Nat.le_of_ble_eq_true rfl) rfl rfl (by decide +kernel) (by decide +kernel) rfl (Nat.le_of_ble_eq_true rfl) rfl ?_
                refine zw_aload_n 1 f173_0 rfl rfl ?_
                refine zw_getI 3 4 f173_1 rfl g173_246_12 (hb_52 _ _ _ _) rfl rfl ?_
                refine zw_bipush 50 6 f173_4 rfl (by decide +kernel) ?_
                refine zw_ic_ge_f 9 19 f173_6 (by decide +kernel) rfl (by decide +kernel) ?_
                refine zw_aload_n 10 f173_9 rfl rfl ?_
                refine zw_getfield 13 f173_10 rfl g173_74_12 (hb_52 _ _ _ _) rfl ?_
                refine zw_aload_n 14 f173_13 rfl rfl ?_
                refine zw_getI 3 17 f173_14 rfl g173_246_12 (hb_52 _ _ _ _) rfl rfl ?_
                refine zw_iload_n 18 f173_17 rfl rfl ?_
                refine zw_ast 3 _ 19 f173_18 rfl (hb_71 _ _ _ _) (by decide +kernel) (by decide +kernel) (by decide +kernel) (ha_71 _ _ _ _ _) ?_
                refine zw_aload_n 20 f173_19 rfl rfl ?_
                refine zw_dup 21 f173_20 rfl rfl ?_
                refine zw_getI 3 24 f173_21 rfl g173_246_12 (hb_52 _ _ _ _) rfl rfl ?_
                refine zw_iconst 1 25 f173_24 rfl (by decide +kernel) ?_
                refine zw_iadd 4 26 f173_25 rfl (by decide +kernel) ?_
                refine zw_put _ 29 f173_26 rfl g173_246_12 (hb_52 _ _ _ _) rfl (Nat.le_of_ble_eq_true rfl) (by decide +kernel) (hi_52_29 _ _ _ _ _) ?_
                refine zw_vreturn f173_29 r173 u173 ⟨rfl, ?_⟩
                refine zw_iload_n 7 f174_6 rfl rfl ?_
                refine zw_aload_n 8 f174_7 rfl rfl ?_
                refine zw_getfield 11 f174_8 rfl g174_13_12 (hb_52 _ _ _ _) rfl ?_
                refine zw_iload_n 12 f174_11 rfl rfl ?_
                refine zw_iaload a.toNatClampNeg (P 54 a.toNatClampNeg) 13 f174_12 rfl (hb_54 _ _ _ _) rfl hc1 (zix (by decide) hc1 (show ¬ 8 ≤ a from ix_le hp.1 (by decide) (by decide) hc1 hc2)) (congrFun ((hR.2.1 54 (by omega) (by omega))) a.toNatClampNeg) ?_
                refine zw_iadd ((c + (P 55 a.toNatClampNeg)) + (P 54 a.toNatClampNeg)) 14 f174_13 rfl rfl ?_
                refine zw_ireturn f174_14 r174 u174 ⟨_, rfl, ?_⟩
                refine zw_ireturn f175_52 r175 u175 ⟨_, rfl, ?_⟩
                refine zw_iconst 3 13 f176_12 rfl (by decide +kernel) ?_
                refine zw_imul (((c + (P 55 a.toNatClampNeg)) + (P 54 a.toNatClampNeg)) * 3) 14 f176_13 rfl rfl ?_
                refine zw_ireturn f176_14 r176 u176 ⟨_, rfl, ?_⟩
                refine zw_aload_n 53 f177_52 rfl rfl ?_
                refine zw_getfield 56 f177_53 rfl g177_55_12 (hb_52 _ _ _ _) rfl ?_
                refine zw_iload_n 57 f177_56 rfl rfl ?_
                refine zw_iaload a.toNatClampNeg ((W.2.2.2.2.2.2.2) a.toNatClampNeg) 58 f177_57 rfl (hb_66 _ _ _ _) rfl hc1 (zix (by decide) hc1 (show ¬ 8 ≤ a from ix_le hp.1 (by decide) (by decide) hc1 hc2)) (congrFun (hR.cnt) a.toNatClampNeg) ?_
                refine zw_ixor ((((c + (P 55 a.toNatClampNeg)) + (P 54 a.toNatClampNeg)) * 3) ^^^ ((W.2.2.2.2.2.2.2) a.toNatClampNeg)) 59 f177_58 rfl rfl ?_
                refine zw_ireturn f177_59 r177 u177 ⟨_, rfl, ?_⟩
                refine zw_goto 76 f180_53 (by decide +kernel) ?_
                refine zw_virtual_i 79 0 0 [.ref 52, .int ((((c + (P 55 a.toNatClampNeg)) + (P 54 a.toNatClampNeg)) * 3) ^^^ ((W.2.2.2.2.2.2.2) a.toNatClampNeg))] [(0, .ref 52), (1, .int ((((c + (P 55 a.toNatClampNeg)) + (P 54 a.toNatClampNeg)) * 3) ^^^ ((W.2.2.2.2.2.2.2) a.toNatClampNeg)))] f180_76 rfl n180_205 k180_205_12 rfl (hb_52 _ _ _ _) (by decide +kernel) (Nat.le_of_ble_eq_true rfl) rfl rfl (by decide +kernel) (by decide +kernel) rfl (Nat.le_of_ble_eq_true rfl) rfl ?_
                refine zw_aload_n 1 f122_0 rfl rfl ?_
                refine zw_iconst 0 2 f122_1 rfl (by decide +kernel) ?_
                refine zw_put _ 5 f122_2 rfl g122_111_12 (hb_52 _ _ _ _) rfl (Nat.le_of_ble_eq_true rfl) (by decide +kernel) (hi_52_27 _ _ _ _ _) ?_
                refine zw_iload_n 6 f122_5 rfl rfl ?_
                refine zw_ireturn f122_6 r122 u122 ⟨_, rfl, ?_⟩
                refine zw_ireturn f180_79 r180 u180 ?_
                exact ⟨_, _, _, _, rfl, (KQ.i rfl (KQ.i rfl (KQ.a rfl (KQ.i rfl (KQ.a rfl (KQ.i rfl (KQ.a rfl (KQ.i rfl (KQ.a rfl (KQ.i rfl KQ.rf)))))))))), ⟨hi.1, hi.2.1, 4, by omega, (show _ = nI 4 from rfl)⟩, by rw [show an_act nv P W a b c = ((((c + (P 55 a.toNatClampNeg)) + (P 54 a.toNatClampNeg)) * 3) ^^^ ((W.2.2.2.2.2.2.2) a.toNatClampNeg)) from ((cI_y ⟨(qV.of (by omega) hc1 hc2), ⟨hc3, hc4⟩⟩).trans ((cI_n hc5).trans ((cI_y (Decidable.of_not_not hc6)).trans ((cI_n (kne hk (by decide))).trans ((cI_n (kne hk (by decide))).trans ((cI_n (kne hk (by decide))).trans ((cI_n (kne hk (by decide))).trans ((cI_y hk).trans rfl))))))))]⟩
          · refine zw_aload_n 34 f180_33 rfl rfl ?_
            refine zw_iload_n 35 f180_34 rfl rfl ?_
            refine zw_iload_n 36 f180_35 rfl rfl ?_
            refine zw_virtual_i 39 0 0 [.ref 52, .int a, .int c] [(0, .ref 52), (1, .int a), (2, .int c)] f180_36 rfl n180_298 k180_298_12 rfl (hb_52 _ _ _ _) (by decide +kernel) (Nat.le_of_ble_eq_true rfl) rfl rfl (by decide +kernel) (by decide +kernel) rfl (Nat.le_of_ble_eq_true rfl) rfl ?_
            refine zw_aload_n 1 f175_0 rfl rfl ?_
            refine zw_getfield 4 f175_1 rfl g175_7_12 (hb_52 _ _ _ _) rfl ?_
            refine zw_iload_n 5 f175_4 rfl rfl ?_
            rcases (k5 (hQ.1 a.toNatClampNeg ((qV.of (by omega) hc1 hc2)).1)) with hk | hk | hk | hk | hk
            · refine zw_iaload a.toNatClampNeg 0 6 f175_5 rfl (hb_53 _ _ _ _) rfl hc1 (zix (by decide) hc1 (show ¬ 8 ≤ a from ix_le hp.1 (by decide) (by decide) hc1 hc2)) ((congrFun (hR.2.1 53 (by omega) (by omega)) a.toNatClampNeg).trans hk) ?_
              refine zw_iconst 2 7 f175_6 rfl (by decide +kernel) ?_
              refine zw_ic_ne_t 25 f175_7 (by decide +kernel) (by decide +kernel) ?_
              refine zw_aload_n 26 f175_25 rfl rfl ?_
              refine zw_iload_n 27 f175_26 rfl rfl ?_
              refine zw_virtual_i 30 0 0 [.ref 52, .int a] [(0, .ref 52), (1, .int a)] f175_27 rfl n175_158 k175_158_12 rfl (hb_52 _ _ _ _) (by decide +kernel) (Nat.le_of_ble_eq_true rfl) rfl rfl (by decide +kernel) (by decide +kernel) rfl (Nat.le_of_ble_eq_true rfl) rfl ?_
              refine zw_aload_n 1 f126_0 rfl rfl ?_
              refine zw_getfield 4 f126_1 rfl g126_7_12 (hb_52 _ _ _ _) rfl ?_
              refine zw_iload_n 5 f126_4 rfl rfl ?_
              refine zw_iaload a.toNatClampNeg 0 6 f126_5 rfl (hb_53 _ _ _ _) rfl hc1 (zix (by decide) hc1 (show ¬ 8 ≤ a from ix_le hp.1 (by decide) (by decide) hc1 hc2)) ((congrFun (hR.2.1 53 (by omega) (by omega)) a.toNatClampNeg).trans hk) ?_
              refine zw_iconst 3 7 f126_6 rfl (by decide +kernel) ?_
              refine zw_ic_eq_f 10 20 f126_7 (by decide +kernel) rfl (by decide +kernel) ?_
              refine zw_aload_n 11 f126_10 rfl rfl ?_
              refine zw_getfield 14 f126_11 rfl g126_7_12 (hb_52 _ _ _ _) rfl ?_
              refine zw_iload_n 15 f126_14 rfl rfl ?_
              refine zw_iaload a.toNatClampNeg 0 16 f126_15 rfl (hb_53 _ _ _ _) rfl hc1 (zix (by decide) hc1 (show ¬ 8 ≤ a from ix_le hp.1 (by decide) (by decide) hc1 hc2)) ((congrFun (hR.2.1 53 (by omega) (by omega)) a.toNatClampNeg).trans hk) ?_
              refine zw_iconst 4 17 f126_16 rfl (by decide +kernel) ?_
              refine zw_ic_ne_t 24 f126_17 (by decide +kernel) (by decide +kernel) ?_
              refine zw_iconst 0 25 f126_24 rfl (by decide +kernel) ?_
              refine zw_zreturn f126_25 r126 u126 (by decide +kernel) ⟨_, rfl, ?_⟩
              refine zw_if_eq_t 53 f175_30 (by decide +kernel) (by decide +kernel) ?_
              refine zw_aload_n 54 f175_53 rfl rfl ?_
              refine zw_iload_n 55 f175_54 rfl rfl ?_
              refine zw_iload_n 56 f175_55 rfl rfl ?_
              refine zw_virtual_i 59 0 0 [.ref 52, .int a, .int c] [(0, .ref 52), (1, .int a), (2, .int c)] f175_56 rfl n175_294 k175_294_12 rfl (hb_52 _ _ _ _) (by decide +kernel) (Nat.le_of_ble_eq_true rfl) rfl rfl (by decide +kernel) (by decide +kernel) rfl (Nat.le_of_ble_eq_true rfl) rfl ?_
              refine zw_aload_n 1 f174_0 rfl rfl ?_
              refine zw_bipush 10 3 f174_1 rfl (by decide +kernel) ?_
              refine zw_virtual_v 6 0 0 [.ref 52, .int 10] [(0, .ref 52), (1, .int 10)] f174_3 rfl n174_291 k174_291_12 rfl (hb_52 _ _ _ _) (by decide +kernel) (Nat.le_of_ble_eq_true rfl) rfl rfl (by decide +kernel) (by decide +kernel) rfl (Nat.le_of_ble_eq_true rfl) rfl ?_
              refine zw_aload_n 1 f173_0 rfl rfl ?_
              refine zw_getI 0 4 f173_1 rfl g173_246_12 (hb_52 _ _ _ _) rfl rfl ?_
              refine zw_bipush 50 6 f173_4 rfl (by decide +kernel) ?_
              refine zw_ic_ge_f 9 19 f173_6 (by decide +kernel) rfl (by decide +kernel) ?_
              refine zw_aload_n 10 f173_9 rfl rfl ?_
              refine zw_getfield 13 f173_10 rfl g173_74_12 (hb_52 _ _ _ _) rfl ?_
              refine zw_aload_n 14 f173_13 rfl rfl ?_
              refine zw_getI 0 17 f173_14 rfl g173_246_12 (hb_52 _ _ _ _) rfl rfl ?_
              refine zw_iload_n 18 f173_17 rfl rfl ?_
              refine zw_ast 0 _ 19 f173_18 rfl (hb_71 _ _ _ _) (by decide +kernel) (by decide +kernel) (by decide +kernel) (ha_71 _ _ _ _ _) ?_
              refine zw_aload_n 20 f173_19 rfl rfl ?_
              refine zw_dup 21 f173_20 rfl rfl ?_
              refine zw_getI 0 24 f173_21 rfl g173_246_12 (hb_52 _ _ _ _) rfl rfl ?_
              refine zw_iconst 1 25 f173_24 rfl (by decide +kernel) ?_
              refine zw_iadd 1 26 f173_25 rfl (by decide +kernel) ?_
              refine zw_put _ 29 f173_26 rfl g173_246_12 (hb_52 _ _ _ _) rfl (Nat.le_of_ble_eq_true rfl) (by decide +kernel) (hi_52_29 _ _ _ _ _) ?_
              refine zw_vreturn f173_29 r173 u173 ⟨rfl, ?_⟩
              refine zw_iload_n 7 f174_6 rfl rfl ?_
              refine zw_aload_n 8 f174_7 rfl rfl ?_
              refine zw_getfield 11 f174_8 rfl g174_13_12 (hb_52 _ _ _ _) rfl ?_
              refine zw_iload_n 12 f174_11 rfl rfl ?_
              refine zw_iaload a.toNatClampNeg (P 54 a.toNatClampNeg) 13 f174_12 rfl (hb_54 _ _ _ _) rfl hc1 (zix (by decide) hc1 (show ¬ 8 ≤ a from ix_le hp.1 (by decide) (by decide) hc1 hc2)) (congrFun ((hR.2.1 54 (by omega) (by omega))) a.toNatClampNeg) ?_
              refine zw_iadd (c + (P 54 a.toNatClampNeg)) 14 f174_13 rfl rfl ?_
              refine zw_ireturn f174_14 r174 u174 ⟨_, rfl, ?_⟩
              refine zw_ireturn f175_59 r175 u175 ⟨_, rfl, ?_⟩
              refine zw_goto 76 f180_39 (by decide +kernel) ?_
              refine zw_virtual_i 79 0 0 [.ref 52, .int (c + (P 54 a.toNatClampNeg))] [(0, .ref 52), (1, .int (c + (P 54 a.toNatClampNeg)))] f180_76 rfl n180_205 k180_205_12 rfl (hb_52 _ _ _ _) (by decide +kernel) (Nat.le_of_ble_eq_true rfl) rfl rfl (by decide +kernel) (by decide +kernel) rfl (Nat.le_of_ble_eq_true rfl) rfl ?_
              refine zw_aload_n 1 f122_0 rfl rfl ?_
              refine zw_iconst 0 2 f122_1 rfl (by decide +kernel) ?_
              refine zw_put _ 5 f122_2 rfl g122_111_12 (hb_52 _ _ _ _) rfl (Nat.le_of_ble_eq_true rfl) (by decide +kernel) (hi_52_27 _ _ _ _ _) ?_
              refine zw_iload_n 6 f122_5 rfl rfl ?_
              refine zw_ireturn f122_6 r122 u122 ⟨_, rfl, ?_⟩
              refine zw_ireturn f180_79 r180 u180 ?_
              exact ⟨_, _, _, _, rfl, (KQ.i rfl (KQ.i rfl (KQ.a rfl (KQ.i rfl KQ.rf)))), ⟨hi.1, hi.2.1, 1, by omega, (show _ = nI 1 from rfl)⟩, by rw [show an_act nv P W a b c = (c + (P 54 a.toNatClampNeg)) from ((cI_y ⟨(qV.of (by omega) hc1 hc2), ⟨hc3, hc4⟩⟩).trans ((cI_y (Decidable.of_not_not hc5)).trans ((cI_y hk).trans rfl)))]⟩
            · refine zw_iaload a.toNatClampNeg 1 6 f175_5 rfl (hb_53 _ _ _ _) rfl hc1 (zix (by decide) hc1 (show ¬ 8 ≤ a from ix_le hp.1 (by decide) (by decide) hc1 hc2)) ((congrFun (hR.2.1 53 (by omega) (by omega)) a.toNatClampNeg).trans hk) ?_
              refine zw_iconst 2 7 f175_6 rfl (by decide +kernel) ?_
              refine zw_ic_ne_t 25 f175_7 (by decide +kernel) (by decide +kernel) ?_
              refine zw_aload_n 26 f175_25 rfl rfl ?_
              refine zw_iload_n 27 f175_26 rfl rfl ?_
              refine zw_virtual_i 30 0 0 [.ref 52, .int a] [(0, .ref 52), (1, .int a)] f175_27 rfl n175_158 k175_158_12 rfl (hb_52 _ _ _ _) (by decide +kernel) (Nat.le_of_ble_eq_true rfl) rfl rfl (by decide +kernel) (by decide +kernel) rfl (Nat.le_of_ble_eq_true rfl) rfl ?_
              refine zw_aload_n 1 f126_0 rfl rfl ?_
              refine zw_getfield 4 f126_1 rfl g126_7_12 (hb_52 _ _ _ _) rfl ?_
              refine zw_iload_n 5 f126_4 rfl rfl ?_
              refine zw_iaload a.toNatClampNeg 1 6 f126_5 rfl (hb_53 _ _ _ _) rfl hc1 (zix (by decide) hc1 (show ¬ 8 ≤ a from ix_le hp.1 (by decide) (by decide) hc1 hc2)) ((congrFun (hR.2.1 53 (by omega) (by omega)) a.toNatClampNeg).trans hk) ?_
              refine zw_iconst 3 7 f126_6 rfl (by decide +kernel) ?_
              refine zw_ic_eq_f 10 20 f126_7 (by decide +kernel) rfl (by decide +kernel) ?_
              refine zw_aload_n 11 f126_10 rfl rfl ?_
              refine zw_getfield 14 f126_11 rfl g126_7_12 (hb_52 _ _ _ _) rfl ?_
              refine zw_iload_n 15 f126_14 rfl rfl ?_
              refine zw_iaload a.toNatClampNeg 1 16 f126_15 rfl (hb_53 _ _ _ _) rfl hc1 (zix (by decide) hc1 (show ¬ 8 ≤ a from ix_le hp.1 (by decide) (by decide) hc1 hc2)) ((congrFun (hR.2.1 53 (by omega) (by omega)) a.toNatClampNeg).trans hk) ?_
              refine zw_iconst 4 17 f126_16 rfl (by decide +kernel) ?_
              refine zw_ic_ne_t 24 f126_17 (by decide +kernel) (by decide +kernel) ?_
              refine zw_iconst 0 25 f126_24 rfl (by decide +kernel) ?_
              refine zw_zreturn f126_25 r126 u126 (by decide +kernel) ⟨_, rfl, ?_⟩
              refine zw_if_eq_t 53 f175_30 (by decide +kernel) (by decide +kernel) ?_
              refine zw_aload_n 54 f175_53 rfl rfl ?_
              refine zw_iload_n 55 f175_54 rfl rfl ?_
              refine zw_iload_n 56 f175_55 rfl rfl ?_
              refine zw_virtual_i 59 0 0 [.ref 52, .int a, .int c] [(0, .ref 52), (1, .int a), (2, .int c)] f175_56 rfl n175_294 k175_294_12 rfl (hb_52 _ _ _ _) (by decide +kernel) (Nat.le_of_ble_eq_true rfl) rfl rfl (by decide +kernel) (by decide +kernel) rfl (Nat.le_of_ble_eq_true rfl) rfl ?_
              refine zw_aload_n 1 f174_0 rfl rfl ?_
              refine zw_bipush 10 3 f174_1 rfl (by decide +kernel) ?_
              refine zw_virtual_v 6 0 0 [.ref 52, .int 10] [(0, .ref 52), (1, .int 10)] f174_3 rfl n174_291 k174_291_12 rfl (hb_52 _ _ _ _) (by decide +kernel) (Nat.le_of_ble_eq_true rfl) rfl rfl (by decide +kernel) (by decide +kernel) rfl (Nat.le_of_ble_eq_true rfl) rfl ?_
              refine zw_aload_n 1 f173_0 rfl rfl ?_
              refine zw_getI 0 4 f173_1 rfl g173_246_12 (hb_52 _ _ _ _) rfl rfl ?_
              refine zw_bipush 50 6 f173_4 rfl (by decide +kernel) ?_
              refine zw_ic_ge_f 9 19 f173_6 (by decide +kernel) rfl (by decide +kernel) ?_
              refine zw_aload_n 10 f173_9 rfl rfl ?_
              refine zw_getfield 13 f173_10 rfl g173_74_12 (hb_52 _ _ _ _) rfl ?_
              refine zw_aload_n 14 f173_13 rfl rfl ?_
              refine zw_getI 0 17 f173_14 rfl g173_246_12 (hb_52 _ _ _ _) rfl rfl ?_
              refine zw_iload_n 18 f173_17 rfl rfl ?_
              refine zw_ast 0 _ 19 f173_18 rfl (hb_71 _ _ _ _) (by decide +kernel) (by decide +kernel) (by decide +kernel) (ha_71 _ _ _ _ _) ?_
              refine zw_aload_n 20 f173_19 rfl rfl ?_
              refine zw_dup 21 f173_20 rfl rfl ?_
              refine zw_getI 0 24 f173_21 rfl g173_246_12 (hb_52 _ _ _ _) rfl rfl ?_
              refine zw_iconst 1 25 f173_24 rfl (by decide +kernel) ?_
              refine zw_iadd 1 26 f173_25 rfl (by decide +kernel) ?_
              refine zw_put _ 29 f173_26 rfl g173_246_12 (hb_52 _ _ _ _) rfl (Nat.le_of_ble_eq_true rfl) (by decide +kernel) (hi_52_29 _ _ _ _ _) ?_
              refine zw_vreturn f173_29 r173 u173 ⟨rfl, ?_⟩
              refine zw_iload_n 7 f174_6 rfl rfl ?_
              refine zw_aload_n 8 f174_7 rfl rfl ?_
              refine zw_getfield 11 f174_8 rfl g174_13_12 (hb_52 _ _ _ _) rfl ?_
              refine zw_iload_n 12 f174_11 rfl rfl ?_
              refine zw_iaload a.toNatClampNeg (P 54 a.toNatClampNeg) 13 f174_12 rfl (hb_54 _ _ _ _) rfl hc1 (zix (by decide) hc1 (show ¬ 8 ≤ a from ix_le hp.1 (by decide) (by decide) hc1 hc2)) (congrFun ((hR.2.1 54 (by omega) (by omega))) a.toNatClampNeg) ?_
              refine zw_iadd (c + (P 54 a.toNatClampNeg)) 14 f174_13 rfl rfl ?_
              refine zw_ireturn f174_14 r174 u174 ⟨_, rfl, ?_⟩
              refine zw_ireturn f175_59 r175 u175 ⟨_, rfl, ?_⟩
              refine zw_goto 76 f180_39 (by decide +kernel) ?_
              refine zw_virtual_i 79 0 0 [.ref 52, .int (c + (P 54 a.toNatClampNeg))] [(0, .ref 52), (1, .int (c + (P 54 a.toNatClampNeg)))] f180_76 rfl n180_205 k180_205_12 rfl (hb_52 _ _ _ _) (by decide +kernel) (Nat.le_of_ble_eq_true rfl) rfl rfl (by decide +kernel) (by decide +kernel) rfl (Nat.le_of_ble_eq_true rfl) rfl ?_
              refine zw_aload_n 1 f122_0 rfl rfl ?_
              refine zw_iconst 0 2 f122_1 rfl (by decide +kernel) ?_
              refine zw_put _ 5 f122_2 rfl g122_111_12 (hb_52 _ _ _ _) rfl (Nat.le_of_ble_eq_true rfl) (by decide +kernel) (hi_52_27 _ _ _ _ _) ?_
              refine zw_iload_n 6 f122_5 rfl rfl ?_
              refine zw_ireturn f122_6 r122 u122 ⟨_, rfl, ?_⟩
              refine zw_ireturn f180_79 r180 u180 ?_
              exact ⟨_, _, _, _, rfl, (KQ.i rfl (KQ.i rfl (KQ.a rfl (KQ.i rfl KQ.rf)))), ⟨hi.1, hi.2.1, 1, by omega, (show _ = nI 1 from rfl)⟩, by rw [show an_act nv P W a b c = (c + (P 54 a.toNatClampNeg)) from ((cI_y ⟨(qV.of (by omega) hc1 hc2), ⟨hc3, hc4⟩⟩).trans ((cI_y (Decidable.of_not_not hc5)).trans ((cI_n (kne hk (by decide))).trans ((cI_y hk).trans rfl))))]⟩
            · refine zw_iaload a.toNatClampNeg 2 6 f175_5 rfl (hb_53 _ _ _ _) rfl hc1 (zix (by decide) hc1 (show ¬ 8 ≤ a from ix_le hp.1 (by decide) (by decide) hc1 hc2)) ((congrFun (hR.2.1 53 (by omega) (by omega)) a.toNatClampNeg).trans hk) ?_
              refine zw_iconst 2 7 f175_6 rfl (by decide +kernel) ?_
              refine zw_ic_ne_f 10 25 f175_7 (by decide +kernel) rfl (by decide +kernel) ?_
              refine zw_aload_n 11 f175_10 rfl rfl ?_
              refine zw_bipush 30 13 f175_11 rfl (by decide +kernel) ?_
              refine zw_virtual_v 16 0 0 [.ref 52, .int 30] [(0, .ref 52), (1, .int 30)] f175_13 rfl n175_291 k175_291_12 rfl (hb_52 _ _ _ _) (by decide +kernel) (Nat.le_of_ble_eq_true rfl) rfl rfl (by decide +kernel) (by decide +kernel) rfl (Nat.le_of_ble_eq_true rfl) rfl ?_
              refine zw_aload_n 1 f173_0 rfl rfl ?_
              refine zw_getI 0 4 f173_1 rfl g173_246_12 (hb_52 _ _ _ _) rfl rfl ?_
              refine zw_bipush 50 6 f173_4 rfl (by decide +kernel) ?_
              refine zw_ic_ge_f 9 19 f173_6 (by decide +kernel) rfl (by decide +kernel) ?_
              refine zw_aload_n 10 f173_9 rfl rfl ?_
              refine zw_getfield 13 f173_10 rfl g173_74_12 (hb_52 _ _ _ _) rfl ?_
              refine zw_aload_n 14 f173_13 rfl rfl ?_
              refine zw_getI 0 17 f173_14 rfl g173_246_12 (hb_52 _ _ _ _) rfl rfl ?_
              refine zw_iload_n 18 f173_17 rfl rfl ?_
              refine zw_ast 0 _ 19 f173_18 rfl (hb_71 _ _ _ _) (by decide +kernel) (by decide +kernel) (by decide +kernel) (ha_71 _ _ _ _ _) ?_
              refine zw_aload_n 20 f173_19 rfl rfl ?_
              refine zw_dup 21 f173_20 rfl rfl ?_
              refine zw_getI 0 24 f173_21 rfl g173_246_12 (hb_52 _ _ _ _) rfl rfl ?_
              refine zw_iconst 1 25 f173_24 rfl (by decide +kernel) ?_
              refine zw_iadd 1 26 f173_25 rfl (by decide +kernel) ?_
              refine zw_put _ 29 f173_26 rfl g173_246_12 (hb_52 _ _ _ _) rfl (Nat.le_of_ble_eq_true rfl) (by decide +kernel) (hi_52_29 _ _ _ _ _) ?_
              refine zw_vreturn f173_29 r173 u173 ⟨rfl, ?_⟩
              refine zw_aload_n 17 f175_16 rfl rfl ?_
              refine zw_iload_n 18 f175_17 rfl rfl ?_
              refine zw_iload_n 19 f175_18 rfl rfl ?_
              refine zw_virtual_i 22 0 0 [.ref 52, .int a, .int c] [(0, .ref 52), (1, .int a), (2, .int c)] f175_19 rfl n175_294 k175_294_12 rfl (hb_52 _ _ _ _) (by decide +kernel) (Nat.le_of_ble_eq_true rfl) rfl rfl (by decide +kernel) (by decide +kernel) rfl (Nat.le_of_ble_eq_true rfl) rfl ?_
              refine zw_aload_n 1 f174_0 rfl rfl ?_
              refine zw_bipush 10 3 f174_1 rfl (by decide +kernel) ?_
              refine zw_virtual_v 6 0 0 [.ref 52, .int 10] [(0, .ref 52), (1, .int 10)] f174_3 rfl n174_291 k174_291_12 rfl (hb_52 _ _ _ _) (by decide +kernel) (Nat.le_of_ble_eq_true rfl) rfl rfl (by decide +kernel) (by decide +kernel) rfl (Nat.le_of_ble_eq_true rfl) rfl ?_
              refine zw_aload_n 1 f173_0 rfl rfl ?_
              refine zw_getI 1 4 f173_1 rfl g173_246_12 (hb_52 _ _ _ _) rfl rfl ?_
              refine zw_bipush 50 6 f173_4 rfl (by decide +kernel) ?_
              refine zw_ic_ge_f 9 19 f173_6 (by decide +kernel) rfl (by decide +kernel) ?_
              refine zw_aload_n 10 f173_9 rfl rfl ?_
              refine zw_getfield 13 f173_10 rfl g173_74_12 (hb_52 _ _ _ _) rfl ?_
              refine zw_aload_n 14 f173_13 rfl rfl ?_
              refine zw_getI 1 17 f173_14 rfl g173_246_12 (hb_52 _ _ _ _) rfl rfl ?_
              refine zw_iload_n 18 f173_17 rfl rfl ?_
              refine zw_ast 1 _ 19 f173_18 rfl (hb_71 _ _ _ _) (by decide +kernel) (by decide +kernel) (by decide +kernel) (ha_71 _ _ _ _ _) ?_
              refine zw_aload_n 20 f173_19 rfl rfl ?_
              refine zw_dup 21 f173_20 rfl rfl ?_
              refine zw_getI 1 24 f173_21 rfl g173_246_12 (hb_52 _ _ _ _) rfl rfl ?_
              refine zw_iconst 1 25 f173_24 rfl (by decide +kernel) ?_
              refine zw_iadd 2 26 f173_25 rfl (by decide +kernel) ?_
              refine zw_put _ 29 f173_26 rfl g173_246_12 (hb_52 _ _ _ _) rfl (Nat.le_of_ble_eq_true rfl) (by decide +kernel) (hi_52_29 _ _ _ _ _) ?_
              refine zw_vreturn f173_29 r173 u173 ⟨rfl, ?_⟩
              refine zw_iload_n 7 f174_6 rfl rfl ?_
              refine zw_aload_n 8 f174_7 rfl rfl ?_
              refine zw_getfield 11 f174_8 rfl g174_13_12 (hb_52 _ _ _ _) rfl ?_
              refine zw_iload_n 12 f174_11 rfl rfl ?_
              refine zw_iaload a.toNatClampNeg (P 54 a.toNatClampNeg) 13 f174_12 rfl (hb_54 _ _ _ _) rfl hc1 (zix (by decide) hc1 (show ¬ 8 ≤ a from ix_le hp.1 (by decide) (by decide) hc1 hc2)) (congrFun ((hR.2.1 54 (by omega) (by omega))) a.toNatClampNeg) ?_
              refine zw_iadd (c + (P 54 a.toNatClampNeg)) 14 f174_13 rfl rfl ?_
              refine zw_ireturn f174_14 r174 u174 ⟨_, rfl, ?_⟩
              refine zw_iconst 2 23 f175_22 rfl (by decide +kernel) ?_
              refine zw_imul ((c + (P 54 a.toNatClampNeg)) * 2) 24 f175_23 rfl rfl ?_
              refine zw_ireturn f175_24 r175 u175 ⟨_, rfl, ?_⟩
              refine zw_goto 76 f180_39 (by decide +kernel) ?_
              refine zw_virtual_i 79 0 0 [.ref 52, .int ((c + (P 54 a.toNatClampNeg)) * 2)] [(0, .ref 52), (1, .int ((c + (P 54 a.toNatClampNeg)) * 2))] f180_76 rfl n180_205 k180_205_12 rfl (hb_52 _ _ _ _) (by decide +kernel) (Nat.le_of_ble_eq_true rfl) rfl rfl (by decide +kernel) (by decide +kernel) rfl (Nat.le_of_ble_eq_true rfl) rfl ?_
              refine zw_aload_n 1 f122_0 rfl rfl ?_
              refine zw_iconst 0 2 f122_1 rfl (by decide +kernel) ?_
              refine zw_put _ 5 f122_2 rfl g122_111_12 (hb_52 _ _ _ _) rfl (Nat.le_of_ble_eq_true rfl) (by decide +kernel) (hi_52_27 _ _ _ _ _) ?_
              refine zw_iload_n 6 f122_5 rfl rfl ?_
              refine zw_ireturn f122_6 r122 u122 ⟨_, rfl, ?_⟩
              refine zw_ireturn f180_79 r180 u180 ?_
              exact ⟨_, _, _, _, rfl, (KQ.i rfl (KQ.i rfl (KQ.a rfl (KQ.i rfl (KQ.a rfl (KQ.i rfl KQ.rf)))))), ⟨hi.1, hi.2.1, 2, by omega, (show _ = nI 2 from rfl)⟩, by rw [show an_act nv P W a b c = ((c + (P 54 a.toNatClampNeg)) * 2) from ((cI_y ⟨(qV.of (by omega) hc1 hc2), ⟨hc3, hc4⟩⟩).trans ((cI_y (Decidable.of_not_not hc5)).trans ((cI_n (kne hk (by decide))).trans ((cI_n (kne hk (by decide))).trans ((cI_y hk).trans rfl)))))]⟩
            · refine zw_iaload a.toNatClampNeg 3 6 f175_5 rfl (hb_53 _ _ _ _) rfl hc1 (zix (by decide) hc1 (show ¬ 8 ≤ a from ix_le hp.1 (by decide) (by decide) hc1 hc2)) ((congrFun (hR.2.1 53 (by omega) (by omega)) a.toNatClampNeg).trans hk) ?_
              refine zw_iconst 2 7 f175_6 rfl (by decide +kernel) ?_
              refine zw_ic_ne_t 25 f175_7 (by decide +kernel) (by decide +kernel) ?_
              refine zw_aload_n 26 f175_25 rfl rfl ?_
              refine zw_iload_n 27 f175_26 rfl rfl ?_
              refine zw_virtual_i 30 0 0 [.ref 52, .int a] [(0, .ref 52), (1, .int a)] f175_27 rfl n175_158 k175_158_12 rfl (hb_52 _ _ _ _) (by decide +kernel) (Nat.le_of_ble_eq_true rfl) rfl rfl (by decide +kernel) (by decide +kernel) rfl (Nat.le_of_ble_eq_true rfl) rfl ?_
              refine zw_aload_n 1 f126_0 rfl rfl ?_
              refine zw_getfield 4 f126_1 rfl g126_7_12 (hb_52 _ _ _ _) rfl ?_
              refine zw_iload_n 5 f126_4 rfl rfl ?_
              refine zw_iaload a.toNatClampNeg 3 6 f126_5 rfl (hb_53 _ _ _ _) rfl hc1 (zix (by decide) hc1 (show ¬ 8 ≤ a from ix_le hp.1 (by decide) (by decide) hc1 hc2)) ((congrFun (hR.2.1 53 (by omega) (by omega)) a.toNatClampNeg).trans hk) ?_
              refine zw_iconst 3 7 f126_6 rfl (by decide +kernel) ?_
              refine zw_ic_eq_t 20 f126_7 (by decide +kernel) (by decide +kernel) ?_
              refine zw_iconst 1 21 f126_20 rfl (by decide +kernel) ?_
              refine zw_goto 25 f126_21 (by decide +kernel) ?_
              refine zw_zreturn f126_25 r126 u126 (by decide +kernel) ⟨_, rfl, ?_⟩
              refine zw_if_eq_f 33 53 f175_30 (by decide +kernel) rfl (by decide +kernel) ?_
              refine zw_aload_n 34 f175_33 rfl rfl ?_
              refine zw_bipush 41 36 f175_34 rfl (by decide +kernel) ?_
              refine zw_virtual_v 39 0 0 [.ref 52, .int 41] [(0, .ref 52), (1, .int 41)] f175_36 rfl n175_291 k175_291_12 rfl (hb_52 _ _ _ _) (by decide +kernel) (Nat.le_of_ble_eq_true rfl) rfl rfl (by decide +kernel) (by decide +kernel) rfl (Nat.le_of_ble_eq_true rfl) rfl ?_
              refine zw_aload_n 1 f173_0 rfl rfl ?_
              refine zw_getI 0 4 f173_1 rfl g173_246_12 (hb_52 _ _ _ _) rfl rfl ?_
              refine zw_bipush 50 6 f173_4 rfl (by decide +kernel) ?_
              refine zw_ic_ge_f 9 19 f173_6 (by decide +kernel) rfl (by decide +kernel) ?_
              refine zw_aload_n 10 f173_9 rfl rfl ?_
              refine zw_getfield 13 f173_10 rfl g173_74_12 (hb_52 _ _ _ _) rfl ?_
              refine zw_aload_n 14 f173_13 rfl rfl ?_
              refine zw_getI 0 17 f173_14 rfl g173_246_12 (hb_52 _ _ _ _) rfl rfl ?_
              refine zw_iload_n 18 f173_17 rfl rfl ?_
              refine zw_ast 0 _ 19 f173_18 rfl (hb_71 _ _ _ _) (by decide +kernel) (by decide +kernel) (by decide +kernel) (ha_71 _ _ _ _ _) ?_
              refine zw_aload_n 20 f173_19 rfl rfl ?_
              refine zw_dup 21 f173_20 rfl rfl ?_
              refine zw_getI 0 24 f173_21 rfl g173_246_12 (hb_52 _ _ _ _) rfl rfl ?_
              refine zw_iconst 1 25 f173_24 rfl (by decide +kernel) ?_
              refine zw_iadd 1 26 f173_25 rfl (by decide +kernel) ?_
              refine zw_put _ 29 f173_26 rfl g173_246_12 (hb_52 _ _ _ _) rfl (Nat.le_of_ble_eq_true rfl) (by decide +kernel) (hi_52_29 _ _ _ _ _) ?_
              refine zw_vreturn f173_29 r173 u173 ⟨rfl, ?_⟩
              refine zw_aload_n 40 f175_39 rfl rfl ?_
              refine zw_iload_n 41 f175_40 rfl rfl ?_
              refine zw_iload_n 42 f175_41 rfl rfl ?_
              refine zw_aload_n 43 f175_42 rfl rfl ?_
              refine zw_getfield 46 f175_43 rfl g175_16_12 (hb_52 _ _ _ _) rfl ?_
              refine zw_iload_n 47 f175_46 rfl rfl ?_
              refine zw_iaload a.toNatClampNeg (P 55 a.toNatClampNeg) 48 f175_47 rfl (hb_55 _ _ _ _) rfl hc1 (zix (by decide) hc1 (show ¬ 8 ≤ a from ix_le hp.1 (by decide) (by decide) hc1 hc2)) (congrFun ((hR.2.1 55 (by omega) (by omega))) a.toNatClampNeg) ?_
              refine zw_iadd (c + (P 55 a.toNatClampNeg)) 49 f175_48 rfl rfl ?_
              refine zw_virtual_i 52 0 0 [.ref 52, .int a, .int (c + (P 55 a.toNatClampNeg))] [(0, .ref 52), (1, .int a), (2, .int (c + (P 55 a.toNatClampNeg)))] f175_49 rfl n175_294 k175_294_12 rfl (hb_52 _ _ _ _) (by decide +kernel) (Nat.le_of_ble_eq_true rfl) rfl rfl (by decide +kernel) (by decide +kernel) rfl (Nat.le_of_ble_eq_true rfl) rfl ?_
              refine zw_aload_n 1 f174_0 rfl rfl ?_
              refine zw_bipush 10 3 f174_1 rfl (by decide +kernel) ?_
              refine zw_virtual_v 6 0 0 [.ref 52, .int 10] [(0, .ref 52), (1, .int 10)] f174_3 rfl n174_291 k174_291_12 rfl (hb_52 _ _ _ _) (by decide +kernel) (Nat.le_of_ble_eq_true rfl) rfl rfl (by decide +kernel) (by decide +kernel) rfl (Nat.le_of_ble_eq_true rfl) rfl ?_
              refine zw_aload_n 1 f173_0 rfl rfl ?_
              refine zw_getI 1 4 f173_1 rfl g173_246_12 (hb_52 _ _ _ _) rfl rfl ?_
              refine zw_bipush 50 6 f173_4 rfl (by decide +kernel) ?_
              refine zw_ic_ge_f 9 19 f173_6 (by decide +kernel) rfl (by decide +kernel) ?_
              refine zw_aload_n 10 f173_9 rfl rfl ?_
              refine zw_getfield 13 f173_10 rfl g173_74_12 (hb_52 _ _ _ _) rfl ?_
              refine zw_aload_n 14 f173_13 rfl rfl ?_
              refine zw_getI 1 17 f173_14 rfl g173_246_12 (hb_52 _ _ _ _) rfl rfl ?_
              refine zw_iload_n 18 f173_17 rfl rfl ?_
              refine zw_ast 1 _ 19 f173_18 rfl (hb_71 _ _ _ _) (by decide +kernel) (by decide +kernel) (by decide +kernel) (ha_71 _ _ _ _ _) ?_
              refine zw_aload_n 20 f173_19 rfl rfl ?_
              refine zw_dup 21 f173_20 rfl rfl ?_
              refine zw_getI 1 24 f173_21 rfl g173_246_12 (hb_52 _ _ _ _) rfl rfl ?_
              refine zw_iconst 1 25 f173_24 rfl (by decide +kernel) ?_
              refine zw_iadd 2 26 f173_25 rfl (by decide +kernel) ?_
              refine zw_put _ 29 f173_26 rfl g173_246_12 (hb_52 _ _ _ _) rfl (Nat.le_of_ble_eq_true rfl) (by decide +kernel) (hi_52_29 _ _ _ _ _) ?_
              refine zw_vreturn f173_29 r173 u173 ⟨rfl, ?_⟩
              refine zw_iload_n 7 f174_6 rfl rfl ?_
              refine zw_aload_n 8 f174_7 rfl rfl ?_
              refine zw_getfield 11 f174_8 rfl g174_13_12 (hb_52 _ _ _ _) rfl ?_
              refine zw_iload_n 12 f174_11 rfl rfl ?_
              refine zw_iaload a.toNatClampNeg (P 54 a.toNatClampNeg) 13 f174_12 rfl (hb_54 _ _ _ _) rfl hc1 (zix (by decide) hc1 (show ¬ 8 ≤ a from ix_le hp.1 (by decide) (by decide) hc1 hc2)) (congrFun ((hR.2.1 54 (by omega) (by omega))) a.toNatClampNeg) ?_
              refine zw_iadd ((c + (P 55 a.toNatClampNeg)) + (P 54 a.toNatClampNeg)) 14 f174_13 rfl rfl ?_
              refine zw_ireturn f174_14 r174 u174 ⟨_, rfl, ?_⟩
              refine zw_ireturn f175_52 r175 u175 ⟨_, rfl, ?_⟩
              refine zw_goto 76 f180_39 (by decide +kernel) ?_
              refine zw_virtual_i 79 0 0 [.ref 52, .int ((c + (P 55 a.toNatClampNeg)) + (P 54 a.toNatClampNeg))] [(0, .ref 52), (1, .int ((c + (P 55 a.toNatClampNeg)) + (P 54 a.toNatClampNeg)))] f180_76 rfl n180_205 k180_205_12 rfl (hb_52 _ _ _ _) (by decide +kernel) (Nat.le_of_ble_eq_true rfl) rfl rfl (by decide +kernel) (by decide +kernel) rfl (Nat.le_of_ble_eq_true rfl) rfl ?_
              refine zw_aload_n 1 f122_0 rfl rfl ?_
              refine zw_iconst 0 2 f122_1 rfl (by decide +kernel) ?_
              refine zw_put _ 5 f122_2 rfl g122_111_12 (hb_52 _ _ _ _) rfl (Nat.le_of_ble_eq_true rfl) (by decide +kernel) (hi_52_27 _ _ _ _ _) ?_
              refine zw_iload_n 6 f122_5 rfl rfl ?_
              refine zw_ireturn f122_6 r122 u122 ⟨_, rfl, ?_⟩
              refine zw_ireturn f180_79 r180 u180 ?_
              exact ⟨_, _, _, _, rfl, (KQ.i rfl (KQ.i rfl (KQ.a rfl (KQ.i rfl (KQ.a rfl (KQ.i rfl KQ.rf)))))), ⟨hi.1, hi.2.1, 2, by omega, (show _ = nI 2 from rfl)⟩, by rw [show an_act nv P W a b c = ((c + (P 55 a.toNatClampNeg)) + (P 54 a.toNatClampNeg)) from ((cI_y ⟨(qV.of (by omega) hc1 hc2), ⟨hc3, hc4⟩⟩).trans ((cI_y (Decidable.of_not_not hc5)).trans ((cI_n (kne hk (by decide))).trans ((cI_n (kne hk (by decide))).trans ((cI_n (kne hk (by decide))).trans ((cI_y hk).trans rfl))))))]⟩
            · refine zw_iaload a.toNatClampNeg 4 6 f175_5 rfl (hb_53 _ _ _ _) rfl hc1 (zix (by decide) hc1 (show ¬ 8 ≤ a from ix_le hp.1 (by decide) (by decide) hc1 hc2)) ((congrFun (hR.2.1 53 (by omega) (by omega)) a.toNatClampNeg).trans hk) ?_
              refine zw_iconst 2 7 f175_6 rfl (by decide +kernel) ?_
              refine zw_ic_ne_t 25 f175_7 (by decide +kernel) (by decide +kernel) ?_
              refine zw_aload_n 26 f175_25 rfl rfl ?_
              refine zw_iload_n 27 f175_26 rfl rfl ?_
              refine zw_virtual_i 30 0 0 [.ref 52, .int a] [(0, .ref 52), (1, .int a)] f175_27 rfl n175_158 k175_158_12 rfl (hb_52 _ _ _ _) (by decide +kernel) (Nat.le_of_ble_eq_true rfl) rfl rfl (by decide +kernel) (by decide +kernel) rfl (Nat.le_of_ble_eq_true rfl) rfl ?_
              refine zw_aload_n 1 f126_0 rfl rfl ?_
              refine zw_getfield 4 f126_1 rfl g126_7_12 (hb_52 _ _ _ _) rfl ?_
              refine zw_iload_n 5 f126_4 rfl rfl ?_
              refine zw_iaload a.toNatClampNeg 4 6 f126_5 rfl (hb_53 _ _ _ _) rfl hc1 (zix (by decide) hc1 (show ¬ 8 ≤ a from ix_le hp.1 (by decide) (by decide) hc1 hc2)) ((congrFun (hR.2.1 53 (by omega) (by omega)) a.toNatClampNeg).trans hk) ?_
              refine zw_iconst 3 7 f126_6 rfl (by decide +kernel) ?_
              refine zw_ic_eq_f 10 20 f126_7 (by decide +kernel) rfl (by decide +kernel) ?_
              refine zw_aload_n 11 f126_10 rfl rfl ?_
              refine zw_getfield 14 f126_11 rfl g126_7_12 (hb_52 _ _ _ _) rfl ?_
              refine zw_iload_n 15 f126_14 rfl rfl ?_
              refine zw_iaload a.toNatClampNeg 4 16 f126_15 rfl (hb_53 _ _ _ _) rfl hc1 (zix (by decide) hc1 (show ¬ 8 ≤ a from ix_le hp.1 (by decide) (by decide) hc1 hc2)) ((congrFun (hR.2.1 53 (by omega) (by omega)) a.toNatClampNeg).trans hk) ?_
              refine zw_iconst 4 17 f126_16 rfl (by decide +kernel) ?_
              refine zw_ic_ne_f 20 24 f126_17 (by decide +kernel) rfl (by decide +kernel) ?_
              refine zw_iconst 1 21 f126_20 rfl (by decide +kernel) ?_
              refine zw_goto 25 f126_21 (by decide +kernel) ?_
              refine zw_zreturn f126_25 r126 u126 (by decide +kernel) ⟨_, rfl, ?_⟩
              refine zw_if_eq_f 33 53 f175_30 (by decide +kernel) rfl (by decide +kernel) ?_
              refine zw_aload_n 34 f175_33 rfl rfl ?_
              refine zw_bipush 41 36 f175_34 rfl (by decide +kernel) ?_
              refine zw_virtual_v 39 0 0 [.ref 52, .int 41] [(0, .ref 52), (1, .int 41)] f175_36 rfl n175_291 k175_291_12 rfl (hb_52 _ _ _ _) (by decide +kernel) (Nat.le_of_ble_eq_true rfl) rfl rfl (by decide +kernel) (by decide +kernel) rfl (Nat.le_of_ble_eq_true rfl) rfl ?_
              refine zw_aload_n 1 f173_0 rfl rfl ?_
              refine zw_getI 0 4 f173_1 rfl g173_246_12 (hb_52 _ _ _ _) rfl rfl ?_
              refine zw_bipush 50 6 f173_4 rfl (by decide +kernel) ?_
              refine zw_ic_ge_f 9 19 f173_6 (by decide +kernel) rfl (by decide +kernel) ?_
              refine zw_aload_n 10 f173_9 rfl rfl ?_
              refine zw_getfield 13 f173_10 rfl g173_74_12 (hb_52 _ _ _ _) rfl ?_
              refine zw_aload_n 14 f173_13 rfl rfl ?_
              refine zw_getI 0 17 f173_14 rfl g173_246_12 (hb_52 _ _ _ _) rfl rfl ?_
              refine zw_iload_n 18 f173_17 rfl rfl ?_
              refine zw_ast 0 _ 19 f173_18 rfl (hb_71 _ _ _ _) (by decide +kernel) (by decide +kernel) (by decide +kernel) (ha_71 _ _ _ _ _) ?_
              refine zw_aload_n 20 f173_19 rfl rfl ?_
              refine zw_dup 21 f173_20 rfl rfl ?_
              refine zw_getI 0 24 f173_21 rfl g173_246_12 (hb_52 _ _ _ _) rfl rfl ?_
              refine zw_iconst 1 25 f173_24 rfl (by decide +kernel) ?_
              refine zw_iadd 1 26 f173_25 rfl (by decide +kernel) ?_
              refine zw_put _ 29 f173_26 rfl g173_246_12 (hb_52 _ _ _ _) rfl (Nat.le_of_ble_eq_true rfl) (by decide +kernel) (hi_52_29 _ _ _ _ _) ?_
              refine zw_vreturn f173_29 r173 u173 ⟨rfl, ?_⟩
              refine zw_aload_n 40 f175_39 rfl rfl ?_
              refine zw_iload_n 41 f175_40 rfl rfl ?_
              refine zw_iload_n 42 f175_41 rfl rfl ?_
              refine zw_aload_n 43 f175_42 rfl rfl ?_
              refine zw_getfield 46 f175_43 rfl g175_16_12 (hb_52 _ _ _ _) rfl ?_
              refine zw_iload_n 47 f175_46 rfl rfl ?_
              refine zw_iaload a.toNatClampNeg (P 55 a.toNatClampNeg) 48 f175_47 rfl (hb_55 _ _ _ _) rfl hc1 (zix (by decide) hc1 (show ¬ 8 ≤ a from ix_le hp.1 (by decide) (by decide) hc1 hc2)) (congrFun ((hR.2.1 55 (by omega) (by omega))) a.toNatClampNeg) ?_
              refine zw_iadd (c + (P 55 a.toNatClampNeg)) 49 f175_48 rfl rfl ?_
              refine zw_virtual_i 52 0 0 [.ref 52, .int a, .int (c + (P 55 a.toNatClampNeg))] [(0, .ref 52), (1, .int a), (2, .int (c + (P 55 a.toNatClampNeg)))] f175_49 rfl n175_294 k175_294_12 rfl (hb_52 _ _ _ _) (by decide +kernel) (Nat.le_of_ble_eq_true rfl) rfl rfl (by decide +kernel) (by decide +kernel) rfl (Nat.le_of_ble_eq_true rfl) rfl ?_
              refine zw_aload_n 1 f174_0 rfl rfl ?_
              refine zw_bipush 10 3 f174_1 rfl (by decide +kernel) ?_
              refine zw_virtual_v 6 0 0 [.ref 52, .int 10] [(0, .ref 52), (1, .int 10)] f174_3 rfl n174_291 k174_291_12 rfl (hb_52 _ _ _ _) (by decide +kernel) (Nat.le_of_ble_eq_true rfl) rfl rfl (by decide +kernel) (by decide +kernel) rfl (Nat.le_of_ble_eq_true rfl) rfl ?_
              refine zw_aload_n 1 f173_0 rfl rfl ?_
              refine zw_getI 1 4 f173_1 rfl g173_246_12 (hb_52 _ _ _ _) rfl rfl ?_
              refine zw_bipush 50 6 f173_4 rfl (by decide +kernel) ?_
              refine zw_ic_ge_f 9 19 f173_6 (by decide +kernel) rfl (by decide +kernel) ?_
              refine zw_aload_n 10 f173_9 rfl rfl ?_
              refine zw_getfield 13 f173_10 rfl g173_74_12 (hb_52 _ _ _ _) rfl ?_
              refine zw_aload_n 14 f173_13 rfl rfl ?_
              refine zw_getI 1 17 f173_14 rfl g173_246_12 (hb_52 _ _ _ _) rfl rfl ?_
              refine zw_iload_n 18 f173_17 rfl rfl ?_
              refine zw_ast 1 _ 19 f173_18 rfl (hb_71 _ _ _ _) (by decide +kernel) (by decide +kernel) (by decide +kernel) (ha_71 _ _ _ _ _) ?_
              refine zw_aload_n 20 f173_19 rfl rfl ?_
              refine zw_dup 21 f173_20 rfl rfl ?_
              refine zw_getI 1 24 f173_21 rfl g173_246_12 (hb_52 _ _ _ _) rfl rfl ?_
              refine zw_iconst 1 25 f173_24 rfl (by decide +kernel) ?_
              refine zw_iadd 2 26 f173_25 rfl (by decide +kernel) ?_
              refine zw_put _ 29 f173_26 rfl g173_246_12 (hb_52 _ _ _ _) rfl (Nat.le_of_ble_eq_true rfl) (by decide +kernel) (hi_52_29 _ _ _ _ _) ?_
              refine zw_vreturn f173_29 r173 u173 ⟨rfl, ?_⟩
              refine zw_iload_n 7 f174_6 rfl rfl ?_
              refine zw_aload_n 8 f174_7 rfl rfl ?_
              refine zw_getfield 11 f174_8 rfl g174_13_12 (hb_52 _ _ _ _) rfl ?_
              refine zw_iload_n 12 f174_11 rfl rfl ?_
              refine zw_iaload a.toNatClampNeg (P 54 a.toNatClampNeg) 13 f174_12 rfl (hb_54 _ _ _ _) rfl hc1 (zix (by decide) hc1 (show ¬ 8 ≤ a from ix_le hp.1 (by decide) (by decide) hc1 hc2)) (congrFun ((hR.2.1 54 (by omega) (by omega))) a.toNatClampNeg) ?_
              refine zw_iadd ((c + (P 55 a.toNatClampNeg)) + (P 54 a.toNatClampNeg)) 14 f174_13 rfl rfl ?_
              refine zw_ireturn f174_14 r174 u174 ⟨_, rfl, ?_⟩
              refine zw_ireturn f175_52 r175 u175 ⟨_, rfl, ?_⟩
              refine zw_goto 76 f180_39 (by decide +kernel) ?_
              refine zw_virtual_i 79 0 0 [.ref 52, .int ((c + (P 55 a.toNatClampNeg)) + (P 54 a.toNatClampNeg))] [(0, .ref 52), (1, .int ((c + (P 55 a.toNatClampNeg)) + (P 54 a.toNatClampNeg)))] f180_76 rfl n180_205 k180_205_12 rfl (hb_52 _ _ _ _) (by decide +kernel) (Nat.le_of_ble_eq_true rfl) rfl rfl (by decide +kernel) (by decide +kernel) rfl (Nat.le_of_ble_eq_true rfl) rfl ?_
              refine zw_aload_n 1 f122_0 rfl rfl ?_
              refine zw_iconst 0 2 f122_1 rfl (by decide +kernel) ?_
              refine zw_put _ 5 f122_2 rfl g122_111_12 (hb_52 _ _ _ _) rfl (Nat.le_of_ble_eq_true rfl) (by decide +kernel) (hi_52_27 _ _ _ _ _) ?_
              refine zw_iload_n 6 f122_5 rfl rfl ?_
              refine zw_ireturn f122_6 r122 u122 ⟨_, rfl, ?_⟩
              refine zw_ireturn f180_79 r180 u180 ?_
              exact ⟨_, _, _, _, rfl, (KQ.i rfl (KQ.i rfl (KQ.a rfl (KQ.i rfl (KQ.a rfl (KQ.i rfl KQ.rf)))))), ⟨hi.1, hi.2.1, 2, by omega, (show _ = nI 2 from rfl)⟩, by rw [show an_act nv P W a b c = ((c + (P 55 a.toNatClampNeg)) + (P 54 a.toNatClampNeg)) from ((cI_y ⟨(qV.of (by omega) hc1 hc2), ⟨hc3, hc4⟩⟩).trans ((cI_y (Decidable.of_not_not hc5)).trans ((cI_n (kne hk (by decide))).trans ((cI_n (kne hk (by decide))).trans ((cI_n (kne hk (by decide))).trans ((cI_n (kne hk (by decide))).trans ((cI_y hk).trans rfl)))))))]⟩
set_option maxHeartbeats 0 in
theorem pairX_actx (ro : UInt32 → Nat × (Nat → Int32)) (k : Nat) (I : Nat → Nat → Int32) (G : Nat → Nat → Int64) (A : Nat → Nat → Int32) (B : Nat → Nat → Int64) (h : zCx k I G A B) (hk : k < 512) (hro : (ro 1).1 = 5 ∧ (ro 1).2 = zka) (a : Int32) (b : Int32) (c : Int32) : zWp ro 101 0 [(0, .ref 0), (1, .int a), (2, .int b), (3, .int c)] [] (hS I G A B) 0 0 (zPX ro 180 [(0, .ref 52), (1, .int a), (2, .int b), (3, .int c)] k (fun v w => v = w)) := by
  obtain ⟨nv, np, W, L, F, R, ow, kd, lw, lg⟩ := h
  have fn := F.2.2.2.2.2
  refine zWp.mono (cq_act ro nv np A W L (242600 * k) I G A B R F.2.1 ow F.2.2.1 kd lg (by omega) a b c) ?_
  rintro r h1 ⟨I1, G1, A1, B1, rfl, K1, rfl⟩
  have F1 := F.kq K1 fAc_52 pAc_52
  have e1 : PE A A1 := fun k _ _ => (K1.2.2.1 k (pAc_52 k (by omega))).symm
  have R1 := R.k K1 ⟨rfl, rfl⟩ (fun j h1 h2 => by simp only [fAc, decide_eq_false_iff_not]; omega) (fun k h1 h2 => by simp only [pAc, decide_eq_false_iff_not]; omega)
  have g1 := lg.k K1 rfl rfl rfl rfl rfl
  refine ⟨_, rfl, zWp.mono (mx_act ro nv np A W L I1 G1 A1 B1 (242600 * k) ⟨F1.1.1, e1.sy, F1.1.2.2⟩ F.2.1 F.2.2.1 (by omega) F1.2.2.2.1 F1.2.2.2.2.1 kd a b c) ?_⟩
  rintro r2 h2 ⟨I2, G2, A2, B2, rfl, K2, id2, rfl⟩
  have R2 := F1.1.k K2 fQu_R pQu_R
  refine ⟨_, rfl, ?_, rfl⟩
  exact zCx.mk (zRf.of R2 F1.2.1 F1.2.2.1 F1.2.2.2.1 id2 fn) (by omega) (by omega) R1 (e1.tr R2.2.1.sy) K2 fQu_c pQu_c ow kd lw g1
theorem pair2_actx (ro : UInt32 → Nat × (Nat → Int32)) (k : Nat) (I : Nat → Nat → Int32) (G : Nat → Nat → Int64) (A : Nat → Nat → Int32) (B : Nat → Nat → Int64) (h : zL2 k I G A B) (hk : k < 512) (hro : (ro 1).1 = 5 ∧ (ro 1).2 = zka) (a : Int32) (b : Int32) (c : Int32) : zWp ro 101 0 [(0, .ref 0), (1, .int a), (2, .int b), (3, .int c)] [] (hS I G A B) 0 0 (zP2 ro 180 [(0, .ref 52), (1, .int a), (2, .int b), (3, .int c)] k (fun v w => v = w)) := by
  obtain ⟨h1, I3, G3, A3, B3, eh, hx⟩ := h
  have p1 := pair_act ro k I G A B h1 hk hro a b c
  have p2 := pairX_actx ro k I3 G3 A3 B3 hx hk hro a b c
  rw [← eh] at p2
  exact zP_and p1 p2
