/-! ===== the trial works: the same contracts at base 22 ===== -/
set_option maxRecDepth 100000 in
set_option maxHeartbeats 0 in
theorem cx_isOpen_22 (ro : UInt32 → Nat × (Nat → Int32)) (nv np : Nat) (P : Nat → Nat → Int32) (W : qW) (I : Nat → Nat → Int32) (G : Nat → Nat → Int64) (A : Nat → Nat → Int32) (B : Nat → Nat → Int64) (hR : cRS 22 nv np P W I G A B) (hp : MPa nv np P) (hb : wBo W) (p : Nat) (hpp : p < 14) : zWp ro 43 0 [(0, .ref 23), (1, .int (nI p))] [] (hS I G A B) 0 0 (fun r h1 => h1 = hS I G A B ∧ r = some (.int (W.2.2.2.2.2.2.1 p))) := by
  refine zw_aload_n 1 f43_0 rfl rfl ?_
  refine zw_getI (I 23 5) 4 f43_1 rfl g43_38_9 (hb_23 _ _ _ _) rfl rfl ?_
  refine zw_iload_n 5 f43_4 rfl rfl ?_
  refine zw_ishr ((I 23 5) >>> ((nI p) &&& 31)) 6 f43_5 rfl rfl ?_
  refine zw_iconst 1 7 f43_6 rfl (by decide +kernel) ?_
  refine zw_iand (((I 23 5) >>> ((nI p) &&& 31)) &&& 1) 8 f43_7 rfl rfl ?_
  refine zw_if_eq 11 15 f43_8 (by decide +kernel) rfl (fun hc1 => ?_) (fun hc1 => ?_)
  · refine zw_iconst 0 16 f43_15 rfl (by decide +kernel) ?_
    refine zw_zreturn f43_16 r43 u43 (by decide +kernel) ?_
    have ev : (((I 23 5) >>> ((nI p) &&& 31)) &&& 1) = W.2.2.2.2.2.2.1 p := (bOf_at (by omega)).symm.trans (congrFun hR.2.2.2.2.2.1 p)
    exact ⟨rfl, by rw [← ev, hc1]⟩
  · refine zw_iconst 1 12 f43_11 rfl (by decide +kernel) ?_
    refine zw_goto 16 f43_12 (by decide +kernel) ?_
    refine zw_zreturn f43_16 r43 u43 (by decide +kernel) ?_
    have ev : (((I 23 5) >>> ((nI p) &&& 31)) &&& 1) = W.2.2.2.2.2.2.1 p := (bOf_at (by omega)).symm.trans (congrFun hR.2.2.2.2.2.1 p)
    exact ⟨rfl, by rw [(hb.1 p (by omega)).resolve_left (fun q => hc1 (ev.trans q))]⟩
set_option maxRecDepth 100000 in
set_option maxHeartbeats 0 in
theorem cx_isSiphoning_22 (ro : UInt32 → Nat × (Nat → Int32)) (nv np : Nat) (P : Nat → Nat → Int32) (W : qW) (I : Nat → Nat → Int32) (G : Nat → Nat → Int64) (A : Nat → Nat → Int32) (B : Nat → Nat → Int64) (hR : cRS 22 nv np P W I G A B) (hp : MPa nv np P) (hb : wBo W) (p : Nat) (hpp : p < 8) : zWp ro 45 0 [(0, .ref 23), (1, .int (nI p))] [] (hS I G A B) 0 0 (fun r h1 => h1 = hS I G A B ∧ r = some (.int (W.2.2.2.2.2.1 p))) := by
  refine zw_aload_n 1 f45_0 rfl rfl ?_
  refine zw_getI (I 23 6) 4 f45_1 rfl g45_42_9 (hb_23 _ _ _ _) rfl rfl ?_
  refine zw_iload_n 5 f45_4 rfl rfl ?_
  refine zw_ishr ((I 23 6) >>> ((nI p) &&& 31)) 6 f45_5 rfl rfl ?_
  refine zw_iconst 1 7 f45_6 rfl (by decide +kernel) ?_
  refine zw_iand (((I 23 6) >>> ((nI p) &&& 31)) &&& 1) 8 f45_7 rfl rfl ?_
  refine zw_if_eq 11 15 f45_8 (by decide +kernel) rfl (fun hc1 => ?_) (fun hc1 => ?_)
  · refine zw_iconst 0 16 f45_15 rfl (by decide +kernel) ?_
    refine zw_zreturn f45_16 r45 u45 (by decide +kernel) ?_
    have ev : (((I 23 6) >>> ((nI p) &&& 31)) &&& 1) = W.2.2.2.2.2.1 p := (bOf_at (by omega)).symm.trans (congrFun hR.2.2.2.2.1 p)
    exact ⟨rfl, by rw [← ev, hc1]⟩
  · refine zw_iconst 1 12 f45_11 rfl (by decide +kernel) ?_
    refine zw_goto 16 f45_12 (by decide +kernel) ?_
    refine zw_zreturn f45_16 r45 u45 (by decide +kernel) ?_
    have ev : (((I 23 6) >>> ((nI p) &&& 31)) &&& 1) = W.2.2.2.2.2.1 p := (bOf_at (by omega)).symm.trans (congrFun hR.2.2.2.2.1 p)
    exact ⟨rfl, by rw [(hb.2 p (by omega)).resolve_left (fun q => hc1 (ev.trans q))]⟩
set_option maxRecDepth 100000 in
set_option maxHeartbeats 0 in
theorem cx_runs_22 (ro : UInt32 → Nat × (Nat → Int32)) (nv np : Nat) (P : Nat → Nat → Int32) (W : qW) (I : Nat → Nat → Int32) (G : Nat → Nat → Int64) (A : Nat → Nat → Int32) (B : Nat → Nat → Int64) (hR : cRS 22 nv np P W I G A B) (hp : MPa nv np P) (hb : wBo W) (hq : qOw nv np P) (p : Nat) (hpp : p < np) : zWp ro 48 0 [(0, .ref 22), (1, .int (nI p))] [] (hS I G A B) 0 0 (fun r h1 => h1 = hS I G A B ∧ r = some (.int (wRun nv P W p))) := by
  have h8 := hp.1
  have h14 := hp.2.1
  refine zw_aload_n 1 f48_0 rfl rfl ?_
  refine zw_getfield 4 f48_1 rfl g48_37_10 (hb_22 _ _ _ _) rfl ?_
  refine zw_iload_n 5 f48_4 rfl rfl ?_
  refine zw_virtual_i 8 0 0 [.ref 1, .int (nI p)] [(0, .ref 1), (1, .int (nI p))] f48_5 rfl n48_41 k48_41_4 rfl (hb_1 _ _ _ _) (by decide +kernel) (Nat.le_of_ble_eq_true rfl) rfl rfl (by decide +kernel) (by decide +kernel) rfl (Nat.le_of_ble_eq_true rfl) rfl ?_
  refine zw_iload_n 1 f22_0 rfl rfl ?_
  refine zw_if_lt_f 4 10 f22_1 (by decide +kernel) rfl (nI_pos (by omega)) ?_
  refine zw_iload_n 5 f22_4 rfl rfl ?_
  refine zw_bipush 14 7 f22_5 rfl (by decide +kernel) ?_
  refine zw_ic_lt_t 12 f22_7 (by decide +kernel) (nI_ltl (n := 14) (by decide) (by omega) (by omega)) ?_
  refine zw_aload_n 13 f22_12 rfl rfl ?_
  refine zw_getfield 16 f22_13 rfl g22_33_4 (hb_1 _ _ _ _) rfl ?_
  refine zw_iload_n 17 f22_16 rfl rfl ?_
  rcases (hp.2.2.2 p (by omega)).2.2 with t1q | ⟨t1, t1n, t1q, t1t⟩
  · refine zw_iaload p (-1) 18 f22_17 rfl (hb_9 _ _ _ _) (nI_clamp (by omega)) (nI_pos (by omega)) (by omega) ((congrFun (hR.2.1 60 (by omega) (by omega)) p).trans t1q) ?_
    refine zw_istore_n _ 19 f22_18 rfl (by decide +kernel) rfl ?_
    refine zw_iload_n 20 f22_19 rfl zl1_eq ?_
    refine zw_if_lt_t 53 f22_20 (by decide +kernel) (by decide +kernel) ?_
    refine zw_iconst 0 54 f22_53 rfl (by decide +kernel) ?_
    refine zw_istore_n _ 55 f22_54 rfl (by decide +kernel) rfl ?_
    refine zw_iload_n 56 f22_55 rfl zl1_eq ?_
    refine zw_if_eq_t 63 f22_56 (by decide +kernel) (by decide +kernel) ?_
    refine zw_iconst (-1) 64 f22_63 rfl (by decide +kernel) ?_
    refine zw_ireturn f22_64 r22 u22 ⟨_, rfl, ?_⟩
    refine zw_istore_n _ 9 f48_8 rfl (by decide +kernel) rfl ?_
    refine zw_aload_n 10 f48_9 rfl (zl1_ne rfl rfl rfl) ?_
    refine zw_getfield 13 f48_10 rfl g48_12_10 (hb_22 _ _ _ _) rfl ?_
    refine zw_iload_n 14 f48_13 rfl (zl1_ne rfl rfl rfl) ?_
    refine zw_virtual_i 17 0 0 [.ref 23, .int (nI p)] [(0, .ref 23), (1, .int (nI p))] f48_14 rfl n48_47 k48_47_9 rfl (hb_23 _ _ _ _) (by decide +kernel) (Nat.le_of_ble_eq_true rfl) rfl rfl (by decide +kernel) (by decide +kernel) rfl (Nat.le_of_ble_eq_true rfl) rfl ?_
    refine zWp.mono (cx_isOpen_22 ro nv np P W _ _ _ _ hR hp hb p (by omega)) ?_
    rintro r h1 ⟨rfl, rfl⟩
    refine ⟨_, rfl, ?_⟩
    refine zw_if_eq 20 40 f48_17 (by decide +kernel) rfl (fun hc2 => ?_) (fun hc2 => ?_)
    · refine zw_iconst 0 41 f48_40 rfl (by decide +kernel) ?_
      refine zw_zreturn f48_41 r48 u48 (by decide +kernel) ?_
      exact ⟨rfl, by rw [show wRun nv P W p = _ from (wRun_o hc2)]⟩
    · refine zw_iload_n 21 f48_20 rfl zl1_eq ?_
      refine zw_iconst (-1) 22 f48_21 rfl (by decide +kernel) ?_
      refine zw_ic_eq_t 36 f48_22 (by decide +kernel) (by decide +kernel) ?_
      refine zw_iconst 1 37 f48_36 rfl (by decide +kernel) ?_
      refine zw_goto 41 f48_37 (by decide +kernel) ?_
      refine zw_zreturn f48_41 r48 u48 (by decide +kernel) ?_
      exact ⟨rfl, by rw [show wRun nv P W p = _ from (wRun_1 hq h14 hpp ((hb.1 p (by omega)).resolve_left hc2) (fun f _ z => absurd (z.symm.trans t1q) (nI_nem (by omega))))]⟩
  · refine zw_iaload p (nI t1) 18 f22_17 rfl (hb_9 _ _ _ _) (nI_clamp (by omega)) (nI_pos (by omega)) (by omega) ((congrFun (hR.2.1 60 (by omega) (by omega)) p).trans t1q) ?_
    refine zw_istore_n _ 19 f22_18 rfl (by decide +kernel) rfl ?_
    refine zw_iload_n 20 f22_19 rfl zl1_eq ?_
    refine zw_if_lt_f 23 53 f22_20 (by decide +kernel) rfl (nI_pos (by omega)) ?_
    refine zw_iload_n 24 f22_23 rfl zl1_eq ?_
    refine zw_bipush 8 26 f22_24 rfl (by decide +kernel) ?_
    refine zw_ic_ge_f 29 53 f22_26 (by decide +kernel) rfl (fun q => absurd (zn_ge (a := 8) (b := t1) (by omega) (by omega) q) (by omega)) ?_
    refine zw_aload_n 30 f22_29 rfl (zl1_ne rfl rfl rfl) ?_
    refine zw_getfield 33 f22_30 rfl g22_9_4 (hb_1 _ _ _ _) rfl ?_
    refine zw_iload_n 34 f22_33 rfl zl1_eq ?_
    refine zw_iaload t1 (P 53 t1) 35 f22_34 rfl (hb_2 _ _ _ _) (nI_clamp (by omega)) (nI_pos (by omega)) (by omega) (congrFun ((hR.2.1 53 (by omega) (by omega))) t1) ?_
    refine zw_iconst 1 36 f22_35 rfl (by decide +kernel) ?_
    refine zw_ic_ne 39 53 f22_36 (by decide +kernel) rfl (fun hc3 => ?_) (fun hc3 => ?_)
    · refine zw_iconst 0 54 f22_53 rfl (by decide +kernel) ?_
      refine zw_istore_n _ 55 f22_54 rfl (by decide +kernel) rfl ?_
      refine zw_iload_n 56 f22_55 rfl zl1_eq ?_
      refine zw_if_eq_t 63 f22_56 (by decide +kernel) (by decide +kernel) ?_
      refine zw_iconst (-1) 64 f22_63 rfl (by decide +kernel) ?_
      refine zw_ireturn f22_64 r22 u22 ⟨_, rfl, ?_⟩
      refine zw_istore_n _ 9 f48_8 rfl (by decide +kernel) rfl ?_
      refine zw_aload_n 10 f48_9 rfl (zl1_ne rfl rfl rfl) ?_
      refine zw_getfield 13 f48_10 rfl g48_12_10 (hb_22 _ _ _ _) rfl ?_
      refine zw_iload_n 14 f48_13 rfl (zl1_ne rfl rfl rfl) ?_
      refine zw_virtual_i 17 0 0 [.ref 23, .int (nI p)] [(0, .ref 23), (1, .int (nI p))] f48_14 rfl n48_47 k48_47_9 rfl (hb_23 _ _ _ _) (by decide +kernel) (Nat.le_of_ble_eq_true rfl) rfl rfl (by decide +kernel) (by decide +kernel) rfl (Nat.le_of_ble_eq_true rfl) rfl ?_
      refine zWp.mono (cx_isOpen_22 ro nv np P W _ _ _ _ hR hp hb p (by omega)) ?_
      rintro r h1 ⟨rfl, rfl⟩
      refine ⟨_, rfl, ?_⟩
      refine zw_if_eq 20 40 f48_17 (by decide +kernel) rfl (fun hc4 => ?_) (fun hc4 => ?_)
      · refine zw_iconst 0 41 f48_40 rfl (by decide +kernel) ?_
        refine zw_zreturn f48_41 r48 u48 (by decide +kernel) ?_
        exact ⟨rfl, by rw [show wRun nv P W p = _ from (wRun_o hc4)]⟩
      · refine zw_iload_n 21 f48_20 rfl zl1_eq ?_
        refine zw_iconst (-1) 22 f48_21 rfl (by decide +kernel) ?_
        refine zw_ic_eq_t 36 f48_22 (by decide +kernel) (by decide +kernel) ?_
        refine zw_iconst 1 37 f48_36 rfl (by decide +kernel) ?_
        refine zw_goto 41 f48_37 (by decide +kernel) ?_
        refine zw_zreturn f48_41 r48 u48 (by decide +kernel) ?_
        exact ⟨rfl, by rw [show wRun nv P W p = _ from (wRun_1 hq h14 hpp ((hb.1 p (by omega)).resolve_left hc4) (fun f hf z a1 a2 => by have ef : f = t1 := (nI_eq (by omega) (by omega)).mp (z.symm.trans t1q); subst ef; exact absurd a1 hc3))]⟩
    · refine zw_aload_n 40 f22_39 rfl (zl1_ne rfl rfl rfl) ?_
      refine zw_getfield 43 f22_40 rfl g22_24_4 (hb_1 _ _ _ _) rfl ?_
      refine zw_iload_n 44 f22_43 rfl zl1_eq ?_
      refine zw_iaload t1 (P 57 t1) 45 f22_44 rfl (hb_6 _ _ _ _) (nI_clamp (by omega)) (nI_pos (by omega)) (by omega) (congrFun ((hR.2.1 57 (by omega) (by omega))) t1) ?_
      refine zw_iload_n 46 f22_45 rfl (zl1_ne rfl rfl rfl) ?_
      refine zw_ic_ne 49 53 f22_46 (by decide +kernel) rfl (fun hc5 => ?_) (fun hc5 => ?_)
      · refine zw_iconst 0 54 f22_53 rfl (by decide +kernel) ?_
        refine zw_istore_n _ 55 f22_54 rfl (by decide +kernel) rfl ?_
        refine zw_iload_n 56 f22_55 rfl zl1_eq ?_
        refine zw_if_eq_t 63 f22_56 (by decide +kernel) (by decide +kernel) ?_
        refine zw_iconst (-1) 64 f22_63 rfl (by decide +kernel) ?_
        refine zw_ireturn f22_64 r22 u22 ⟨_, rfl, ?_⟩
        refine zw_istore_n _ 9 f48_8 rfl (by decide +kernel) rfl ?_
        refine zw_aload_n 10 f48_9 rfl (zl1_ne rfl rfl rfl) ?_
        refine zw_getfield 13 f48_10 rfl g48_12_10 (hb_22 _ _ _ _) rfl ?_
        refine zw_iload_n 14 f48_13 rfl (zl1_ne rfl rfl rfl) ?_
        refine zw_virtual_i 17 0 0 [.ref 23, .int (nI p)] [(0, .ref 23), (1, .int (nI p))] f48_14 rfl n48_47 k48_47_9 rfl (hb_23 _ _ _ _) (by decide +kernel) (Nat.le_of_ble_eq_true rfl) rfl rfl (by decide +kernel) (by decide +kernel) rfl (Nat.le_of_ble_eq_true rfl) rfl ?_
        refine zWp.mono (cx_isOpen_22 ro nv np P W _ _ _ _ hR hp hb p (by omega)) ?_
        rintro r h1 ⟨rfl, rfl⟩
        refine ⟨_, rfl, ?_⟩
        refine zw_if_eq 20 40 f48_17 (by decide +kernel) rfl (fun hc6 => ?_) (fun hc6 => ?_)
        · refine zw_iconst 0 41 f48_40 rfl (by decide +kernel) ?_
          refine zw_zreturn f48_41 r48 u48 (by decide +kernel) ?_
          exact ⟨rfl, by rw [show wRun nv P W p = _ from (wRun_o hc6)]⟩
        · refine zw_iload_n 21 f48_20 rfl zl1_eq ?_
          refine zw_iconst (-1) 22 f48_21 rfl (by decide +kernel) ?_
          refine zw_ic_eq_t 36 f48_22 (by decide +kernel) (by decide +kernel) ?_
          refine zw_iconst 1 37 f48_36 rfl (by decide +kernel) ?_
          refine zw_goto 41 f48_37 (by decide +kernel) ?_
          refine zw_zreturn f48_41 r48 u48 (by decide +kernel) ?_
          exact ⟨rfl, by rw [show wRun nv P W p = _ from (wRun_1 hq h14 hpp ((hb.1 p (by omega)).resolve_left hc6) (fun f hf z a1 a2 => by have ef : f = t1 := (nI_eq (by omega) (by omega)).mp (z.symm.trans t1q); subst ef; exact absurd a2 hc5))]⟩
      · refine zw_iconst 1 50 f22_49 rfl (by decide +kernel) ?_
        refine zw_goto 54 f22_50 (by decide +kernel) ?_
        refine zw_istore_n _ 55 f22_54 rfl (by decide +kernel) rfl ?_
        refine zw_iload_n 56 f22_55 rfl zl1_eq ?_
        refine zw_if_eq_f 59 63 f22_56 (by decide +kernel) rfl (by decide +kernel) ?_
        refine zw_iload_n 60 f22_59 rfl (zl1_ne rfl rfl zl1_eq) ?_
        refine zw_goto 64 f22_60 (by decide +kernel) ?_
        refine zw_ireturn f22_64 r22 u22 ⟨_, rfl, ?_⟩
        refine zw_istore_n _ 9 f48_8 rfl (by decide +kernel) rfl ?_
        refine zw_aload_n 10 f48_9 rfl (zl1_ne rfl rfl rfl) ?_
        refine zw_getfield 13 f48_10 rfl g48_12_10 (hb_22 _ _ _ _) rfl ?_
        refine zw_iload_n 14 f48_13 rfl (zl1_ne rfl rfl rfl) ?_
        refine zw_virtual_i 17 0 0 [.ref 23, .int (nI p)] [(0, .ref 23), (1, .int (nI p))] f48_14 rfl n48_47 k48_47_9 rfl (hb_23 _ _ _ _) (by decide +kernel) (Nat.le_of_ble_eq_true rfl) rfl rfl (by decide +kernel) (by decide +kernel) rfl (Nat.le_of_ble_eq_true rfl) rfl ?_
        refine zWp.mono (cx_isOpen_22 ro nv np P W _ _ _ _ hR hp hb p (by omega)) ?_
        rintro r h1 ⟨rfl, rfl⟩
        refine ⟨_, rfl, ?_⟩
        refine zw_if_eq 20 40 f48_17 (by decide +kernel) rfl (fun hc7 => ?_) (fun hc7 => ?_)
        · refine zw_iconst 0 41 f48_40 rfl (by decide +kernel) ?_
          refine zw_zreturn f48_41 r48 u48 (by decide +kernel) ?_
          exact ⟨rfl, by rw [show wRun nv P W p = _ from (wRun_o hc7)]⟩
        · refine zw_iload_n 21 f48_20 rfl zl1_eq ?_
          refine zw_iconst (-1) 22 f48_21 rfl (by decide +kernel) ?_
          refine zw_ic_eq_f 25 36 f48_22 (by decide +kernel) rfl (nI_nem (by omega)) ?_
          refine zw_aload_n 26 f48_25 rfl (zl1_ne rfl rfl rfl) ?_
          refine zw_getfield 29 f48_26 rfl g48_12_10 (hb_22 _ _ _ _) rfl ?_
          refine zw_iload_n 30 f48_29 rfl zl1_eq ?_
          refine zw_virtual_i 33 0 0 [.ref 23, .int (nI t1)] [(0, .ref 23), (1, .int (nI t1))] f48_30 rfl n48_51 k48_51_9 rfl (hb_23 _ _ _ _) (by decide +kernel) (Nat.le_of_ble_eq_true rfl) rfl rfl (by decide +kernel) (by decide +kernel) rfl (Nat.le_of_ble_eq_true rfl) rfl ?_
          refine zWp.mono (cx_isSiphoning_22 ro nv np P W _ _ _ _ hR hp hb t1 (by omega)) ?_
          rintro r h1 ⟨rfl, rfl⟩
          refine ⟨_, rfl, ?_⟩
          refine zw_if_eq 36 40 f48_33 (by decide +kernel) rfl (fun hc8 => ?_) (fun hc8 => ?_)
          · refine zw_iconst 0 41 f48_40 rfl (by decide +kernel) ?_
            refine zw_zreturn f48_41 r48 u48 (by decide +kernel) ?_
            exact ⟨rfl, by rw [show wRun nv P W p = _ from (wRun_s (by omega) (Decidable.of_not_not hc3) (Decidable.of_not_not hc5) hc8)]⟩
          · refine zw_iconst 1 37 f48_36 rfl (by decide +kernel) ?_
            refine zw_goto 41 f48_37 (by decide +kernel) ?_
            refine zw_zreturn f48_41 r48 u48 (by decide +kernel) ?_
            exact ⟨rfl, by rw [show wRun nv P W p = _ from (wRun_1 hq h14 hpp ((hb.1 p (by omega)).resolve_left hc7) (fun f hf z a1 a2 => by have ef : f = t1 := (nI_eq (by omega) (by omega)).mp (z.symm.trans t1q); subst ef; exact hc8))]⟩
set_option maxRecDepth 100000 in
set_option maxHeartbeats 0 in
theorem lcx_rv22_1 (ro : UInt32 → Nat × (Nat → Int32)) (nv np : Nat) (P : Nat → Nat → Int32) (W : qW) (T K : Int) (I : Nat → Nat → Int32) (G : Nat → Nat → Int64) (A : Nat → Nat → Int32) (B : Nat → Nat → Int64) (hR : cRS 22 nv np P W I G A B) (hp : MPa nv np P) (hb : wBo W) (hq : qOw nv np P) (hW : wOk nv T K P W) (v : Nat) (hv : v < nv) (s : (Nat → Int32) × Int32 × (Nat → Int32) × (Nat → Int32)) (hs : cRel 22 I A s v) (hz : s.2.2.2 v = 0) (hw : 0 < W.2.2.2.2.1 v) : ∀ (n k : Nat) (ls : List (Nat × Value)) (I1 : Nat → Nat → Int32) (G1 : Nat → Nat → Int64) (A1 : Nat → Nat → Int32) (B1 : Nat → Nat → Int64), KQ (fCr 22) (pCr 22) I G A B I1 G1 A1 B1 → ((∀ j, j < 8 → A1 27 j = (mRO (P 60) (P 61) (P 62) (wRun nv P W) (W.2.2.2.2.1 v) v (s.1, s.2.1, s.1 v, 0) k).1 j) ∧ I1 22 7 = (mRO (P 60) (P 61) (P 62) (wRun nv P W) (W.2.2.2.2.1 v) v (s.1, s.2.1, s.1 v, 0) k).2.1 ∧ A1 28 = A 28 ∧ A1 29 = A 29 ∧ I1 22 6 = I 22 6) → zld ls 0 = some (.ref 22) → zld ls 1 = some (.int (nI v)) → zld ls 2 = some (.int ((mRO (P 60) (P 61) (P 62) (wRun nv P W) (W.2.2.2.2.1 v) v (s.1, s.2.1, s.1 v, 0) k).2.2.1)) → zld ls 3 = some (.int 1) → zld ls 4 = some (.int (nI k)) → k ≤ np → np + 1 ≤ k + n → zWp ro 50 30 ls [] (hS I1 G1 A1 B1) 0 0 (fun r h1 => ∃ I2 G2 A2 B2, h1 = hS I2 G2 A2 B2 ∧ KQ (fCr 22) (pCr 22) I G A B I2 G2 A2 B2 ∧ (cRel 22 I2 A2 (mRateOf (P 60) (P 61) (P 62) (wRun nv P W) (P 59) (P 54) (W.2.2.2.2.1) W.1 np v s) (v + 1) ∧ I2 22 6 = I 22 6) ∧ r = none) := by
  have h8 := hp.1
  have h14 := hp.2.1
  have hto : ∀ p, p < np → P 60 p = nI v → mTo nv (v + 1) (P 61 p) := fun p h1 h2 => (MPa.e hp W (fun _ => 0) 0 0).ht v p hv h1 h2
  intro n
  induction n with
  | zero =>
    intro k ls I1 G1 A1 B1 _ _ _ _ _ _ _ a c
    exact absurd c (by omega)
  | succ n ih =>
    intro k ls I1 G1 A1 B1 K0 hr h0 h1 h2 h3 h4 hk1 hk2
    refine zw_iload 32 f50_30 rfl h4 ?_
    refine zw_aload_n 33 f50_32 rfl h0 ?_
    refine zw_getfield 36 f50_33 rfl g50_37_10 (hb_22 _ _ _ _) rfl ?_
    refine zw_getI (nI np) 39 f50_36 rfl g50_61_4 (hb_1 _ _ _ _) rfl ((K0.1 1 1 rfl).trans hR.1.2) ?_
    refine zw_ic_ge 42 148 f50_39 (by decide +kernel) rfl (fun hc1 => ?_) (fun hc1 => ?_)
    · have hn_hc1 : np ≤ k := zn_ge (by omega) (by omega) hc1
      refine zw_aload_n 149 f50_148 rfl h0 ?_
      refine zw_getfield 152 f50_149 rfl g50_25_10 (hb_22 _ _ _ _) rfl ?_
      refine zw_iload_n 153 f50_152 rfl h1 ?_
      refine zw_aload_n 154 f50_153 rfl h0 ?_
      refine zw_iload_n 155 f50_154 rfl h1 ?_
      refine zw_virtual_i 158 0 0 [.ref 22, .int (nI v)] [(0, .ref 22), (1, .int (nI v))] f50_155 rfl n50_97 k50_97_10 rfl (hb_22 _ _ _ _) (by decide +kernel) (Nat.le_of_ble_eq_true rfl) rfl rfl (by decide +kernel) (by decide +kernel) rfl (Nat.le_of_ble_eq_true rfl) rfl ?_
      refine zw_aload_n 1 f52_0 rfl rfl ?_
      refine zw_getfield 4 f52_1 rfl g52_12_10 (hb_22 _ _ _ _) rfl ?_
      refine zw_getfield 7 f52_4 rfl g52_87_9 (hb_23 _ _ _ _) rfl ?_
      refine zw_iload_n 8 f52_7 rfl rfl ?_
      refine zw_laload v ((W.2.2.2.2.1) v) 9 f52_8 rfl (hb_24 _ _ _ _) (nI_clamp (by omega)) (nI_pos (by omega)) (by omega) (congrFun (((K0.2.2.2 24 rfl).trans hR.2.2.2.1)) v) ?_
      refine zw_aload_n 10 f52_9 rfl rfl ?_
      refine zw_getfield 13 f52_10 rfl g52_37_10 (hb_22 _ _ _ _) rfl ?_
      refine zw_getfield 16 f52_13 rfl g52_106_4 (hb_1 _ _ _ _) rfl ?_
      refine zw_iload_n 17 f52_16 rfl rfl ?_
      refine zw_iaload v (P 54 v) 18 f52_17 rfl (hb_3 _ _ _ _) (nI_clamp (by omega)) (nI_pos (by omega)) (by omega) (congrFun (((K0.2.2.1 3 rfl).trans (hR.2.1 54 (by omega) (by omega)))) v) ?_
      refine zw_i2l (Int32.toInt64 (P 54 v)) 19 f52_18 rfl rfl ?_
      refine zw_aload_n 20 f52_19 rfl rfl ?_
      refine zw_getfield 23 f52_20 rfl g52_12_10 (hb_22 _ _ _ _) rfl ?_
      refine zw_getG W.1 26 f52_23 rfl g52_109_9 (hb_23 _ _ _ _) rfl ((K0.2.1 23 0 rfl).trans hR.2.2.1.1) ?_
      refine zw_lmul ((Int32.toInt64 (P 54 v)) * W.1) 27 f52_26 rfl rfl ?_
      refine zw_lcmp (lg_cmp ((W.2.2.2.2.1) v) ((Int32.toInt64 (P 54 v)) * W.1)) 28 f52_27 rfl rfl ?_
      refine zw_if_lt 31 35 f52_28 (by decide +kernel) rfl (fun hc2 => ?_) (fun hc2 => ?_)
      · refine zw_iconst 0 36 f52_35 rfl (by decide +kernel) ?_
        refine zw_zreturn f52_36 r52 u52 (by decide +kernel) ⟨_, rfl, ?_⟩
        refine zw_if_eq_t 169 f50_158 (by decide +kernel) (by decide +kernel) ?_
        refine zw_iconst 0 170 f50_169 rfl (by decide +kernel) ?_
        refine zw_ast v _ 171 f50_170 rfl (hb_29 _ _ _ _) (nI_clamp (by omega)) (nI_pos (by omega)) (by omega) (ha_29 _ _ _ _ _) ?_
        refine zw_aload_n 172 f50_171 rfl h0 ?_
        refine zw_getfield 175 f50_172 rfl g50_22_10 (hb_22 _ _ _ _) rfl ?_
        refine zw_iload_n 176 f50_175 rfl h1 ?_
        refine zw_iload_n 177 f50_176 rfl h2 ?_
        refine zw_aload_n 178 f50_177 rfl h0 ?_
        refine zw_getfield 181 f50_178 rfl g50_25_10 (hb_22 _ _ _ _) rfl ?_
        refine zw_iload_n 182 f50_181 rfl h1 ?_
        refine zw_iaload v 0 183 f50_182 rfl (hb_29 _ _ _ _) (nI_clamp (by omega)) (nI_pos (by omega)) (by omega) (if_pos rfl) ?_
        refine zw_isub (((mRO (P 60) (P 61) (P 62) (wRun nv P W) (W.2.2.2.2.1 v) v (s.1, s.2.1, s.1 v, 0) k).2.2.1) - 0) 184 f50_183 rfl rfl ?_
        refine zw_ast v _ 185 f50_184 rfl (hb_28 _ _ _ _) (nI_clamp (by omega)) (nI_pos (by omega)) (by omega) (ha_28 _ _ _ _ _) ?_
        refine zw_aload_n 186 f50_185 rfl h0 ?_
        refine zw_aload_n 187 f50_186 rfl h0 ?_
        refine zw_getfield 190 f50_187 rfl g50_37_10 (hb_22 _ _ _ _) rfl ?_
        refine zw_getfield 193 f50_190 rfl g50_100_4 (hb_1 _ _ _ _) rfl ?_
        refine zw_iload_n 194 f50_193 rfl h1 ?_
        rcases (hp.2.2.1 v (by omega)).2.2.2.2.2 with t3q | ⟨t3, t3l, t3n, t3q⟩
        · refine zw_iaload v (-1) 195 f50_194 rfl (hb_8 _ _ _ _) (nI_clamp (by omega)) (nI_pos (by omega)) (by omega) ((congrFun ((K0.2.2.1 8 rfl).trans (hR.2.1 59 (by omega) (by omega))) v).trans t3q) ?_
          refine zw_aload_n 196 f50_195 rfl h0 ?_
          refine zw_getfield 199 f50_196 rfl g50_25_10 (hb_22 _ _ _ _) rfl ?_
          refine zw_iload_n 200 f50_199 rfl h1 ?_
          refine zw_iaload v 0 201 f50_200 rfl (hb_29 _ _ _ _) (nI_clamp (by omega)) (nI_pos (by omega)) (by omega) (if_pos rfl) ?_
          refine zw_virtual_v 204 0 0 [.ref 22, .int (-1), .int 0] [(0, .ref 22), (1, .int (-1)), (2, .int 0)] f50_201 rfl n50_76 k50_76_10 rfl (hb_22 _ _ _ _) (by decide +kernel) (Nat.le_of_ble_eq_true rfl) rfl rfl (by decide +kernel) (by decide +kernel) rfl (Nat.le_of_ble_eq_true rfl) rfl ?_
          refine zw_aload_n 1 f51_0 rfl rfl ?_
          refine zw_getfield 4 f51_1 rfl g51_37_10 (hb_22 _ _ _ _) rfl ?_
          refine zw_iload_n 5 f51_4 rfl rfl ?_
          refine zw_virtual_i 8 0 0 [.ref 1, .int (-1)] [(0, .ref 1), (1, .int (-1))] f51_5 rfl n51_103 k51_103_4 rfl (hb_1 _ _ _ _) (by decide +kernel) (Nat.le_of_ble_eq_true rfl) rfl rfl (by decide +kernel) (by decide +kernel) rfl (Nat.le_of_ble_eq_true rfl) rfl ?_
          refine zw_iload_n 1 f13_0 rfl rfl ?_
          refine zw_if_lt_t 22 f13_1 (by decide +kernel) (by decide +kernel) ?_
          refine zw_iconst 0 23 f13_22 rfl (by decide +kernel) ?_
          refine zw_zreturn f13_23 r13 u13 (by decide +kernel) ⟨_, rfl, ?_⟩
          refine zw_if_eq_t 24 f51_8 (by decide +kernel) (by decide +kernel) ?_
          refine zw_aload_n 25 f51_24 rfl rfl ?_
          refine zw_dup 26 f51_25 rfl rfl ?_
          refine zw_getI (I1 22 7) 29 f51_26 rfl g51_58_10 (hb_22 _ _ _ _) rfl rfl ?_
          refine zw_iload_n 30 f51_29 rfl rfl ?_
          refine zw_iadd ((I1 22 7) + 0) 31 f51_30 rfl rfl ?_
          refine zw_put _ 34 f51_31 rfl g51_58_10 (hb_22 _ _ _ _) rfl (Nat.le_of_ble_eq_true rfl) (by decide +kernel) (hi_22_7 _ _ _ _ _) ?_
          refine zw_vreturn f51_34 r51 u51 ⟨rfl, ?_⟩
          refine zw_vreturn f50_204 r50 u50 ?_
          have hk : k = np := by omega
          have hE : (mRO (P 60) (P 61) (P 62) (wRun nv P W) (W.2.2.2.2.1 v) v (s.1, s.2.1, s.1 v, 0) np) = (mRO (P 60) (P 61) (P 62) (wRun nv P W) (W.2.2.2.2.1 v) v (s.1, s.2.1, s.1 v, 0) k) := by rw [hk]
          have EL := (mRO_left (nv := nv) (np := np) (frm := P 60) (too := P 61) (amt := P 62) (run := (wRun nv P W)) (lev := W.2.2.2.2.1 v) (v := v) (s := s) h8 (fun p hpp z => hto p hpp z) k (by omega)).2
          have E := mRateOf_n (over := P 59) (brim := P 54) (g := W.1) (lev := W.2.2.2.2.1) (s := s) hE (fun q => absurd ((lg_cmp_lt _ _).mp hc2) (by rw [show W.2.2.2.2.1 v = _ from q.2]; exact i64_irr))
          rw [← EL] at E
          refine ⟨_, _, _, _, rfl, (KQ.i rfl (KQ.a rfl (KQ.a rfl K0))), ⟨?_, hr.2.2.2.2⟩, rfl⟩
          rw [E]
          exact ⟨hr.1, (Int32.add_zero _).trans hr.2.1, mC_n (fun j hj => (congrFun hr.2.2.1 j).trans (hs.2.2.1 j hj)) (Int32.sub_zero _), mC_k (fun j hj => (congrFun hr.2.2.2.1 j).trans (hs.2.2.2 j hj)) hz.symm⟩
        · refine zw_iaload v (nI t3) 195 f50_194 rfl (hb_8 _ _ _ _) (nI_clamp (by omega)) (nI_pos (by omega)) (by omega) ((congrFun ((K0.2.2.1 8 rfl).trans (hR.2.1 59 (by omega) (by omega))) v).trans t3q) ?_
          refine zw_aload_n 196 f50_195 rfl h0 ?_
          refine zw_getfield 199 f50_196 rfl g50_25_10 (hb_22 _ _ _ _) rfl ?_
          refine zw_iload_n 200 f50_199 rfl h1 ?_
          refine zw_iaload v 0 201 f50_200 rfl (hb_29 _ _ _ _) (nI_clamp (by omega)) (nI_pos (by omega)) (by omega) (if_pos rfl) ?_
          refine zw_virtual_v 204 0 0 [.ref 22, .int (nI t3), .int 0] [(0, .ref 22), (1, .int (nI t3)), (2, .int 0)] f50_201 rfl n50_76 k50_76_10 rfl (hb_22 _ _ _ _) (by decide +kernel) (Nat.le_of_ble_eq_true rfl) rfl rfl (by decide +kernel) (by decide +kernel) rfl (Nat.le_of_ble_eq_true rfl) rfl ?_
          refine zw_aload_n 1 f51_0 rfl rfl ?_
          refine zw_getfield 4 f51_1 rfl g51_37_10 (hb_22 _ _ _ _) rfl ?_
          refine zw_iload_n 5 f51_4 rfl rfl ?_
          refine zw_virtual_i 8 0 0 [.ref 1, .int (nI t3)] [(0, .ref 1), (1, .int (nI t3))] f51_5 rfl n51_103 k51_103_4 rfl (hb_1 _ _ _ _) (by decide +kernel) (Nat.le_of_ble_eq_true rfl) rfl rfl (by decide +kernel) (by decide +kernel) rfl (Nat.le_of_ble_eq_true rfl) rfl ?_
          refine zw_iload_n 1 f13_0 rfl rfl ?_
          refine zw_if_lt_f 4 22 f13_1 (by decide +kernel) rfl (nI_pos (by omega)) ?_
          refine zw_iload_n 5 f13_4 rfl rfl ?_
          refine zw_aload_n 6 f13_5 rfl rfl ?_
          refine zw_getI (nI nv) 9 f13_6 rfl g13_39_4 (hb_1 _ _ _ _) rfl ((K0.1 1 0 rfl).trans hR.1.1) ?_
          refine zw_ic_ge_f 12 22 f13_9 (by decide +kernel) rfl (fun q => absurd (zn_ge (a := nv) (b := t3) (by omega) (by omega) q) (by omega)) ?_
          refine zw_iload_n 13 f13_12 rfl rfl ?_
          refine zw_bipush 8 15 f13_13 rfl (by decide +kernel) ?_
          refine zw_ic_ge_f 18 22 f13_15 (by decide +kernel) rfl (fun q => absurd (zn_ge (a := 8) (b := t3) (by omega) (by omega) q) (by omega)) ?_
          refine zw_iconst 1 19 f13_18 rfl (by decide +kernel) ?_
          refine zw_goto 23 f13_19 (by decide +kernel) ?_
          refine zw_zreturn f13_23 r13 u13 (by decide +kernel) ⟨_, rfl, ?_⟩
          refine zw_if_eq_f 11 24 f51_8 (by decide +kernel) rfl (by decide +kernel) ?_
          refine zw_aload_n 12 f51_11 rfl rfl ?_
          refine zw_getfield 15 f51_12 rfl g51_18_10 (hb_22 _ _ _ _) rfl ?_
          refine zw_iload_n 16 f51_15 rfl rfl ?_
          refine zw_dup2 17 f51_16 rfl rfl rfl ?_
          refine zw_iaload t3 (A1 27 t3) 18 f51_17 rfl (hb_27 _ _ _ _) (nI_clamp (by omega)) (nI_pos (by omega)) (by omega) rfl ?_
          refine zw_iload_n 19 f51_18 rfl rfl ?_
          refine zw_iadd ((A1 27 t3) + 0) 20 f51_19 rfl rfl ?_
          refine zw_ast t3 _ 21 f51_20 rfl (hb_27 _ _ _ _) (nI_clamp (by omega)) (nI_pos (by omega)) (by omega) (ha_27 _ _ _ _ _) ?_
          refine zw_goto 34 f51_21 (by decide +kernel) ?_
          refine zw_vreturn f51_34 r51 u51 ⟨rfl, ?_⟩
          refine zw_vreturn f50_204 r50 u50 ?_
          have hk : k = np := by omega
          have hE : (mRO (P 60) (P 61) (P 62) (wRun nv P W) (W.2.2.2.2.1 v) v (s.1, s.2.1, s.1 v, 0) np) = (mRO (P 60) (P 61) (P 62) (wRun nv P W) (W.2.2.2.2.1 v) v (s.1, s.2.1, s.1 v, 0) k) := by rw [hk]
          have EL := (mRO_left (nv := nv) (np := np) (frm := P 60) (too := P 61) (amt := P 62) (run := (wRun nv P W)) (lev := W.2.2.2.2.1 v) (v := v) (s := s) h8 (fun p hpp z => hto p hpp z) k (by omega)).2
          have E := mRateOf_n (over := P 59) (brim := P 54) (g := W.1) (lev := W.2.2.2.2.1) (s := s) hE (fun q => absurd ((lg_cmp_lt _ _).mp hc2) (by rw [show W.2.2.2.2.1 v = _ from q.2]; exact i64_irr))
          rw [← EL] at E
          refine ⟨_, _, _, _, rfl, (KQ.a rfl (KQ.a rfl (KQ.a rfl K0))), ⟨?_, hr.2.2.2.2⟩, rfl⟩
          rw [E]
          exact ⟨mC_0 hr.1, hr.2.1, mC_n (fun j hj => (congrFun hr.2.2.1 j).trans (hs.2.2.1 j hj)) (Int32.sub_zero _), mC_k (fun j hj => (congrFun hr.2.2.2.1 j).trans (hs.2.2.2 j hj)) hz.symm⟩
      · refine zw_iconst 1 32 f52_31 rfl (by decide +kernel) ?_
        refine zw_goto 36 f52_32 (by decide +kernel) ?_
        refine zw_zreturn f52_36 r52 u52 (by decide +kernel) ⟨_, rfl, ?_⟩
        refine zw_if_eq_f 161 169 f50_158 (by decide +kernel) rfl (by decide +kernel) ?_
        refine zw_iload_n 162 f50_161 rfl h2 ?_
        refine zw_if_le 165 169 f50_162 (by decide +kernel) rfl (fun hc4 => ?_) (fun hc4 => ?_)
        · refine zw_iconst 0 170 f50_169 rfl (by decide +kernel) ?_
          refine zw_ast v _ 171 f50_170 rfl (hb_29 _ _ _ _) (nI_clamp (by omega)) (nI_pos (by omega)) (by omega) (ha_29 _ _ _ _ _) ?_
          refine zw_aload_n 172 f50_171 rfl h0 ?_
          refine zw_getfield 175 f50_172 rfl g50_22_10 (hb_22 _ _ _ _) rfl ?_
          refine zw_iload_n 176 f50_175 rfl h1 ?_
          refine zw_iload_n 177 f50_176 rfl h2 ?_
          refine zw_aload_n 178 f50_177 rfl h0 ?_
          refine zw_getfield 181 f50_178 rfl g50_25_10 (hb_22 _ _ _ _) rfl ?_
          refine zw_iload_n 182 f50_181 rfl h1 ?_
          refine zw_iaload v 0 183 f50_182 rfl (hb_29 _ _ _ _) (nI_clamp (by omega)) (nI_pos (by omega)) (by omega) (if_pos rfl) ?_
          refine zw_isub (((mRO (P 60) (P 61) (P 62) (wRun nv P W) (W.2.2.2.2.1 v) v (s.1, s.2.1, s.1 v, 0) k).2.2.1) - 0) 184 f50_183 rfl rfl ?_
          refine zw_ast v _ 185 f50_184 rfl (hb_28 _ _ _ _) (nI_clamp (by omega)) (nI_pos (by omega)) (by omega) (ha_28 _ _ _ _ _) ?_
          refine zw_aload_n 186 f50_185 rfl h0 ?_
          refine zw_aload_n 187 f50_186 rfl h0 ?_
          refine zw_getfield 190 f50_187 rfl g50_37_10 (hb_22 _ _ _ _) rfl ?_
          refine zw_getfield 193 f50_190 rfl g50_100_4 (hb_1 _ _ _ _) rfl ?_
          refine zw_iload_n 194 f50_193 rfl h1 ?_
          rcases (hp.2.2.1 v (by omega)).2.2.2.2.2 with t5q | ⟨t5, t5l, t5n, t5q⟩
          · refine zw_iaload v (-1) 195 f50_194 rfl (hb_8 _ _ _ _) (nI_clamp (by omega)) (nI_pos (by omega)) (by omega) ((congrFun ((K0.2.2.1 8 rfl).trans (hR.2.1 59 (by omega) (by omega))) v).trans t5q) ?_
            refine zw_aload_n 196 f50_195 rfl h0 ?_
            refine zw_getfield 199 f50_196 rfl g50_25_10 (hb_22 _ _ _ _) rfl ?_
            refine zw_iload_n 200 f50_199 rfl h1 ?_
            refine zw_iaload v 0 201 f50_200 rfl (hb_29 _ _ _ _) (nI_clamp (by omega)) (nI_pos (by omega)) (by omega) (if_pos rfl) ?_
            refine zw_virtual_v 204 0 0 [.ref 22, .int (-1), .int 0] [(0, .ref 22), (1, .int (-1)), (2, .int 0)] f50_201 rfl n50_76 k50_76_10 rfl (hb_22 _ _ _ _) (by decide +kernel) (Nat.le_of_ble_eq_true rfl) rfl rfl (by decide +kernel) (by decide +kernel) rfl (Nat.le_of_ble_eq_true rfl) rfl ?_
            refine zw_aload_n 1 f51_0 rfl rfl ?_
            refine zw_getfield 4 f51_1 rfl g51_37_10 (hb_22 _ _ _ _) rfl ?_
            refine zw_iload_n 5 f51_4 rfl rfl ?_
            refine zw_virtual_i 8 0 0 [.ref 1, .int (-1)] [(0, .ref 1), (1, .int (-1))] f51_5 rfl n51_103 k51_103_4 rfl (hb_1 _ _ _ _) (by decide +kernel) (Nat.le_of_ble_eq_true rfl) rfl rfl (by decide +kernel) (by decide +kernel) rfl (Nat.le_of_ble_eq_true rfl) rfl ?_
            refine zw_iload_n 1 f13_0 rfl rfl ?_
            refine zw_if_lt_t 22 f13_1 (by decide +kernel) (by decide +kernel) ?_
            refine zw_iconst 0 23 f13_22 rfl (by decide +kernel) ?_
            refine zw_zreturn f13_23 r13 u13 (by decide +kernel) ⟨_, rfl, ?_⟩
            refine zw_if_eq_t 24 f51_8 (by decide +kernel) (by decide +kernel) ?_
            refine zw_aload_n 25 f51_24 rfl rfl ?_
            refine zw_dup 26 f51_25 rfl rfl ?_
            refine zw_getI (I1 22 7) 29 f51_26 rfl g51_58_10 (hb_22 _ _ _ _) rfl rfl ?_
            refine zw_iload_n 30 f51_29 rfl rfl ?_
            refine zw_iadd ((I1 22 7) + 0) 31 f51_30 rfl rfl ?_
            refine zw_put _ 34 f51_31 rfl g51_58_10 (hb_22 _ _ _ _) rfl (Nat.le_of_ble_eq_true rfl) (by decide +kernel) (hi_22_7 _ _ _ _ _) ?_
            refine zw_vreturn f51_34 r51 u51 ⟨rfl, ?_⟩
            refine zw_vreturn f50_204 r50 u50 ?_
            have hk : k = np := by omega
            have hE : (mRO (P 60) (P 61) (P 62) (wRun nv P W) (W.2.2.2.2.1 v) v (s.1, s.2.1, s.1 v, 0) np) = (mRO (P 60) (P 61) (P 62) (wRun nv P W) (W.2.2.2.2.1 v) v (s.1, s.2.1, s.1 v, 0) k) := by rw [hk]
            have EL := (mRO_left (nv := nv) (np := np) (frm := P 60) (too := P 61) (amt := P 62) (run := (wRun nv P W)) (lev := W.2.2.2.2.1 v) (v := v) (s := s) h8 (fun p hpp z => hto p hpp z) k (by omega)).2
            have E := mRateOf_n (over := P 59) (brim := P 54) (g := W.1) (lev := W.2.2.2.2.1) (s := s) hE (fun q => absurd q.1 (by rw [← EL]; exact Int32.not_lt.mpr hc4))
            rw [← EL] at E
            refine ⟨_, _, _, _, rfl, (KQ.i rfl (KQ.a rfl (KQ.a rfl K0))), ⟨?_, hr.2.2.2.2⟩, rfl⟩
            rw [E]
            exact ⟨hr.1, (Int32.add_zero _).trans hr.2.1, mC_n (fun j hj => (congrFun hr.2.2.1 j).trans (hs.2.2.1 j hj)) (Int32.sub_zero _), mC_k (fun j hj => (congrFun hr.2.2.2.1 j).trans (hs.2.2.2 j hj)) hz.symm⟩
          · refine zw_iaload v (nI t5) 195 f50_194 rfl (hb_8 _ _ _ _) (nI_clamp (by omega)) (nI_pos (by omega)) (by omega) ((congrFun ((K0.2.2.1 8 rfl).trans (hR.2.1 59 (by omega) (by omega))) v).trans t5q) ?_
            refine zw_aload_n 196 f50_195 rfl h0 ?_
            refine zw_getfield 199 f50_196 rfl g50_25_10 (hb_22 _ _ _ _) rfl ?_
            refine zw_iload_n 200 f50_199 rfl h1 ?_
            refine zw_iaload v 0 201 f50_200 rfl (hb_29 _ _ _ _) (nI_clamp (by omega)) (nI_pos (by omega)) (by omega) (if_pos rfl) ?_
            refine zw_virtual_v 204 0 0 [.ref 22, .int (nI t5), .int 0] [(0, .ref 22), (1, .int (nI t5)), (2, .int 0)] f50_201 rfl n50_76 k50_76_10 rfl (hb_22 _ _ _ _) (by decide +kernel) (Nat.le_of_ble_eq_true rfl) rfl rfl (by decide +kernel) (by decide +kernel) rfl (Nat.le_of_ble_eq_true rfl) rfl ?_
            refine zw_aload_n 1 f51_0 rfl rfl ?_
            refine zw_getfield 4 f51_1 rfl g51_37_10 (hb_22 _ _ _ _) rfl ?_
            refine zw_iload_n 5 f51_4 rfl rfl ?_
            refine zw_virtual_i 8 0 0 [.ref 1, .int (nI t5)] [(0, .ref 1), (1, .int (nI t5))] f51_5 rfl n51_103 k51_103_4 rfl (hb_1 _ _ _ _) (by decide +kernel) (Nat.le_of_ble_eq_true rfl) rfl rfl (by decide +kernel) (by decide +kernel) rfl (Nat.le_of_ble_eq_true rfl) rfl ?_
            refine zw_iload_n 1 f13_0 rfl rfl ?_
            refine zw_if_lt_f 4 22 f13_1 (by decide +kernel) rfl (nI_pos (by omega)) ?_
            refine zw_iload_n 5 f13_4 rfl rfl ?_
            refine zw_aload_n 6 f13_5 rfl rfl ?_
            refine zw_getI (nI nv) 9 f13_6 rfl g13_39_4 (hb_1 _ _ _ _) rfl ((K0.1 1 0 rfl).trans hR.1.1) ?_
            refine zw_ic_ge_f 12 22 f13_9 (by decide +kernel) rfl (fun q => absurd (zn_ge (a := nv) (b := t5) (by omega) (by omega) q) (by omega)) ?_
            refine zw_iload_n 13 f13_12 rfl rfl ?_
            refine zw_bipush 8 15 f13_13 rfl (by decide +kernel) ?_
            refine zw_ic_ge_f 18 22 f13_15 (by decide +kernel) rfl (fun q => absurd (zn_ge (a := 8) (b := t5) (by omega) (by omega) q) (by omega)) ?_
            refine zw_iconst 1 19 f13_18 rfl (by decide +kernel) ?_
            refine zw_goto 23 f13_19 (by decide +kernel) ?_
            refine zw_zreturn f13_23 r13 u13 (by decide +kernel) ⟨_, rfl, ?_⟩
            refine zw_if_eq_f 11 24 f51_8 (by decide +kernel) rfl (by decide +kernel) ?_
            refine zw_aload_n 12 f51_11 rfl rfl ?_
            refine zw_getfield 15 f51_12 rfl g51_18_10 (hb_22 _ _ _ _) rfl ?_
            refine zw_iload_n 16 f51_15 rfl rfl ?_
            refine zw_dup2 17 f51_16 rfl rfl rfl ?_
            refine zw_iaload t5 (A1 27 t5) 18 f51_17 rfl (hb_27 _ _ _ _) (nI_clamp (by omega)) (nI_pos (by omega)) (by omega) rfl ?_
            refine zw_iload_n 19 f51_18 rfl rfl ?_
            refine zw_iadd ((A1 27 t5) + 0) 20 f51_19 rfl rfl ?_
            refine zw_ast t5 _ 21 f51_20 rfl (hb_27 _ _ _ _) (nI_clamp (by omega)) (nI_pos (by omega)) (by omega) (ha_27 _ _ _ _ _) ?_
            refine zw_goto 34 f51_21 (by decide +kernel) ?_
            refine zw_vreturn f51_34 r51 u51 ⟨rfl, ?_⟩
            refine zw_vreturn f50_204 r50 u50 ?_
            have hk : k = np := by omega
            have hE : (mRO (P 60) (P 61) (P 62) (wRun nv P W) (W.2.2.2.2.1 v) v (s.1, s.2.1, s.1 v, 0) np) = (mRO (P 60) (P 61) (P 62) (wRun nv P W) (W.2.2.2.2.1 v) v (s.1, s.2.1, s.1 v, 0) k) := by rw [hk]
            have EL := (mRO_left (nv := nv) (np := np) (frm := P 60) (too := P 61) (amt := P 62) (run := (wRun nv P W)) (lev := W.2.2.2.2.1 v) (v := v) (s := s) h8 (fun p hpp z => hto p hpp z) k (by omega)).2
            have E := mRateOf_n (over := P 59) (brim := P 54) (g := W.1) (lev := W.2.2.2.2.1) (s := s) hE (fun q => absurd q.1 (by rw [← EL]; exact Int32.not_lt.mpr hc4))
            rw [← EL] at E
            refine ⟨_, _, _, _, rfl, (KQ.a rfl (KQ.a rfl (KQ.a rfl K0))), ⟨?_, hr.2.2.2.2⟩, rfl⟩
            rw [E]
            exact ⟨mC_0 hr.1, hr.2.1, mC_n (fun j hj => (congrFun hr.2.2.1 j).trans (hs.2.2.1 j hj)) (Int32.sub_zero _), mC_k (fun j hj => (congrFun hr.2.2.2.1 j).trans (hs.2.2.2 j hj)) hz.symm⟩
        · refine zw_iload_n 166 f50_165 rfl h2 ?_
          refine zw_goto 170 f50_166 (by decide +kernel) ?_
          refine zw_ast v _ 171 f50_170 rfl (hb_29 _ _ _ _) (nI_clamp (by omega)) (nI_pos (by omega)) (by omega) (ha_29 _ _ _ _ _) ?_
          refine zw_aload_n 172 f50_171 rfl h0 ?_
          refine zw_getfield 175 f50_172 rfl g50_22_10 (hb_22 _ _ _ _) rfl ?_
          refine zw_iload_n 176 f50_175 rfl h1 ?_
          refine zw_iload_n 177 f50_176 rfl h2 ?_
          refine zw_aload_n 178 f50_177 rfl h0 ?_
          refine zw_getfield 181 f50_178 rfl g50_25_10 (hb_22 _ _ _ _) rfl ?_
          refine zw_iload_n 182 f50_181 rfl h1 ?_
          refine zw_iaload v ((mRO (P 60) (P 61) (P 62) (wRun nv P W) (W.2.2.2.2.1 v) v (s.1, s.2.1, s.1 v, 0) k).2.2.1) 183 f50_182 rfl (hb_29 _ _ _ _) (nI_clamp (by omega)) (nI_pos (by omega)) (by omega) (if_pos rfl) ?_
          refine zw_isub (((mRO (P 60) (P 61) (P 62) (wRun nv P W) (W.2.2.2.2.1 v) v (s.1, s.2.1, s.1 v, 0) k).2.2.1) - ((mRO (P 60) (P 61) (P 62) (wRun nv P W) (W.2.2.2.2.1 v) v (s.1, s.2.1, s.1 v, 0) k).2.2.1)) 184 f50_183 rfl rfl ?_
          refine zw_ast v _ 185 f50_184 rfl (hb_28 _ _ _ _) (nI_clamp (by omega)) (nI_pos (by omega)) (by omega) (ha_28 _ _ _ _ _) ?_
          refine zw_aload_n 186 f50_185 rfl h0 ?_
          refine zw_aload_n 187 f50_186 rfl h0 ?_
          refine zw_getfield 190 f50_187 rfl g50_37_10 (hb_22 _ _ _ _) rfl ?_
          refine zw_getfield 193 f50_190 rfl g50_100_4 (hb_1 _ _ _ _) rfl ?_
          refine zw_iload_n 194 f50_193 rfl h1 ?_
          rcases (hp.2.2.1 v (by omega)).2.2.2.2.2 with t6q | ⟨t6, t6l, t6n, t6q⟩
          · refine zw_iaload v (-1) 195 f50_194 rfl (hb_8 _ _ _ _) (nI_clamp (by omega)) (nI_pos (by omega)) (by omega) ((congrFun ((K0.2.2.1 8 rfl).trans (hR.2.1 59 (by omega) (by omega))) v).trans t6q) ?_
            refine zw_aload_n 196 f50_195 rfl h0 ?_
            refine zw_getfield 199 f50_196 rfl g50_25_10 (hb_22 _ _ _ _) rfl ?_
            refine zw_iload_n 200 f50_199 rfl h1 ?_
            refine zw_iaload v ((mRO (P 60) (P 61) (P 62) (wRun nv P W) (W.2.2.2.2.1 v) v (s.1, s.2.1, s.1 v, 0) k).2.2.1) 201 f50_200 rfl (hb_29 _ _ _ _) (nI_clamp (by omega)) (nI_pos (by omega)) (by omega) (if_pos rfl) ?_
            refine zw_virtual_v 204 0 0 [.ref 22, .int (-1), .int ((mRO (P 60) (P 61) (P 62) (wRun nv P W) (W.2.2.2.2.1 v) v (s.1, s.2.1, s.1 v, 0) k).2.2.1)] [(0, .ref 22), (1, .int (-1)), (2, .int ((mRO (P 60) (P 61) (P 62) (wRun nv P W) (W.2.2.2.2.1 v) v (s.1, s.2.1, s.1 v, 0) k).2.2.1))] f50_201 rfl n50_76 k50_76_10 rfl (hb_22 _ _ _ _) (by decide +kernel) (Nat.le_of_ble_eq_true rfl) rfl rfl (by decide +kernel) (by decide +kernel) rfl (Nat.le_of_ble_eq_true rfl) rfl ?_
            refine zw_aload_n 1 f51_0 rfl rfl ?_
            refine zw_getfield 4 f51_1 rfl g51_37_10 (hb_22 _ _ _ _) rfl ?_
            refine zw_iload_n 5 f51_4 rfl rfl ?_
            refine zw_virtual_i 8 0 0 [.ref 1, .int (-1)] [(0, .ref 1), (1, .int (-1))] f51_5 rfl n51_103 k51_103_4 rfl (hb_1 _ _ _ _) (by decide +kernel) (Nat.le_of_ble_eq_true rfl) rfl rfl (by decide +kernel) (by decide +kernel) rfl (Nat.le_of_ble_eq_true rfl) rfl ?_
            refine zw_iload_n 1 f13_0 rfl rfl ?_
            refine zw_if_lt_t 22 f13_1 (by decide +kernel) (by decide +kernel) ?_
            refine zw_iconst 0 23 f13_22 rfl (by decide +kernel) ?_
            refine zw_zreturn f13_23 r13 u13 (by decide +kernel) ⟨_, rfl, ?_⟩
            refine zw_if_eq_t 24 f51_8 (by decide +kernel) (by decide +kernel) ?_
            refine zw_aload_n 25 f51_24 rfl rfl ?_
            refine zw_dup 26 f51_25 rfl rfl ?_
            refine zw_getI (I1 22 7) 29 f51_26 rfl g51_58_10 (hb_22 _ _ _ _) rfl rfl ?_
            refine zw_iload_n 30 f51_29 rfl rfl ?_
            refine zw_iadd ((I1 22 7) + ((mRO (P 60) (P 61) (P 62) (wRun nv P W) (W.2.2.2.2.1 v) v (s.1, s.2.1, s.1 v, 0) k).2.2.1)) 31 f51_30 rfl rfl ?_
            refine zw_put _ 34 f51_31 rfl g51_58_10 (hb_22 _ _ _ _) rfl (Nat.le_of_ble_eq_true rfl) (by decide +kernel) (hi_22_7 _ _ _ _ _) ?_
            refine zw_vreturn f51_34 r51 u51 ⟨rfl, ?_⟩
            refine zw_vreturn f50_204 r50 u50 ?_
            have hk : k = np := by omega
            have hE : (mRO (P 60) (P 61) (P 62) (wRun nv P W) (W.2.2.2.2.1 v) v (s.1, s.2.1, s.1 v, 0) np) = (mRO (P 60) (P 61) (P 62) (wRun nv P W) (W.2.2.2.2.1 v) v (s.1, s.2.1, s.1 v, 0) k) := by rw [hk]
            have EL := (mRO_left (nv := nv) (np := np) (frm := P 60) (too := P 61) (amt := P 62) (run := (wRun nv P W)) (lev := W.2.2.2.2.1 v) (v := v) (s := s) h8 (fun p hpp z => hto p hpp z) k (by omega)).2
            have hx : 0 < ((mRO (P 60) (P 61) (P 62) (wRun nv P W) (W.2.2.2.2.1 v) v (s.1, s.2.1, s.1 v, 0) k).1 v - (mRO (P 60) (P 61) (P 62) (wRun nv P W) (W.2.2.2.2.1 v) v (s.1, s.2.1, s.1 v, 0) k).2.2.2) := by rw [← EL]; exact Int32.not_le.mp hc4
            have E := mRateOf_y (over := P 59) (brim := P 54) (g := W.1) (lev := W.2.2.2.2.1) (s := s) (-1) t6q hE hx (full_eq hp hW hv (Int64.not_lt.mpr (Int64.not_lt.mp (fun q => hc2 ((lg_cmp_lt _ _).mpr q)))))
            rw [← EL] at E
            rw [mGoC_m, mGoD_m] at E
            refine ⟨_, _, _, _, rfl, (KQ.i rfl (KQ.a rfl (KQ.a rfl K0))), ⟨?_, hr.2.2.2.2⟩, rfl⟩
            rw [E]
            exact ⟨hr.1, congrArg (fun z => z + ((mRO (P 60) (P 61) (P 62) (wRun nv P W) (W.2.2.2.2.1 v) v (s.1, s.2.1, s.1 v, 0) k).2.2.1)) hr.2.1, mC_n (fun j hj => (congrFun hr.2.2.1 j).trans (hs.2.2.1 j hj)) (Int32.sub_self _), mC_n (fun j hj => (congrFun hr.2.2.2.1 j).trans (hs.2.2.2 j hj)) rfl⟩
          · refine zw_iaload v (nI t6) 195 f50_194 rfl (hb_8 _ _ _ _) (nI_clamp (by omega)) (nI_pos (by omega)) (by omega) ((congrFun ((K0.2.2.1 8 rfl).trans (hR.2.1 59 (by omega) (by omega))) v).trans t6q) ?_
            refine zw_aload_n 196 f50_195 rfl h0 ?_
            refine zw_getfield 199 f50_196 rfl g50_25_10 (hb_22 _ _ _ _) rfl ?_
            refine zw_iload_n 200 f50_199 rfl h1 ?_
            refine zw_iaload v ((mRO (P 60) (P 61) (P 62) (wRun nv P W) (W.2.2.2.2.1 v) v (s.1, s.2.1, s.1 v, 0) k).2.2.1) 201 f50_200 rfl (hb_29 _ _ _ _) (nI_clamp (by omega)) (nI_pos (by omega)) (by omega) (if_pos rfl) ?_
            refine zw_virtual_v 204 0 0 [.ref 22, .int (nI t6), .int ((mRO (P 60) (P 61) (P 62) (wRun nv P W) (W.2.2.2.2.1 v) v (s.1, s.2.1, s.1 v, 0) k).2.2.1)] [(0, .ref 22), (1, .int (nI t6)), (2, .int ((mRO (P 60) (P 61) (P 62) (wRun nv P W) (W.2.2.2.2.1 v) v (s.1, s.2.1, s.1 v, 0) k).2.2.1))] f50_201 rfl n50_76 k50_76_10 rfl (hb_22 _ _ _ _) (by decide +kernel) (Nat.le_of_ble_eq_true rfl) rfl rfl (by decide +kernel) (by decide +kernel) rfl (Nat.le_of_ble_eq_true rfl) rfl ?_
            refine zw_aload_n 1 f51_0 rfl rfl ?_
            refine zw_getfield 4 f51_1 rfl g51_37_10 (hb_22 _ _ _ _) rfl ?_
            refine zw_iload_n 5 f51_4 rfl rfl ?_
            refine zw_virtual_i 8 0 0 [.ref 1, .int (nI t6)] [(0, .ref 1), (1, .int (nI t6))] f51_5 rfl n51_103 k51_103_4 rfl (hb_1 _ _ _ _) (by decide +kernel) (Nat.le_of_ble_eq_true rfl) rfl rfl (by decide +kernel) (by decide +kernel) rfl (Nat.le_of_ble_eq_true rfl) rfl ?_
            refine zw_iload_n 1 f13_0 rfl rfl ?_
            refine zw_if_lt_f 4 22 f13_1 (by decide +kernel) rfl (nI_pos (by omega)) ?_
            refine zw_iload_n 5 f13_4 rfl rfl ?_
            refine zw_aload_n 6 f13_5 rfl rfl ?_
            refine zw_getI (nI nv) 9 f13_6 rfl g13_39_4 (hb_1 _ _ _ _) rfl ((K0.1 1 0 rfl).trans hR.1.1) ?_
            refine zw_ic_ge_f 12 22 f13_9 (by decide +kernel) rfl (fun q => absurd (zn_ge (a := nv) (b := t6) (by omega) (by omega) q) (by omega)) ?_
            refine zw_iload_n 13 f13_12 rfl rfl ?_
            refine zw_bipush 8 15 f13_13 rfl (by decide +kernel) ?_
            refine zw_ic_ge_f 18 22 f13_15 (by decide +kernel) rfl (fun q => absurd (zn_ge (a := 8) (b := t6) (by omega) (by omega) q) (by omega)) ?_
            refine zw_iconst 1 19 f13_18 rfl (by decide +kernel) ?_
            refine zw_goto 23 f13_19 (by decide +kernel) ?_
            refine zw_zreturn f13_23 r13 u13 (by decide +kernel) ⟨_, rfl, ?_⟩
            refine zw_if_eq_f 11 24 f51_8 (by decide +kernel) rfl (by decide +kernel) ?_
            refine zw_aload_n 12 f51_11 rfl rfl ?_
            refine zw_getfield 15 f51_12 rfl g51_18_10 (hb_22 _ _ _ _) rfl ?_
            refine zw_iload_n 16 f51_15 rfl rfl ?_
            refine zw_dup2 17 f51_16 rfl rfl rfl ?_
            refine zw_iaload t6 (A1 27 t6) 18 f51_17 rfl (hb_27 _ _ _ _) (nI_clamp (by omega)) (nI_pos (by omega)) (by omega) rfl ?_
            refine zw_iload_n 19 f51_18 rfl rfl ?_
            refine zw_iadd ((A1 27 t6) + ((mRO (P 60) (P 61) (P 62) (wRun nv P W) (W.2.2.2.2.1 v) v (s.1, s.2.1, s.1 v, 0) k).2.2.1)) 20 f51_19 rfl rfl ?_
            refine zw_ast t6 _ 21 f51_20 rfl (hb_27 _ _ _ _) (nI_clamp (by omega)) (nI_pos (by omega)) (by omega) (ha_27 _ _ _ _ _) ?_
            refine zw_goto 34 f51_21 (by decide +kernel) ?_
            refine zw_vreturn f51_34 r51 u51 ⟨rfl, ?_⟩
            refine zw_vreturn f50_204 r50 u50 ?_
            have hk : k = np := by omega
            have hE : (mRO (P 60) (P 61) (P 62) (wRun nv P W) (W.2.2.2.2.1 v) v (s.1, s.2.1, s.1 v, 0) np) = (mRO (P 60) (P 61) (P 62) (wRun nv P W) (W.2.2.2.2.1 v) v (s.1, s.2.1, s.1 v, 0) k) := by rw [hk]
            have EL := (mRO_left (nv := nv) (np := np) (frm := P 60) (too := P 61) (amt := P 62) (run := (wRun nv P W)) (lev := W.2.2.2.2.1 v) (v := v) (s := s) h8 (fun p hpp z => hto p hpp z) k (by omega)).2
            have hx : 0 < ((mRO (P 60) (P 61) (P 62) (wRun nv P W) (W.2.2.2.2.1 v) v (s.1, s.2.1, s.1 v, 0) k).1 v - (mRO (P 60) (P 61) (P 62) (wRun nv P W) (W.2.2.2.2.1 v) v (s.1, s.2.1, s.1 v, 0) k).2.2.2) := by rw [← EL]; exact Int32.not_le.mp hc4
            have E := mRateOf_y (over := P 59) (brim := P 54) (g := W.1) (lev := W.2.2.2.2.1) (s := s) (nI t6) t6q hE hx (full_eq hp hW hv (Int64.not_lt.mpr (Int64.not_lt.mp (fun q => hc2 ((lg_cmp_lt _ _).mpr q)))))
            rw [← EL] at E
            rw [mGoC_t (by omega), mGoD_t (by omega)] at E
            refine ⟨_, _, _, _, rfl, (KQ.a rfl (KQ.a rfl (KQ.a rfl K0))), ⟨?_, hr.2.2.2.2⟩, rfl⟩
            rw [E]
            exact ⟨mC_t hr.1 (by omega), hr.2.1, mC_n (fun j hj => (congrFun hr.2.2.1 j).trans (hs.2.2.1 j hj)) (Int32.sub_self _), mC_n (fun j hj => (congrFun hr.2.2.2.1 j).trans (hs.2.2.2 j hj)) rfl⟩
    · have hn_hc1 : k < np := zn_lt (by omega) (by omega) hc1
      refine zw_aload_n 43 f50_42 rfl h0 ?_
      refine zw_getfield 46 f50_43 rfl g50_37_10 (hb_22 _ _ _ _) rfl ?_
      refine zw_getfield 49 f50_46 rfl g50_64_4 (hb_1 _ _ _ _) rfl ?_
      refine zw_iload 51 f50_49 rfl h4 ?_
      refine zw_iaload k (P 60 k) 52 f50_51 rfl (hb_9 _ _ _ _) (nI_clamp (by omega)) (nI_pos (by omega)) (by omega) (congrFun (((K0.2.2.1 9 rfl).trans (hR.2.1 60 (by omega) (by omega)))) k) ?_
      refine zw_iload_n 53 f50_52 rfl h1 ?_
      refine zw_ic_ne 56 142 f50_53 (by decide +kernel) rfl (fun hc7 => ?_) (fun hc7 => ?_)
      · refine zw_iinc (nI (k + 1)) _ 145 f50_142 rfl h4 (by decide +kernel) (nI_1 _) rfl ?_
        refine zw_goto 30 f50_145 (by decide +kernel) ?_
        have E := mRO_n (frm := P 60) (too := P 61) (amt := P 62) (run := (wRun nv P W)) (lev := W.2.2.2.2.1 v) (v := v) (s := (s.1, s.2.1, s.1 v, 0)) (k := k) (fun q => hc7 q.1)
        exact ih (k + 1) _ _ _ _ _ K0 (by rw [E]; exact hr) (zl1_ne rfl rfl h0) (zl1_ne rfl rfl h1) (by rw [E]; exact (zl1_ne rfl rfl h2)) (zl1_ne rfl rfl h3) zl1_eq (by omega) (by omega)
      · refine zw_iload_n 57 f50_56 rfl h3 ?_
        refine zw_if_eq_f 60 73 f50_57 (by decide +kernel) rfl (by decide +kernel) ?_
        refine zw_aload_n 61 f50_60 rfl h0 ?_
        refine zw_getfield 64 f50_61 rfl g50_12_10 (hb_22 _ _ _ _) rfl ?_
        refine zw_getfield 67 f50_64 rfl g50_70_9 (hb_23 _ _ _ _) rfl ?_
        refine zw_iload 69 f50_67 rfl h4 ?_
        refine zw_iaload k (P 62 k) 70 f50_69 rfl (hb_26 _ _ _ _) (nI_clamp (by omega)) (nI_pos (by omega)) (by omega) (congrFun (((K0.2.2.1 26 rfl).trans (hR.2.1 62 (by omega) (by omega)))) k) ?_
        refine zw_goto 87 f50_70 (by decide +kernel) ?_
        refine zw_istore _ 89 f50_87 rfl (by decide +kernel) rfl ?_
        refine zw_aload_n 90 f50_89 rfl (zl1_ne rfl rfl h0) ?_
        refine zw_getfield 93 f50_90 rfl g50_28_10 (hb_22 _ _ _ _) rfl ?_
        refine zw_iload 95 f50_93 rfl (zl1_ne rfl rfl h4) ?_
        refine zw_aload_n 96 f50_95 rfl (zl1_ne rfl rfl h0) ?_
        refine zw_iload 98 f50_96 rfl (zl1_ne rfl rfl h4) ?_
        refine zw_virtual_i 101 0 0 [.ref 22, .int (nI k)] [(0, .ref 22), (1, .int (nI k))] f50_98 rfl n50_67 k50_67_10 rfl (hb_22 _ _ _ _) (by decide +kernel) (Nat.le_of_ble_eq_true rfl) rfl rfl (by decide +kernel) (by decide +kernel) rfl (Nat.le_of_ble_eq_true rfl) rfl ?_
        refine zWp.mono (cx_runs_22 ro nv np P W _ _ _ _ (hR.k K0 ⟨rfl, rfl⟩ (fCr_w 22) (pCr_w 22 (by omega))) hp hb hq k (by omega)) ?_
        rintro r h1 ⟨rfl, rfl⟩
        refine ⟨_, rfl, ?_⟩
        refine zw_if_eq 104 109 f50_101 (by decide +kernel) rfl (fun hc8 => ?_) (fun hc8 => ?_)
        · refine zw_iconst 0 110 f50_109 rfl (by decide +kernel) ?_
          refine zw_ast k _ 111 f50_110 rfl (hb_30 _ _ _ _) (nI_clamp (by omega)) (nI_pos (by omega)) (by omega) (ha_30 _ _ _ _ _) ?_
          refine zw_iload_n 112 f50_111 rfl (zl1_ne rfl rfl h2) ?_
          refine zw_aload_n 113 f50_112 rfl (zl1_ne rfl rfl h0) ?_
          refine zw_getfield 116 f50_113 rfl g50_28_10 (hb_22 _ _ _ _) rfl ?_
          refine zw_iload 118 f50_116 rfl (zl1_ne rfl rfl h4) ?_
          refine zw_iaload k 0 119 f50_118 rfl (hb_30 _ _ _ _) (nI_clamp (by omega)) (nI_pos (by omega)) (by omega) (if_pos rfl) ?_
          refine zw_isub (((mRO (P 60) (P 61) (P 62) (wRun nv P W) (W.2.2.2.2.1 v) v (s.1, s.2.1, s.1 v, 0) k).2.2.1) - 0) 120 f50_119 rfl rfl ?_
          refine zw_istore_n _ 121 f50_120 rfl (by decide +kernel) rfl ?_
          refine zw_aload_n 122 f50_121 rfl (zl1_ne rfl rfl (zl1_ne rfl rfl h0)) ?_
          refine zw_aload_n 123 f50_122 rfl (zl1_ne rfl rfl (zl1_ne rfl rfl h0)) ?_
          refine zw_getfield 126 f50_123 rfl g50_37_10 (hb_22 _ _ _ _) rfl ?_
          refine zw_getfield 129 f50_126 rfl g50_73_4 (hb_1 _ _ _ _) rfl ?_
          refine zw_iload 131 f50_129 rfl (zl1_ne rfl rfl (zl1_ne rfl rfl h4)) ?_
          rcases (hp.2.2.2 k (by omega)).1 with t9q | ⟨t9, t9l, t9n, t9q⟩
          · refine zw_iaload k (-1) 132 f50_131 rfl (hb_10 _ _ _ _) (nI_clamp (by omega)) (nI_pos (by omega)) (by omega) ((congrFun ((K0.2.2.1 10 rfl).trans (hR.2.1 61 (by omega) (by omega))) k).trans t9q) ?_
            refine zw_aload_n 133 f50_132 rfl (zl1_ne rfl rfl (zl1_ne rfl rfl h0)) ?_
            refine zw_getfield 136 f50_133 rfl g50_28_10 (hb_22 _ _ _ _) rfl ?_
            refine zw_iload 138 f50_136 rfl (zl1_ne rfl rfl (zl1_ne rfl rfl h4)) ?_
            refine zw_iaload k 0 139 f50_138 rfl (hb_30 _ _ _ _) (nI_clamp (by omega)) (nI_pos (by omega)) (by omega) (if_pos rfl) ?_
            refine zw_virtual_v 142 0 0 [.ref 22, .int (-1), .int 0] [(0, .ref 22), (1, .int (-1)), (2, .int 0)] f50_139 rfl n50_76 k50_76_10 rfl (hb_22 _ _ _ _) (by decide +kernel) (Nat.le_of_ble_eq_true rfl) rfl rfl (by decide +kernel) (by decide +kernel) rfl (Nat.le_of_ble_eq_true rfl) rfl ?_
            refine zw_aload_n 1 f51_0 rfl rfl ?_
            refine zw_getfield 4 f51_1 rfl g51_37_10 (hb_22 _ _ _ _) rfl ?_
            refine zw_iload_n 5 f51_4 rfl rfl ?_
            refine zw_virtual_i 8 0 0 [.ref 1, .int (-1)] [(0, .ref 1), (1, .int (-1))] f51_5 rfl n51_103 k51_103_4 rfl (hb_1 _ _ _ _) (by decide +kernel) (Nat.le_of_ble_eq_true rfl) rfl rfl (by decide +kernel) (by decide +kernel) rfl (Nat.le_of_ble_eq_true rfl) rfl ?_
            refine zw_iload_n 1 f13_0 rfl rfl ?_
            refine zw_if_lt_t 22 f13_1 (by decide +kernel) (by decide +kernel) ?_
            refine zw_iconst 0 23 f13_22 rfl (by decide +kernel) ?_
            refine zw_zreturn f13_23 r13 u13 (by decide +kernel) ⟨_, rfl, ?_⟩
            refine zw_if_eq_t 24 f51_8 (by decide +kernel) (by decide +kernel) ?_
            refine zw_aload_n 25 f51_24 rfl rfl ?_
            refine zw_dup 26 f51_25 rfl rfl ?_
            refine zw_getI (I1 22 7) 29 f51_26 rfl g51_58_10 (hb_22 _ _ _ _) rfl rfl ?_
            refine zw_iload_n 30 f51_29 rfl rfl ?_
            refine zw_iadd ((I1 22 7) + 0) 31 f51_30 rfl rfl ?_
            refine zw_put _ 34 f51_31 rfl g51_58_10 (hb_22 _ _ _ _) rfl (Nat.le_of_ble_eq_true rfl) (by decide +kernel) (hi_22_7 _ _ _ _ _) ?_
            refine zw_vreturn f51_34 r51 u51 ⟨rfl, ?_⟩
            refine zw_iinc (nI (k + 1)) _ 145 f50_142 rfl (zl1_ne rfl rfl (zl1_ne rfl rfl h4)) (by decide +kernel) (nI_1 _) rfl ?_
            refine zw_goto 30 f50_145 (by decide +kernel) ?_
            have E := mRO_n (frm := P 60) (too := P 61) (amt := P 62) (run := (wRun nv P W)) (lev := W.2.2.2.2.1 v) (v := v) (s := (s.1, s.2.1, s.1 v, 0)) (k := k) (fun q => q.2 hc8)
            exact ih (k + 1) _ _ _ _ _ (KQ.i rfl (KQ.a rfl K0)) (by rw [E]; exact ⟨hr.1, (Int32.add_zero _).trans hr.2.1, hr.2.2⟩) (zl1_ne rfl rfl (zl1_ne rfl rfl (zl1_ne rfl rfl h0))) (zl1_ne rfl rfl (zl1_ne rfl rfl (zl1_ne rfl rfl h1))) (by rw [E]; exact (zld_s0 (zl1_ne rfl rfl zl1_eq))) (zl1_ne rfl rfl (zl1_ne rfl rfl (zl1_ne rfl rfl h3))) zl1_eq (by omega) (by omega)
          · refine zw_iaload k (nI t9) 132 f50_131 rfl (hb_10 _ _ _ _) (nI_clamp (by omega)) (nI_pos (by omega)) (by omega) ((congrFun ((K0.2.2.1 10 rfl).trans (hR.2.1 61 (by omega) (by omega))) k).trans t9q) ?_
            refine zw_aload_n 133 f50_132 rfl (zl1_ne rfl rfl (zl1_ne rfl rfl h0)) ?_
            refine zw_getfield 136 f50_133 rfl g50_28_10 (hb_22 _ _ _ _) rfl ?_
            refine zw_iload 138 f50_136 rfl (zl1_ne rfl rfl (zl1_ne rfl rfl h4)) ?_
            refine zw_iaload k 0 139 f50_138 rfl (hb_30 _ _ _ _) (nI_clamp (by omega)) (nI_pos (by omega)) (by omega) (if_pos rfl) ?_
            refine zw_virtual_v 142 0 0 [.ref 22, .int (nI t9), .int 0] [(0, .ref 22), (1, .int (nI t9)), (2, .int 0)] f50_139 rfl n50_76 k50_76_10 rfl (hb_22 _ _ _ _) (by decide +kernel) (Nat.le_of_ble_eq_true rfl) rfl rfl (by decide +kernel) (by decide +kernel) rfl (Nat.le_of_ble_eq_true rfl) rfl ?_
            refine zw_aload_n 1 f51_0 rfl rfl ?_
            refine zw_getfield 4 f51_1 rfl g51_37_10 (hb_22 _ _ _ _) rfl ?_
            refine zw_iload_n 5 f51_4 rfl rfl ?_
            refine zw_virtual_i 8 0 0 [.ref 1, .int (nI t9)] [(0, .ref 1), (1, .int (nI t9))] f51_5 rfl n51_103 k51_103_4 rfl (hb_1 _ _ _ _) (by decide +kernel) (Nat.le_of_ble_eq_true rfl) rfl rfl (by decide +kernel) (by decide +kernel) rfl (Nat.le_of_ble_eq_true rfl) rfl ?_
            refine zw_iload_n 1 f13_0 rfl rfl ?_
            refine zw_if_lt_f 4 22 f13_1 (by decide +kernel) rfl (nI_pos (by omega)) ?_
            refine zw_iload_n 5 f13_4 rfl rfl ?_
            refine zw_aload_n 6 f13_5 rfl rfl ?_
            refine zw_getI (nI nv) 9 f13_6 rfl g13_39_4 (hb_1 _ _ _ _) rfl ((K0.1 1 0 rfl).trans hR.1.1) ?_
            refine zw_ic_ge_f 12 22 f13_9 (by decide +kernel) rfl (fun q => absurd (zn_ge (a := nv) (b := t9) (by omega) (by omega) q) (by omega)) ?_
            refine zw_iload_n 13 f13_12 rfl rfl ?_
            refine zw_bipush 8 15 f13_13 rfl (by decide +kernel) ?_
            refine zw_ic_ge_f 18 22 f13_15 (by decide +kernel) rfl (fun q => absurd (zn_ge (a := 8) (b := t9) (by omega) (by omega) q) (by omega)) ?_
            refine zw_iconst 1 19 f13_18 rfl (by decide +kernel) ?_
            refine zw_goto 23 f13_19 (by decide +kernel) ?_
            refine zw_zreturn f13_23 r13 u13 (by decide +kernel) ⟨_, rfl, ?_⟩
            refine zw_if_eq_f 11 24 f51_8 (by decide +kernel) rfl (by decide +kernel) ?_
            refine zw_aload_n 12 f51_11 rfl rfl ?_
            refine zw_getfield 15 f51_12 rfl g51_18_10 (hb_22 _ _ _ _) rfl ?_
            refine zw_iload_n 16 f51_15 rfl rfl ?_
            refine zw_dup2 17 f51_16 rfl rfl rfl ?_
            refine zw_iaload t9 (A1 27 t9) 18 f51_17 rfl (hb_27 _ _ _ _) (nI_clamp (by omega)) (nI_pos (by omega)) (by omega) rfl ?_
            refine zw_iload_n 19 f51_18 rfl rfl ?_
            refine zw_iadd ((A1 27 t9) + 0) 20 f51_19 rfl rfl ?_
            refine zw_ast t9 _ 21 f51_20 rfl (hb_27 _ _ _ _) (nI_clamp (by omega)) (nI_pos (by omega)) (by omega) (ha_27 _ _ _ _ _) ?_
            refine zw_goto 34 f51_21 (by decide +kernel) ?_
            refine zw_vreturn f51_34 r51 u51 ⟨rfl, ?_⟩
            refine zw_iinc (nI (k + 1)) _ 145 f50_142 rfl (zl1_ne rfl rfl (zl1_ne rfl rfl h4)) (by decide +kernel) (nI_1 _) rfl ?_
            refine zw_goto 30 f50_145 (by decide +kernel) ?_
            have E := mRO_n (frm := P 60) (too := P 61) (amt := P 62) (run := (wRun nv P W)) (lev := W.2.2.2.2.1 v) (v := v) (s := (s.1, s.2.1, s.1 v, 0)) (k := k) (fun q => q.2 hc8)
            exact ih (k + 1) _ _ _ _ _ (KQ.a rfl (KQ.a rfl K0)) (by rw [E]; exact ⟨mC_0 hr.1, hr.2⟩) (zl1_ne rfl rfl (zl1_ne rfl rfl (zl1_ne rfl rfl h0))) (zl1_ne rfl rfl (zl1_ne rfl rfl (zl1_ne rfl rfl h1))) (by rw [E]; exact (zld_s0 (zl1_ne rfl rfl zl1_eq))) (zl1_ne rfl rfl (zl1_ne rfl rfl (zl1_ne rfl rfl h3))) zl1_eq (by omega) (by omega)
        · refine zw_iload 106 f50_104 rfl zl1_eq ?_
          refine zw_goto 110 f50_106 (by decide +kernel) ?_
          refine zw_ast k _ 111 f50_110 rfl (hb_30 _ _ _ _) (nI_clamp (by omega)) (nI_pos (by omega)) (by omega) (ha_30 _ _ _ _ _) ?_
          refine zw_iload_n 112 f50_111 rfl (zl1_ne rfl rfl h2) ?_
          refine zw_aload_n 113 f50_112 rfl (zl1_ne rfl rfl h0) ?_
          refine zw_getfield 116 f50_113 rfl g50_28_10 (hb_22 _ _ _ _) rfl ?_
          refine zw_iload 118 f50_116 rfl (zl1_ne rfl rfl h4) ?_
          refine zw_iaload k (P 62 k) 119 f50_118 rfl (hb_30 _ _ _ _) (nI_clamp (by omega)) (nI_pos (by omega)) (by omega) (if_pos rfl) ?_
          refine zw_isub (((mRO (P 60) (P 61) (P 62) (wRun nv P W) (W.2.2.2.2.1 v) v (s.1, s.2.1, s.1 v, 0) k).2.2.1) - (P 62 k)) 120 f50_119 rfl rfl ?_
          refine zw_istore_n _ 121 f50_120 rfl (by decide +kernel) rfl ?_
          refine zw_aload_n 122 f50_121 rfl (zl1_ne rfl rfl (zl1_ne rfl rfl h0)) ?_
          refine zw_aload_n 123 f50_122 rfl (zl1_ne rfl rfl (zl1_ne rfl rfl h0)) ?_
          refine zw_getfield 126 f50_123 rfl g50_37_10 (hb_22 _ _ _ _) rfl ?_
          refine zw_getfield 129 f50_126 rfl g50_73_4 (hb_1 _ _ _ _) rfl ?_
          refine zw_iload 131 f50_129 rfl (zl1_ne rfl rfl (zl1_ne rfl rfl h4)) ?_
          rcases (hp.2.2.2 k (by omega)).1 with t10q | ⟨t10, t10l, t10n, t10q⟩
          · refine zw_iaload k (-1) 132 f50_131 rfl (hb_10 _ _ _ _) (nI_clamp (by omega)) (nI_pos (by omega)) (by omega) ((congrFun ((K0.2.2.1 10 rfl).trans (hR.2.1 61 (by omega) (by omega))) k).trans t10q) ?_
            refine zw_aload_n 133 f50_132 rfl (zl1_ne rfl rfl (zl1_ne rfl rfl h0)) ?_
            refine zw_getfield 136 f50_133 rfl g50_28_10 (hb_22 _ _ _ _) rfl ?_
            refine zw_iload 138 f50_136 rfl (zl1_ne rfl rfl (zl1_ne rfl rfl h4)) ?_
            refine zw_iaload k (P 62 k) 139 f50_138 rfl (hb_30 _ _ _ _) (nI_clamp (by omega)) (nI_pos (by omega)) (by omega) (if_pos rfl) ?_
            refine zw_virtual_v 142 0 0 [.ref 22, .int (-1), .int (P 62 k)] [(0, .ref 22), (1, .int (-1)), (2, .int (P 62 k))] f50_139 rfl n50_76 k50_76_10 rfl (hb_22 _ _ _ _) (by decide +kernel) (Nat.le_of_ble_eq_true rfl) rfl rfl (by decide +kernel) (by decide +kernel) rfl (Nat.le_of_ble_eq_true rfl) rfl ?_
            refine zw_aload_n 1 f51_0 rfl rfl ?_
            refine zw_getfield 4 f51_1 rfl g51_37_10 (hb_22 _ _ _ _) rfl ?_
            refine zw_iload_n 5 f51_4 rfl rfl ?_
            refine zw_virtual_i 8 0 0 [.ref 1, .int (-1)] [(0, .ref 1), (1, .int (-1))] f51_5 rfl n51_103 k51_103_4 rfl (hb_1 _ _ _ _) (by decide +kernel) (Nat.le_of_ble_eq_true rfl) rfl rfl (by decide +kernel) (by decide +kernel) rfl (Nat.le_of_ble_eq_true rfl) rfl ?_
            refine zw_iload_n 1 f13_0 rfl rfl ?_
            refine zw_if_lt_t 22 f13_1 (by decide +kernel) (by decide +kernel) ?_
            refine zw_iconst 0 23 f13_22 rfl (by decide +kernel) ?_
            refine zw_zreturn f13_23 r13 u13 (by decide +kernel) ⟨_, rfl, ?_⟩
            refine zw_if_eq_t 24 f51_8 (by decide +kernel) (by decide +kernel) ?_
            refine zw_aload_n 25 f51_24 rfl rfl ?_
            refine zw_dup 26 f51_25 rfl rfl ?_
            refine zw_getI (I1 22 7) 29 f51_26 rfl g51_58_10 (hb_22 _ _ _ _) rfl rfl ?_
            refine zw_iload_n 30 f51_29 rfl rfl ?_
            refine zw_iadd ((I1 22 7) + (P 62 k)) 31 f51_30 rfl rfl ?_
            refine zw_put _ 34 f51_31 rfl g51_58_10 (hb_22 _ _ _ _) rfl (Nat.le_of_ble_eq_true rfl) (by decide +kernel) (hi_22_7 _ _ _ _ _) ?_
            refine zw_vreturn f51_34 r51 u51 ⟨rfl, ?_⟩
            refine zw_iinc (nI (k + 1)) _ 145 f50_142 rfl (zl1_ne rfl rfl (zl1_ne rfl rfl h4)) (by decide +kernel) (nI_1 _) rfl ?_
            refine zw_goto 30 f50_145 (by decide +kernel) ?_
            have E := mRO_y (frm := P 60) (too := P 61) (amt := P 62) (run := (wRun nv P W)) (lev := W.2.2.2.2.1 v) (v := v) (s := (s.1, s.2.1, s.1 v, 0)) (k := k) (P 62 k) (-1) t10q (mFl_a hw) (Decidable.of_not_not hc7) hc8
            rw [mGoC_m, mGoD_m] at E
            exact ih (k + 1) _ _ _ _ _ (KQ.i rfl (KQ.a rfl K0)) (by rw [E]; exact ⟨hr.1, congrArg (fun z => z + (P 62 k)) hr.2.1, hr.2.2⟩) (zl1_ne rfl rfl (zl1_ne rfl rfl (zl1_ne rfl rfl h0))) (zl1_ne rfl rfl (zl1_ne rfl rfl (zl1_ne rfl rfl h1))) (by rw [E]; exact (zl1_ne rfl rfl zl1_eq)) (zl1_ne rfl rfl (zl1_ne rfl rfl (zl1_ne rfl rfl h3))) zl1_eq (by omega) (by omega)
          · refine zw_iaload k (nI t10) 132 f50_131 rfl (hb_10 _ _ _ _) (nI_clamp (by omega)) (nI_pos (by omega)) (by omega) ((congrFun ((K0.2.2.1 10 rfl).trans (hR.2.1 61 (by omega) (by omega))) k).trans t10q) ?_
            refine zw_aload_n 133 f50_132 rfl (zl1_ne rfl rfl (zl1_ne rfl rfl h0)) ?_
            refine zw_getfield 136 f50_133 rfl g50_28_10 (hb_22 _ _ _ _) rfl ?_
            refine zw_iload 138 f50_136 rfl (zl1_ne rfl rfl (zl1_ne rfl rfl h4)) ?_
            refine zw_iaload k (P 62 k) 139 f50_138 rfl (hb_30 _ _ _ _) (nI_clamp (by omega)) (nI_pos (by omega)) (by omega) (if_pos rfl) ?_
            refine zw_virtual_v 142 0 0 [.ref 22, .int (nI t10), .int (P 62 k)] [(0, .ref 22), (1, .int (nI t10)), (2, .int (P 62 k))] f50_139 rfl n50_76 k50_76_10 rfl (hb_22 _ _ _ _) (by decide +kernel) (Nat.le_of_ble_eq_true rfl) rfl rfl (by decide +kernel) (by decide +kernel) rfl (Nat.le_of_ble_eq_true rfl) rfl ?_
            refine zw_aload_n 1 f51_0 rfl rfl ?_
            refine zw_getfield 4 f51_1 rfl g51_37_10 (hb_22 _ _ _ _) rfl ?_
            refine zw_iload_n 5 f51_4 rfl rfl ?_
            refine zw_virtual_i 8 0 0 [.ref 1, .int (nI t10)] [(0, .ref 1), (1, .int (nI t10))] f51_5 rfl n51_103 k51_103_4 rfl (hb_1 _ _ _ _) (by decide +kernel) (Nat.le_of_ble_eq_true rfl) rfl rfl (by decide +kernel) (by decide +kernel) rfl (Nat.le_of_ble_eq_true rfl) rfl ?_
            refine zw_iload_n 1 f13_0 rfl rfl ?_
            refine zw_if_lt_f 4 22 f13_1 (by decide +kernel) rfl (nI_pos (by omega)) ?_
            refine zw_iload_n 5 f13_4 rfl rfl ?_
            refine zw_aload_n 6 f13_5 rfl rfl ?_
            refine zw_getI (nI nv) 9 f13_6 rfl g13_39_4 (hb_1 _ _ _ _) rfl ((K0.1 1 0 rfl).trans hR.1.1) ?_
            refine zw_ic_ge_f 12 22 f13_9 (by decide +kernel) rfl (fun q => absurd (zn_ge (a := nv) (b := t10) (by omega) (by omega) q) (by omega)) ?_
            refine zw_iload_n 13 f13_12 rfl rfl ?_
            refine zw_bipush 8 15 f13_13 rfl (by decide +kernel) ?_
            refine zw_ic_ge_f 18 22 f13_15 (by decide +kernel) rfl (fun q => absurd (zn_ge (a := 8) (b := t10) (by omega) (by omega) q) (by omega)) ?_
            refine zw_iconst 1 19 f13_18 rfl (by decide +kernel) ?_
            refine zw_goto 23 f13_19 (by decide +kernel) ?_
            refine zw_zreturn f13_23 r13 u13 (by decide +kernel) ⟨_, rfl, ?_⟩
            refine zw_if_eq_f 11 24 f51_8 (by decide +kernel) rfl (by decide +kernel) ?_
            refine zw_aload_n 12 f51_11 rfl rfl ?_
            refine zw_getfield 15 f51_12 rfl g51_18_10 (hb_22 _ _ _ _) rfl ?_
            refine zw_iload_n 16 f51_15 rfl rfl ?_
            refine zw_dup2 17 f51_16 rfl rfl rfl ?_
            refine zw_iaload t10 (A1 27 t10) 18 f51_17 rfl (hb_27 _ _ _ _) (nI_clamp (by omega)) (nI_pos (by omega)) (by omega) rfl ?_
            refine zw_iload_n 19 f51_18 rfl rfl ?_
            refine zw_iadd ((A1 27 t10) + (P 62 k)) 20 f51_19 rfl rfl ?_
            refine zw_ast t10 _ 21 f51_20 rfl (hb_27 _ _ _ _) (nI_clamp (by omega)) (nI_pos (by omega)) (by omega) (ha_27 _ _ _ _ _) ?_
            refine zw_goto 34 f51_21 (by decide +kernel) ?_
            refine zw_vreturn f51_34 r51 u51 ⟨rfl, ?_⟩
            refine zw_iinc (nI (k + 1)) _ 145 f50_142 rfl (zl1_ne rfl rfl (zl1_ne rfl rfl h4)) (by decide +kernel) (nI_1 _) rfl ?_
            refine zw_goto 30 f50_145 (by decide +kernel) ?_
            have E := mRO_y (frm := P 60) (too := P 61) (amt := P 62) (run := (wRun nv P W)) (lev := W.2.2.2.2.1 v) (v := v) (s := (s.1, s.2.1, s.1 v, 0)) (k := k) (P 62 k) (nI t10) t10q (mFl_a hw) (Decidable.of_not_not hc7) hc8
            rw [mGoC_t (by omega), mGoD_t (by omega)] at E
            exact ih (k + 1) _ _ _ _ _ (KQ.a rfl (KQ.a rfl K0)) (by rw [E]; exact ⟨mC_t hr.1 (by omega), hr.2⟩) (zl1_ne rfl rfl (zl1_ne rfl rfl (zl1_ne rfl rfl h0))) (zl1_ne rfl rfl (zl1_ne rfl rfl (zl1_ne rfl rfl h1))) (by rw [E]; exact (zl1_ne rfl rfl zl1_eq)) (zl1_ne rfl rfl (zl1_ne rfl rfl (zl1_ne rfl rfl h3))) zl1_eq (by omega) (by omega)
set_option maxRecDepth 100000 in
set_option maxHeartbeats 0 in
theorem lcx_rv22_0 (ro : UInt32 → Nat × (Nat → Int32)) (nv np : Nat) (P : Nat → Nat → Int32) (W : qW) (T K : Int) (I : Nat → Nat → Int32) (G : Nat → Nat → Int64) (A : Nat → Nat → Int32) (B : Nat → Nat → Int64) (hR : cRS 22 nv np P W I G A B) (hp : MPa nv np P) (hb : wBo W) (hq : qOw nv np P) (hW : wOk nv T K P W) (v : Nat) (hv : v < nv) (s : (Nat → Int32) × Int32 × (Nat → Int32) × (Nat → Int32)) (hs : cRel 22 I A s v) (hz : s.2.2.2 v = 0) (hw : ¬ 0 < W.2.2.2.2.1 v) : ∀ (n k : Nat) (ls : List (Nat × Value)) (I1 : Nat → Nat → Int32) (G1 : Nat → Nat → Int64) (A1 : Nat → Nat → Int32) (B1 : Nat → Nat → Int64), KQ (fCr 22) (pCr 22) I G A B I1 G1 A1 B1 → ((∀ j, j < 8 → A1 27 j = (mRO (P 60) (P 61) (P 62) (wRun nv P W) (W.2.2.2.2.1 v) v (s.1, s.2.1, s.1 v, 0) k).1 j) ∧ I1 22 7 = (mRO (P 60) (P 61) (P 62) (wRun nv P W) (W.2.2.2.2.1 v) v (s.1, s.2.1, s.1 v, 0) k).2.1 ∧ A1 28 = A 28 ∧ A1 29 = A 29 ∧ I1 22 6 = I 22 6) → zld ls 0 = some (.ref 22) → zld ls 1 = some (.int (nI v)) → zld ls 2 = some (.int ((mRO (P 60) (P 61) (P 62) (wRun nv P W) (W.2.2.2.2.1 v) v (s.1, s.2.1, s.1 v, 0) k).2.2.1)) → zld ls 3 = some (.int 0) → zld ls 4 = some (.int (nI k)) → k ≤ np → np + 1 ≤ k + n → zWp ro 50 30 ls [] (hS I1 G1 A1 B1) 0 0 (fun r h1 => ∃ I2 G2 A2 B2, h1 = hS I2 G2 A2 B2 ∧ KQ (fCr 22) (pCr 22) I G A B I2 G2 A2 B2 ∧ (cRel 22 I2 A2 (mRateOf (P 60) (P 61) (P 62) (wRun nv P W) (P 59) (P 54) (W.2.2.2.2.1) W.1 np v s) (v + 1) ∧ I2 22 6 = I 22 6) ∧ r = none) := by
  have h8 := hp.1
  have h14 := hp.2.1
  have hto : ∀ p, p < np → P 60 p = nI v → mTo nv (v + 1) (P 61 p) := fun p h1 h2 => (MPa.e hp W (fun _ => 0) 0 0).ht v p hv h1 h2
  intro n
  induction n with
  | zero =>
    intro k ls I1 G1 A1 B1 _ _ _ _ _ _ _ a c
    exact absurd c (by omega)
  | succ n ih =>
    intro k ls I1 G1 A1 B1 K0 hr h0 h1 h2 h3 h4 hk1 hk2
    refine zw_iload 32 f50_30 rfl h4 ?_
    refine zw_aload_n 33 f50_32 rfl h0 ?_
    refine zw_getfield 36 f50_33 rfl g50_37_10 (hb_22 _ _ _ _) rfl ?_
    refine zw_getI (nI np) 39 f50_36 rfl g50_61_4 (hb_1 _ _ _ _) rfl ((K0.1 1 1 rfl).trans hR.1.2) ?_
    refine zw_ic_ge 42 148 f50_39 (by decide +kernel) rfl (fun hc1 => ?_) (fun hc1 => ?_)
    · have hn_hc1 : np ≤ k := zn_ge (by omega) (by omega) hc1
      refine zw_aload_n 149 f50_148 rfl h0 ?_
      refine zw_getfield 152 f50_149 rfl g50_25_10 (hb_22 _ _ _ _) rfl ?_
      refine zw_iload_n 153 f50_152 rfl h1 ?_
      refine zw_aload_n 154 f50_153 rfl h0 ?_
      refine zw_iload_n 155 f50_154 rfl h1 ?_
      refine zw_virtual_i 158 0 0 [.ref 22, .int (nI v)] [(0, .ref 22), (1, .int (nI v))] f50_155 rfl n50_97 k50_97_10 rfl (hb_22 _ _ _ _) (by decide +kernel) (Nat.le_of_ble_eq_true rfl) rfl rfl (by decide +kernel) (by decide +kernel) rfl (Nat.le_of_ble_eq_true rfl) rfl ?_
      refine zw_aload_n 1 f52_0 rfl rfl ?_
      refine zw_getfield 4 f52_1 rfl g52_12_10 (hb_22 _ _ _ _) rfl ?_
      refine zw_getfield 7 f52_4 rfl g52_87_9 (hb_23 _ _ _ _) rfl ?_
      refine zw_iload_n 8 f52_7 rfl rfl ?_
      refine zw_laload v ((W.2.2.2.2.1) v) 9 f52_8 rfl (hb_24 _ _ _ _) (nI_clamp (by omega)) (nI_pos (by omega)) (by omega) (congrFun (((K0.2.2.2 24 rfl).trans hR.2.2.2.1)) v) ?_
      refine zw_aload_n 10 f52_9 rfl rfl ?_
      refine zw_getfield 13 f52_10 rfl g52_37_10 (hb_22 _ _ _ _) rfl ?_
      refine zw_getfield 16 f52_13 rfl g52_106_4 (hb_1 _ _ _ _) rfl ?_
      refine zw_iload_n 17 f52_16 rfl rfl ?_
      refine zw_iaload v (P 54 v) 18 f52_17 rfl (hb_3 _ _ _ _) (nI_clamp (by omega)) (nI_pos (by omega)) (by omega) (congrFun (((K0.2.2.1 3 rfl).trans (hR.2.1 54 (by omega) (by omega)))) v) ?_
      refine zw_i2l (Int32.toInt64 (P 54 v)) 19 f52_18 rfl rfl ?_
      refine zw_aload_n 20 f52_19 rfl rfl ?_
      refine zw_getfield 23 f52_20 rfl g52_12_10 (hb_22 _ _ _ _) rfl ?_
      refine zw_getG W.1 26 f52_23 rfl g52_109_9 (hb_23 _ _ _ _) rfl ((K0.2.1 23 0 rfl).trans hR.2.2.1.1) ?_
      refine zw_lmul ((Int32.toInt64 (P 54 v)) * W.1) 27 f52_26 rfl rfl ?_
      refine zw_lcmp (lg_cmp ((W.2.2.2.2.1) v) ((Int32.toInt64 (P 54 v)) * W.1)) 28 f52_27 rfl rfl ?_
      refine zw_if_lt 31 35 f52_28 (by decide +kernel) rfl (fun hc2 => ?_) (fun hc2 => ?_)
      · refine zw_iconst 0 36 f52_35 rfl (by decide +kernel) ?_
        refine zw_zreturn f52_36 r52 u52 (by decide +kernel) ⟨_, rfl, ?_⟩
        refine zw_if_eq_t 169 f50_158 (by decide +kernel) (by decide +kernel) ?_
        refine zw_iconst 0 170 f50_169 rfl (by decide +kernel) ?_
        refine zw_ast v _ 171 f50_170 rfl (hb_29 _ _ _ _) (nI_clamp (by omega)) (nI_pos (by omega)) (by omega) (ha_29 _ _ _ _ _) ?_
        refine zw_aload_n 172 f50_171 rfl h0 ?_
        refine zw_getfield 175 f50_172 rfl g50_22_10 (hb_22 _ _ _ _) rfl ?_
        refine zw_iload_n 176 f50_175 rfl h1 ?_
        refine zw_iload_n 177 f50_176 rfl h2 ?_
        refine zw_aload_n 178 f50_177 rfl h0 ?_
        refine zw_getfield 181 f50_178 rfl g50_25_10 (hb_22 _ _ _ _) rfl ?_
        refine zw_iload_n 182 f50_181 rfl h1 ?_
        refine zw_iaload v 0 183 f50_182 rfl (hb_29 _ _ _ _) (nI_clamp (by omega)) (nI_pos (by omega)) (by omega) (if_pos rfl) ?_
        refine zw_isub (((mRO (P 60) (P 61) (P 62) (wRun nv P W) (W.2.2.2.2.1 v) v (s.1, s.2.1, s.1 v, 0) k).2.2.1) - 0) 184 f50_183 rfl rfl ?_
        refine zw_ast v _ 185 f50_184 rfl (hb_28 _ _ _ _) (nI_clamp (by omega)) (nI_pos (by omega)) (by omega) (ha_28 _ _ _ _ _) ?_
        refine zw_aload_n 186 f50_185 rfl h0 ?_
        refine zw_aload_n 187 f50_186 rfl h0 ?_
        refine zw_getfield 190 f50_187 rfl g50_37_10 (hb_22 _ _ _ _) rfl ?_
        refine zw_getfield 193 f50_190 rfl g50_100_4 (hb_1 _ _ _ _) rfl ?_
        refine zw_iload_n 194 f50_193 rfl h1 ?_
        rcases (hp.2.2.1 v (by omega)).2.2.2.2.2 with t3q | ⟨t3, t3l, t3n, t3q⟩
        · refine zw_iaload v (-1) 195 f50_194 rfl (hb_8 _ _ _ _) (nI_clamp (by omega)) (nI_pos (by omega)) (by omega) ((congrFun ((K0.2.2.1 8 rfl).trans (hR.2.1 59 (by omega) (by omega))) v).trans t3q) ?_
          refine zw_aload_n 196 f50_195 rfl h0 ?_
          refine zw_getfield 199 f50_196 rfl g50_25_10 (hb_22 _ _ _ _) rfl ?_
          refine zw_iload_n 200 f50_199 rfl h1 ?_
          refine zw_iaload v 0 201 f50_200 rfl (hb_29 _ _ _ _) (nI_clamp (by omega)) (nI_pos (by omega)) (by omega) (if_pos rfl) ?_
          refine zw_virtual_v 204 0 0 [.ref 22, .int (-1), .int 0] [(0, .ref 22), (1, .int (-1)), (2, .int 0)] f50_201 rfl n50_76 k50_76_10 rfl (hb_22 _ _ _ _) (by decide +kernel) (Nat.le_of_ble_eq_true rfl) rfl rfl (by decide +kernel) (by decide +kernel) rfl (Nat.le_of_ble_eq_true rfl) rfl ?_
          refine zw_aload_n 1 f51_0 rfl rfl ?_
          refine zw_getfield 4 f51_1 rfl g51_37_10 (hb_22 _ _ _ _) rfl ?_
          refine zw_iload_n 5 f51_4 rfl rfl ?_
          refine zw_virtual_i 8 0 0 [.ref 1, .int (-1)] [(0, .ref 1), (1, .int (-1))] f51_5 rfl n51_103 k51_103_4 rfl (hb_1 _ _ _ _) (by decide +kernel) (Nat.le_of_ble_eq_true rfl) rfl rfl (by decide +kernel) (by decide +kernel) rfl (Nat.le_of_ble_eq_true rfl) rfl ?_
          refine zw_iload_n 1 f13_0 rfl rfl ?_
          refine zw_if_lt_t 22 f13_1 (by decide +kernel) (by decide +kernel) ?_
          refine zw_iconst 0 23 f13_22 rfl (by decide +kernel) ?_
          refine zw_zreturn f13_23 r13 u13 (by decide +kernel) ⟨_, rfl, ?_⟩
          refine zw_if_eq_t 24 f51_8 (by decide +kernel) (by decide +kernel) ?_
          refine zw_aload_n 25 f51_24 rfl rfl ?_
          refine zw_dup 26 f51_25 rfl rfl ?_
          refine zw_getI (I1 22 7) 29 f51_26 rfl g51_58_10 (hb_22 _ _ _ _) rfl rfl ?_
          refine zw_iload_n 30 f51_29 rfl rfl ?_
          refine zw_iadd ((I1 22 7) + 0) 31 f51_30 rfl rfl ?_
          refine zw_put _ 34 f51_31 rfl g51_58_10 (hb_22 _ _ _ _) rfl (Nat.le_of_ble_eq_true rfl) (by decide +kernel) (hi_22_7 _ _ _ _ _) ?_
          refine zw_vreturn f51_34 r51 u51 ⟨rfl, ?_⟩
          refine zw_vreturn f50_204 r50 u50 ?_
          have hk : k = np := by omega
          have hE : (mRO (P 60) (P 61) (P 62) (wRun nv P W) (W.2.2.2.2.1 v) v (s.1, s.2.1, s.1 v, 0) np) = (mRO (P 60) (P 61) (P 62) (wRun nv P W) (W.2.2.2.2.1 v) v (s.1, s.2.1, s.1 v, 0) k) := by rw [hk]
          have EL := (mRO_left (nv := nv) (np := np) (frm := P 60) (too := P 61) (amt := P 62) (run := (wRun nv P W)) (lev := W.2.2.2.2.1 v) (v := v) (s := s) h8 (fun p hpp z => hto p hpp z) k (by omega)).2
          have E := mRateOf_n (over := P 59) (brim := P 54) (g := W.1) (lev := W.2.2.2.2.1) (s := s) hE (fun q => absurd ((lg_cmp_lt _ _).mp hc2) (by rw [show W.2.2.2.2.1 v = _ from q.2]; exact i64_irr))
          rw [← EL] at E
          refine ⟨_, _, _, _, rfl, (KQ.i rfl (KQ.a rfl (KQ.a rfl K0))), ⟨?_, hr.2.2.2.2⟩, rfl⟩
          rw [E]
          exact ⟨hr.1, (Int32.add_zero _).trans hr.2.1, mC_n (fun j hj => (congrFun hr.2.2.1 j).trans (hs.2.2.1 j hj)) (Int32.sub_zero _), mC_k (fun j hj => (congrFun hr.2.2.2.1 j).trans (hs.2.2.2 j hj)) hz.symm⟩
        · refine zw_iaload v (nI t3) 195 f50_194 rfl (hb_8 _ _ _ _) (nI_clamp (by omega)) (nI_pos (by omega)) (by omega) ((congrFun ((K0.2.2.1 8 rfl).trans (hR.2.1 59 (by omega) (by omega))) v).trans t3q) ?_
          refine zw_aload_n 196 f50_195 rfl h0 ?_
          refine zw_getfield 199 f50_196 rfl g50_25_10 (hb_22 _ _ _ _) rfl ?_
          refine zw_iload_n 200 f50_199 rfl h1 ?_
          refine zw_iaload v 0 201 f50_200 rfl (hb_29 _ _ _ _) (nI_clamp (by omega)) (nI_pos (by omega)) (by omega) (if_pos rfl) ?_
          refine zw_virtual_v 204 0 0 [.ref 22, .int (nI t3), .int 0] [(0, .ref 22), (1, .int (nI t3)), (2, .int 0)] f50_201 rfl n50_76 k50_76_10 rfl (hb_22 _ _ _ _) (by decide +kernel) (Nat.le_of_ble_eq_true rfl) rfl rfl (by decide +kernel) (by decide +kernel) rfl (Nat.le_of_ble_eq_true rfl) rfl ?_
          refine zw_aload_n 1 f51_0 rfl rfl ?_
          refine zw_getfield 4 f51_1 rfl g51_37_10 (hb_22 _ _ _ _) rfl ?_
          refine zw_iload_n 5 f51_4 rfl rfl ?_
          refine zw_virtual_i 8 0 0 [.ref 1, .int (nI t3)] [(0, .ref 1), (1, .int (nI t3))] f51_5 rfl n51_103 k51_103_4 rfl (hb_1 _ _ _ _) (by decide +kernel) (Nat.le_of_ble_eq_true rfl) rfl rfl (by decide +kernel) (by decide +kernel) rfl (Nat.le_of_ble_eq_true rfl) rfl ?_
          refine zw_iload_n 1 f13_0 rfl rfl ?_
          refine zw_if_lt_f 4 22 f13_1 (by decide +kernel) rfl (nI_pos (by omega)) ?_
          refine zw_iload_n 5 f13_4 rfl rfl ?_
          refine zw_aload_n 6 f13_5 rfl rfl ?_
          refine zw_getI (nI nv) 9 f13_6 rfl g13_39_4 (hb_1 _ _ _ _) rfl ((K0.1 1 0 rfl).trans hR.1.1) ?_
          refine zw_ic_ge_f 12 22 f13_9 (by decide +kernel) rfl (fun q => absurd (zn_ge (a := nv) (b := t3) (by omega) (by omega) q) (by omega)) ?_
          refine zw_iload_n 13 f13_12 rfl rfl ?_
          refine zw_bipush 8 15 f13_13 rfl (by decide +kernel) ?_
          refine zw_ic_ge_f 18 22 f13_15 (by decide +kernel) rfl (fun q => absurd (zn_ge (a := 8) (b := t3) (by omega) (by omega) q) (by omega)) ?_
          refine zw_iconst 1 19 f13_18 rfl (by decide +kernel) ?_
          refine zw_goto 23 f13_19 (by decide +kernel) ?_
          refine zw_zreturn f13_23 r13 u13 (by decide +kernel) ⟨_, rfl, ?_⟩
          refine zw_if_eq_f 11 24 f51_8 (by decide +kernel) rfl (by decide +kernel) ?_
          refine zw_aload_n 12 f51_11 rfl rfl ?_
          refine zw_getfield 15 f51_12 rfl g51_18_10 (hb_22 _ _ _ _) rfl ?_
          refine zw_iload_n 16 f51_15 rfl rfl ?_
          refine zw_dup2 17 f51_16 rfl rfl rfl ?_
          refine zw_iaload t3 (A1 27 t3) 18 f51_17 rfl (hb_27 _ _ _ _) (nI_clamp (by omega)) (nI_pos (by omega)) (by omega) rfl ?_
          refine zw_iload_n 19 f51_18 rfl rfl ?_
          refine zw_iadd ((A1 27 t3) + 0) 20 f51_19 rfl rfl ?_
          refine zw_ast t3 _ 21 f51_20 rfl (hb_27 _ _ _ _) (nI_clamp (by omega)) (nI_pos (by omega)) (by omega) (ha_27 _ _ _ _ _) ?_
          refine zw_goto 34 f51_21 (by decide +kernel) ?_
          refine zw_vreturn f51_34 r51 u51 ⟨rfl, ?_⟩
          refine zw_vreturn f50_204 r50 u50 ?_
          have hk : k = np := by omega
          have hE : (mRO (P 60) (P 61) (P 62) (wRun nv P W) (W.2.2.2.2.1 v) v (s.1, s.2.1, s.1 v, 0) np) = (mRO (P 60) (P 61) (P 62) (wRun nv P W) (W.2.2.2.2.1 v) v (s.1, s.2.1, s.1 v, 0) k) := by rw [hk]
          have EL := (mRO_left (nv := nv) (np := np) (frm := P 60) (too := P 61) (amt := P 62) (run := (wRun nv P W)) (lev := W.2.2.2.2.1 v) (v := v) (s := s) h8 (fun p hpp z => hto p hpp z) k (by omega)).2
          have E := mRateOf_n (over := P 59) (brim := P 54) (g := W.1) (lev := W.2.2.2.2.1) (s := s) hE (fun q => absurd ((lg_cmp_lt _ _).mp hc2) (by rw [show W.2.2.2.2.1 v = _ from q.2]; exact i64_irr))
          rw [← EL] at E
          refine ⟨_, _, _, _, rfl, (KQ.a rfl (KQ.a rfl (KQ.a rfl K0))), ⟨?_, hr.2.2.2.2⟩, rfl⟩
          rw [E]
          exact ⟨mC_0 hr.1, hr.2.1, mC_n (fun j hj => (congrFun hr.2.2.1 j).trans (hs.2.2.1 j hj)) (Int32.sub_zero _), mC_k (fun j hj => (congrFun hr.2.2.2.1 j).trans (hs.2.2.2 j hj)) hz.symm⟩
      · refine zw_iconst 1 32 f52_31 rfl (by decide +kernel) ?_
        refine zw_goto 36 f52_32 (by decide +kernel) ?_
        refine zw_zreturn f52_36 r52 u52 (by decide +kernel) ⟨_, rfl, ?_⟩
        refine zw_if_eq_f 161 169 f50_158 (by decide +kernel) rfl (by decide +kernel) ?_
        refine zw_iload_n 162 f50_161 rfl h2 ?_
        refine zw_if_le 165 169 f50_162 (by decide +kernel) rfl (fun hc4 => ?_) (fun hc4 => ?_)
        · refine zw_iconst 0 170 f50_169 rfl (by decide +kernel) ?_
          refine zw_ast v _ 171 f50_170 rfl (hb_29 _ _ _ _) (nI_clamp (by omega)) (nI_pos (by omega)) (by omega) (ha_29 _ _ _ _ _) ?_
          refine zw_aload_n 172 f50_171 rfl h0 ?_
          refine zw_getfield 175 f50_172 rfl g50_22_10 (hb_22 _ _ _ _) rfl ?_
          refine zw_iload_n 176 f50_175 rfl h1 ?_
          refine zw_iload_n 177 f50_176 rfl h2 ?_
          refine zw_aload_n 178 f50_177 rfl h0 ?_
          refine zw_getfield 181 f50_178 rfl g50_25_10 (hb_22 _ _ _ _) rfl ?_
          refine zw_iload_n 182 f50_181 rfl h1 ?_
          refine zw_iaload v 0 183 f50_182 rfl (hb_29 _ _ _ _) (nI_clamp (by omega)) (nI_pos (by omega)) (by omega) (if_pos rfl) ?_
          refine zw_isub (((mRO (P 60) (P 61) (P 62) (wRun nv P W) (W.2.2.2.2.1 v) v (s.1, s.2.1, s.1 v, 0) k).2.2.1) - 0) 184 f50_183 rfl rfl ?_
          refine zw_ast v _ 185 f50_184 rfl (hb_28 _ _ _ _) (nI_clamp (by omega)) (nI_pos (by omega)) (by omega) (ha_28 _ _ _ _ _) ?_
          refine zw_aload_n 186 f50_185 rfl h0 ?_
          refine zw_aload_n 187 f50_186 rfl h0 ?_
          refine zw_getfield 190 f50_187 rfl g50_37_10 (hb_22 _ _ _ _) rfl ?_
          refine zw_getfield 193 f50_190 rfl g50_100_4 (hb_1 _ _ _ _) rfl ?_
          refine zw_iload_n 194 f50_193 rfl h1 ?_
          rcases (hp.2.2.1 v (by omega)).2.2.2.2.2 with t5q | ⟨t5, t5l, t5n, t5q⟩
          · refine zw_iaload v (-1) 195 f50_194 rfl (hb_8 _ _ _ _) (nI_clamp (by omega)) (nI_pos (by omega)) (by omega) ((congrFun ((K0.2.2.1 8 rfl).trans (hR.2.1 59 (by omega) (by omega))) v).trans t5q) ?_
            refine zw_aload_n 196 f50_195 rfl h0 ?_
            refine zw_getfield 199 f50_196 rfl g50_25_10 (hb_22 _ _ _ _) rfl ?_
            refine zw_iload_n 200 f50_199 rfl h1 ?_
            refine zw_iaload v 0 201 f50_200 rfl (hb_29 _ _ _ _) (nI_clamp (by omega)) (nI_pos (by omega)) (by omega) (if_pos rfl) ?_
            refine zw_virtual_v 204 0 0 [.ref 22, .int (-1), .int 0] [(0, .ref 22), (1, .int (-1)), (2, .int 0)] f50_201 rfl n50_76 k50_76_10 rfl (hb_22 _ _ _ _) (by decide +kernel) (Nat.le_of_ble_eq_true rfl) rfl rfl (by decide +kernel) (by decide +kernel) rfl (Nat.le_of_ble_eq_true rfl) rfl ?_
            refine zw_aload_n 1 f51_0 rfl rfl ?_
            refine zw_getfield 4 f51_1 rfl g51_37_10 (hb_22 _ _ _ _) rfl ?_
            refine zw_iload_n 5 f51_4 rfl rfl ?_
            refine zw_virtual_i 8 0 0 [.ref 1, .int (-1)] [(0, .ref 1), (1, .int (-1))] f51_5 rfl n51_103 k51_103_4 rfl (hb_1 _ _ _ _) (by decide +kernel) (Nat.le_of_ble_eq_true rfl) rfl rfl (by decide +kernel) (by decide +kernel) rfl (Nat.le_of_ble_eq_true rfl) rfl ?_
            refine zw_iload_n 1 f13_0 rfl rfl ?_
            refine zw_if_lt_t 22 f13_1 (by decide +kernel) (by decide +kernel) ?_
            refine zw_iconst 0 23 f13_22 rfl (by decide +kernel) ?_
            refine zw_zreturn f13_23 r13 u13 (by decide +kernel) ⟨_, rfl, ?_⟩
            refine zw_if_eq_t 24 f51_8 (by decide +kernel) (by decide +kernel) ?_
            refine zw_aload_n 25 f51_24 rfl rfl ?_
            refine zw_dup 26 f51_25 rfl rfl ?_
            refine zw_getI (I1 22 7) 29 f51_26 rfl g51_58_10 (hb_22 _ _ _ _) rfl rfl ?_
            refine zw_iload_n 30 f51_29 rfl rfl ?_
            refine zw_iadd ((I1 22 7) + 0) 31 f51_30 rfl rfl ?_
            refine zw_put _ 34 f51_31 rfl g51_58_10 (hb_22 _ _ _ _) rfl (Nat.le_of_ble_eq_true rfl) (by decide +kernel) (hi_22_7 _ _ _ _ _) ?_
            refine zw_vreturn f51_34 r51 u51 ⟨rfl, ?_⟩
            refine zw_vreturn f50_204 r50 u50 ?_
            have hk : k = np := by omega
            have hE : (mRO (P 60) (P 61) (P 62) (wRun nv P W) (W.2.2.2.2.1 v) v (s.1, s.2.1, s.1 v, 0) np) = (mRO (P 60) (P 61) (P 62) (wRun nv P W) (W.2.2.2.2.1 v) v (s.1, s.2.1, s.1 v, 0) k) := by rw [hk]
            have EL := (mRO_left (nv := nv) (np := np) (frm := P 60) (too := P 61) (amt := P 62) (run := (wRun nv P W)) (lev := W.2.2.2.2.1 v) (v := v) (s := s) h8 (fun p hpp z => hto p hpp z) k (by omega)).2
            have E := mRateOf_n (over := P 59) (brim := P 54) (g := W.1) (lev := W.2.2.2.2.1) (s := s) hE (fun q => absurd q.1 (by rw [← EL]; exact Int32.not_lt.mpr hc4))
            rw [← EL] at E
            refine ⟨_, _, _, _, rfl, (KQ.i rfl (KQ.a rfl (KQ.a rfl K0))), ⟨?_, hr.2.2.2.2⟩, rfl⟩
            rw [E]
            exact ⟨hr.1, (Int32.add_zero _).trans hr.2.1, mC_n (fun j hj => (congrFun hr.2.2.1 j).trans (hs.2.2.1 j hj)) (Int32.sub_zero _), mC_k (fun j hj => (congrFun hr.2.2.2.1 j).trans (hs.2.2.2 j hj)) hz.symm⟩
          · refine zw_iaload v (nI t5) 195 f50_194 rfl (hb_8 _ _ _ _) (nI_clamp (by omega)) (nI_pos (by omega)) (by omega) ((congrFun ((K0.2.2.1 8 rfl).trans (hR.2.1 59 (by omega) (by omega))) v).trans t5q) ?_
            refine zw_aload_n 196 f50_195 rfl h0 ?_
            refine zw_getfield 199 f50_196 rfl g50_25_10 (hb_22 _ _ _ _) rfl ?_
            refine zw_iload_n 200 f50_199 rfl h1 ?_
            refine zw_iaload v 0 201 f50_200 rfl (hb_29 _ _ _ _) (nI_clamp (by omega)) (nI_pos (by omega)) (by omega) (if_pos rfl) ?_
            refine zw_virtual_v 204 0 0 [.ref 22, .int (nI t5), .int 0] [(0, .ref 22), (1, .int (nI t5)), (2, .int 0)] f50_201 rfl n50_76 k50_76_10 rfl (hb_22 _ _ _ _) (by decide +kernel) (Nat.le_of_ble_eq_true rfl) rfl rfl (by decide +kernel) (by decide +kernel) rfl (Nat.le_of_ble_eq_true rfl) rfl ?_
            refine zw_aload_n 1 f51_0 rfl rfl ?_
            refine zw_getfield 4 f51_1 rfl g51_37_10 (hb_22 _ _ _ _) rfl ?_
            refine zw_iload_n 5 f51_4 rfl rfl ?_
            refine zw_virtual_i 8 0 0 [.ref 1, .int (nI t5)] [(0, .ref 1), (1, .int (nI t5))] f51_5 rfl n51_103 k51_103_4 rfl (hb_1 _ _ _ _) (by decide +kernel) (Nat.le_of_ble_eq_true rfl) rfl rfl (by decide +kernel) (by decide +kernel) rfl (Nat.le_of_ble_eq_true rfl) rfl ?_
            refine zw_iload_n 1 f13_0 rfl rfl ?_
            refine zw_if_lt_f 4 22 f13_1 (by decide +kernel) rfl (nI_pos (by omega)) ?_
            refine zw_iload_n 5 f13_4 rfl rfl ?_
            refine zw_aload_n 6 f13_5 rfl rfl ?_
            refine zw_getI (nI nv) 9 f13_6 rfl g13_39_4 (hb_1 _ _ _ _) rfl ((K0.1 1 0 rfl).trans hR.1.1) ?_
            refine zw_ic_ge_f 12 22 f13_9 (by decide +kernel) rfl (fun q => absurd (zn_ge (a := nv) (b := t5) (by omega) (by omega) q) (by omega)) ?_
            refine zw_iload_n 13 f13_12 rfl rfl ?_
            refine zw_bipush 8 15 f13_13 rfl (by decide +kernel) ?_
            refine zw_ic_ge_f 18 22 f13_15 (by decide +kernel) rfl (fun q => absurd (zn_ge (a := 8) (b := t5) (by omega) (by omega) q) (by omega)) ?_
            refine zw_iconst 1 19 f13_18 rfl (by decide +kernel) ?_
            refine zw_goto 23 f13_19 (by decide +kernel) ?_
            refine zw_zreturn f13_23 r13 u13 (by decide +kernel) ⟨_, rfl, ?_⟩
            refine zw_if_eq_f 11 24 f51_8 (by decide +kernel) rfl (by decide +kernel) ?_
            refine zw_aload_n 12 f51_11 rfl rfl ?_
            refine zw_getfield 15 f51_12 rfl g51_18_10 (hb_22 _ _ _ _) rfl ?_
            refine zw_iload_n 16 f51_15 rfl rfl ?_
            refine zw_dup2 17 f51_16 rfl rfl rfl ?_
            refine zw_iaload t5 (A1 27 t5) 18 f51_17 rfl (hb_27 _ _ _ _) (nI_clamp (by omega)) (nI_pos (by omega)) (by omega) rfl ?_
            refine zw_iload_n 19 f51_18 rfl rfl ?_
            refine zw_iadd ((A1 27 t5) + 0) 20 f51_19 rfl rfl ?_
            refine zw_ast t5 _ 21 f51_20 rfl (hb_27 _ _ _ _) (nI_clamp (by omega)) (nI_pos (by omega)) (by omega) (ha_27 _ _ _ _ _) ?_
            refine zw_goto 34 f51_21 (by decide +kernel) ?_
            refine zw_vreturn f51_34 r51 u51 ⟨rfl, ?_⟩
            refine zw_vreturn f50_204 r50 u50 ?_
            have hk : k = np := by omega
            have hE : (mRO (P 60) (P 61) (P 62) (wRun nv P W) (W.2.2.2.2.1 v) v (s.1, s.2.1, s.1 v, 0) np) = (mRO (P 60) (P 61) (P 62) (wRun nv P W) (W.2.2.2.2.1 v) v (s.1, s.2.1, s.1 v, 0) k) := by rw [hk]
            have EL := (mRO_left (nv := nv) (np := np) (frm := P 60) (too := P 61) (amt := P 62) (run := (wRun nv P W)) (lev := W.2.2.2.2.1 v) (v := v) (s := s) h8 (fun p hpp z => hto p hpp z) k (by omega)).2
            have E := mRateOf_n (over := P 59) (brim := P 54) (g := W.1) (lev := W.2.2.2.2.1) (s := s) hE (fun q => absurd q.1 (by rw [← EL]; exact Int32.not_lt.mpr hc4))
            rw [← EL] at E
            refine ⟨_, _, _, _, rfl, (KQ.a rfl (KQ.a rfl (KQ.a rfl K0))), ⟨?_, hr.2.2.2.2⟩, rfl⟩
            rw [E]
            exact ⟨mC_0 hr.1, hr.2.1, mC_n (fun j hj => (congrFun hr.2.2.1 j).trans (hs.2.2.1 j hj)) (Int32.sub_zero _), mC_k (fun j hj => (congrFun hr.2.2.2.1 j).trans (hs.2.2.2 j hj)) hz.symm⟩
        · refine zw_iload_n 166 f50_165 rfl h2 ?_
          refine zw_goto 170 f50_166 (by decide +kernel) ?_
          refine zw_ast v _ 171 f50_170 rfl (hb_29 _ _ _ _) (nI_clamp (by omega)) (nI_pos (by omega)) (by omega) (ha_29 _ _ _ _ _) ?_
          refine zw_aload_n 172 f50_171 rfl h0 ?_
          refine zw_getfield 175 f50_172 rfl g50_22_10 (hb_22 _ _ _ _) rfl ?_
          refine zw_iload_n 176 f50_175 rfl h1 ?_
          refine zw_iload_n 177 f50_176 rfl h2 ?_
          refine zw_aload_n 178 f50_177 rfl h0 ?_
          refine zw_getfield 181 f50_178 rfl g50_25_10 (hb_22 _ _ _ _) rfl ?_
          refine zw_iload_n 182 f50_181 rfl h1 ?_
          refine zw_iaload v ((mRO (P 60) (P 61) (P 62) (wRun nv P W) (W.2.2.2.2.1 v) v (s.1, s.2.1, s.1 v, 0) k).2.2.1) 183 f50_182 rfl (hb_29 _ _ _ _) (nI_clamp (by omega)) (nI_pos (by omega)) (by omega) (if_pos rfl) ?_
          refine zw_isub (((mRO (P 60) (P 61) (P 62) (wRun nv P W) (W.2.2.2.2.1 v) v (s.1, s.2.1, s.1 v, 0) k).2.2.1) - ((mRO (P 60) (P 61) (P 62) (wRun nv P W) (W.2.2.2.2.1 v) v (s.1, s.2.1, s.1 v, 0) k).2.2.1)) 184 f50_183 rfl rfl ?_
          refine zw_ast v _ 185 f50_184 rfl (hb_28 _ _ _ _) (nI_clamp (by omega)) (nI_pos (by omega)) (by omega) (ha_28 _ _ _ _ _) ?_
          refine zw_aload_n 186 f50_185 rfl h0 ?_
          refine zw_aload_n 187 f50_186 rfl h0 ?_
          refine zw_getfield 190 f50_187 rfl g50_37_10 (hb_22 _ _ _ _) rfl ?_
          refine zw_getfield 193 f50_190 rfl g50_100_4 (hb_1 _ _ _ _) rfl ?_
          refine zw_iload_n 194 f50_193 rfl h1 ?_
          rcases (hp.2.2.1 v (by omega)).2.2.2.2.2 with t6q | ⟨t6, t6l, t6n, t6q⟩
          · refine zw_iaload v (-1) 195 f50_194 rfl (hb_8 _ _ _ _) (nI_clamp (by omega)) (nI_pos (by omega)) (by omega) ((congrFun ((K0.2.2.1 8 rfl).trans (hR.2.1 59 (by omega) (by omega))) v).trans t6q) ?_
            refine zw_aload_n 196 f50_195 rfl h0 ?_
            refine zw_getfield 199 f50_196 rfl g50_25_10 (hb_22 _ _ _ _) rfl ?_
            refine zw_iload_n 200 f50_199 rfl h1 ?_
            refine zw_iaload v ((mRO (P 60) (P 61) (P 62) (wRun nv P W) (W.2.2.2.2.1 v) v (s.1, s.2.1, s.1 v, 0) k).2.2.1) 201 f50_200 rfl (hb_29 _ _ _ _) (nI_clamp (by omega)) (nI_pos (by omega)) (by omega) (if_pos rfl) ?_
            refine zw_virtual_v 204 0 0 [.ref 22, .int (-1), .int ((mRO (P 60) (P 61) (P 62) (wRun nv P W) (W.2.2.2.2.1 v) v (s.1, s.2.1, s.1 v, 0) k).2.2.1)] [(0, .ref 22), (1, .int (-1)), (2, .int ((mRO (P 60) (P 61) (P 62) (wRun nv P W) (W.2.2.2.2.1 v) v (s.1, s.2.1, s.1 v, 0) k).2.2.1))] f50_201 rfl n50_76 k50_76_10 rfl (hb_22 _ _ _ _) (by decide +kernel) (Nat.le_of_ble_eq_true rfl) rfl rfl (by decide +kernel) (by decide +kernel) rfl (Nat.le_of_ble_eq_true rfl) rfl ?_
            refine zw_aload_n 1 f51_0 rfl rfl ?_
            refine zw_getfield 4 f51_1 rfl g51_37_10 (hb_22 _ _ _ _) rfl ?_
            refine zw_iload_n 5 f51_4 rfl rfl ?_
            refine zw_virtual_i 8 0 0 [.ref 1, .int (-1)] [(0, .ref 1), (1, .int (-1))] f51_5 rfl n51_103 k51_103_4 rfl (hb_1 _ _ _ _) (by decide +kernel) (Nat.le_of_ble_eq_true rfl) rfl rfl (by decide +kernel) (by decide +kernel) rfl (Nat.le_of_ble_eq_true rfl) rfl ?_
            refine zw_iload_n 1 f13_0 rfl rfl ?_
            refine zw_if_lt_t 22 f13_1 (by decide +kernel) (by decide +kernel) ?_
            refine zw_iconst 0 23 f13_22 rfl (by decide +kernel) ?_
            refine zw_zreturn f13_23 r13 u13 (by decide +kernel) ⟨_, rfl, ?_⟩
            refine zw_if_eq_t 24 f51_8 (by decide +kernel) (by decide +kernel) ?_
            refine zw_aload_n 25 f51_24 rfl rfl ?_
            refine zw_dup 26 f51_25 rfl rfl ?_
            refine zw_getI (I1 22 7) 29 f51_26 rfl g51_58_10 (hb_22 _ _ _ _) rfl rfl ?_
            refine zw_iload_n 30 f51_29 rfl rfl ?_
            refine zw_iadd ((I1 22 7) + ((mRO (P 60) (P 61) (P 62) (wRun nv P W) (W.2.2.2.2.1 v) v (s.1, s.2.1, s.1 v, 0) k).2.2.1)) 31 f51_30 rfl rfl ?_
            refine zw_put _ 34 f51_31 rfl g51_58_10 (hb_22 _ _ _ _) rfl (Nat.le_of_ble_eq_true rfl) (by decide +kernel) (hi_22_7 _ _ _ _ _) ?_
            refine zw_vreturn f51_34 r51 u51 ⟨rfl, ?_⟩
            refine zw_vreturn f50_204 r50 u50 ?_
            have hk : k = np := by omega
            have hE : (mRO (P 60) (P 61) (P 62) (wRun nv P W) (W.2.2.2.2.1 v) v (s.1, s.2.1, s.1 v, 0) np) = (mRO (P 60) (P 61) (P 62) (wRun nv P W) (W.2.2.2.2.1 v) v (s.1, s.2.1, s.1 v, 0) k) := by rw [hk]
            have EL := (mRO_left (nv := nv) (np := np) (frm := P 60) (too := P 61) (amt := P 62) (run := (wRun nv P W)) (lev := W.2.2.2.2.1 v) (v := v) (s := s) h8 (fun p hpp z => hto p hpp z) k (by omega)).2
            have hx : 0 < ((mRO (P 60) (P 61) (P 62) (wRun nv P W) (W.2.2.2.2.1 v) v (s.1, s.2.1, s.1 v, 0) k).1 v - (mRO (P 60) (P 61) (P 62) (wRun nv P W) (W.2.2.2.2.1 v) v (s.1, s.2.1, s.1 v, 0) k).2.2.2) := by rw [← EL]; exact Int32.not_le.mp hc4
            have E := mRateOf_y (over := P 59) (brim := P 54) (g := W.1) (lev := W.2.2.2.2.1) (s := s) (-1) t6q hE hx (full_eq hp hW hv (Int64.not_lt.mpr (Int64.not_lt.mp (fun q => hc2 ((lg_cmp_lt _ _).mpr q)))))
            rw [← EL] at E
            rw [mGoC_m, mGoD_m] at E
            refine ⟨_, _, _, _, rfl, (KQ.i rfl (KQ.a rfl (KQ.a rfl K0))), ⟨?_, hr.2.2.2.2⟩, rfl⟩
            rw [E]
            exact ⟨hr.1, congrArg (fun z => z + ((mRO (P 60) (P 61) (P 62) (wRun nv P W) (W.2.2.2.2.1 v) v (s.1, s.2.1, s.1 v, 0) k).2.2.1)) hr.2.1, mC_n (fun j hj => (congrFun hr.2.2.1 j).trans (hs.2.2.1 j hj)) (Int32.sub_self _), mC_n (fun j hj => (congrFun hr.2.2.2.1 j).trans (hs.2.2.2 j hj)) rfl⟩
          · refine zw_iaload v (nI t6) 195 f50_194 rfl (hb_8 _ _ _ _) (nI_clamp (by omega)) (nI_pos (by omega)) (by omega) ((congrFun ((K0.2.2.1 8 rfl).trans (hR.2.1 59 (by omega) (by omega))) v).trans t6q) ?_
            refine zw_aload_n 196 f50_195 rfl h0 ?_
            refine zw_getfield 199 f50_196 rfl g50_25_10 (hb_22 _ _ _ _) rfl ?_
            refine zw_iload_n 200 f50_199 rfl h1 ?_
            refine zw_iaload v ((mRO (P 60) (P 61) (P 62) (wRun nv P W) (W.2.2.2.2.1 v) v (s.1, s.2.1, s.1 v, 0) k).2.2.1) 201 f50_200 rfl (hb_29 _ _ _ _) (nI_clamp (by omega)) (nI_pos (by omega)) (by omega) (if_pos rfl) ?_
            refine zw_virtual_v 204 0 0 [.ref 22, .int (nI t6), .int ((mRO (P 60) (P 61) (P 62) (wRun nv P W) (W.2.2.2.2.1 v) v (s.1, s.2.1, s.1 v, 0) k).2.2.1)] [(0, .ref 22), (1, .int (nI t6)), (2, .int ((mRO (P 60) (P 61) (P 62) (wRun nv P W) (W.2.2.2.2.1 v) v (s.1, s.2.1, s.1 v, 0) k).2.2.1))] f50_201 rfl n50_76 k50_76_10 rfl (hb_22 _ _ _ _) (by decide +kernel) (Nat.le_of_ble_eq_true rfl) rfl rfl (by decide +kernel) (by decide +kernel) rfl (Nat.le_of_ble_eq_true rfl) rfl ?_
            refine zw_aload_n 1 f51_0 rfl rfl ?_
            refine zw_getfield 4 f51_1 rfl g51_37_10 (hb_22 _ _ _ _) rfl ?_
            refine zw_iload_n 5 f51_4 rfl rfl ?_
            refine zw_virtual_i 8 0 0 [.ref 1, .int (nI t6)] [(0, .ref 1), (1, .int (nI t6))] f51_5 rfl n51_103 k51_103_4 rfl (hb_1 _ _ _ _) (by decide +kernel) (Nat.le_of_ble_eq_true rfl) rfl rfl (by decide +kernel) (by decide +kernel) rfl (Nat.le_of_ble_eq_true rfl) rfl ?_
            refine zw_iload_n 1 f13_0 rfl rfl ?_
            refine zw_if_lt_f 4 22 f13_1 (by decide +kernel) rfl (nI_pos (by omega)) ?_
            refine zw_iload_n 5 f13_4 rfl rfl ?_
            refine zw_aload_n 6 f13_5 rfl rfl ?_
            refine zw_getI (nI nv) 9 f13_6 rfl g13_39_4 (hb_1 _ _ _ _) rfl ((K0.1 1 0 rfl).trans hR.1.1) ?_
            refine zw_ic_ge_f 12 22 f13_9 (by decide +kernel) rfl (fun q => absurd (zn_ge (a := nv) (b := t6) (by omega) (by omega) q) (by omega)) ?_
            refine zw_iload_n 13 f13_12 rfl rfl ?_
            refine zw_bipush 8 15 f13_13 rfl (by decide +kernel) ?_
            refine zw_ic_ge_f 18 22 f13_15 (by decide +kernel) rfl (fun q => absurd (zn_ge (a := 8) (b := t6) (by omega) (by omega) q) (by omega)) ?_
            refine zw_iconst 1 19 f13_18 rfl (by decide +kernel) ?_
            refine zw_goto 23 f13_19 (by decide +kernel) ?_
            refine zw_zreturn f13_23 r13 u13 (by decide +kernel) ⟨_, rfl, ?_⟩
            refine zw_if_eq_f 11 24 f51_8 (by decide +kernel) rfl (by decide +kernel) ?_
            refine zw_aload_n 12 f51_11 rfl rfl ?_
            refine zw_getfield 15 f51_12 rfl g51_18_10 (hb_22 _ _ _ _) rfl ?_
            refine zw_iload_n 16 f51_15 rfl rfl ?_
            refine zw_dup2 17 f51_16 rfl rfl rfl ?_
            refine zw_iaload t6 (A1 27 t6) 18 f51_17 rfl (hb_27 _ _ _ _) (nI_clamp (by omega)) (nI_pos (by omega)) (by omega) rfl ?_
            refine zw_iload_n 19 f51_18 rfl rfl ?_
            refine zw_iadd ((A1 27 t6) + ((mRO (P 60) (P 61) (P 62) (wRun nv P W) (W.2.2.2.2.1 v) v (s.1, s.2.1, s.1 v, 0) k).2.2.1)) 20 f51_19 rfl rfl ?_
            refine zw_ast t6 _ 21 f51_20 rfl (hb_27 _ _ _ _) (nI_clamp (by omega)) (nI_pos (by omega)) (by omega) (ha_27 _ _ _ _ _) ?_
            refine zw_goto 34 f51_21 (by decide +kernel) ?_
            refine zw_vreturn f51_34 r51 u51 ⟨rfl, ?_⟩
            refine zw_vreturn f50_204 r50 u50 ?_
            have hk : k = np := by omega
            have hE : (mRO (P 60) (P 61) (P 62) (wRun nv P W) (W.2.2.2.2.1 v) v (s.1, s.2.1, s.1 v, 0) np) = (mRO (P 60) (P 61) (P 62) (wRun nv P W) (W.2.2.2.2.1 v) v (s.1, s.2.1, s.1 v, 0) k) := by rw [hk]
            have EL := (mRO_left (nv := nv) (np := np) (frm := P 60) (too := P 61) (amt := P 62) (run := (wRun nv P W)) (lev := W.2.2.2.2.1 v) (v := v) (s := s) h8 (fun p hpp z => hto p hpp z) k (by omega)).2
            have hx : 0 < ((mRO (P 60) (P 61) (P 62) (wRun nv P W) (W.2.2.2.2.1 v) v (s.1, s.2.1, s.1 v, 0) k).1 v - (mRO (P 60) (P 61) (P 62) (wRun nv P W) (W.2.2.2.2.1 v) v (s.1, s.2.1, s.1 v, 0) k).2.2.2) := by rw [← EL]; exact Int32.not_le.mp hc4
            have E := mRateOf_y (over := P 59) (brim := P 54) (g := W.1) (lev := W.2.2.2.2.1) (s := s) (nI t6) t6q hE hx (full_eq hp hW hv (Int64.not_lt.mpr (Int64.not_lt.mp (fun q => hc2 ((lg_cmp_lt _ _).mpr q)))))
            rw [← EL] at E
            rw [mGoC_t (by omega), mGoD_t (by omega)] at E
            refine ⟨_, _, _, _, rfl, (KQ.a rfl (KQ.a rfl (KQ.a rfl K0))), ⟨?_, hr.2.2.2.2⟩, rfl⟩
            rw [E]
            exact ⟨mC_t hr.1 (by omega), hr.2.1, mC_n (fun j hj => (congrFun hr.2.2.1 j).trans (hs.2.2.1 j hj)) (Int32.sub_self _), mC_n (fun j hj => (congrFun hr.2.2.2.1 j).trans (hs.2.2.2 j hj)) rfl⟩
    · have hn_hc1 : k < np := zn_lt (by omega) (by omega) hc1
      refine zw_aload_n 43 f50_42 rfl h0 ?_
      refine zw_getfield 46 f50_43 rfl g50_37_10 (hb_22 _ _ _ _) rfl ?_
      refine zw_getfield 49 f50_46 rfl g50_64_4 (hb_1 _ _ _ _) rfl ?_
      refine zw_iload 51 f50_49 rfl h4 ?_
      refine zw_iaload k (P 60 k) 52 f50_51 rfl (hb_9 _ _ _ _) (nI_clamp (by omega)) (nI_pos (by omega)) (by omega) (congrFun (((K0.2.2.1 9 rfl).trans (hR.2.1 60 (by omega) (by omega)))) k) ?_
      refine zw_iload_n 53 f50_52 rfl h1 ?_
      refine zw_ic_ne 56 142 f50_53 (by decide +kernel) rfl (fun hc7 => ?_) (fun hc7 => ?_)
      · refine zw_iinc (nI (k + 1)) _ 145 f50_142 rfl h4 (by decide +kernel) (nI_1 _) rfl ?_
        refine zw_goto 30 f50_145 (by decide +kernel) ?_
        have E := mRO_n (frm := P 60) (too := P 61) (amt := P 62) (run := (wRun nv P W)) (lev := W.2.2.2.2.1 v) (v := v) (s := (s.1, s.2.1, s.1 v, 0)) (k := k) (fun q => hc7 q.1)
        exact ih (k + 1) _ _ _ _ _ K0 (by rw [E]; exact hr) (zl1_ne rfl rfl h0) (zl1_ne rfl rfl h1) (by rw [E]; exact (zl1_ne rfl rfl h2)) (zl1_ne rfl rfl h3) zl1_eq (by omega) (by omega)
      · refine zw_iload_n 57 f50_56 rfl h3 ?_
        refine zw_if_eq_t 73 f50_57 (by decide +kernel) (by decide +kernel) ?_
        refine zw_aload_n 74 f50_73 rfl h0 ?_
        refine zw_getfield 77 f50_74 rfl g50_12_10 (hb_22 _ _ _ _) rfl ?_
        refine zw_getfield 80 f50_77 rfl g50_70_9 (hb_23 _ _ _ _) rfl ?_
        refine zw_iload 82 f50_80 rfl h4 ?_
        refine zw_iaload k (P 62 k) 83 f50_82 rfl (hb_26 _ _ _ _) (nI_clamp (by omega)) (nI_pos (by omega)) (by omega) (congrFun (((K0.2.2.1 26 rfl).trans (hR.2.1 62 (by omega) (by omega)))) k) ?_
        refine zw_iload_n 84 f50_83 rfl h2 ?_
        refine zw_static_i 87 0 0 [.int (P 62 k), .int ((mRO (P 60) (P 61) (P 62) (wRun nv P W) (W.2.2.2.2.1 v) v (s.1, s.2.1, s.1 v, 0) k).2.2.1)] [] [(0, .int (P 62 k)), (1, .int ((mRO (P 60) (P 61) (P 62) (wRun nv P W) (W.2.2.2.2.1 v) v (s.1, s.2.1, s.1 v, 0) k).2.2.1))] f50_84 rfl k50_91_99 rfl (by decide +kernel) (Nat.le_of_ble_eq_true rfl) (Nat.le_of_ble_eq_true rfl) rfl rfl (by decide +kernel) (by decide +kernel) rfl (Nat.le_of_ble_eq_true rfl) rfl ?_
        refine zw_iload_n 1 f187_0 rfl rfl ?_
        refine zw_iload_n 2 f187_1 rfl rfl ?_
        refine zw_ic_gt 5 9 f187_2 (by decide +kernel) rfl (fun hc8 => ?_) (fun hc8 => ?_)
        · refine zw_iload_n 10 f187_9 rfl rfl ?_
          refine zw_ireturn f187_10 r187 u187 ⟨_, rfl, ?_⟩
          refine zw_istore _ 89 f50_87 rfl (by decide +kernel) rfl ?_
          refine zw_aload_n 90 f50_89 rfl (zl1_ne rfl rfl h0) ?_
          refine zw_getfield 93 f50_90 rfl g50_28_10 (hb_22 _ _ _ _) rfl ?_
          refine zw_iload 95 f50_93 rfl (zl1_ne rfl rfl h4) ?_
          refine zw_aload_n 96 f50_95 rfl (zl1_ne rfl rfl h0) ?_
          refine zw_iload 98 f50_96 rfl (zl1_ne rfl rfl h4) ?_
          refine zw_virtual_i 101 0 0 [.ref 22, .int (nI k)] [(0, .ref 22), (1, .int (nI k))] f50_98 rfl n50_67 k50_67_10 rfl (hb_22 _ _ _ _) (by decide +kernel) (Nat.le_of_ble_eq_true rfl) rfl rfl (by decide +kernel) (by decide +kernel) rfl (Nat.le_of_ble_eq_true rfl) rfl ?_
          refine zWp.mono (cx_runs_22 ro nv np P W _ _ _ _ (hR.k K0 ⟨rfl, rfl⟩ (fCr_w 22) (pCr_w 22 (by omega))) hp hb hq k (by omega)) ?_
          rintro r h1 ⟨rfl, rfl⟩
          refine ⟨_, rfl, ?_⟩
          refine zw_if_eq 104 109 f50_101 (by decide +kernel) rfl (fun hc9 => ?_) (fun hc9 => ?_)
          · refine zw_iconst 0 110 f50_109 rfl (by decide +kernel) ?_
            refine zw_ast k _ 111 f50_110 rfl (hb_30 _ _ _ _) (nI_clamp (by omega)) (nI_pos (by omega)) (by omega) (ha_30 _ _ _ _ _) ?_
            refine zw_iload_n 112 f50_111 rfl (zl1_ne rfl rfl h2) ?_
            refine zw_aload_n 113 f50_112 rfl (zl1_ne rfl rfl h0) ?_
            refine zw_getfield 116 f50_113 rfl g50_28_10 (hb_22 _ _ _ _) rfl ?_
            refine zw_iload 118 f50_116 rfl (zl1_ne rfl rfl h4) ?_
            refine zw_iaload k 0 119 f50_118 rfl (hb_30 _ _ _ _) (nI_clamp (by omega)) (nI_pos (by omega)) (by omega) (if_pos rfl) ?_
            refine zw_isub (((mRO (P 60) (P 61) (P 62) (wRun nv P W) (W.2.2.2.2.1 v) v (s.1, s.2.1, s.1 v, 0) k).2.2.1) - 0) 120 f50_119 rfl rfl ?_
            refine zw_istore_n _ 121 f50_120 rfl (by decide +kernel) rfl ?_
            refine zw_aload_n 122 f50_121 rfl (zl1_ne rfl rfl (zl1_ne rfl rfl h0)) ?_
            refine zw_aload_n 123 f50_122 rfl (zl1_ne rfl rfl (zl1_ne rfl rfl h0)) ?_
            refine zw_getfield 126 f50_123 rfl g50_37_10 (hb_22 _ _ _ _) rfl ?_
            refine zw_getfield 129 f50_126 rfl g50_73_4 (hb_1 _ _ _ _) rfl ?_
            refine zw_iload 131 f50_129 rfl (zl1_ne rfl rfl (zl1_ne rfl rfl h4)) ?_
            rcases (hp.2.2.2 k (by omega)).1 with t10q | ⟨t10, t10l, t10n, t10q⟩
            · refine zw_iaload k (-1) 132 f50_131 rfl (hb_10 _ _ _ _) (nI_clamp (by omega)) (nI_pos (by omega)) (by omega) ((congrFun ((K0.2.2.1 10 rfl).trans (hR.2.1 61 (by omega) (by omega))) k).trans t10q) ?_
              refine zw_aload_n 133 f50_132 rfl (zl1_ne rfl rfl (zl1_ne rfl rfl h0)) ?_
              refine zw_getfield 136 f50_133 rfl g50_28_10 (hb_22 _ _ _ _) rfl ?_
              refine zw_iload 138 f50_136 rfl (zl1_ne rfl rfl (zl1_ne rfl rfl h4)) ?_
              refine zw_iaload k 0 139 f50_138 rfl (hb_30 _ _ _ _) (nI_clamp (by omega)) (nI_pos (by omega)) (by omega) (if_pos rfl) ?_
              refine zw_virtual_v 142 0 0 [.ref 22, .int (-1), .int 0] [(0, .ref 22), (1, .int (-1)), (2, .int 0)] f50_139 rfl n50_76 k50_76_10 rfl (hb_22 _ _ _ _) (by decide +kernel) (Nat.le_of_ble_eq_true rfl) rfl rfl (by decide +kernel) (by decide +kernel) rfl (Nat.le_of_ble_eq_true rfl) rfl ?_
              refine zw_aload_n 1 f51_0 rfl rfl ?_
              refine zw_getfield 4 f51_1 rfl g51_37_10 (hb_22 _ _ _ _) rfl ?_
              refine zw_iload_n 5 f51_4 rfl rfl ?_
              refine zw_virtual_i 8 0 0 [.ref 1, .int (-1)] [(0, .ref 1), (1, .int (-1))] f51_5 rfl n51_103 k51_103_4 rfl (hb_1 _ _ _ _) (by decide +kernel) (Nat.le_of_ble_eq_true rfl) rfl rfl (by decide +kernel) (by decide +kernel) rfl (Nat.le_of_ble_eq_true rfl) rfl ?_
              refine zw_iload_n 1 f13_0 rfl rfl ?_
              refine zw_if_lt_t 22 f13_1 (by decide +kernel) (by decide +kernel) ?_
              refine zw_iconst 0 23 f13_22 rfl (by decide +kernel) ?_
              refine zw_zreturn f13_23 r13 u13 (by decide +kernel) ⟨_, rfl, ?_⟩
              refine zw_if_eq_t 24 f51_8 (by decide +kernel) (by decide +kernel) ?_
              refine zw_aload_n 25 f51_24 rfl rfl ?_
              refine zw_dup 26 f51_25 rfl rfl ?_
              refine zw_getI (I1 22 7) 29 f51_26 rfl g51_58_10 (hb_22 _ _ _ _) rfl rfl ?_
              refine zw_iload_n 30 f51_29 rfl rfl ?_
              refine zw_iadd ((I1 22 7) + 0) 31 f51_30 rfl rfl ?_
              refine zw_put _ 34 f51_31 rfl g51_58_10 (hb_22 _ _ _ _) rfl (Nat.le_of_ble_eq_true rfl) (by decide +kernel) (hi_22_7 _ _ _ _ _) ?_
              refine zw_vreturn f51_34 r51 u51 ⟨rfl, ?_⟩
              refine zw_iinc (nI (k + 1)) _ 145 f50_142 rfl (zl1_ne rfl rfl (zl1_ne rfl rfl h4)) (by decide +kernel) (nI_1 _) rfl ?_
              refine zw_goto 30 f50_145 (by decide +kernel) ?_
              have E := mRO_n (frm := P 60) (too := P 61) (amt := P 62) (run := (wRun nv P W)) (lev := W.2.2.2.2.1 v) (v := v) (s := (s.1, s.2.1, s.1 v, 0)) (k := k) (fun q => q.2 hc9)
              exact ih (k + 1) _ _ _ _ _ (KQ.i rfl (KQ.a rfl K0)) (by rw [E]; exact ⟨hr.1, (Int32.add_zero _).trans hr.2.1, hr.2.2⟩) (zl1_ne rfl rfl (zl1_ne rfl rfl (zl1_ne rfl rfl h0))) (zl1_ne rfl rfl (zl1_ne rfl rfl (zl1_ne rfl rfl h1))) (by rw [E]; exact (zld_s0 (zl1_ne rfl rfl zl1_eq))) (zl1_ne rfl rfl (zl1_ne rfl rfl (zl1_ne rfl rfl h3))) zl1_eq (by omega) (by omega)
            · refine zw_iaload k (nI t10) 132 f50_131 rfl (hb_10 _ _ _ _) (nI_clamp (by omega)) (nI_pos (by omega)) (by omega) ((congrFun ((K0.2.2.1 10 rfl).trans (hR.2.1 61 (by omega) (by omega))) k).trans t10q) ?_
              refine zw_aload_n 133 f50_132 rfl (zl1_ne rfl rfl (zl1_ne rfl rfl h0)) ?_
              refine zw_getfield 136 f50_133 rfl g50_28_10 (hb_22 _ _ _ _) rfl ?_
              refine zw_iload 138 f50_136 rfl (zl1_ne rfl rfl (zl1_ne rfl rfl h4)) ?_
              refine zw_iaload k 0 139 f50_138 rfl (hb_30 _ _ _ _) (nI_clamp (by omega)) (nI_pos (by omega)) (by omega) (if_pos rfl) ?_
              refine zw_virtual_v 142 0 0 [.ref 22, .int (nI t10), .int 0] [(0, .ref 22), (1, .int (nI t10)), (2, .int 0)] f50_139 rfl n50_76 k50_76_10 rfl (hb_22 _ _ _ _) (by decide +kernel) (Nat.le_of_ble_eq_true rfl) rfl rfl (by decide +kernel) (by decide +kernel) rfl (Nat.le_of_ble_eq_true rfl) rfl ?_
              refine zw_aload_n 1 f51_0 rfl rfl ?_
              refine zw_getfield 4 f51_1 rfl g51_37_10 (hb_22 _ _ _ _) rfl ?_
              refine zw_iload_n 5 f51_4 rfl rfl ?_
              refine zw_virtual_i 8 0 0 [.ref 1, .int (nI t10)] [(0, .ref 1), (1, .int (nI t10))] f51_5 rfl n51_103 k51_103_4 rfl (hb_1 _ _ _ _) (by decide +kernel) (Nat.le_of_ble_eq_true rfl) rfl rfl (by decide +kernel) (by decide +kernel) rfl (Nat.le_of_ble_eq_true rfl) rfl ?_
              refine zw_iload_n 1 f13_0 rfl rfl ?_
              refine zw_if_lt_f 4 22 f13_1 (by decide +kernel) rfl (nI_pos (by omega)) ?_
              refine zw_iload_n 5 f13_4 rfl rfl ?_
              refine zw_aload_n 6 f13_5 rfl rfl ?_
              refine zw_getI (nI nv) 9 f13_6 rfl g13_39_4 (hb_1 _ _ _ _) rfl ((K0.1 1 0 rfl).trans hR.1.1) ?_
              refine zw_ic_ge_f 12 22 f13_9 (by decide +kernel) rfl (fun q => absurd (zn_ge (a := nv) (b := t10) (by omega) (by omega) q) (by omega)) ?_
              refine zw_iload_n 13 f13_12 rfl rfl ?_
              refine zw_bipush 8 15 f13_13 rfl (by decide +kernel) ?_
              refine zw_ic_ge_f 18 22 f13_15 (by decide +kernel) rfl (fun q => absurd (zn_ge (a := 8) (b := t10) (by omega) (by omega) q) (by omega)) ?_
              refine zw_iconst 1 19 f13_18 rfl (by decide +kernel) ?_
              refine zw_goto 23 f13_19 (by decide +kernel) ?_
              refine zw_zreturn f13_23 r13 u13 (by decide +kernel) ⟨_, rfl, ?_⟩
              refine zw_if_eq_f 11 24 f51_8 (by decide +kernel) rfl (by decide +kernel) ?_
              refine zw_aload_n 12 f51_11 rfl rfl ?_
              refine zw_getfield 15 f51_12 rfl g51_18_10 (hb_22 _ _ _ _) rfl ?_
              refine zw_iload_n 16 f51_15 rfl rfl ?_
              refine zw_dup2 17 f51_16 rfl rfl rfl ?_
              refine zw_iaload t10 (A1 27 t10) 18 f51_17 rfl (hb_27 _ _ _ _) (nI_clamp (by omega)) (nI_pos (by omega)) (by omega) rfl ?_
              refine zw_iload_n 19 f51_18 rfl rfl ?_
              refine zw_iadd ((A1 27 t10) + 0) 20 f51_19 rfl rfl ?_
              refine zw_ast t10 _ 21 f51_20 rfl (hb_27 _ _ _ _) (nI_clamp (by omega)) (nI_pos (by omega)) (by omega) (ha_27 _ _ _ _ _) ?_
              refine zw_goto 34 f51_21 (by decide +kernel) ?_
              refine zw_vreturn f51_34 r51 u51 ⟨rfl, ?_⟩
              refine zw_iinc (nI (k + 1)) _ 145 f50_142 rfl (zl1_ne rfl rfl (zl1_ne rfl rfl h4)) (by decide +kernel) (nI_1 _) rfl ?_
              refine zw_goto 30 f50_145 (by decide +kernel) ?_
              have E := mRO_n (frm := P 60) (too := P 61) (amt := P 62) (run := (wRun nv P W)) (lev := W.2.2.2.2.1 v) (v := v) (s := (s.1, s.2.1, s.1 v, 0)) (k := k) (fun q => q.2 hc9)
              exact ih (k + 1) _ _ _ _ _ (KQ.a rfl (KQ.a rfl K0)) (by rw [E]; exact ⟨mC_0 hr.1, hr.2⟩) (zl1_ne rfl rfl (zl1_ne rfl rfl (zl1_ne rfl rfl h0))) (zl1_ne rfl rfl (zl1_ne rfl rfl (zl1_ne rfl rfl h1))) (by rw [E]; exact (zld_s0 (zl1_ne rfl rfl zl1_eq))) (zl1_ne rfl rfl (zl1_ne rfl rfl (zl1_ne rfl rfl h3))) zl1_eq (by omega) (by omega)
          · refine zw_iload 106 f50_104 rfl zl1_eq ?_
            refine zw_goto 110 f50_106 (by decide +kernel) ?_
            refine zw_ast k _ 111 f50_110 rfl (hb_30 _ _ _ _) (nI_clamp (by omega)) (nI_pos (by omega)) (by omega) (ha_30 _ _ _ _ _) ?_
            refine zw_iload_n 112 f50_111 rfl (zl1_ne rfl rfl h2) ?_
            refine zw_aload_n 113 f50_112 rfl (zl1_ne rfl rfl h0) ?_
            refine zw_getfield 116 f50_113 rfl g50_28_10 (hb_22 _ _ _ _) rfl ?_
            refine zw_iload 118 f50_116 rfl (zl1_ne rfl rfl h4) ?_
            refine zw_iaload k ((mRO (P 60) (P 61) (P 62) (wRun nv P W) (W.2.2.2.2.1 v) v (s.1, s.2.1, s.1 v, 0) k).2.2.1) 119 f50_118 rfl (hb_30 _ _ _ _) (nI_clamp (by omega)) (nI_pos (by omega)) (by omega) (if_pos rfl) ?_
            refine zw_isub (((mRO (P 60) (P 61) (P 62) (wRun nv P W) (W.2.2.2.2.1 v) v (s.1, s.2.1, s.1 v, 0) k).2.2.1) - ((mRO (P 60) (P 61) (P 62) (wRun nv P W) (W.2.2.2.2.1 v) v (s.1, s.2.1, s.1 v, 0) k).2.2.1)) 120 f50_119 rfl rfl ?_
            refine zw_istore_n _ 121 f50_120 rfl (by decide +kernel) rfl ?_
            refine zw_aload_n 122 f50_121 rfl (zl1_ne rfl rfl (zl1_ne rfl rfl h0)) ?_
            refine zw_aload_n 123 f50_122 rfl (zl1_ne rfl rfl (zl1_ne rfl rfl h0)) ?_
            refine zw_getfield 126 f50_123 rfl g50_37_10 (hb_22 _ _ _ _) rfl ?_
            refine zw_getfield 129 f50_126 rfl g50_73_4 (hb_1 _ _ _ _) rfl ?_
            refine zw_iload 131 f50_129 rfl (zl1_ne rfl rfl (zl1_ne rfl rfl h4)) ?_
            rcases (hp.2.2.2 k (by omega)).1 with t11q | ⟨t11, t11l, t11n, t11q⟩
            · refine zw_iaload k (-1) 132 f50_131 rfl (hb_10 _ _ _ _) (nI_clamp (by omega)) (nI_pos (by omega)) (by omega) ((congrFun ((K0.2.2.1 10 rfl).trans (hR.2.1 61 (by omega) (by omega))) k).trans t11q) ?_
              refine zw_aload_n 133 f50_132 rfl (zl1_ne rfl rfl (zl1_ne rfl rfl h0)) ?_
              refine zw_getfield 136 f50_133 rfl g50_28_10 (hb_22 _ _ _ _) rfl ?_
              refine zw_iload 138 f50_136 rfl (zl1_ne rfl rfl (zl1_ne rfl rfl h4)) ?_
              refine zw_iaload k ((mRO (P 60) (P 61) (P 62) (wRun nv P W) (W.2.2.2.2.1 v) v (s.1, s.2.1, s.1 v, 0) k).2.2.1) 139 f50_138 rfl (hb_30 _ _ _ _) (nI_clamp (by omega)) (nI_pos (by omega)) (by omega) (if_pos rfl) ?_
              refine zw_virtual_v 142 0 0 [.ref 22, .int (-1), .int ((mRO (P 60) (P 61) (P 62) (wRun nv P W) (W.2.2.2.2.1 v) v (s.1, s.2.1, s.1 v, 0) k).2.2.1)] [(0, .ref 22), (1, .int (-1)), (2, .int ((mRO (P 60) (P 61) (P 62) (wRun nv P W) (W.2.2.2.2.1 v) v (s.1, s.2.1, s.1 v, 0) k).2.2.1))] f50_139 rfl n50_76 k50_76_10 rfl (hb_22 _ _ _ _) (by decide +kernel) (Nat.le_of_ble_eq_true rfl) rfl rfl (by decide +kernel) (by decide +kernel) rfl (Nat.le_of_ble_eq_true rfl) rfl ?_
              refine zw_aload_n 1 f51_0 rfl rfl ?_
              refine zw_getfield 4 f51_1 rfl g51_37_10 (hb_22 _ _ _ _) rfl ?_
              refine zw_iload_n 5 f51_4 rfl rfl ?_
              refine zw_virtual_i 8 0 0 [.ref 1, .int (-1)] [(0, .ref 1), (1, .int (-1))] f51_5 rfl n51_103 k51_103_4 rfl (hb_1 _ _ _ _) (by decide +kernel) (Nat.le_of_ble_eq_true rfl) rfl rfl (by decide +kernel) (by decide +kernel) rfl (Nat.le_of_ble_eq_true rfl) rfl ?_
              refine zw_iload_n 1 f13_0 rfl rfl ?_
              refine zw_if_lt_t 22 f13_1 (by decide +kernel) (by decide +kernel) ?_
              refine zw_iconst 0 23 f13_22 rfl (by decide +kernel) ?_
              refine zw_zreturn f13_23 r13 u13 (by decide +kernel) ⟨_, rfl, ?_⟩
              refine zw_if_eq_t 24 f51_8 (by decide +kernel) (by decide +kernel) ?_
              refine zw_aload_n 25 f51_24 rfl rfl ?_
              refine zw_dup 26 f51_25 rfl rfl ?_
              refine zw_getI (I1 22 7) 29 f51_26 rfl g51_58_10 (hb_22 _ _ _ _) rfl rfl ?_
              refine zw_iload_n 30 f51_29 rfl rfl ?_
              refine zw_iadd ((I1 22 7) + ((mRO (P 60) (P 61) (P 62) (wRun nv P W) (W.2.2.2.2.1 v) v (s.1, s.2.1, s.1 v, 0) k).2.2.1)) 31 f51_30 rfl rfl ?_
              refine zw_put _ 34 f51_31 rfl g51_58_10 (hb_22 _ _ _ _) rfl (Nat.le_of_ble_eq_true rfl) (by decide +kernel) (hi_22_7 _ _ _ _ _) ?_
              refine zw_vreturn f51_34 r51 u51 ⟨rfl, ?_⟩
              refine zw_iinc (nI (k + 1)) _ 145 f50_142 rfl (zl1_ne rfl rfl (zl1_ne rfl rfl h4)) (by decide +kernel) (nI_1 _) rfl ?_
              refine zw_goto 30 f50_145 (by decide +kernel) ?_
              have E := mRO_y (frm := P 60) (too := P 61) (amt := P 62) (run := (wRun nv P W)) (lev := W.2.2.2.2.1 v) (v := v) (s := (s.1, s.2.1, s.1 v, 0)) (k := k) ((mRO (P 60) (P 61) (P 62) (wRun nv P W) (W.2.2.2.2.1 v) v (s.1, s.2.1, s.1 v, 0) k).2.2.1) (-1) t11q (mFl_l hw hc8) (Decidable.of_not_not hc7) hc9
              rw [mGoC_m, mGoD_m] at E
              exact ih (k + 1) _ _ _ _ _ (KQ.i rfl (KQ.a rfl K0)) (by rw [E]; exact ⟨hr.1, congrArg (fun z => z + ((mRO (P 60) (P 61) (P 62) (wRun nv P W) (W.2.2.2.2.1 v) v (s.1, s.2.1, s.1 v, 0) k).2.2.1)) hr.2.1, hr.2.2⟩) (zl1_ne rfl rfl (zl1_ne rfl rfl (zl1_ne rfl rfl h0))) (zl1_ne rfl rfl (zl1_ne rfl rfl (zl1_ne rfl rfl h1))) (by rw [E]; exact (zl1_ne rfl rfl zl1_eq)) (zl1_ne rfl rfl (zl1_ne rfl rfl (zl1_ne rfl rfl h3))) zl1_eq (by omega) (by omega)
            · refine zw_iaload k (nI t11) 132 f50_131 rfl (hb_10 _ _ _ _) (nI_clamp (by omega)) (nI_pos (by omega)) (by omega) ((congrFun ((K0.2.2.1 10 rfl).trans (hR.2.1 61 (by omega) (by omega))) k).trans t11q) ?_
              refine zw_aload_n 133 f50_132 rfl (zl1_ne rfl rfl (zl1_ne rfl rfl h0)) ?_
              refine zw_getfield 136 f50_133 rfl g50_28_10 (hb_22 _ _ _ _) rfl ?_
              refine zw_iload 138 f50_136 rfl (zl1_ne rfl rfl (zl1_ne rfl rfl h4)) ?_
              refine zw_iaload k ((mRO (P 60) (P 61) (P 62) (wRun nv P W) (W.2.2.2.2.1 v) v (s.1, s.2.1, s.1 v, 0) k).2.2.1) 139 f50_138 rfl (hb_30 _ _ _ _) (nI_clamp (by omega)) (nI_pos (by omega)) (by omega) (if_pos rfl) ?_
              refine zw_virtual_v 142 0 0 [.ref 22, .int (nI t11), .int ((mRO (P 60) (P 61) (P 62) (wRun nv P W) (W.2.2.2.2.1 v) v (s.1, s.2.1, s.1 v, 0) k).2.2.1)] [(0, .ref 22), (1, .int (nI t11)), (2, .int ((mRO (P 60) (P 61) (P 62) (wRun nv P W) (W.2.2.2.2.1 v) v (s.1, s.2.1, s.1 v, 0) k).2.2.1))] f50_139 rfl n50_76 k50_76_10 rfl (hb_22 _ _ _ _) (by decide +kernel) (Nat.le_of_ble_eq_true rfl) rfl rfl (by decide +kernel) (by decide +kernel) rfl (Nat.le_of_ble_eq_true rfl) rfl ?_
              refine zw_aload_n 1 f51_0 rfl rfl ?_
              refine zw_getfield 4 f51_1 rfl g51_37_10 (hb_22 _ _ _ _) rfl ?_
              refine zw_iload_n 5 f51_4 rfl rfl ?_
              refine zw_virtual_i 8 0 0 [.ref 1, .int (nI t11)] [(0, .ref 1), (1, .int (nI t11))] f51_5 rfl n51_103 k51_103_4 rfl (hb_1 _ _ _ _) (by decide +kernel) (Nat.le_of_ble_eq_true rfl) rfl rfl (by decide +kernel) (by decide +kernel) rfl (Nat.le_of_ble_eq_true rfl) rfl ?_
              refine zw_iload_n 1 f13_0 rfl rfl ?_
              refine zw_if_lt_f 4 22 f13_1 (by decide +kernel) rfl (nI_pos (by omega)) ?_
              refine zw_iload_n 5 f13_4 rfl rfl ?_
              refine zw_aload_n 6 f13_5 rfl rfl ?_
              refine zw_getI (nI nv) 9 f13_6 rfl g13_39_4 (hb_1 _ _ _ _) rfl ((K0.1 1 0 rfl).trans hR.1.1) ?_
              refine zw_ic_ge_f 12 22 f13_9 (by decide +kernel) rfl (fun q => absurd (zn_ge (a := nv) (b := t11) (by omega) (by omega) q) (by omega)) ?_
              refine zw_iload_n 13 f13_12 rfl rfl ?_
              refine zw_bipush 8 15 f13_13 rfl (by decide +kernel) ?_
              refine zw_ic_ge_f 18 22 f13_15 (by decide +kernel) rfl (fun q => absurd (zn_ge (a := 8) (b := t11) (by omega) (by omega) q) (by omega)) ?_
              refine zw_iconst 1 19 f13_18 rfl (by decide +kernel) ?_
              refine zw_goto 23 f13_19 (by decide +kernel) ?_
              refine zw_zreturn f13_23 r13 u13 (by decide +kernel) ⟨_, rfl, ?_⟩
              refine zw_if_eq_f 11 24 f51_8 (by decide +kernel) rfl (by decide +kernel) ?_
              refine zw_aload_n 12 f51_11 rfl rfl ?_
              refine zw_getfield 15 f51_12 rfl g51_18_10 (hb_22 _ _ _ _) rfl ?_
              refine zw_iload_n 16 f51_15 rfl rfl ?_
              refine zw_dup2 17 f51_16 rfl rfl rfl ?_
              refine zw_iaload t11 (A1 27 t11) 18 f51_17 rfl (hb_27 _ _ _ _) (nI_clamp (by omega)) (nI_pos (by omega)) (by omega) rfl ?_
              refine zw_iload_n 19 f51_18 rfl rfl ?_
              refine zw_iadd ((A1 27 t11) + ((mRO (P 60) (P 61) (P 62) (wRun nv P W) (W.2.2.2.2.1 v) v (s.1, s.2.1, s.1 v, 0) k).2.2.1)) 20 f51_19 rfl rfl ?_
              refine zw_ast t11 _ 21 f51_20 rfl (hb_27 _ _ _ _) (nI_clamp (by omega)) (nI_pos (by omega)) (by omega) (ha_27 _ _ _ _ _) ?_
              refine zw_goto 34 f51_21 (by decide +kernel) ?_
              refine zw_vreturn f51_34 r51 u51 ⟨rfl, ?_⟩
              refine zw_iinc (nI (k + 1)) _ 145 f50_142 rfl (zl1_ne rfl rfl (zl1_ne rfl rfl h4)) (by decide +kernel) (nI_1 _) rfl ?_
              refine zw_goto 30 f50_145 (by decide +kernel) ?_
              have E := mRO_y (frm := P 60) (too := P 61) (amt := P 62) (run := (wRun nv P W)) (lev := W.2.2.2.2.1 v) (v := v) (s := (s.1, s.2.1, s.1 v, 0)) (k := k) ((mRO (P 60) (P 61) (P 62) (wRun nv P W) (W.2.2.2.2.1 v) v (s.1, s.2.1, s.1 v, 0) k).2.2.1) (nI t11) t11q (mFl_l hw hc8) (Decidable.of_not_not hc7) hc9
              rw [mGoC_t (by omega), mGoD_t (by omega)] at E
              exact ih (k + 1) _ _ _ _ _ (KQ.a rfl (KQ.a rfl K0)) (by rw [E]; exact ⟨mC_t hr.1 (by omega), hr.2⟩) (zl1_ne rfl rfl (zl1_ne rfl rfl (zl1_ne rfl rfl h0))) (zl1_ne rfl rfl (zl1_ne rfl rfl (zl1_ne rfl rfl h1))) (by rw [E]; exact (zl1_ne rfl rfl zl1_eq)) (zl1_ne rfl rfl (zl1_ne rfl rfl (zl1_ne rfl rfl h3))) zl1_eq (by omega) (by omega)
        · refine zw_iload_n 6 f187_5 rfl rfl ?_
          refine zw_goto 10 f187_6 (by decide +kernel) ?_
          refine zw_ireturn f187_10 r187 u187 ⟨_, rfl, ?_⟩
          refine zw_istore _ 89 f50_87 rfl (by decide +kernel) rfl ?_
          refine zw_aload_n 90 f50_89 rfl (zl1_ne rfl rfl h0) ?_
          refine zw_getfield 93 f50_90 rfl g50_28_10 (hb_22 _ _ _ _) rfl ?_
          refine zw_iload 95 f50_93 rfl (zl1_ne rfl rfl h4) ?_
          refine zw_aload_n 96 f50_95 rfl (zl1_ne rfl rfl h0) ?_
          refine zw_iload 98 f50_96 rfl (zl1_ne rfl rfl h4) ?_
          refine zw_virtual_i 101 0 0 [.ref 22, .int (nI k)] [(0, .ref 22), (1, .int (nI k))] f50_98 rfl n50_67 k50_67_10 rfl (hb_22 _ _ _ _) (by decide +kernel) (Nat.le_of_ble_eq_true rfl) rfl rfl (by decide +kernel) (by decide +kernel) rfl (Nat.le_of_ble_eq_true rfl) rfl ?_
          refine zWp.mono (cx_runs_22 ro nv np P W _ _ _ _ (hR.k K0 ⟨rfl, rfl⟩ (fCr_w 22) (pCr_w 22 (by omega))) hp hb hq k (by omega)) ?_
          rintro r h1 ⟨rfl, rfl⟩
          refine ⟨_, rfl, ?_⟩
          refine zw_if_eq 104 109 f50_101 (by decide +kernel) rfl (fun hc12 => ?_) (fun hc12 => ?_)
          · refine zw_iconst 0 110 f50_109 rfl (by decide +kernel) ?_
            refine zw_ast k _ 111 f50_110 rfl (hb_30 _ _ _ _) (nI_clamp (by omega)) (nI_pos (by omega)) (by omega) (ha_30 _ _ _ _ _) ?_
            refine zw_iload_n 112 f50_111 rfl (zl1_ne rfl rfl h2) ?_
            refine zw_aload_n 113 f50_112 rfl (zl1_ne rfl rfl h0) ?_
            refine zw_getfield 116 f50_113 rfl g50_28_10 (hb_22 _ _ _ _) rfl ?_
            refine zw_iload 118 f50_116 rfl (zl1_ne rfl rfl h4) ?_
            refine zw_iaload k 0 119 f50_118 rfl (hb_30 _ _ _ _) (nI_clamp (by omega)) (nI_pos (by omega)) (by omega) (if_pos rfl) ?_
            refine zw_isub (((mRO (P 60) (P 61) (P 62) (wRun nv P W) (W.2.2.2.2.1 v) v (s.1, s.2.1, s.1 v, 0) k).2.2.1) - 0) 120 f50_119 rfl rfl ?_
            refine zw_istore_n _ 121 f50_120 rfl (by decide +kernel) rfl ?_
            refine zw_aload_n 122 f50_121 rfl (zl1_ne rfl rfl (zl1_ne rfl rfl h0)) ?_
            refine zw_aload_n 123 f50_122 rfl (zl1_ne rfl rfl (zl1_ne rfl rfl h0)) ?_
            refine zw_getfield 126 f50_123 rfl g50_37_10 (hb_22 _ _ _ _) rfl ?_
            refine zw_getfield 129 f50_126 rfl g50_73_4 (hb_1 _ _ _ _) rfl ?_
            refine zw_iload 131 f50_129 rfl (zl1_ne rfl rfl (zl1_ne rfl rfl h4)) ?_
            rcases (hp.2.2.2 k (by omega)).1 with t13q | ⟨t13, t13l, t13n, t13q⟩
            · refine zw_iaload k (-1) 132 f50_131 rfl (hb_10 _ _ _ _) (nI_clamp (by omega)) (nI_pos (by omega)) (by omega) ((congrFun ((K0.2.2.1 10 rfl).trans (hR.2.1 61 (by omega) (by omega))) k).trans t13q) ?_
              refine zw_aload_n 133 f50_132 rfl (zl1_ne rfl rfl (zl1_ne rfl rfl h0)) ?_
              refine zw_getfield 136 f50_133 rfl g50_28_10 (hb_22 _ _ _ _) rfl ?_
              refine zw_iload 138 f50_136 rfl (zl1_ne rfl rfl (zl1_ne rfl rfl h4)) ?_
              refine zw_iaload k 0 139 f50_138 rfl (hb_30 _ _ _ _) (nI_clamp (by omega)) (nI_pos (by omega)) (by omega) (if_pos rfl) ?_
              refine zw_virtual_v 142 0 0 [.ref 22, .int (-1), .int 0] [(0, .ref 22), (1, .int (-1)), (2, .int 0)] f50_139 rfl n50_76 k50_76_10 rfl (hb_22 _ _ _ _) (by decide +kernel) (Nat.le_of_ble_eq_true rfl) rfl rfl (by decide +kernel) (by decide +kernel) rfl (Nat.le_of_ble_eq_true rfl) rfl ?_
              refine zw_aload_n 1 f51_0 rfl rfl ?_
              refine zw_getfield 4 f51_1 rfl g51_37_10 (hb_22 _ _ _ _) rfl ?_
              refine zw_iload_n 5 f51_4 rfl rfl ?_
              refine zw_virtual_i 8 0 0 [.ref 1, .int (-1)] [(0, .ref 1), (1, .int (-1))] f51_5 rfl n51_103 k51_103_4 rfl (hb_1 _ _ _ _) (by decide +kernel) (Nat.le_of_ble_eq_true rfl) rfl rfl (by decide +kernel) (by decide +kernel) rfl (Nat.le_of_ble_eq_true rfl) rfl ?_
              refine zw_iload_n 1 f13_0 rfl rfl ?_
              refine zw_if_lt_t 22 f13_1 (by decide +kernel) (by decide +kernel) ?_
              refine zw_iconst 0 23 f13_22 rfl (by decide +kernel) ?_
              refine zw_zreturn f13_23 r13 u13 (by decide +kernel) ⟨_, rfl, ?_⟩
              refine zw_if_eq_t 24 f51_8 (by decide +kernel) (by decide +kernel) ?_
              refine zw_aload_n 25 f51_24 rfl rfl ?_
              refine zw_dup 26 f51_25 rfl rfl ?_
              refine zw_getI (I1 22 7) 29 f51_26 rfl g51_58_10 (hb_22 _ _ _ _) rfl rfl ?_
              refine zw_iload_n 30 f51_29 rfl rfl ?_
              refine zw_iadd ((I1 22 7) + 0) 31 f51_30 rfl rfl ?_
              refine zw_put _ 34 f51_31 rfl g51_58_10 (hb_22 _ _ _ _) rfl (Nat.le_of_ble_eq_true rfl) (by decide +kernel) (hi_22_7 _ _ _ _ _) ?_
              refine zw_vreturn f51_34 r51 u51 ⟨rfl, ?_⟩
              refine zw_iinc (nI (k + 1)) _ 145 f50_142 rfl (zl1_ne rfl rfl (zl1_ne rfl rfl h4)) (by decide +kernel) (nI_1 _) rfl ?_
              refine zw_goto 30 f50_145 (by decide +kernel) ?_
              have E := mRO_n (frm := P 60) (too := P 61) (amt := P 62) (run := (wRun nv P W)) (lev := W.2.2.2.2.1 v) (v := v) (s := (s.1, s.2.1, s.1 v, 0)) (k := k) (fun q => q.2 hc12)
              exact ih (k + 1) _ _ _ _ _ (KQ.i rfl (KQ.a rfl K0)) (by rw [E]; exact ⟨hr.1, (Int32.add_zero _).trans hr.2.1, hr.2.2⟩) (zl1_ne rfl rfl (zl1_ne rfl rfl (zl1_ne rfl rfl h0))) (zl1_ne rfl rfl (zl1_ne rfl rfl (zl1_ne rfl rfl h1))) (by rw [E]; exact (zld_s0 (zl1_ne rfl rfl zl1_eq))) (zl1_ne rfl rfl (zl1_ne rfl rfl (zl1_ne rfl rfl h3))) zl1_eq (by omega) (by omega)
            · refine zw_iaload k (nI t13) 132 f50_131 rfl (hb_10 _ _ _ _) (nI_clamp (by omega)) (nI_pos (by omega)) (by omega) ((congrFun ((K0.2.2.1 10 rfl).trans (hR.2.1 61 (by omega) (by omega))) k).trans t13q) ?_
              refine zw_aload_n 133 f50_132 rfl (zl1_ne rfl rfl (zl1_ne rfl rfl h0)) ?_
              refine zw_getfield 136 f50_133 rfl g50_28_10 (hb_22 _ _ _ _) rfl ?_
              refine zw_iload 138 f50_136 rfl (zl1_ne rfl rfl (zl1_ne rfl rfl h4)) ?_
              refine zw_iaload k 0 139 f50_138 rfl (hb_30 _ _ _ _) (nI_clamp (by omega)) (nI_pos (by omega)) (by omega) (if_pos rfl) ?_
              refine zw_virtual_v 142 0 0 [.ref 22, .int (nI t13), .int 0] [(0, .ref 22), (1, .int (nI t13)), (2, .int 0)] f50_139 rfl n50_76 k50_76_10 rfl (hb_22 _ _ _ _) (by decide +kernel) (Nat.le_of_ble_eq_true rfl) rfl rfl (by decide +kernel) (by decide +kernel) rfl (Nat.le_of_ble_eq_true rfl) rfl ?_
              refine zw_aload_n 1 f51_0 rfl rfl ?_
              refine zw_getfield 4 f51_1 rfl g51_37_10 (hb_22 _ _ _ _) rfl ?_
              refine zw_iload_n 5 f51_4 rfl rfl ?_
              refine zw_virtual_i 8 0 0 [.ref 1, .int (nI t13)] [(0, .ref 1), (1, .int (nI t13))] f51_5 rfl n51_103 k51_103_4 rfl (hb_1 _ _ _ _) (by decide +kernel) (Nat.le_of_ble_eq_true rfl) rfl rfl (by decide +kernel) (by decide +kernel) rfl (Nat.le_of_ble_eq_true rfl) rfl ?_
              refine zw_iload_n 1 f13_0 rfl rfl ?_
              refine zw_if_lt_f 4 22 f13_1 (by decide +kernel) rfl (nI_pos (by omega)) ?_
              refine zw_iload_n 5 f13_4 rfl rfl ?_
              refine zw_aload_n 6 f13_5 rfl rfl ?_
              refine zw_getI (nI nv) 9 f13_6 rfl g13_39_4 (hb_1 _ _ _ _) rfl ((K0.1 1 0 rfl).trans hR.1.1) ?_
              refine zw_ic_ge_f 12 22 f13_9 (by decide +kernel) rfl (fun q => absurd (zn_ge (a := nv) (b := t13) (by omega) (by omega) q) (by omega)) ?_
              refine zw_iload_n 13 f13_12 rfl rfl ?_
              refine zw_bipush 8 15 f13_13 rfl (by decide +kernel) ?_
              refine zw_ic_ge_f 18 22 f13_15 (by decide +kernel) rfl (fun q => absurd (zn_ge (a := 8) (b := t13) (by omega) (by omega) q) (by omega)) ?_
              refine zw_iconst 1 19 f13_18 rfl (by decide +kernel) ?_
              refine zw_goto 23 f13_19 (by decide +kernel) ?_
              refine zw_zreturn f13_23 r13 u13 (by decide +kernel) ⟨_, rfl, ?_⟩
              refine zw_if_eq_f 11 24 f51_8 (by decide +kernel) rfl (by decide +kernel) ?_
              refine zw_aload_n 12 f51_11 rfl rfl ?_
              refine zw_getfield 15 f51_12 rfl g51_18_10 (hb_22 _ _ _ _) rfl ?_
              refine zw_iload_n 16 f51_15 rfl rfl ?_
              refine zw_dup2 17 f51_16 rfl rfl rfl ?_
              refine zw_iaload t13 (A1 27 t13) 18 f51_17 rfl (hb_27 _ _ _ _) (nI_clamp (by omega)) (nI_pos (by omega)) (by omega) rfl ?_
              refine zw_iload_n 19 f51_18 rfl rfl ?_
              refine zw_iadd ((A1 27 t13) + 0) 20 f51_19 rfl rfl ?_
              refine zw_ast t13 _ 21 f51_20 rfl (hb_27 _ _ _ _) (nI_clamp (by omega)) (nI_pos (by omega)) (by omega) (ha_27 _ _ _ _ _) ?_
              refine zw_goto 34 f51_21 (by decide +kernel) ?_
              refine zw_vreturn f51_34 r51 u51 ⟨rfl, ?_⟩
              refine zw_iinc (nI (k + 1)) _ 145 f50_142 rfl (zl1_ne rfl rfl (zl1_ne rfl rfl h4)) (by decide +kernel) (nI_1 _) rfl ?_
              refine zw_goto 30 f50_145 (by decide +kernel) ?_
              have E := mRO_n (frm := P 60) (too := P 61) (amt := P 62) (run := (wRun nv P W)) (lev := W.2.2.2.2.1 v) (v := v) (s := (s.1, s.2.1, s.1 v, 0)) (k := k) (fun q => q.2 hc12)
              exact ih (k + 1) _ _ _ _ _ (KQ.a rfl (KQ.a rfl K0)) (by rw [E]; exact ⟨mC_0 hr.1, hr.2⟩) (zl1_ne rfl rfl (zl1_ne rfl rfl (zl1_ne rfl rfl h0))) (zl1_ne rfl rfl (zl1_ne rfl rfl (zl1_ne rfl rfl h1))) (by rw [E]; exact (zld_s0 (zl1_ne rfl rfl zl1_eq))) (zl1_ne rfl rfl (zl1_ne rfl rfl (zl1_ne rfl rfl h3))) zl1_eq (by omega) (by omega)
          · refine zw_iload 106 f50_104 rfl zl1_eq ?_
            refine zw_goto 110 f50_106 (by decide +kernel) ?_
            refine zw_ast k _ 111 f50_110 rfl (hb_30 _ _ _ _) (nI_clamp (by omega)) (nI_pos (by omega)) (by omega) (ha_30 _ _ _ _ _) ?_
            refine zw_iload_n 112 f50_111 rfl (zl1_ne rfl rfl h2) ?_
            refine zw_aload_n 113 f50_112 rfl (zl1_ne rfl rfl h0) ?_
            refine zw_getfield 116 f50_113 rfl g50_28_10 (hb_22 _ _ _ _) rfl ?_
            refine zw_iload 118 f50_116 rfl (zl1_ne rfl rfl h4) ?_
            refine zw_iaload k (P 62 k) 119 f50_118 rfl (hb_30 _ _ _ _) (nI_clamp (by omega)) (nI_pos (by omega)) (by omega) (if_pos rfl) ?_
            refine zw_isub (((mRO (P 60) (P 61) (P 62) (wRun nv P W) (W.2.2.2.2.1 v) v (s.1, s.2.1, s.1 v, 0) k).2.2.1) - (P 62 k)) 120 f50_119 rfl rfl ?_
            refine zw_istore_n _ 121 f50_120 rfl (by decide +kernel) rfl ?_
            refine zw_aload_n 122 f50_121 rfl (zl1_ne rfl rfl (zl1_ne rfl rfl h0)) ?_
            refine zw_aload_n 123 f50_122 rfl (zl1_ne rfl rfl (zl1_ne rfl rfl h0)) ?_
            refine zw_getfield 126 f50_123 rfl g50_37_10 (hb_22 _ _ _ _) rfl ?_
            refine zw_getfield 129 f50_126 rfl g50_73_4 (hb_1 _ _ _ _) rfl ?_
            refine zw_iload 131 f50_129 rfl (zl1_ne rfl rfl (zl1_ne rfl rfl h4)) ?_
            rcases (hp.2.2.2 k (by omega)).1 with t14q | ⟨t14, t14l, t14n, t14q⟩
            · refine zw_iaload k (-1) 132 f50_131 rfl (hb_10 _ _ _ _) (nI_clamp (by omega)) (nI_pos (by omega)) (by omega) ((congrFun ((K0.2.2.1 10 rfl).trans (hR.2.1 61 (by omega) (by omega))) k).trans t14q) ?_
              refine zw_aload_n 133 f50_132 rfl (zl1_ne rfl rfl (zl1_ne rfl rfl h0)) ?_
              refine zw_getfield 136 f50_133 rfl g50_28_10 (hb_22 _ _ _ _) rfl ?_
              refine zw_iload 138 f50_136 rfl (zl1_ne rfl rfl (zl1_ne rfl rfl h4)) ?_
              refine zw_iaload k (P 62 k) 139 f50_138 rfl (hb_30 _ _ _ _) (nI_clamp (by omega)) (nI_pos (by omega)) (by omega) (if_pos rfl) ?_
              refine zw_virtual_v 142 0 0 [.ref 22, .int (-1), .int (P 62 k)] [(0, .ref 22), (1, .int (-1)), (2, .int (P 62 k))] f50_139 rfl n50_76 k50_76_10 rfl (hb_22 _ _ _ _) (by decide +kernel) (Nat.le_of_ble_eq_true rfl) rfl rfl (by decide +kernel) (by decide +kernel) rfl (Nat.le_of_ble_eq_true rfl) rfl ?_
              refine zw_aload_n 1 f51_0 rfl rfl ?_
              refine zw_getfield 4 f51_1 rfl g51_37_10 (hb_22 _ _ _ _) rfl ?_
              refine zw_iload_n 5 f51_4 rfl rfl ?_
              refine zw_virtual_i 8 0 0 [.ref 1, .int (-1)] [(0, .ref 1), (1, .int (-1))] f51_5 rfl n51_103 k51_103_4 rfl (hb_1 _ _ _ _) (by decide +kernel) (Nat.le_of_ble_eq_true rfl) rfl rfl (by decide +kernel) (by decide +kernel) rfl (Nat.le_of_ble_eq_true rfl) rfl ?_
              refine zw_iload_n 1 f13_0 rfl rfl ?_
              refine zw_if_lt_t 22 f13_1 (by decide +kernel) (by decide +kernel) ?_
              refine zw_iconst 0 23 f13_22 rfl (by decide +kernel) ?_
              refine zw_zreturn f13_23 r13 u13 (by decide +kernel) ⟨_, rfl, ?_⟩
              refine zw_if_eq_t 24 f51_8 (by decide +kernel) (by decide +kernel) ?_
              refine zw_aload_n 25 f51_24 rfl rfl ?_
              refine zw_dup 26 f51_25 rfl rfl ?_
              refine zw_getI (I1 22 7) 29 f51_26 rfl g51_58_10 (hb_22 _ _ _ _) rfl rfl ?_
              refine zw_iload_n 30 f51_29 rfl rfl ?_
              refine zw_iadd ((I1 22 7) + (P 62 k)) 31 f51_30 rfl rfl ?_
              refine zw_put _ 34 f51_31 rfl g51_58_10 (hb_22 _ _ _ _) rfl (Nat.le_of_ble_eq_true rfl) (by decide +kernel) (hi_22_7 _ _ _ _ _) ?_
              refine zw_vreturn f51_34 r51 u51 ⟨rfl, ?_⟩
              refine zw_iinc (nI (k + 1)) _ 145 f50_142 rfl (zl1_ne rfl rfl (zl1_ne rfl rfl h4)) (by decide +kernel) (nI_1 _) rfl ?_
              refine zw_goto 30 f50_145 (by decide +kernel) ?_
              have E := mRO_y (frm := P 60) (too := P 61) (amt := P 62) (run := (wRun nv P W)) (lev := W.2.2.2.2.1 v) (v := v) (s := (s.1, s.2.1, s.1 v, 0)) (k := k) (P 62 k) (-1) t14q (mFl_m hw hc8) (Decidable.of_not_not hc7) hc12
              rw [mGoC_m, mGoD_m] at E
              exact ih (k + 1) _ _ _ _ _ (KQ.i rfl (KQ.a rfl K0)) (by rw [E]; exact ⟨hr.1, congrArg (fun z => z + (P 62 k)) hr.2.1, hr.2.2⟩) (zl1_ne rfl rfl (zl1_ne rfl rfl (zl1_ne rfl rfl h0))) (zl1_ne rfl rfl (zl1_ne rfl rfl (zl1_ne rfl rfl h1))) (by rw [E]; exact (zl1_ne rfl rfl zl1_eq)) (zl1_ne rfl rfl (zl1_ne rfl rfl (zl1_ne rfl rfl h3))) zl1_eq (by omega) (by omega)
            · refine zw_iaload k (nI t14) 132 f50_131 rfl (hb_10 _ _ _ _) (nI_clamp (by omega)) (nI_pos (by omega)) (by omega) ((congrFun ((K0.2.2.1 10 rfl).trans (hR.2.1 61 (by omega) (by omega))) k).trans t14q) ?_
              refine zw_aload_n 133 f50_132 rfl (zl1_ne rfl rfl (zl1_ne rfl rfl h0)) ?_
              refine zw_getfield 136 f50_133 rfl g50_28_10 (hb_22 _ _ _ _) rfl ?_
              refine zw_iload 138 f50_136 rfl (zl1_ne rfl rfl (zl1_ne rfl rfl h4)) ?_
              refine zw_iaload k (P 62 k) 139 f50_138 rfl (hb_30 _ _ _ _) (nI_clamp (by omega)) (nI_pos (by omega)) (by omega) (if_pos rfl) ?_
              refine zw_virtual_v 142 0 0 [.ref 22, .int (nI t14), .int (P 62 k)] [(0, .ref 22), (1, .int (nI t14)), (2, .int (P 62 k))] f50_139 rfl n50_76 k50_76_10 rfl (hb_22 _ _ _ _) (by decide +kernel) (Nat.le_of_ble_eq_true rfl) rfl rfl (by decide +kernel) (by decide +kernel) rfl (Nat.le_of_ble_eq_true rfl) rfl ?_
              refine zw_aload_n 1 f51_0 rfl rfl ?_
              refine zw_getfield 4 f51_1 rfl g51_37_10 (hb_22 _ _ _ _) rfl ?_
              refine zw_iload_n 5 f51_4 rfl rfl ?_
              refine zw_virtual_i 8 0 0 [.ref 1, .int (nI t14)] [(0, .ref 1), (1, .int (nI t14))] f51_5 rfl n51_103 k51_103_4 rfl (hb_1 _ _ _ _) (by decide +kernel) (Nat.le_of_ble_eq_true rfl) rfl rfl (by decide +kernel) (by decide +kernel) rfl (Nat.le_of_ble_eq_true rfl) rfl ?_
              refine zw_iload_n 1 f13_0 rfl rfl ?_
              refine zw_if_lt_f 4 22 f13_1 (by decide +kernel) rfl (nI_pos (by omega)) ?_
              refine zw_iload_n 5 f13_4 rfl rfl ?_
              refine zw_aload_n 6 f13_5 rfl rfl ?_
              refine zw_getI (nI nv) 9 f13_6 rfl g13_39_4 (hb_1 _ _ _ _) rfl ((K0.1 1 0 rfl).trans hR.1.1) ?_
              refine zw_ic_ge_f 12 22 f13_9 (by decide +kernel) rfl (fun q => absurd (zn_ge (a := nv) (b := t14) (by omega) (by omega) q) (by omega)) ?_
              refine zw_iload_n 13 f13_12 rfl rfl ?_
              refine zw_bipush 8 15 f13_13 rfl (by decide +kernel) ?_
              refine zw_ic_ge_f 18 22 f13_15 (by decide +kernel) rfl (fun q => absurd (zn_ge (a := 8) (b := t14) (by omega) (by omega) q) (by omega)) ?_
              refine zw_iconst 1 19 f13_18 rfl (by decide +kernel) ?_
              refine zw_goto 23 f13_19 (by decide +kernel) ?_
              refine zw_zreturn f13_23 r13 u13 (by decide +kernel) ⟨_, rfl, ?_⟩
              refine zw_if_eq_f 11 24 f51_8 (by decide +kernel) rfl (by decide +kernel) ?_
              refine zw_aload_n 12 f51_11 rfl rfl ?_
              refine zw_getfield 15 f51_12 rfl g51_18_10 (hb_22 _ _ _ _) rfl ?_
              refine zw_iload_n 16 f51_15 rfl rfl ?_
              refine zw_dup2 17 f51_16 rfl rfl rfl ?_
              refine zw_iaload t14 (A1 27 t14) 18 f51_17 rfl (hb_27 _ _ _ _) (nI_clamp (by omega)) (nI_pos (by omega)) (by omega) rfl ?_
              refine zw_iload_n 19 f51_18 rfl rfl ?_
              refine zw_iadd ((A1 27 t14) + (P 62 k)) 20 f51_19 rfl rfl ?_
              refine zw_ast t14 _ 21 f51_20 rfl (hb_27 _ _ _ _) (nI_clamp (by omega)) (nI_pos (by omega)) (by omega) (ha_27 _ _ _ _ _) ?_
              refine zw_goto 34 f51_21 (by decide +kernel) ?_
              refine zw_vreturn f51_34 r51 u51 ⟨rfl, ?_⟩
              refine zw_iinc (nI (k + 1)) _ 145 f50_142 rfl (zl1_ne rfl rfl (zl1_ne rfl rfl h4)) (by decide +kernel) (nI_1 _) rfl ?_
              refine zw_goto 30 f50_145 (by decide +kernel) ?_
              have E := mRO_y (frm := P 60) (too := P 61) (amt := P 62) (run := (wRun nv P W)) (lev := W.2.2.2.2.1 v) (v := v) (s := (s.1, s.2.1, s.1 v, 0)) (k := k) (P 62 k) (nI t14) t14q (mFl_m hw hc8) (Decidable.of_not_not hc7) hc12
              rw [mGoC_t (by omega), mGoD_t (by omega)] at E
              exact ih (k + 1) _ _ _ _ _ (KQ.a rfl (KQ.a rfl K0)) (by rw [E]; exact ⟨mC_t hr.1 (by omega), hr.2⟩) (zl1_ne rfl rfl (zl1_ne rfl rfl (zl1_ne rfl rfl h0))) (zl1_ne rfl rfl (zl1_ne rfl rfl (zl1_ne rfl rfl h1))) (by rw [E]; exact (zl1_ne rfl rfl zl1_eq)) (zl1_ne rfl rfl (zl1_ne rfl rfl (zl1_ne rfl rfl h3))) zl1_eq (by omega) (by omega)
set_option maxRecDepth 100000 in
set_option maxHeartbeats 0 in
theorem cx_rv_22 (ro : UInt32 → Nat × (Nat → Int32)) (nv np : Nat) (P : Nat → Nat → Int32) (W : qW) (T K : Int) (I : Nat → Nat → Int32) (G : Nat → Nat → Int64) (A : Nat → Nat → Int32) (B : Nat → Nat → Int64) (hR : cRS 22 nv np P W I G A B) (hp : MPa nv np P) (hb : wBo W) (hq : qOw nv np P) (hW : wOk nv T K P W) (v : Nat) (hv : v < nv) (s : (Nat → Int32) × Int32 × (Nat → Int32) × (Nat → Int32)) (hs : cRel 22 I A s v) (hz : s.2.2.2 v = 0) : zWp ro 50 0 [(0, .ref 22), (1, .int (nI v))] [] (hS I G A B) 0 0 (fun r h1 => ∃ I2 G2 A2 B2, h1 = hS I2 G2 A2 B2 ∧ KQ (fCr 22) (pCr 22) I G A B I2 G2 A2 B2 ∧ (cRel 22 I2 A2 (mRateOf (P 60) (P 61) (P 62) (wRun nv P W) (P 59) (P 54) (W.2.2.2.2.1) W.1 np v s) (v + 1) ∧ I2 22 6 = I 22 6) ∧ r = none) := by
  have h8 := hp.1
  have h14 := hp.2.1
  have hto : ∀ p, p < np → P 60 p = nI v → mTo nv (v + 1) (P 61 p) := fun p h1 h2 => (MPa.e hp W (fun _ => 0) 0 0).ht v p hv h1 h2
  refine zw_aload_n 1 f50_0 rfl rfl ?_
  refine zw_getfield 4 f50_1 rfl g50_18_10 (hb_22 _ _ _ _) rfl ?_
  refine zw_iload_n 5 f50_4 rfl rfl ?_
  refine zw_iaload v (s.1 v) 6 f50_5 rfl (hb_27 _ _ _ _) (nI_clamp (by omega)) (nI_pos (by omega)) (by omega) (hs.1 v (by omega)) ?_
  refine zw_istore_n _ 7 f50_6 rfl (by decide +kernel) rfl ?_
  refine zw_aload_n 8 f50_7 rfl (zl1_ne rfl rfl rfl) ?_
  refine zw_getfield 11 f50_8 rfl g50_12_10 (hb_22 _ _ _ _) rfl ?_
  refine zw_getfield 14 f50_11 rfl g50_87_9 (hb_23 _ _ _ _) rfl ?_
  refine zw_iload_n 15 f50_14 rfl (zl1_ne rfl rfl rfl) ?_
  refine zw_laload v ((W.2.2.2.2.1) v) 16 f50_15 rfl (hb_24 _ _ _ _) (nI_clamp (by omega)) (nI_pos (by omega)) (by omega) (congrFun (hR.2.2.2.1) v) ?_
  refine zw_lconst 0 17 f50_16 rfl (by decide +kernel) ?_
  refine zw_lcmp (lg_cmp ((W.2.2.2.2.1) v) 0) 18 f50_17 rfl rfl ?_
  refine zw_if_le 21 25 f50_18 (by decide +kernel) rfl (fun hc1 => ?_) (fun hc1 => ?_)
  · refine zw_iconst 0 26 f50_25 rfl (by decide +kernel) ?_
    refine zw_istore_n _ 27 f50_26 rfl (by decide +kernel) rfl ?_
    refine zw_iconst 0 28 f50_27 rfl (by decide +kernel) ?_
    refine zw_istore _ 30 f50_28 rfl (by decide +kernel) rfl ?_
    exact lcx_rv22_0 ro nv np P W T K I G A B hR hp hb hq hW v hv s hs hz (Int64.not_lt.mpr ((lg_cmp_le _ _).mp hc1)) (np + 1) 0 _ _ _ _ _ KQ.rf ⟨hs.1, hs.2.1, rfl, rfl, rfl⟩ (zl1_ne rfl rfl (zl1_ne rfl rfl (zl1_ne rfl rfl rfl))) (zl1_ne rfl rfl (zl1_ne rfl rfl (zl1_ne rfl rfl rfl))) (zl1_ne rfl rfl (zl1_ne rfl rfl zl1_eq)) (zl1_ne rfl rfl zl1_eq) zl1_eq (by omega) (by omega)
  · refine zw_iconst 1 22 f50_21 rfl (by decide +kernel) ?_
    refine zw_goto 26 f50_22 (by decide +kernel) ?_
    refine zw_istore_n _ 27 f50_26 rfl (by decide +kernel) rfl ?_
    refine zw_iconst 0 28 f50_27 rfl (by decide +kernel) ?_
    refine zw_istore _ 30 f50_28 rfl (by decide +kernel) rfl ?_
    exact lcx_rv22_1 ro nv np P W T K I G A B hR hp hb hq hW v hv s hs hz (Int64.not_le.mp (fun q => hc1 ((lg_cmp_le _ _).mpr q))) (np + 1) 0 _ _ _ _ _ KQ.rf ⟨hs.1, hs.2.1, rfl, rfl, rfl⟩ (zl1_ne rfl rfl (zl1_ne rfl rfl (zl1_ne rfl rfl rfl))) (zl1_ne rfl rfl (zl1_ne rfl rfl (zl1_ne rfl rfl rfl))) (zl1_ne rfl rfl (zl1_ne rfl rfl zl1_eq)) (zl1_ne rfl rfl zl1_eq) zl1_eq (by omega) (by omega)
set_option maxRecDepth 100000 in
set_option maxHeartbeats 0 in
theorem lcx_rr22_126 (ro : UInt32 → Nat × (Nat → Int32)) (nv np : Nat) (P : Nat → Nat → Int32) (W : qW) (T K : Int) (I : Nat → Nat → Int32) (G : Nat → Nat → Int64) (A : Nat → Nat → Int32) (B : Nat → Nat → Int64) (hR : cRS 22 nv np P W I G A B) (hp : MPa nv np P) (hb : wBo W) (hq : qOw nv np P) (hW : wOk nv T K P W) : ∀ (n k : Nat) (ls : List (Nat × Value)) (I1 : Nat → Nat → Int32) (G1 : Nat → Nat → Int64) (A1 : Nat → Nat → Int32) (B1 : Nat → Nat → Int64), KQ (fCr 22) (pCr 22) I G A B I1 G1 A1 B1 → (cRel 22 I1 A1 (mR2 (P 60) (P 61) (P 62) (wRun nv P W) (P 59) (P 54) (W.2.2.2.2.1) W.1 np k) k ∧ I1 22 6 = wSr nv np P W) → zld ls 0 = some (.ref 22) → zld ls 1 = some (.int (nI k)) → k ≤ nv → nv + 1 ≤ k + n → zWp ro 49 126 ls [] (hS I1 G1 A1 B1) 0 0 (fun r h1 => ∃ I2 G2 A2 B2, h1 = hS I2 G2 A2 B2 ∧ KQ (fCr 22) (pCr 22) I G A B I2 G2 A2 B2 ∧ (cRel 22 I2 A2 (wR2 nv np P W) nv ∧ I2 22 6 = wSr nv np P W) ∧ r = none) := by
  have h8 := hp.1
  have h14 := hp.2.1
  intro n
  induction n with
  | zero =>
    intro k ls I1 G1 A1 B1 _ _ _ _ a c
    exact absurd c (by omega)
  | succ n ih =>
    intro k ls I1 G1 A1 B1 K0 hr h0 h1 hk1 hk2
    refine zw_iload_n 127 f49_126 rfl h1 ?_
    refine zw_aload_n 128 f49_127 rfl h0 ?_
    refine zw_getfield 131 f49_128 rfl g49_37_10 (hb_22 _ _ _ _) rfl ?_
    refine zw_getI (nI nv) 134 f49_131 rfl g49_80_4 (hb_1 _ _ _ _) rfl ((K0.1 1 0 rfl).trans hR.1.1) ?_
    refine zw_ic_ge 137 148 f49_134 (by decide +kernel) rfl (fun hc1 => ?_) (fun hc1 => ?_)
    · have hn_hc1 : nv ≤ k := zn_ge (by omega) (by omega) hc1
      refine zw_vreturn f49_148 r49 u49 ?_
      have hk : k = nv := by omega
      subst hk
      exact ⟨_, _, _, _, rfl, K0, hr, rfl⟩
    · have hn_hc1 : k < nv := zn_lt (by omega) (by omega) hc1
      refine zw_aload_n 138 f49_137 rfl h0 ?_
      refine zw_iload_n 139 f49_138 rfl h1 ?_
      refine zw_virtual_v 142 0 0 [.ref 22, .int (nI k)] [(0, .ref 22), (1, .int (nI k))] f49_139 rfl n49_83 k49_83_10 rfl (hb_22 _ _ _ _) (by decide +kernel) (Nat.le_of_ble_eq_true rfl) rfl rfl (by decide +kernel) (by decide +kernel) rfl (Nat.le_of_ble_eq_true rfl) rfl ?_
      refine zWp.mono (cx_rv_22 ro nv np P W T K _ _ _ _ (hR.k K0 ⟨rfl, rfl⟩ (fCr_w 22) (pCr_w 22 (by omega))) hp hb hq hW k (by omega) _ hr.1 (mR2_fz k k (Nat.le_refl _))) ?_
      rintro r h1 ⟨I2, G2, A2, B2, rfl, K2, ⟨hr2, e6⟩, rfl⟩
      refine ⟨rfl, ?_⟩
      refine zw_iinc (nI (k + 1)) _ 145 f49_142 rfl h1 (by decide +kernel) (nI_1 _) rfl ?_
      refine zw_goto 126 f49_145 (by decide +kernel) ?_
      exact ih (k + 1) _ _ _ _ _ (KQ.tr K0 K2) ⟨hr2, e6.trans hr.2⟩ (zl1_ne rfl rfl h0) zl1_eq (by omega) (by omega)
set_option maxRecDepth 100000 in
set_option maxHeartbeats 0 in
theorem lcx_rr22_33 (ro : UInt32 → Nat × (Nat → Int32)) (nv np : Nat) (P : Nat → Nat → Int32) (W : qW) (T K : Int) (I : Nat → Nat → Int32) (G : Nat → Nat → Int64) (A : Nat → Nat → Int32) (B : Nat → Nat → Int64) (hR : cRS 22 nv np P W I G A B) (hp : MPa nv np P) (hb : wBo W) (hq : qOw nv np P) (hW : wOk nv T K P W) : ∀ (n k : Nat) (ls : List (Nat × Value)) (I1 : Nat → Nat → Int32) (G1 : Nat → Nat → Int64) (A1 : Nat → Nat → Int32) (B1 : Nat → Nat → Int64), KQ (fCr 22) (pCr 22) I G A B I1 G1 A1 B1 → ((∀ j, j < 8 → A1 27 j = (mR1 (P 60) (P 61) (P 62) (wRun nv P W) k).1 j) ∧ I1 22 7 = (mR1 (P 60) (P 61) (P 62) (wRun nv P W) k).2.1 ∧ I1 22 6 = (mR1 (P 60) (P 61) (P 62) (wRun nv P W) k).2.2) → zld ls 0 = some (.ref 22) → zld ls 1 = some (.int (nI k)) → k ≤ np → np + 1 ≤ k + n → zWp ro 49 33 ls [] (hS I1 G1 A1 B1) 0 0 (fun r h1 => ∃ I2 G2 A2 B2, h1 = hS I2 G2 A2 B2 ∧ KQ (fCr 22) (pCr 22) I G A B I2 G2 A2 B2 ∧ (cRel 22 I2 A2 (wR2 nv np P W) nv ∧ I2 22 6 = wSr nv np P W) ∧ r = none) := by
  have h8 := hp.1
  have h14 := hp.2.1
  intro n
  induction n with
  | zero =>
    intro k ls I1 G1 A1 B1 _ _ _ _ a c
    exact absurd c (by omega)
  | succ n ih =>
    intro k ls I1 G1 A1 B1 K0 hr h0 h1 hk1 hk2
    refine zw_iload_n 34 f49_33 rfl h1 ?_
    refine zw_aload_n 35 f49_34 rfl h0 ?_
    refine zw_getfield 38 f49_35 rfl g49_37_10 (hb_22 _ _ _ _) rfl ?_
    refine zw_getI (nI np) 41 f49_38 rfl g49_61_4 (hb_1 _ _ _ _) rfl ((K0.1 1 1 rfl).trans hR.1.2) ?_
    refine zw_ic_ge 44 124 f49_41 (by decide +kernel) rfl (fun hc1 => ?_) (fun hc1 => ?_)
    · have hn_hc1 : np ≤ k := zn_ge (by omega) (by omega) hc1
      refine zw_iconst 0 125 f49_124 rfl (by decide +kernel) ?_
      refine zw_istore_n _ 126 f49_125 rfl (by decide +kernel) rfl ?_
      have hk : k = np := by omega
      rw [hk] at hr
      exact lcx_rr22_126 ro nv np P W T K I G A B hR hp hb hq hW (nv + 1) 0 _ _ _ _ _ K0 ⟨⟨hr.1, hr.2.1, fun j hj => absurd hj (by omega), fun j hj => absurd hj (by omega)⟩, hr.2.2⟩ (zl1_ne rfl rfl h0) zl1_eq (by omega) (by omega)
    · have hn_hc1 : k < np := zn_lt (by omega) (by omega) hc1
      refine zw_aload_n 45 f49_44 rfl h0 ?_
      refine zw_getfield 48 f49_45 rfl g49_37_10 (hb_22 _ _ _ _) rfl ?_
      refine zw_getfield 51 f49_48 rfl g49_64_4 (hb_1 _ _ _ _) rfl ?_
      refine zw_iload_n 52 f49_51 rfl h1 ?_
      refine zw_iaload k (P 60 k) 53 f49_52 rfl (hb_9 _ _ _ _) (nI_clamp (by omega)) (nI_pos (by omega)) (by omega) (congrFun (((K0.2.2.1 9 rfl).trans (hR.2.1 60 (by omega) (by omega)))) k) ?_
      refine zw_iconst (-1) 54 f49_53 rfl (by decide +kernel) ?_
      refine zw_ic_ne 57 118 f49_54 (by decide +kernel) rfl (fun hc2 => ?_) (fun hc2 => ?_)
      · refine zw_iinc (nI (k + 1)) _ 121 f49_118 rfl h1 (by decide +kernel) (nI_1 _) rfl ?_
        refine zw_goto 33 f49_121 (by decide +kernel) ?_
        have E := mR1_n (frm := P 60) (too := P 61) (amt := P 62) (run := (wRun nv P W)) (k := k) 0 (if_neg (fun q => hc2 q.1)) (by decide)
        exact ih (k + 1) _ _ _ _ _ K0 (by rw [E]; exact ⟨hr.1, hr.2.1, hr.2.2.trans (Int32.add_zero _).symm⟩) (zl1_ne rfl rfl h0) zl1_eq (by omega) (by omega)
      · refine zw_aload_n 58 f49_57 rfl h0 ?_
        refine zw_getfield 61 f49_58 rfl g49_28_10 (hb_22 _ _ _ _) rfl ?_
        refine zw_iload_n 62 f49_61 rfl h1 ?_
        refine zw_aload_n 63 f49_62 rfl h0 ?_
        refine zw_iload_n 64 f49_63 rfl h1 ?_
        refine zw_virtual_i 67 0 0 [.ref 22, .int (nI k)] [(0, .ref 22), (1, .int (nI k))] f49_64 rfl n49_67 k49_67_10 rfl (hb_22 _ _ _ _) (by decide +kernel) (Nat.le_of_ble_eq_true rfl) rfl rfl (by decide +kernel) (by decide +kernel) rfl (Nat.le_of_ble_eq_true rfl) rfl ?_
        refine zWp.mono (cx_runs_22 ro nv np P W _ _ _ _ (hR.k K0 ⟨rfl, rfl⟩ (fCr_w 22) (pCr_w 22 (by omega))) hp hb hq k (by omega)) ?_
        rintro r h1 ⟨rfl, rfl⟩
        refine ⟨_, rfl, ?_⟩
        refine zw_if_eq 70 82 f49_67 (by decide +kernel) rfl (fun hc3 => ?_) (fun hc3 => ?_)
        · refine zw_iconst 0 83 f49_82 rfl (by decide +kernel) ?_
          refine zw_ast k _ 84 f49_83 rfl (hb_30 _ _ _ _) (nI_clamp (by omega)) (nI_pos (by omega)) (by omega) (ha_30 _ _ _ _ _) ?_
          refine zw_aload_n 85 f49_84 rfl h0 ?_
          refine zw_dup 86 f49_85 rfl rfl ?_
          refine zw_getI (I1 22 6) 89 f49_86 rfl g49_54_10 (hb_22 _ _ _ _) rfl rfl ?_
          refine zw_aload_n 90 f49_89 rfl h0 ?_
          refine zw_getfield 93 f49_90 rfl g49_28_10 (hb_22 _ _ _ _) rfl ?_
          refine zw_iload_n 94 f49_93 rfl h1 ?_
          refine zw_iaload k 0 95 f49_94 rfl (hb_30 _ _ _ _) (nI_clamp (by omega)) (nI_pos (by omega)) (by omega) (if_pos rfl) ?_
          refine zw_iadd ((I1 22 6) + 0) 96 f49_95 rfl rfl ?_
          refine zw_put _ 99 f49_96 rfl g49_54_10 (hb_22 _ _ _ _) rfl (Nat.le_of_ble_eq_true rfl) (by decide +kernel) (hi_22_6 _ _ _ _ _) ?_
          refine zw_aload_n 100 f49_99 rfl h0 ?_
          refine zw_aload_n 101 f49_100 rfl h0 ?_
          refine zw_getfield 104 f49_101 rfl g49_37_10 (hb_22 _ _ _ _) rfl ?_
          refine zw_getfield 107 f49_104 rfl g49_73_4 (hb_1 _ _ _ _) rfl ?_
          refine zw_iload_n 108 f49_107 rfl h1 ?_
          rcases (hp.2.2.2 k (by omega)).1 with t4q | ⟨t4, t4l, t4n, t4q⟩
          · refine zw_iaload k (-1) 109 f49_108 rfl (hb_10 _ _ _ _) (nI_clamp (by omega)) (nI_pos (by omega)) (by omega) ((congrFun ((K0.2.2.1 10 rfl).trans (hR.2.1 61 (by omega) (by omega))) k).trans t4q) ?_
            refine zw_aload_n 110 f49_109 rfl h0 ?_
            refine zw_getfield 113 f49_110 rfl g49_28_10 (hb_22 _ _ _ _) rfl ?_
            refine zw_iload_n 114 f49_113 rfl h1 ?_
            refine zw_iaload k 0 115 f49_114 rfl (hb_30 _ _ _ _) (nI_clamp (by omega)) (nI_pos (by omega)) (by omega) (if_pos rfl) ?_
            refine zw_virtual_v 118 0 0 [.ref 22, .int (-1), .int 0] [(0, .ref 22), (1, .int (-1)), (2, .int 0)] f49_115 rfl n49_76 k49_76_10 rfl (hb_22 _ _ _ _) (by decide +kernel) (Nat.le_of_ble_eq_true rfl) rfl rfl (by decide +kernel) (by decide +kernel) rfl (Nat.le_of_ble_eq_true rfl) rfl ?_
            refine zw_aload_n 1 f51_0 rfl rfl ?_
            refine zw_getfield 4 f51_1 rfl g51_37_10 (hb_22 _ _ _ _) rfl ?_
            refine zw_iload_n 5 f51_4 rfl rfl ?_
            refine zw_virtual_i 8 0 0 [.ref 1, .int (-1)] [(0, .ref 1), (1, .int (-1))] f51_5 rfl n51_103 k51_103_4 rfl (hb_1 _ _ _ _) (by decide +kernel) (Nat.le_of_ble_eq_true rfl) rfl rfl (by decide +kernel) (by decide +kernel) rfl (Nat.le_of_ble_eq_true rfl) rfl ?_
            refine zw_iload_n 1 f13_0 rfl rfl ?_
            refine zw_if_lt_t 22 f13_1 (by decide +kernel) (by decide +kernel) ?_
            refine zw_iconst 0 23 f13_22 rfl (by decide +kernel) ?_
            refine zw_zreturn f13_23 r13 u13 (by decide +kernel) ⟨_, rfl, ?_⟩
            refine zw_if_eq_t 24 f51_8 (by decide +kernel) (by decide +kernel) ?_
            refine zw_aload_n 25 f51_24 rfl rfl ?_
            refine zw_dup 26 f51_25 rfl rfl ?_
            refine zw_getI (I1 22 7) 29 f51_26 rfl g51_58_10 (hb_22 _ _ _ _) rfl rfl ?_
            refine zw_iload_n 30 f51_29 rfl rfl ?_
            refine zw_iadd ((I1 22 7) + 0) 31 f51_30 rfl rfl ?_
            refine zw_put _ 34 f51_31 rfl g51_58_10 (hb_22 _ _ _ _) rfl (Nat.le_of_ble_eq_true rfl) (by decide +kernel) (hi_22_7 _ _ _ _ _) ?_
            refine zw_vreturn f51_34 r51 u51 ⟨rfl, ?_⟩
            refine zw_iinc (nI (k + 1)) _ 121 f49_118 rfl h1 (by decide +kernel) (nI_1 _) rfl ?_
            refine zw_goto 33 f49_121 (by decide +kernel) ?_
            have E := mR1_n (frm := P 60) (too := P 61) (amt := P 62) (run := (wRun nv P W)) (k := k) 0 (if_neg (fun q => q.2 hc3)) (by decide)
            exact ih (k + 1) _ _ _ _ _ (KQ.i rfl (KQ.i rfl (KQ.a rfl K0))) (by rw [E]; exact ⟨hr.1, (Int32.add_zero _).trans hr.2.1, congrArg (fun z => z + 0) hr.2.2⟩) (zl1_ne rfl rfl h0) zl1_eq (by omega) (by omega)
          · refine zw_iaload k (nI t4) 109 f49_108 rfl (hb_10 _ _ _ _) (nI_clamp (by omega)) (nI_pos (by omega)) (by omega) ((congrFun ((K0.2.2.1 10 rfl).trans (hR.2.1 61 (by omega) (by omega))) k).trans t4q) ?_
            refine zw_aload_n 110 f49_109 rfl h0 ?_
            refine zw_getfield 113 f49_110 rfl g49_28_10 (hb_22 _ _ _ _) rfl ?_
            refine zw_iload_n 114 f49_113 rfl h1 ?_
            refine zw_iaload k 0 115 f49_114 rfl (hb_30 _ _ _ _) (nI_clamp (by omega)) (nI_pos (by omega)) (by omega) (if_pos rfl) ?_
            refine zw_virtual_v 118 0 0 [.ref 22, .int (nI t4), .int 0] [(0, .ref 22), (1, .int (nI t4)), (2, .int 0)] f49_115 rfl n49_76 k49_76_10 rfl (hb_22 _ _ _ _) (by decide +kernel) (Nat.le_of_ble_eq_true rfl) rfl rfl (by decide +kernel) (by decide +kernel) rfl (Nat.le_of_ble_eq_true rfl) rfl ?_
            refine zw_aload_n 1 f51_0 rfl rfl ?_
            refine zw_getfield 4 f51_1 rfl g51_37_10 (hb_22 _ _ _ _) rfl ?_
            refine zw_iload_n 5 f51_4 rfl rfl ?_
            refine zw_virtual_i 8 0 0 [.ref 1, .int (nI t4)] [(0, .ref 1), (1, .int (nI t4))] f51_5 rfl n51_103 k51_103_4 rfl (hb_1 _ _ _ _) (by decide +kernel) (Nat.le_of_ble_eq_true rfl) rfl rfl (by decide +kernel) (by decide +kernel) rfl (Nat.le_of_ble_eq_true rfl) rfl ?_
            refine zw_iload_n 1 f13_0 rfl rfl ?_
            refine zw_if_lt_f 4 22 f13_1 (by decide +kernel) rfl (nI_pos (by omega)) ?_
            refine zw_iload_n 5 f13_4 rfl rfl ?_
            refine zw_aload_n 6 f13_5 rfl rfl ?_
            refine zw_getI (nI nv) 9 f13_6 rfl g13_39_4 (hb_1 _ _ _ _) rfl ((K0.1 1 0 rfl).trans hR.1.1) ?_
            refine zw_ic_ge_f 12 22 f13_9 (by decide +kernel) rfl (fun q => absurd (zn_ge (a := nv) (b := t4) (by omega) (by omega) q) (by omega)) ?_
            refine zw_iload_n 13 f13_12 rfl rfl ?_
            refine zw_bipush 8 15 f13_13 rfl (by decide +kernel) ?_
            refine zw_ic_ge_f 18 22 f13_15 (by decide +kernel) rfl (fun q => absurd (zn_ge (a := 8) (b := t4) (by omega) (by omega) q) (by omega)) ?_
            refine zw_iconst 1 19 f13_18 rfl (by decide +kernel) ?_
            refine zw_goto 23 f13_19 (by decide +kernel) ?_
            refine zw_zreturn f13_23 r13 u13 (by decide +kernel) ⟨_, rfl, ?_⟩
            refine zw_if_eq_f 11 24 f51_8 (by decide +kernel) rfl (by decide +kernel) ?_
            refine zw_aload_n 12 f51_11 rfl rfl ?_
            refine zw_getfield 15 f51_12 rfl g51_18_10 (hb_22 _ _ _ _) rfl ?_
            refine zw_iload_n 16 f51_15 rfl rfl ?_
            refine zw_dup2 17 f51_16 rfl rfl rfl ?_
            refine zw_iaload t4 (A1 27 t4) 18 f51_17 rfl (hb_27 _ _ _ _) (nI_clamp (by omega)) (nI_pos (by omega)) (by omega) rfl ?_
            refine zw_iload_n 19 f51_18 rfl rfl ?_
            refine zw_iadd ((A1 27 t4) + 0) 20 f51_19 rfl rfl ?_
            refine zw_ast t4 _ 21 f51_20 rfl (hb_27 _ _ _ _) (nI_clamp (by omega)) (nI_pos (by omega)) (by omega) (ha_27 _ _ _ _ _) ?_
            refine zw_goto 34 f51_21 (by decide +kernel) ?_
            refine zw_vreturn f51_34 r51 u51 ⟨rfl, ?_⟩
            refine zw_iinc (nI (k + 1)) _ 121 f49_118 rfl h1 (by decide +kernel) (nI_1 _) rfl ?_
            refine zw_goto 33 f49_121 (by decide +kernel) ?_
            have E := mR1_n (frm := P 60) (too := P 61) (amt := P 62) (run := (wRun nv P W)) (k := k) 0 (if_neg (fun q => q.2 hc3)) (by decide)
            exact ih (k + 1) _ _ _ _ _ (KQ.a rfl (KQ.i rfl (KQ.a rfl K0))) (by rw [E]; exact ⟨mC_0 hr.1, hr.2.1, congrArg (fun z => z + 0) hr.2.2⟩) (zl1_ne rfl rfl h0) zl1_eq (by omega) (by omega)
        · refine zw_aload_n 71 f49_70 rfl h0 ?_
          refine zw_getfield 74 f49_71 rfl g49_12_10 (hb_22 _ _ _ _) rfl ?_
          refine zw_getfield 77 f49_74 rfl g49_70_9 (hb_23 _ _ _ _) rfl ?_
          refine zw_iload_n 78 f49_77 rfl h1 ?_
          refine zw_iaload k (P 62 k) 79 f49_78 rfl (hb_26 _ _ _ _) (nI_clamp (by omega)) (nI_pos (by omega)) (by omega) (congrFun (((K0.2.2.1 26 rfl).trans (hR.2.1 62 (by omega) (by omega)))) k) ?_
          refine zw_goto 83 f49_79 (by decide +kernel) ?_
          refine zw_ast k _ 84 f49_83 rfl (hb_30 _ _ _ _) (nI_clamp (by omega)) (nI_pos (by omega)) (by omega) (ha_30 _ _ _ _ _) ?_
          refine zw_aload_n 85 f49_84 rfl h0 ?_
          refine zw_dup 86 f49_85 rfl rfl ?_
          refine zw_getI (I1 22 6) 89 f49_86 rfl g49_54_10 (hb_22 _ _ _ _) rfl rfl ?_
          refine zw_aload_n 90 f49_89 rfl h0 ?_
          refine zw_getfield 93 f49_90 rfl g49_28_10 (hb_22 _ _ _ _) rfl ?_
          refine zw_iload_n 94 f49_93 rfl h1 ?_
          refine zw_iaload k (P 62 k) 95 f49_94 rfl (hb_30 _ _ _ _) (nI_clamp (by omega)) (nI_pos (by omega)) (by omega) (if_pos rfl) ?_
          refine zw_iadd ((I1 22 6) + (P 62 k)) 96 f49_95 rfl rfl ?_
          refine zw_put _ 99 f49_96 rfl g49_54_10 (hb_22 _ _ _ _) rfl (Nat.le_of_ble_eq_true rfl) (by decide +kernel) (hi_22_6 _ _ _ _ _) ?_
          refine zw_aload_n 100 f49_99 rfl h0 ?_
          refine zw_aload_n 101 f49_100 rfl h0 ?_
          refine zw_getfield 104 f49_101 rfl g49_37_10 (hb_22 _ _ _ _) rfl ?_
          refine zw_getfield 107 f49_104 rfl g49_73_4 (hb_1 _ _ _ _) rfl ?_
          refine zw_iload_n 108 f49_107 rfl h1 ?_
          rcases (hp.2.2.2 k (by omega)).1 with t5q | ⟨t5, t5l, t5n, t5q⟩
          · refine zw_iaload k (-1) 109 f49_108 rfl (hb_10 _ _ _ _) (nI_clamp (by omega)) (nI_pos (by omega)) (by omega) ((congrFun ((K0.2.2.1 10 rfl).trans (hR.2.1 61 (by omega) (by omega))) k).trans t5q) ?_
            refine zw_aload_n 110 f49_109 rfl h0 ?_
            refine zw_getfield 113 f49_110 rfl g49_28_10 (hb_22 _ _ _ _) rfl ?_
            refine zw_iload_n 114 f49_113 rfl h1 ?_
            refine zw_iaload k (P 62 k) 115 f49_114 rfl (hb_30 _ _ _ _) (nI_clamp (by omega)) (nI_pos (by omega)) (by omega) (if_pos rfl) ?_
            refine zw_virtual_v 118 0 0 [.ref 22, .int (-1), .int (P 62 k)] [(0, .ref 22), (1, .int (-1)), (2, .int (P 62 k))] f49_115 rfl n49_76 k49_76_10 rfl (hb_22 _ _ _ _) (by decide +kernel) (Nat.le_of_ble_eq_true rfl) rfl rfl (by decide +kernel) (by decide +kernel) rfl (Nat.le_of_ble_eq_true rfl) rfl ?_
            refine zw_aload_n 1 f51_0 rfl rfl ?_
            refine zw_getfield 4 f51_1 rfl g51_37_10 (hb_22 _ _ _ _) rfl ?_
            refine zw_iload_n 5 f51_4 rfl rfl ?_
            refine zw_virtual_i 8 0 0 [.ref 1, .int (-1)] [(0, .ref 1), (1, .int (-1))] f51_5 rfl n51_103 k51_103_4 rfl (hb_1 _ _ _ _) (by decide +kernel) (Nat.le_of_ble_eq_true rfl) rfl rfl (by decide +kernel) (by decide +kernel) rfl (Nat.le_of_ble_eq_true rfl) rfl ?_
            refine zw_iload_n 1 f13_0 rfl rfl ?_
            refine zw_if_lt_t 22 f13_1 (by decide +kernel) (by decide +kernel) ?_
            refine zw_iconst 0 23 f13_22 rfl (by decide +kernel) ?_
            refine zw_zreturn f13_23 r13 u13 (by decide +kernel) ⟨_, rfl, ?_⟩
            refine zw_if_eq_t 24 f51_8 (by decide +kernel) (by decide +kernel) ?_
            refine zw_aload_n 25 f51_24 rfl rfl ?_
            refine zw_dup 26 f51_25 rfl rfl ?_
            refine zw_getI (I1 22 7) 29 f51_26 rfl g51_58_10 (hb_22 _ _ _ _) rfl rfl ?_
            refine zw_iload_n 30 f51_29 rfl rfl ?_
            refine zw_iadd ((I1 22 7) + (P 62 k)) 31 f51_30 rfl rfl ?_
            refine zw_put _ 34 f51_31 rfl g51_58_10 (hb_22 _ _ _ _) rfl (Nat.le_of_ble_eq_true rfl) (by decide +kernel) (hi_22_7 _ _ _ _ _) ?_
            refine zw_vreturn f51_34 r51 u51 ⟨rfl, ?_⟩
            refine zw_iinc (nI (k + 1)) _ 121 f49_118 rfl h1 (by decide +kernel) (nI_1 _) rfl ?_
            refine zw_goto 33 f49_121 (by decide +kernel) ?_
            have ha := (hp.2.2.2 k (by omega)).2.1
            have h0a : 0 < P 62 k := by rw [i32_lt, i32_0]; omega
            have E := mR1_y (frm := P 60) (too := P 61) (amt := P 62) (run := (wRun nv P W)) (k := k) (P 62 k) (-1) t5q (if_pos ⟨(Decidable.of_not_not hc2), hc3⟩) h0a
            rw [mGoC_m, mGoD_m] at E
            exact ih (k + 1) _ _ _ _ _ (KQ.i rfl (KQ.i rfl (KQ.a rfl K0))) (by rw [E]; exact ⟨hr.1, congrArg (fun z => z + P 62 k) hr.2.1, congrArg (fun z => z + P 62 k) hr.2.2⟩) (zl1_ne rfl rfl h0) zl1_eq (by omega) (by omega)
          · refine zw_iaload k (nI t5) 109 f49_108 rfl (hb_10 _ _ _ _) (nI_clamp (by omega)) (nI_pos (by omega)) (by omega) ((congrFun ((K0.2.2.1 10 rfl).trans (hR.2.1 61 (by omega) (by omega))) k).trans t5q) ?_
            refine zw_aload_n 110 f49_109 rfl h0 ?_
            refine zw_getfield 113 f49_110 rfl g49_28_10 (hb_22 _ _ _ _) rfl ?_
            refine zw_iload_n 114 f49_113 rfl h1 ?_
            refine zw_iaload k (P 62 k) 115 f49_114 rfl (hb_30 _ _ _ _) (nI_clamp (by omega)) (nI_pos (by omega)) (by omega) (if_pos rfl) ?_
            refine zw_virtual_v 118 0 0 [.ref 22, .int (nI t5), .int (P 62 k)] [(0, .ref 22), (1, .int (nI t5)), (2, .int (P 62 k))] f49_115 rfl n49_76 k49_76_10 rfl (hb_22 _ _ _ _) (by decide +kernel) (Nat.le_of_ble_eq_true rfl) rfl rfl (by decide +kernel) (by decide +kernel) rfl (Nat.le_of_ble_eq_true rfl) rfl ?_
            refine zw_aload_n 1 f51_0 rfl rfl ?_
            refine zw_getfield 4 f51_1 rfl g51_37_10 (hb_22 _ _ _ _) rfl ?_
            refine zw_iload_n 5 f51_4 rfl rfl ?_
            refine zw_virtual_i 8 0 0 [.ref 1, .int (nI t5)] [(0, .ref 1), (1, .int (nI t5))] f51_5 rfl n51_103 k51_103_4 rfl (hb_1 _ _ _ _) (by decide +kernel) (Nat.le_of_ble_eq_true rfl) rfl rfl (by decide +kernel) (by decide +kernel) rfl (Nat.le_of_ble_eq_true rfl) rfl ?_
            refine zw_iload_n 1 f13_0 rfl rfl ?_
            refine zw_if_lt_f 4 22 f13_1 (by decide +kernel) rfl (nI_pos (by omega)) ?_
            refine zw_iload_n 5 f13_4 rfl rfl ?_
            refine zw_aload_n 6 f13_5 rfl rfl ?_
            refine zw_getI (nI nv) 9 f13_6 rfl g13_39_4 (hb_1 _ _ _ _) rfl ((K0.1 1 0 rfl).trans hR.1.1) ?_
            refine zw_ic_ge_f 12 22 f13_9 (by decide +kernel) rfl (fun q => absurd (zn_ge (a := nv) (b := t5) (by omega) (by omega) q) (by omega)) ?_
            refine zw_iload_n 13 f13_12 rfl rfl ?_
            refine zw_bipush 8 15 f13_13 rfl (by decide +kernel) ?_
            refine zw_ic_ge_f 18 22 f13_15 (by decide +kernel) rfl (fun q => absurd (zn_ge (a := 8) (b := t5) (by omega) (by omega) q) (by omega)) ?_
            refine zw_iconst 1 19 f13_18 rfl (by decide +kernel) ?_
            refine zw_goto 23 f13_19 (by decide +kernel) ?_
            refine zw_zreturn f13_23 r13 u13 (by decide +kernel) ⟨_, rfl, ?_⟩
            refine zw_if_eq_f 11 24 f51_8 (by decide +kernel) rfl (by decide +kernel) ?_
            refine zw_aload_n 12 f51_11 rfl rfl ?_
            refine zw_getfield 15 f51_12 rfl g51_18_10 (hb_22 _ _ _ _) rfl ?_
            refine zw_iload_n 16 f51_15 rfl rfl ?_
            refine zw_dup2 17 f51_16 rfl rfl rfl ?_
            refine zw_iaload t5 (A1 27 t5) 18 f51_17 rfl (hb_27 _ _ _ _) (nI_clamp (by omega)) (nI_pos (by omega)) (by omega) rfl ?_
            refine zw_iload_n 19 f51_18 rfl rfl ?_
            refine zw_iadd ((A1 27 t5) + (P 62 k)) 20 f51_19 rfl rfl ?_
            refine zw_ast t5 _ 21 f51_20 rfl (hb_27 _ _ _ _) (nI_clamp (by omega)) (nI_pos (by omega)) (by omega) (ha_27 _ _ _ _ _) ?_
            refine zw_goto 34 f51_21 (by decide +kernel) ?_
            refine zw_vreturn f51_34 r51 u51 ⟨rfl, ?_⟩
            refine zw_iinc (nI (k + 1)) _ 121 f49_118 rfl h1 (by decide +kernel) (nI_1 _) rfl ?_
            refine zw_goto 33 f49_121 (by decide +kernel) ?_
            have ha := (hp.2.2.2 k (by omega)).2.1
            have h0a : 0 < P 62 k := by rw [i32_lt, i32_0]; omega
            have E := mR1_y (frm := P 60) (too := P 61) (amt := P 62) (run := (wRun nv P W)) (k := k) (P 62 k) (nI t5) t5q (if_pos ⟨(Decidable.of_not_not hc2), hc3⟩) h0a
            rw [mGoC_t (by omega), mGoD_t (by omega)] at E
            exact ih (k + 1) _ _ _ _ _ (KQ.a rfl (KQ.i rfl (KQ.a rfl K0))) (by rw [E]; exact ⟨mC_t hr.1 (by omega), hr.2.1, congrArg (fun z => z + P 62 k) hr.2.2⟩) (zl1_ne rfl rfl h0) zl1_eq (by omega) (by omega)
set_option maxRecDepth 100000 in
set_option maxHeartbeats 0 in
theorem lcx_rr22_12 (ro : UInt32 → Nat × (Nat → Int32)) (nv np : Nat) (P : Nat → Nat → Int32) (W : qW) (T K : Int) (I : Nat → Nat → Int32) (G : Nat → Nat → Int64) (A : Nat → Nat → Int32) (B : Nat → Nat → Int64) (hR : cRS 22 nv np P W I G A B) (hp : MPa nv np P) (hb : wBo W) (hq : qOw nv np P) (hW : wOk nv T K P W) : ∀ (n k : Nat) (ls : List (Nat × Value)) (I1 : Nat → Nat → Int32) (G1 : Nat → Nat → Int64) (A1 : Nat → Nat → Int32) (B1 : Nat → Nat → Int64), KQ (fCr 22) (pCr 22) I G A B I1 G1 A1 B1 → ((∀ j, j < k → A1 27 j = 0) ∧ I1 22 6 = 0 ∧ I1 22 7 = 0) → zld ls 0 = some (.ref 22) → zld ls 1 = some (.int (nI k)) → k ≤ 8 → 8 + 1 ≤ k + n → zWp ro 49 12 ls [] (hS I1 G1 A1 B1) 0 0 (fun r h1 => ∃ I2 G2 A2 B2, h1 = hS I2 G2 A2 B2 ∧ KQ (fCr 22) (pCr 22) I G A B I2 G2 A2 B2 ∧ (cRel 22 I2 A2 (wR2 nv np P W) nv ∧ I2 22 6 = wSr nv np P W) ∧ r = none) := by
  have h8 := hp.1
  have h14 := hp.2.1
  intro n
  induction n with
  | zero =>
    intro k ls I1 G1 A1 B1 _ _ _ _ a c
    exact absurd c (by omega)
  | succ n ih =>
    intro k ls I1 G1 A1 B1 K0 hr h0 h1 hk1 hk2
    refine zw_iload_n 13 f49_12 rfl h1 ?_
    refine zw_bipush 8 15 f49_13 rfl (by decide +kernel) ?_
    refine zw_ic_ge 18 31 f49_15 (by decide +kernel) rfl (fun hc1 => ?_) (fun hc1 => ?_)
    · have hn_hc1 : 8 ≤ k := zn_ge (by omega) (by omega) hc1
      refine zw_iconst 0 32 f49_31 rfl (by decide +kernel) ?_
      refine zw_istore_n _ 33 f49_32 rfl (by decide +kernel) rfl ?_
      have hk : k = 8 := by omega
      subst hk
      exact lcx_rr22_33 ro nv np P W T K I G A B hR hp hb hq hW (np + 1) 0 _ _ _ _ _ K0 ⟨hr.1, hr.2.2, hr.2.1⟩ (zl1_ne rfl rfl h0) zl1_eq (by omega) (by omega)
    · have hn_hc1 : k < 8 := zn_lt (by omega) (by omega) hc1
      refine zw_aload_n 19 f49_18 rfl h0 ?_
      refine zw_getfield 22 f49_19 rfl g49_18_10 (hb_22 _ _ _ _) rfl ?_
      refine zw_iload_n 23 f49_22 rfl h1 ?_
      refine zw_iconst 0 24 f49_23 rfl (by decide +kernel) ?_
      refine zw_ast k _ 25 f49_24 rfl (hb_27 _ _ _ _) (nI_clamp (by omega)) (nI_pos (by omega)) (by omega) (ha_27 _ _ _ _ _) ?_
      refine zw_iinc (nI (k + 1)) _ 28 f49_25 rfl h1 (by decide +kernel) (nI_1 _) rfl ?_
      refine zw_goto 12 f49_28 (by decide +kernel) ?_
      exact ih (k + 1) _ _ _ _ _ (KQ.a rfl K0) ⟨mI_u (T := fun _ => 0) hr.1 rfl, hr.2⟩ (zl1_ne rfl rfl h0) zl1_eq (by omega) (by omega)
set_option maxRecDepth 100000 in
set_option maxHeartbeats 0 in
theorem cx_rates_22 (ro : UInt32 → Nat × (Nat → Int32)) (nv np : Nat) (P : Nat → Nat → Int32) (W : qW) (T K : Int) (I : Nat → Nat → Int32) (G : Nat → Nat → Int64) (A : Nat → Nat → Int32) (B : Nat → Nat → Int64) (hR : cRS 22 nv np P W I G A B) (hp : MPa nv np P) (hb : wBo W) (hq : qOw nv np P) (hW : wOk nv T K P W) : zWp ro 49 0 [(0, .ref 22)] [] (hS I G A B) 0 0 (fun r h1 => ∃ I2 G2 A2 B2, h1 = hS I2 G2 A2 B2 ∧ KQ (fCr 22) (pCr 22) I G A B I2 G2 A2 B2 ∧ (cRel 22 I2 A2 (wR2 nv np P W) nv ∧ I2 22 6 = wSr nv np P W) ∧ r = none) := by
  have h8 := hp.1
  have h14 := hp.2.1
  refine zw_aload_n 1 f49_0 rfl rfl ?_
  refine zw_iconst 0 2 f49_1 rfl (by decide +kernel) ?_
  refine zw_put _ 5 f49_2 rfl g49_54_10 (hb_22 _ _ _ _) rfl (Nat.le_of_ble_eq_true rfl) (by decide +kernel) (hi_22_6 _ _ _ _ _) ?_
  refine zw_aload_n 6 f49_5 rfl rfl ?_
  refine zw_iconst 0 7 f49_6 rfl (by decide +kernel) ?_
  refine zw_put _ 10 f49_7 rfl g49_58_10 (hb_22 _ _ _ _) rfl (Nat.le_of_ble_eq_true rfl) (by decide +kernel) (hi_22_7 _ _ _ _ _) ?_
  refine zw_iconst 0 11 f49_10 rfl (by decide +kernel) ?_
  refine zw_istore_n _ 12 f49_11 rfl (by decide +kernel) rfl ?_
  exact lcx_rr22_12 ro nv np P W T K I G A B hR hp hb hq hW 9 0 _ _ _ _ _ (KQ.i rfl (KQ.i rfl KQ.rf)) ⟨fun j hj => absurd hj (by omega), rfl, rfl⟩ (zl1_ne rfl rfl rfl) zl1_eq (by omega) (by omega)
set_option maxRecDepth 100000 in
set_option maxHeartbeats 0 in
theorem cx_offer_22 (ro : UInt32 → Nat × (Nat → Int32)) (I : Nat → Nat → Int32) (G : Nat → Nat → Int64) (A : Nat → Nat → Int32) (B : Nat → Nat → Int64) (g way : Int64) (sp : Int32) (s : Int32 × Int64 × Int64) (hg : 1 ≤ g.toInt ∧ g.toInt ≤ 10000) (hw : way.toInt ≤ 200 * g.toInt) (hs : 0 < sp.toInt ∧ sp.toInt ≤ 71400) (hn : cNx g s (G 22 8) (G 22 9)) : zWp ro 57 0 [(0, .ref 22), (1, .long way), (3, .long (Int32.toInt64 sp))] [] (hS I G A B) 0 0 (fun r h1 => ∃ G2, h1 = hS I G2 A B ∧ KQ (fCo 22) p0 I G A B I G2 A B ∧ cNx g (mayF g s way sp) (G2 22 8) (G2 22 9) ∧ r = none) := by
  refine zw_lload_n 1 f57_0 rfl rfl ?_
  refine zw_lconst 0 2 f57_1 rfl (by decide +kernel) ?_
  refine zw_lcmp (lg_cmp way 0) 3 f57_2 rfl rfl ?_
  refine zw_if_le 6 41 f57_3 (by decide +kernel) rfl (fun hc1 => ?_) (fun hc1 => ?_)
  · refine zw_vreturn f57_41 r57 u57 ?_
    refine ⟨_, rfl, KQ.rf, ?_, rfl⟩
    rw [show mayF g s way sp = _ from mayF_a (Int64.not_lt.mpr ((lg_cmp_le _ _).mp hc1))]
    exact hn
  · refine zw_aload_n 7 f57_6 rfl rfl ?_
    refine zw_getG (G 22 9) 10 f57_7 rfl g57_119_10 (hb_22 _ _ _ _) rfl rfl ?_
    refine zw_lconst 0 11 f57_10 rfl (by decide +kernel) ?_
    refine zw_lcmp (lg_cmp (G 22 9) 0) 12 f57_11 rfl rfl ?_
    refine zw_if_eq 15 31 f57_12 (by decide +kernel) rfl (fun hc2 => ?_) (fun hc2 => ?_)
    · refine zw_aload_n 32 f57_31 rfl rfl ?_
      refine zw_lload_n 33 f57_32 rfl rfl ?_
      refine zw_put _ 36 f57_33 rfl g57_116_10 (hb_22 _ _ _ _) rfl (Nat.le_of_ble_eq_true rfl) (by decide +kernel) (hg_22_8 _ _ _ _ _) ?_
      refine zw_aload_n 37 f57_36 rfl rfl ?_
      refine zw_lload_n 38 f57_37 rfl rfl ?_
      refine zw_put _ 41 f57_38 rfl g57_119_10 (hb_22 _ _ _ _) rfl (Nat.le_of_ble_eq_true rfl) (by decide +kernel) (hg_22_9 _ _ _ _ _) ?_
      refine zw_vreturn f57_41 r57 u57 ?_
      refine ⟨_, rfl, (KQ.g rfl (KQ.g rfl KQ.rf)), ?_, rfl⟩
      rw [show mayF g s way sp = _ from mayF_d (Int64.not_le.mp (fun q => hc1 ((lg_cmp_le _ _).mpr q))) (cNx_sp hs) (cNx_r hn ((lg_cmp_eq _ _).mp hc2))]
      exact cNx.new (Int64.not_le.mp (fun q => hc1 ((lg_cmp_le _ _).mpr q))) hw hs
    · refine zw_lload_n 16 f57_15 rfl rfl ?_
      refine zw_aload_n 17 f57_16 rfl rfl ?_
      refine zw_getG (G 22 9) 20 f57_17 rfl g57_119_10 (hb_22 _ _ _ _) rfl rfl ?_
      refine zw_lmul (way * (G 22 9)) 21 f57_20 rfl rfl ?_
      refine zw_aload_n 22 f57_21 rfl rfl ?_
      refine zw_getG (G 22 8) 25 f57_22 rfl g57_116_10 (hb_22 _ _ _ _) rfl rfl ?_
      refine zw_lload_n 26 f57_25 rfl rfl ?_
      refine zw_lmul ((G 22 8) * (Int32.toInt64 sp)) 27 f57_26 rfl rfl ?_
      refine zw_lcmp (lg_cmp (way * (G 22 9)) ((G 22 8) * (Int32.toInt64 sp))) 28 f57_27 rfl rfl ?_
      refine zw_if_ge 31 41 f57_28 (by decide +kernel) rfl (fun hc3 => ?_) (fun hc3 => ?_)
      · refine zw_vreturn f57_41 r57 u57 ?_
        refine ⟨_, rfl, KQ.rf, ?_, rfl⟩
        rw [show mayF g s way sp = _ from mayF_c (cNx_n hn (fun q => hc2 ((lg_cmp_eq _ _).mpr q))) (fun z => (Int64.not_lt.mpr ((lg_cmp_ge _ _).mp hc3)) ((cNx_lt hg hn (fun q => hc2 ((lg_cmp_eq _ _).mpr q)) (Int64.not_le.mp (fun q => hc1 ((lg_cmp_le _ _).mpr q))) hw hs).mpr z))]
        exact hn
      · refine zw_aload_n 32 f57_31 rfl rfl ?_
        refine zw_lload_n 33 f57_32 rfl rfl ?_
        refine zw_put _ 36 f57_33 rfl g57_116_10 (hb_22 _ _ _ _) rfl (Nat.le_of_ble_eq_true rfl) (by decide +kernel) (hg_22_8 _ _ _ _ _) ?_
        refine zw_aload_n 37 f57_36 rfl rfl ?_
        refine zw_lload_n 38 f57_37 rfl rfl ?_
        refine zw_put _ 41 f57_38 rfl g57_119_10 (hb_22 _ _ _ _) rfl (Nat.le_of_ble_eq_true rfl) (by decide +kernel) (hg_22_9 _ _ _ _ _) ?_
        refine zw_vreturn f57_41 r57 u57 ?_
        refine ⟨_, rfl, (KQ.g rfl (KQ.g rfl KQ.rf)), ?_, rfl⟩
        rw [show mayF g s way sp = _ from mayF_e (Int64.not_le.mp (fun q => hc1 ((lg_cmp_le _ _).mpr q))) (cNx_sp hs) ((cNx_lt hg hn (fun q => hc2 ((lg_cmp_eq _ _).mpr q)) (Int64.not_le.mp (fun q => hc1 ((lg_cmp_le _ _).mpr q))) hw hs).mp (Int64.not_le.mp (fun q => hc3 ((lg_cmp_ge _ _).mpr q))))]
        exact cNx.new (Int64.not_le.mp (fun q => hc1 ((lg_cmp_le _ _).mpr q))) hw hs
set_option maxRecDepth 100000 in
set_option maxHeartbeats 0 in
theorem lcx_sn22 (ro : UInt32 → Nat × (Nat → Int32)) (nv np : Nat) (P : Nat → Nat → Int32) (W : qW) (T K : Int) (I : Nat → Nat → Int32) (G : Nat → Nat → Int64) (A : Nat → Nat → Int32) (B : Nat → Nat → Int64) (hR : cRS 22 nv np P W I G A B) (hp : MPa nv np P) (hb : wBo W) (hq : qOw nv np P) (hW : wOk nv T K P W) : ∀ (n k : Nat) (ls : List (Nat × Value)) (I1 : Nat → Nat → Int32) (G1 : Nat → Nat → Int64) (A1 : Nat → Nat → Int32) (B1 : Nat → Nat → Int64), KQ (fCs 22) (pCr 22) I G A B I1 G1 A1 B1 → (cRel 22 I1 A1 (wR2 nv np P W) nv ∧ I1 22 6 = wSr nv np P W) → cNx W.1 (mSk (P 53) (P 54) (P 55) (P 56) (P 57) W.2.2.2.2.2.2.1 W.2.2.2.2.2.1 (wCh nv np P W) W.2.2.2.2.1 W.1 (1, 0, 0) k) (G1 22 8) (G1 22 9) → zld ls 0 = some (.ref 22) → zld ls 1 = some (.int (nI k)) → k ≤ nv → nv + 1 ≤ k + n → zWp ro 53 16 ls [] (hS I1 G1 A1 B1) 0 0 (fun r h1 => ∃ I2 G2 A2 B2, h1 = hS I2 G2 A2 B2 ∧ KQ (fCs 22) (pCr 22) I G A B I2 G2 A2 B2 ∧ (cRel 22 I2 A2 (wR2 nv np P W) nv ∧ I2 22 6 = wSr nv np P W) ∧ cNx W.1 (wNx nv np P W) (G2 22 8) (G2 22 9) ∧ r = none) := by
  have h8 := hp.1
  have h14 := hp.2.1
  have hg : 1 ≤ W.1.toInt ∧ W.1.toInt ≤ 10000 := hW.1.1
  have bb := wR2_b hp W
  intro n
  induction n with
  | zero =>
    intro k ls I1 G1 A1 B1 _ _ _ _ _ a c
    exact absurd c (by omega)
  | succ n ih =>
    intro k ls I1 G1 A1 B1 K0 hr hN h0 h1 hk1 hk2
    refine zw_iload_n 17 f53_16 rfl h1 ?_
    refine zw_aload_n 18 f53_17 rfl h0 ?_
    refine zw_getfield 21 f53_18 rfl g53_37_10 (hb_22 _ _ _ _) rfl ?_
    refine zw_getI (nI nv) 24 f53_21 rfl g53_80_4 (hb_1 _ _ _ _) rfl ((K0.1 1 0 rfl).trans hR.1.1) ?_
    refine zw_ic_ge 27 64 f53_24 (by decide +kernel) rfl (fun hc1 => ?_) (fun hc1 => ?_)
    · have hn_hc1 : nv ≤ k := zn_ge (by omega) (by omega) hc1
      refine zw_vreturn f53_64 r53 u53 ?_
      have hk : k = nv := by omega
      subst hk
      exact ⟨_, _, _, _, rfl, K0, hr, hN, rfl⟩
    · have hn_hc1 : k < nv := zn_lt (by omega) (by omega) hc1
      have ck := bb.2.2.1 k (by omega)
      obtain ⟨pk1, pk2, pk3, -⟩ := hp.2.2.1 k (by omega)
      have lk : 0 ≤ (W.2.2.2.2.1 k).toInt ∧ (W.2.2.2.2.1 k).toInt ≤ 200 * W.1.toInt := ⟨(hW.1.2.1 k (by omega)).1, Int.le_trans (hW.1.2.1 k (by omega)).2 (mBrim (a := P 54 k) (g := W.1) ⟨by omega, pk1.2⟩ hg).2.2⟩
      unfold mChOk at ck
      refine zw_aload_n 28 f53_27 rfl h0 ?_
      refine zw_getfield 31 f53_28 rfl g53_22_10 (hb_22 _ _ _ _) rfl ?_
      refine zw_iload_n 32 f53_31 rfl h1 ?_
      refine zw_iaload k ((wCh nv np P W) k) 33 f53_32 rfl (hb_28 _ _ _ _) (nI_clamp (by omega)) (nI_pos (by omega)) (by omega) (hr.1.2.2.1 k (by omega)) ?_
      refine zw_if_le 36 44 f53_33 (by decide +kernel) rfl (fun hc2 => ?_) (fun hc2 => ?_)
      · refine zw_aload_n 45 f53_44 rfl h0 ?_
        refine zw_getfield 48 f53_45 rfl g53_22_10 (hb_22 _ _ _ _) rfl ?_
        refine zw_iload_n 49 f53_48 rfl h1 ?_
        refine zw_iaload k ((wCh nv np P W) k) 50 f53_49 rfl (hb_28 _ _ _ _) (nI_clamp (by omega)) (nI_pos (by omega)) (by omega) (hr.1.2.2.1 k (by omega)) ?_
        refine zw_if_ge 53 58 f53_50 (by decide +kernel) rfl (fun hc3 => ?_) (fun hc3 => ?_)
        · refine zw_iinc (nI (k + 1)) _ 61 f53_58 rfl h1 (by decide +kernel) (nI_1 _) rfl ?_
          refine zw_goto 16 f53_61 (by decide +kernel) ?_
          have c0 : ((wCh nv np P W) k) = 0 := Int32.toInt_inj.mp (by have q1 := (Int32.not_lt.mpr hc2); have q2 := (Int32.not_lt.mpr hc3); rw [i32_lt, i32_0] at q1 q2; rw [i32_0]; omega)
          have E : cNx W.1 (mSk (P 53) (P 54) (P 55) (P 56) (P 57) W.2.2.2.2.2.2.1 W.2.2.2.2.2.1 (wCh nv np P W) W.2.2.2.2.1 W.1 (1, 0, 0) (k + 1)) (G1 22 8) (G1 22 9) := by
            rw [mSk_s, mS1_f (by rw [c0]; decide), mS2_nn (by rw [c0]; decide), mS3_zz c0, mayF_b (by rw [c0]; decide)]
            exact hN
          exact ih (k + 1) _ _ _ _ _ K0 ⟨hr.1, hr.2⟩ E (zl1_ne rfl rfl h0) zl1_eq (by omega) (by omega)
        · have cn : ((wCh nv np P W) k).toInt < 0 := by have q := (Int32.not_le.mp hc3); rw [i32_lt, i32_0] at q; exact q
          refine zw_aload_n 54 f53_53 rfl h0 ?_
          refine zw_iload_n 55 f53_54 rfl h1 ?_
          refine zw_virtual_v 58 0 0 [.ref 22, .int (nI k)] [(0, .ref 22), (1, .int (nI k))] f53_55 rfl n53_125 k53_125_10 rfl (hb_22 _ _ _ _) (by decide +kernel) (Nat.le_of_ble_eq_true rfl) rfl rfl (by decide +kernel) (by decide +kernel) rfl (Nat.le_of_ble_eq_true rfl) rfl ?_
          refine zw_aload_n 1 f55_0 rfl rfl ?_
          refine zw_aload_n 2 f55_1 rfl rfl ?_
          refine zw_getfield 5 f55_2 rfl g55_12_10 (hb_22 _ _ _ _) rfl ?_
          refine zw_getfield 8 f55_5 rfl g55_87_9 (hb_23 _ _ _ _) rfl ?_
          refine zw_iload_n 9 f55_8 rfl rfl ?_
          refine zw_laload k ((W.2.2.2.2.1) k) 10 f55_9 rfl (hb_24 _ _ _ _) (nI_clamp (by omega)) (nI_pos (by omega)) (by omega) (congrFun (((K0.2.2.2 24 rfl).trans hR.2.2.2.1)) k) ?_
          refine zw_aload_n 11 f55_10 rfl rfl ?_
          refine zw_getfield 14 f55_11 rfl g55_22_10 (hb_22 _ _ _ _) rfl ?_
          refine zw_iload_n 15 f55_14 rfl rfl ?_
          refine zw_iaload k ((wCh nv np P W) k) 16 f55_15 rfl (hb_28 _ _ _ _) (nI_clamp (by omega)) (nI_pos (by omega)) (by omega) (hr.1.2.2.1 k (by omega)) ?_
          refine zw_ineg (-((wCh nv np P W) k)) 17 f55_16 rfl rfl ?_
          refine zw_i2l (Int32.toInt64 (-((wCh nv np P W) k))) 18 f55_17 rfl rfl ?_
          refine zw_virtual_v 21 0 0 [.ref 22, .long ((W.2.2.2.2.1) k), .long (Int32.toInt64 (-((wCh nv np P W) k)))] [(0, .ref 22), (1, .long ((W.2.2.2.2.1) k)), (3, .long (Int32.toInt64 (-((wCh nv np P W) k))))] f55_18 rfl n55_128 k55_128_10 rfl (hb_22 _ _ _ _) (by decide +kernel) (Nat.le_of_ble_eq_true rfl) rfl rfl (by decide +kernel) (by decide +kernel) rfl (Nat.le_of_ble_eq_true rfl) rfl ?_
          refine zWp.mono (cx_offer_22 ro _ _ _ _ W.1 ((W.2.2.2.2.1) k) (-((wCh nv np P W) k)) (mSk (P 53) (P 54) (P 55) (P 56) (P 57) W.2.2.2.2.2.2.1 W.2.2.2.2.2.1 (wCh nv np P W) W.2.2.2.2.1 W.1 (1, 0, 0) k) hg (by have := lk; omega) (by rw [i32_neg (by omega)]; omega) hN) ?_
          rintro r h1 ⟨G_4, rfl, K_4, N_4, rfl⟩
          refine ⟨rfl, ?_⟩
          refine zw_aload_n 22 f55_21 rfl rfl ?_
          refine zw_iload_n 23 f55_22 rfl rfl ?_
          refine zw_iconst 0 24 f55_23 rfl (by decide +kernel) ?_
          refine zw_virtual_i 27 0 0 [.ref 22, .int (nI k), .int 0] [(0, .ref 22), (1, .int (nI k)), (2, .int 0)] f55_24 rfl n55_135 k55_135_10 rfl (hb_22 _ _ _ _) (by decide +kernel) (Nat.le_of_ble_eq_true rfl) rfl rfl (by decide +kernel) (by decide +kernel) rfl (Nat.le_of_ble_eq_true rfl) rfl ?_
          refine zw_aload_n 1 f56_0 rfl rfl ?_
          refine zw_getfield 4 f56_1 rfl g56_37_10 (hb_22 _ _ _ _) rfl ?_
          refine zw_iload_n 5 f56_4 rfl rfl ?_
          refine zw_virtual_i 8 0 0 [.ref 1, .int (nI k)] [(0, .ref 1), (1, .int (nI k))] f56_5 rfl n56_145 k56_145_4 rfl (hb_1 _ _ _ _) (by decide +kernel) (Nat.le_of_ble_eq_true rfl) rfl rfl (by decide +kernel) (by decide +kernel) rfl (Nat.le_of_ble_eq_true rfl) rfl ?_
          refine zw_iload_n 1 f17_0 rfl rfl ?_
          refine zw_if_lt_f 4 22 f17_1 (by decide +kernel) rfl (nI_pos (by omega)) ?_
          refine zw_iload_n 5 f17_4 rfl rfl ?_
          refine zw_aload_n 6 f17_5 rfl rfl ?_
          refine zw_getI (nI nv) 9 f17_6 rfl g17_39_4 (hb_1 _ _ _ _) rfl ((K_4.1 1 0 rfl).trans ((K0.1 1 0 rfl).trans hR.1.1)) ?_
          refine zw_ic_ge_f 12 22 f17_9 (by decide +kernel) rfl hc1 ?_
          refine zw_iload_n 13 f17_12 rfl rfl ?_
          refine zw_bipush 8 15 f17_13 rfl (by decide +kernel) ?_
          refine zw_ic_ge_f 18 22 f17_15 (by decide +kernel) rfl (fun q => absurd (zn_ge (a := 8) (b := k) (by omega) (by omega) q) (by omega)) ?_
          refine zw_iconst 1 19 f17_18 rfl (by decide +kernel) ?_
          refine zw_goto 23 f17_19 (by decide +kernel) ?_
          refine zw_istore_n _ 24 f17_23 rfl (by decide +kernel) rfl ?_
          refine zw_iload_n 25 f17_24 rfl zl1_eq ?_
          refine zw_if_eq_f 28 52 f17_25 (by decide +kernel) rfl (by decide +kernel) ?_
          refine zw_aload_n 29 f17_28 rfl (zl1_ne rfl rfl rfl) ?_
          refine zw_getfield 32 f17_29 rfl g17_9_4 (hb_1 _ _ _ _) rfl ?_
          refine zw_iload_n 33 f17_32 rfl (zl1_ne rfl rfl rfl) ?_
          refine zw_iaload k (P 53 k) 34 f17_33 rfl (hb_2 _ _ _ _) (nI_clamp (by omega)) (nI_pos (by omega)) (by omega) (congrFun (((K_4.2.2.1 2 rfl).trans ((K0.2.2.1 2 rfl).trans (hR.2.1 53 (by omega) (by omega))))) k) ?_
          refine zw_iconst 3 35 f17_34 rfl (by decide +kernel) ?_
          refine zw_ic_eq 38 48 f17_35 (by decide +kernel) rfl (fun hc5 => ?_) (fun hc5 => ?_)
          · refine zw_iconst 1 49 f17_48 rfl (by decide +kernel) ?_
            refine zw_goto 53 f17_49 (by decide +kernel) ?_
            refine zw_zreturn f17_53 r17 u17 (by decide +kernel) ⟨_, rfl, ?_⟩
            refine zw_if_eq_f 11 23 f56_8 (by decide +kernel) rfl (by decide +kernel) ?_
            refine zw_aload_n 12 f56_11 rfl rfl ?_
            refine zw_getfield 15 f56_12 rfl g56_37_10 (hb_22 _ _ _ _) rfl ?_
            refine zw_getfield 18 f56_15 rfl g56_148_4 (hb_1 _ _ _ _) rfl ?_
            refine zw_iload_n 19 f56_18 rfl rfl ?_
            rcases (hp.2.2.1 k (by omega)).2.2.2.1 with t6q | ⟨t6, t6l, t6n, t6q⟩
            · refine zw_iaload k (-1) 20 f56_19 rfl (hb_6 _ _ _ _) (nI_clamp (by omega)) (nI_pos (by omega)) (by omega) ((congrFun ((K_4.2.2.1 6 rfl).trans ((K0.2.2.1 6 rfl).trans (hR.2.1 57 (by omega) (by omega)))) k).trans t6q) ?_
              refine zw_goto 24 f56_20 (by decide +kernel) ?_
              refine zw_istore_n _ 25 f56_24 rfl (by decide +kernel) rfl ?_
              refine zw_iload_n 26 f56_25 rfl zl1_eq ?_
              refine zw_iconst (-1) 27 f56_26 rfl (by decide +kernel) ?_
              refine zw_ic_eq_t 46 f56_27 (by decide +kernel) (by decide +kernel) ?_
              refine zw_iconst 0 47 f56_46 rfl (by decide +kernel) ?_
              refine zw_zreturn f56_47 r56 u56 (by decide +kernel) ⟨_, rfl, ?_⟩
              refine zw_if_eq_t 70 f55_27 (by decide +kernel) (by decide +kernel) ?_
              refine zw_vreturn f55_70 r55 u55 ⟨rfl, ?_⟩
              refine zw_iinc (nI (k + 1)) _ 61 f53_58 rfl h1 (by decide +kernel) (nI_1 _) rfl ?_
              refine zw_goto 16 f53_61 (by decide +kernel) ?_
              have E : cNx W.1 (mSk (P 53) (P 54) (P 55) (P 56) (P 57) W.2.2.2.2.2.2.1 W.2.2.2.2.2.1 (wCh nv np P W) W.2.2.2.2.1 W.1 (1, 0, 0) (k + 1)) (G_4 22 8) (G_4 22 9) := by
                rw [mSk_s, mS1_f (fun z => by rw [i32_lt, i32_0] at z; have q := (Int32.not_le.mp hc3); rw [i32_lt, i32_0] at q; omega), mS2_nn (fun z => by rw [i32_lt, i32_0] at z; have q := (Int32.not_le.mp hc3); rw [i32_lt, i32_0] at q; omega), mS3_b t6q]
                exact N_4
              exact ih (k + 1) _ _ _ _ _ (KQ.tr K0 (KQ.wk K_4 (fCo_s 22) p0_x)) ⟨hr.1, hr.2⟩ E (zl1_ne rfl rfl h0) zl1_eq (by omega) (by omega)
            · refine zw_iaload k (nI t6) 20 f56_19 rfl (hb_6 _ _ _ _) (nI_clamp (by omega)) (nI_pos (by omega)) (by omega) ((congrFun ((K_4.2.2.1 6 rfl).trans ((K0.2.2.1 6 rfl).trans (hR.2.1 57 (by omega) (by omega)))) k).trans t6q) ?_
              refine zw_goto 24 f56_20 (by decide +kernel) ?_
              refine zw_istore_n _ 25 f56_24 rfl (by decide +kernel) rfl ?_
              refine zw_iload_n 26 f56_25 rfl zl1_eq ?_
              refine zw_iconst (-1) 27 f56_26 rfl (by decide +kernel) ?_
              refine zw_ic_eq_f 30 46 f56_27 (by decide +kernel) rfl (nI_nem (by omega)) ?_
              refine zw_aload_n 31 f56_30 rfl (zl1_ne rfl rfl rfl) ?_
              refine zw_getfield 34 f56_31 rfl g56_12_10 (hb_22 _ _ _ _) rfl ?_
              refine zw_iload_n 35 f56_34 rfl zl1_eq ?_
              refine zw_virtual_i 38 0 0 [.ref 23, .int (nI t6)] [(0, .ref 23), (1, .int (nI t6))] f56_35 rfl n56_47 k56_47_9 rfl (hb_23 _ _ _ _) (by decide +kernel) (Nat.le_of_ble_eq_true rfl) rfl rfl (by decide +kernel) (by decide +kernel) rfl (Nat.le_of_ble_eq_true rfl) rfl ?_
              refine zWp.mono (cx_isOpen_22 ro nv np P W _ _ _ _ (hR.k (KQ.tr K0 (KQ.wk K_4 (fCo_s 22) p0_x)) ⟨rfl, rfl⟩ (fCs_w 22) (pCr_w 22 (by omega))) hp hb t6 (by omega)) ?_
              rintro r h1 ⟨rfl, rfl⟩
              refine ⟨_, rfl, ?_⟩
              refine zw_iload_n 39 f56_38 rfl (zl1_ne rfl rfl rfl) ?_
              refine zw_ic_ne 42 46 f56_39 (by decide +kernel) rfl (fun hc7 => ?_) (fun hc7 => ?_)
              · refine zw_iconst 0 47 f56_46 rfl (by decide +kernel) ?_
                refine zw_zreturn f56_47 r56 u56 (by decide +kernel) ⟨_, rfl, ?_⟩
                refine zw_if_eq_t 70 f55_27 (by decide +kernel) (by decide +kernel) ?_
                refine zw_vreturn f55_70 r55 u55 ⟨rfl, ?_⟩
                refine zw_iinc (nI (k + 1)) _ 61 f53_58 rfl h1 (by decide +kernel) (nI_1 _) rfl ?_
                refine zw_goto 16 f53_61 (by decide +kernel) ?_
                have E : cNx W.1 (mSk (P 53) (P 54) (P 55) (P 56) (P 57) W.2.2.2.2.2.2.1 W.2.2.2.2.2.1 (wCh nv np P W) W.2.2.2.2.1 W.1 (1, 0, 0) (k + 1)) (G_4 22 8) (G_4 22 9) := by
                  rw [mSk_s, mS1_f (fun z => by rw [i32_lt, i32_0] at z; have q := (Int32.not_le.mp hc3); rw [i32_lt, i32_0] at q; omega), mS2_nn (fun z => by rw [i32_lt, i32_0] at z; have q := (Int32.not_le.mp hc3); rw [i32_lt, i32_0] at q; omega), mS3_d (Or.inl hc5) t6q (by omega) hc7, mayF_b (fun z => by rw [i32_lt, i32_0] at z; have q := (Int32.not_le.mp hc3); rw [i32_lt, i32_0] at q; omega)]
                  exact N_4
                exact ih (k + 1) _ _ _ _ _ (KQ.tr K0 (KQ.wk K_4 (fCo_s 22) p0_x)) ⟨hr.1, hr.2⟩ E (zl1_ne rfl rfl h0) zl1_eq (by omega) (by omega)
              · refine zw_iconst 1 43 f56_42 rfl (by decide +kernel) ?_
                refine zw_goto 47 f56_43 (by decide +kernel) ?_
                refine zw_zreturn f56_47 r56 u56 (by decide +kernel) ⟨_, rfl, ?_⟩
                refine zw_if_eq_f 30 70 f55_27 (by decide +kernel) rfl (by decide +kernel) ?_
                refine zw_aload_n 31 f55_30 rfl rfl ?_
                refine zw_aload_n 32 f55_31 rfl rfl ?_
                refine zw_getfield 35 f55_32 rfl g55_12_10 (hb_22 _ _ _ _) rfl ?_
                refine zw_getfield 38 f55_35 rfl g55_87_9 (hb_23 _ _ _ _) rfl ?_
                refine zw_iload_n 39 f55_38 rfl rfl ?_
                refine zw_laload k ((W.2.2.2.2.1) k) 40 f55_39 rfl (hb_24 _ _ _ _) (nI_clamp (by omega)) (nI_pos (by omega)) (by omega) (congrFun (((K_4.2.2.2 24 rfl).trans ((K0.2.2.2 24 rfl).trans hR.2.2.2.1))) k) ?_
                refine zw_aload_n 41 f55_40 rfl rfl ?_
                refine zw_getfield 44 f55_41 rfl g55_37_10 (hb_22 _ _ _ _) rfl ?_
                refine zw_getfield 47 f55_44 rfl g55_142_4 (hb_1 _ _ _ _) rfl ?_
                refine zw_iload_n 48 f55_47 rfl rfl ?_
                refine zw_iaload k (P 56 k) 49 f55_48 rfl (hb_5 _ _ _ _) (nI_clamp (by omega)) (nI_pos (by omega)) (by omega) (congrFun (((K_4.2.2.1 5 rfl).trans ((K0.2.2.1 5 rfl).trans (hR.2.1 56 (by omega) (by omega))))) k) ?_
                refine zw_i2l (Int32.toInt64 (P 56 k)) 50 f55_49 rfl rfl ?_
                refine zw_aload_n 51 f55_50 rfl rfl ?_
                refine zw_getfield 54 f55_51 rfl g55_12_10 (hb_22 _ _ _ _) rfl ?_
                refine zw_getG W.1 57 f55_54 rfl g55_109_9 (hb_23 _ _ _ _) rfl ((K_4.2.1 23 0 rfl).trans ((K0.2.1 23 0 rfl).trans hR.2.2.1.1)) ?_
                refine zw_lmul ((Int32.toInt64 (P 56 k)) * W.1) 58 f55_57 rfl rfl ?_
                refine zw_lsub (((W.2.2.2.2.1) k) - ((Int32.toInt64 (P 56 k)) * W.1)) 59 f55_58 rfl rfl ?_
                refine zw_aload_n 60 f55_59 rfl rfl ?_
                refine zw_getfield 63 f55_60 rfl g55_22_10 (hb_22 _ _ _ _) rfl ?_
                refine zw_iload_n 64 f55_63 rfl rfl ?_
                refine zw_iaload k ((wCh nv np P W) k) 65 f55_64 rfl (hb_28 _ _ _ _) (nI_clamp (by omega)) (nI_pos (by omega)) (by omega) ((congrFun (K_4.2.2.1 28 rfl) k).trans (hr.1.2.2.1 k (by omega))) ?_
                refine zw_ineg (-((wCh nv np P W) k)) 66 f55_65 rfl rfl ?_
                refine zw_i2l (Int32.toInt64 (-((wCh nv np P W) k))) 67 f55_66 rfl rfl ?_
                refine zw_virtual_v 70 0 0 [.ref 22, .long (((W.2.2.2.2.1) k) - ((Int32.toInt64 (P 56 k)) * W.1)), .long (Int32.toInt64 (-((wCh nv np P W) k)))] [(0, .ref 22), (1, .long (((W.2.2.2.2.1) k) - ((Int32.toInt64 (P 56 k)) * W.1))), (3, .long (Int32.toInt64 (-((wCh nv np P W) k))))] f55_67 rfl n55_128 k55_128_10 rfl (hb_22 _ _ _ _) (by decide +kernel) (Nat.le_of_ble_eq_true rfl) rfl rfl (by decide +kernel) (by decide +kernel) rfl (Nat.le_of_ble_eq_true rfl) rfl ?_
                refine zWp.mono (cx_offer_22 ro _ _ _ _ W.1 (((W.2.2.2.2.1) k) - ((Int32.toInt64 (P 56 k)) * W.1)) (-((wCh nv np P W) k)) (mayF W.1 (mSk (P 53) (P 54) (P 55) (P 56) (P 57) W.2.2.2.2.2.2.1 W.2.2.2.2.2.1 (wCh nv np P W) W.2.2.2.2.1 W.1 (1, 0, 0) k) ((W.2.2.2.2.1) k) (-((wCh nv np P W) k))) hg (Int.le_trans (way_b (b := 0) (x := P 56 k) (l := W.2.2.2.2.1 k) hg (by omega) (by have := lk; omega)).2 (by have := lk; omega)) (by rw [i32_neg (by omega)]; omega) N_4) ?_
                rintro r h1 ⟨G_8, rfl, K_8, N_8, rfl⟩
                refine ⟨rfl, ?_⟩
                refine zw_vreturn f55_70 r55 u55 ⟨rfl, ?_⟩
                refine zw_iinc (nI (k + 1)) _ 61 f53_58 rfl h1 (by decide +kernel) (nI_1 _) rfl ?_
                refine zw_goto 16 f53_61 (by decide +kernel) ?_
                have E : cNx W.1 (mSk (P 53) (P 54) (P 55) (P 56) (P 57) W.2.2.2.2.2.2.1 W.2.2.2.2.2.1 (wCh nv np P W) W.2.2.2.2.1 W.1 (1, 0, 0) (k + 1)) (G_8 22 8) (G_8 22 9) := by
                  rw [mSk_s, mS1_f (fun z => by rw [i32_lt, i32_0] at z; have q := (Int32.not_le.mp hc3); rw [i32_lt, i32_0] at q; omega), mS2_nn (fun z => by rw [i32_lt, i32_0] at z; have q := (Int32.not_le.mp hc3); rw [i32_lt, i32_0] at q; omega), mS3_c (Or.inl hc5) t6q (by omega) (Decidable.of_not_not hc7)]
                  exact N_8
                exact ih (k + 1) _ _ _ _ _ (KQ.tr (KQ.tr K0 (KQ.wk K_4 (fCo_s 22) p0_x)) (KQ.wk K_8 (fCo_s 22) p0_x)) ⟨hr.1, hr.2⟩ E (zl1_ne rfl rfl h0) zl1_eq (by omega) (by omega)
          · refine zw_aload_n 39 f17_38 rfl (zl1_ne rfl rfl rfl) ?_
            refine zw_getfield 42 f17_39 rfl g17_9_4 (hb_1 _ _ _ _) rfl ?_
            refine zw_iload_n 43 f17_42 rfl (zl1_ne rfl rfl rfl) ?_
            refine zw_iaload k (P 53 k) 44 f17_43 rfl (hb_2 _ _ _ _) (nI_clamp (by omega)) (nI_pos (by omega)) (by omega) (congrFun (((K_4.2.2.1 2 rfl).trans ((K0.2.2.1 2 rfl).trans (hR.2.1 53 (by omega) (by omega))))) k) ?_
            refine zw_iconst 4 45 f17_44 rfl (by decide +kernel) ?_
            refine zw_ic_ne 48 52 f17_45 (by decide +kernel) rfl (fun hc9 => ?_) (fun hc9 => ?_)
            · refine zw_iconst 0 53 f17_52 rfl (by decide +kernel) ?_
              refine zw_zreturn f17_53 r17 u17 (by decide +kernel) ⟨_, rfl, ?_⟩
              refine zw_if_eq_t 23 f56_8 (by decide +kernel) (by decide +kernel) ?_
              refine zw_iconst (-1) 24 f56_23 rfl (by decide +kernel) ?_
              refine zw_istore_n _ 25 f56_24 rfl (by decide +kernel) rfl ?_
              refine zw_iload_n 26 f56_25 rfl zl1_eq ?_
              refine zw_iconst (-1) 27 f56_26 rfl (by decide +kernel) ?_
              refine zw_ic_eq_t 46 f56_27 (by decide +kernel) (by decide +kernel) ?_
              refine zw_iconst 0 47 f56_46 rfl (by decide +kernel) ?_
              refine zw_zreturn f56_47 r56 u56 (by decide +kernel) ⟨_, rfl, ?_⟩
              refine zw_if_eq_t 70 f55_27 (by decide +kernel) (by decide +kernel) ?_
              refine zw_vreturn f55_70 r55 u55 ⟨rfl, ?_⟩
              refine zw_iinc (nI (k + 1)) _ 61 f53_58 rfl h1 (by decide +kernel) (nI_1 _) rfl ?_
              refine zw_goto 16 f53_61 (by decide +kernel) ?_
              have E : cNx W.1 (mSk (P 53) (P 54) (P 55) (P 56) (P 57) W.2.2.2.2.2.2.1 W.2.2.2.2.2.1 (wCh nv np P W) W.2.2.2.2.1 W.1 (1, 0, 0) (k + 1)) (G_4 22 8) (G_4 22 9) := by
                rw [mSk_s, mS1_f (fun z => by rw [i32_lt, i32_0] at z; have q := (Int32.not_le.mp hc3); rw [i32_lt, i32_0] at q; omega), mS2_nn (fun z => by rw [i32_lt, i32_0] at z; have q := (Int32.not_le.mp hc3); rw [i32_lt, i32_0] at q; omega), mS3_a hc5 hc9]
                exact N_4
              exact ih (k + 1) _ _ _ _ _ (KQ.tr K0 (KQ.wk K_4 (fCo_s 22) p0_x)) ⟨hr.1, hr.2⟩ E (zl1_ne rfl rfl h0) zl1_eq (by omega) (by omega)
            · refine zw_iconst 1 49 f17_48 rfl (by decide +kernel) ?_
              refine zw_goto 53 f17_49 (by decide +kernel) ?_
              refine zw_zreturn f17_53 r17 u17 (by decide +kernel) ⟨_, rfl, ?_⟩
              refine zw_if_eq_f 11 23 f56_8 (by decide +kernel) rfl (by decide +kernel) ?_
              refine zw_aload_n 12 f56_11 rfl rfl ?_
              refine zw_getfield 15 f56_12 rfl g56_37_10 (hb_22 _ _ _ _) rfl ?_
              refine zw_getfield 18 f56_15 rfl g56_148_4 (hb_1 _ _ _ _) rfl ?_
              refine zw_iload_n 19 f56_18 rfl rfl ?_
              rcases (hp.2.2.1 k (by omega)).2.2.2.1 with t10q | ⟨t10, t10l, t10n, t10q⟩
              · refine zw_iaload k (-1) 20 f56_19 rfl (hb_6 _ _ _ _) (nI_clamp (by omega)) (nI_pos (by omega)) (by omega) ((congrFun ((K_4.2.2.1 6 rfl).trans ((K0.2.2.1 6 rfl).trans (hR.2.1 57 (by omega) (by omega)))) k).trans t10q) ?_
                refine zw_goto 24 f56_20 (by decide +kernel) ?_
                refine zw_istore_n _ 25 f56_24 rfl (by decide +kernel) rfl ?_
                refine zw_iload_n 26 f56_25 rfl zl1_eq ?_
                refine zw_iconst (-1) 27 f56_26 rfl (by decide +kernel) ?_
                refine zw_ic_eq_t 46 f56_27 (by decide +kernel) (by decide +kernel) ?_
                refine zw_iconst 0 47 f56_46 rfl (by decide +kernel) ?_
                refine zw_zreturn f56_47 r56 u56 (by decide +kernel) ⟨_, rfl, ?_⟩
                refine zw_if_eq_t 70 f55_27 (by decide +kernel) (by decide +kernel) ?_
                refine zw_vreturn f55_70 r55 u55 ⟨rfl, ?_⟩
                refine zw_iinc (nI (k + 1)) _ 61 f53_58 rfl h1 (by decide +kernel) (nI_1 _) rfl ?_
                refine zw_goto 16 f53_61 (by decide +kernel) ?_
                have E : cNx W.1 (mSk (P 53) (P 54) (P 55) (P 56) (P 57) W.2.2.2.2.2.2.1 W.2.2.2.2.2.1 (wCh nv np P W) W.2.2.2.2.1 W.1 (1, 0, 0) (k + 1)) (G_4 22 8) (G_4 22 9) := by
                  rw [mSk_s, mS1_f (fun z => by rw [i32_lt, i32_0] at z; have q := (Int32.not_le.mp hc3); rw [i32_lt, i32_0] at q; omega), mS2_nn (fun z => by rw [i32_lt, i32_0] at z; have q := (Int32.not_le.mp hc3); rw [i32_lt, i32_0] at q; omega), mS3_b t10q]
                  exact N_4
                exact ih (k + 1) _ _ _ _ _ (KQ.tr K0 (KQ.wk K_4 (fCo_s 22) p0_x)) ⟨hr.1, hr.2⟩ E (zl1_ne rfl rfl h0) zl1_eq (by omega) (by omega)
              · refine zw_iaload k (nI t10) 20 f56_19 rfl (hb_6 _ _ _ _) (nI_clamp (by omega)) (nI_pos (by omega)) (by omega) ((congrFun ((K_4.2.2.1 6 rfl).trans ((K0.2.2.1 6 rfl).trans (hR.2.1 57 (by omega) (by omega)))) k).trans t10q) ?_
                refine zw_goto 24 f56_20 (by decide +kernel) ?_
                refine zw_istore_n _ 25 f56_24 rfl (by decide +kernel) rfl ?_
                refine zw_iload_n 26 f56_25 rfl zl1_eq ?_
                refine zw_iconst (-1) 27 f56_26 rfl (by decide +kernel) ?_
                refine zw_ic_eq_f 30 46 f56_27 (by decide +kernel) rfl (nI_nem (by omega)) ?_
                refine zw_aload_n 31 f56_30 rfl (zl1_ne rfl rfl rfl) ?_
                refine zw_getfield 34 f56_31 rfl g56_12_10 (hb_22 _ _ _ _) rfl ?_
                refine zw_iload_n 35 f56_34 rfl zl1_eq ?_
                refine zw_virtual_i 38 0 0 [.ref 23, .int (nI t10)] [(0, .ref 23), (1, .int (nI t10))] f56_35 rfl n56_47 k56_47_9 rfl (hb_23 _ _ _ _) (by decide +kernel) (Nat.le_of_ble_eq_true rfl) rfl rfl (by decide +kernel) (by decide +kernel) rfl (Nat.le_of_ble_eq_true rfl) rfl ?_
                refine zWp.mono (cx_isOpen_22 ro nv np P W _ _ _ _ (hR.k (KQ.tr K0 (KQ.wk K_4 (fCo_s 22) p0_x)) ⟨rfl, rfl⟩ (fCs_w 22) (pCr_w 22 (by omega))) hp hb t10 (by omega)) ?_
                rintro r h1 ⟨rfl, rfl⟩
                refine ⟨_, rfl, ?_⟩
                refine zw_iload_n 39 f56_38 rfl (zl1_ne rfl rfl rfl) ?_
                refine zw_ic_ne 42 46 f56_39 (by decide +kernel) rfl (fun hc11 => ?_) (fun hc11 => ?_)
                · refine zw_iconst 0 47 f56_46 rfl (by decide +kernel) ?_
                  refine zw_zreturn f56_47 r56 u56 (by decide +kernel) ⟨_, rfl, ?_⟩
                  refine zw_if_eq_t 70 f55_27 (by decide +kernel) (by decide +kernel) ?_
                  refine zw_vreturn f55_70 r55 u55 ⟨rfl, ?_⟩
                  refine zw_iinc (nI (k + 1)) _ 61 f53_58 rfl h1 (by decide +kernel) (nI_1 _) rfl ?_
                  refine zw_goto 16 f53_61 (by decide +kernel) ?_
                  have E : cNx W.1 (mSk (P 53) (P 54) (P 55) (P 56) (P 57) W.2.2.2.2.2.2.1 W.2.2.2.2.2.1 (wCh nv np P W) W.2.2.2.2.1 W.1 (1, 0, 0) (k + 1)) (G_4 22 8) (G_4 22 9) := by
                    rw [mSk_s, mS1_f (fun z => by rw [i32_lt, i32_0] at z; have q := (Int32.not_le.mp hc3); rw [i32_lt, i32_0] at q; omega), mS2_nn (fun z => by rw [i32_lt, i32_0] at z; have q := (Int32.not_le.mp hc3); rw [i32_lt, i32_0] at q; omega), mS3_d (Or.inr (Decidable.of_not_not hc9)) t10q (by omega) hc11, mayF_b (fun z => by rw [i32_lt, i32_0] at z; have q := (Int32.not_le.mp hc3); rw [i32_lt, i32_0] at q; omega)]
                    exact N_4
                  exact ih (k + 1) _ _ _ _ _ (KQ.tr K0 (KQ.wk K_4 (fCo_s 22) p0_x)) ⟨hr.1, hr.2⟩ E (zl1_ne rfl rfl h0) zl1_eq (by omega) (by omega)
                · refine zw_iconst 1 43 f56_42 rfl (by decide +kernel) ?_
                  refine zw_goto 47 f56_43 (by decide +kernel) ?_
                  refine zw_zreturn f56_47 r56 u56 (by decide +kernel) ⟨_, rfl, ?_⟩
                  refine zw_if_eq_f 30 70 f55_27 (by decide +kernel) rfl (by decide +kernel) ?_
                  refine zw_aload_n 31 f55_30 rfl rfl ?_
                  refine zw_aload_n 32 f55_31 rfl rfl ?_
                  refine zw_getfield 35 f55_32 rfl g55_12_10 (hb_22 _ _ _ _) rfl ?_
                  refine zw_getfield 38 f55_35 rfl g55_87_9 (hb_23 _ _ _ _) rfl ?_
                  refine zw_iload_n 39 f55_38 rfl rfl ?_
                  refine zw_laload k ((W.2.2.2.2.1) k) 40 f55_39 rfl (hb_24 _ _ _ _) (nI_clamp (by omega)) (nI_pos (by omega)) (by omega) (congrFun (((K_4.2.2.2 24 rfl).trans ((K0.2.2.2 24 rfl).trans hR.2.2.2.1))) k) ?_
                  refine zw_aload_n 41 f55_40 rfl rfl ?_
                  refine zw_getfield 44 f55_41 rfl g55_37_10 (hb_22 _ _ _ _) rfl ?_
                  refine zw_getfield 47 f55_44 rfl g55_142_4 (hb_1 _ _ _ _) rfl ?_
                  refine zw_iload_n 48 f55_47 rfl rfl ?_
                  refine zw_iaload k (P 56 k) 49 f55_48 rfl (hb_5 _ _ _ _) (nI_clamp (by omega)) (nI_pos (by omega)) (by omega) (congrFun (((K_4.2.2.1 5 rfl).trans ((K0.2.2.1 5 rfl).trans (hR.2.1 56 (by omega) (by omega))))) k) ?_
                  refine zw_i2l (Int32.toInt64 (P 56 k)) 50 f55_49 rfl rfl ?_
                  refine zw_aload_n 51 f55_50 rfl rfl ?_
                  refine zw_getfield 54 f55_51 rfl g55_12_10 (hb_22 _ _ _ _) rfl ?_
                  refine zw_getG W.1 57 f55_54 rfl g55_109_9 (hb_23 _ _ _ _) rfl ((K_4.2.1 23 0 rfl).trans ((K0.2.1 23 0 rfl).trans hR.2.2.1.1)) ?_
                  refine zw_lmul ((Int32.toInt64 (P 56 k)) * W.1) 58 f55_57 rfl rfl ?_
                  refine zw_lsub (((W.2.2.2.2.1) k) - ((Int32.toInt64 (P 56 k)) * W.1)) 59 f55_58 rfl rfl ?_
                  refine zw_aload_n 60 f55_59 rfl rfl ?_
                  refine zw_getfield 63 f55_60 rfl g55_22_10 (hb_22 _ _ _ _) rfl ?_
                  refine zw_iload_n 64 f55_63 rfl rfl ?_
                  refine zw_iaload k ((wCh nv np P W) k) 65 f55_64 rfl (hb_28 _ _ _ _) (nI_clamp (by omega)) (nI_pos (by omega)) (by omega) ((congrFun (K_4.2.2.1 28 rfl) k).trans (hr.1.2.2.1 k (by omega))) ?_
                  refine zw_ineg (-((wCh nv np P W) k)) 66 f55_65 rfl rfl ?_
                  refine zw_i2l (Int32.toInt64 (-((wCh nv np P W) k))) 67 f55_66 rfl rfl ?_
                  refine zw_virtual_v 70 0 0 [.ref 22, .long (((W.2.2.2.2.1) k) - ((Int32.toInt64 (P 56 k)) * W.1)), .long (Int32.toInt64 (-((wCh nv np P W) k)))] [(0, .ref 22), (1, .long (((W.2.2.2.2.1) k) - ((Int32.toInt64 (P 56 k)) * W.1))), (3, .long (Int32.toInt64 (-((wCh nv np P W) k))))] f55_67 rfl n55_128 k55_128_10 rfl (hb_22 _ _ _ _) (by decide +kernel) (Nat.le_of_ble_eq_true rfl) rfl rfl (by decide +kernel) (by decide +kernel) rfl (Nat.le_of_ble_eq_true rfl) rfl ?_
                  refine zWp.mono (cx_offer_22 ro _ _ _ _ W.1 (((W.2.2.2.2.1) k) - ((Int32.toInt64 (P 56 k)) * W.1)) (-((wCh nv np P W) k)) (mayF W.1 (mSk (P 53) (P 54) (P 55) (P 56) (P 57) W.2.2.2.2.2.2.1 W.2.2.2.2.2.1 (wCh nv np P W) W.2.2.2.2.1 W.1 (1, 0, 0) k) ((W.2.2.2.2.1) k) (-((wCh nv np P W) k))) hg (Int.le_trans (way_b (b := 0) (x := P 56 k) (l := W.2.2.2.2.1 k) hg (by omega) (by have := lk; omega)).2 (by have := lk; omega)) (by rw [i32_neg (by omega)]; omega) N_4) ?_
                  rintro r h1 ⟨G_12, rfl, K_12, N_12, rfl⟩
                  refine ⟨rfl, ?_⟩
                  refine zw_vreturn f55_70 r55 u55 ⟨rfl, ?_⟩
                  refine zw_iinc (nI (k + 1)) _ 61 f53_58 rfl h1 (by decide +kernel) (nI_1 _) rfl ?_
                  refine zw_goto 16 f53_61 (by decide +kernel) ?_
                  have E : cNx W.1 (mSk (P 53) (P 54) (P 55) (P 56) (P 57) W.2.2.2.2.2.2.1 W.2.2.2.2.2.1 (wCh nv np P W) W.2.2.2.2.1 W.1 (1, 0, 0) (k + 1)) (G_12 22 8) (G_12 22 9) := by
                    rw [mSk_s, mS1_f (fun z => by rw [i32_lt, i32_0] at z; have q := (Int32.not_le.mp hc3); rw [i32_lt, i32_0] at q; omega), mS2_nn (fun z => by rw [i32_lt, i32_0] at z; have q := (Int32.not_le.mp hc3); rw [i32_lt, i32_0] at q; omega), mS3_c (Or.inr (Decidable.of_not_not hc9)) t10q (by omega) (Decidable.of_not_not hc11)]
                    exact N_12
                  exact ih (k + 1) _ _ _ _ _ (KQ.tr (KQ.tr K0 (KQ.wk K_4 (fCo_s 22) p0_x)) (KQ.wk K_12 (fCo_s 22) p0_x)) ⟨hr.1, hr.2⟩ E (zl1_ne rfl rfl h0) zl1_eq (by omega) (by omega)
      · have cp : 0 < ((wCh nv np P W) k).toInt := by have q := (Int32.not_le.mp hc2); rw [i32_lt, i32_0] at q; exact q
        refine zw_aload_n 37 f53_36 rfl h0 ?_
        refine zw_iload_n 38 f53_37 rfl h1 ?_
        refine zw_virtual_v 41 0 0 [.ref 22, .int (nI k)] [(0, .ref 22), (1, .int (nI k))] f53_38 rfl n53_122 k53_122_10 rfl (hb_22 _ _ _ _) (by decide +kernel) (Nat.le_of_ble_eq_true rfl) rfl rfl (by decide +kernel) (by decide +kernel) rfl (Nat.le_of_ble_eq_true rfl) rfl ?_
        refine zw_aload_n 1 f54_0 rfl rfl ?_
        refine zw_aload_n 2 f54_1 rfl rfl ?_
        refine zw_getfield 5 f54_2 rfl g54_37_10 (hb_22 _ _ _ _) rfl ?_
        refine zw_getfield 8 f54_5 rfl g54_106_4 (hb_1 _ _ _ _) rfl ?_
        refine zw_iload_n 9 f54_8 rfl rfl ?_
        refine zw_iaload k (P 54 k) 10 f54_9 rfl (hb_3 _ _ _ _) (nI_clamp (by omega)) (nI_pos (by omega)) (by omega) (congrFun (((K0.2.2.1 3 rfl).trans (hR.2.1 54 (by omega) (by omega)))) k) ?_
        refine zw_i2l (Int32.toInt64 (P 54 k)) 11 f54_10 rfl rfl ?_
        refine zw_aload_n 12 f54_11 rfl rfl ?_
        refine zw_getfield 15 f54_12 rfl g54_12_10 (hb_22 _ _ _ _) rfl ?_
        refine zw_getG W.1 18 f54_15 rfl g54_109_9 (hb_23 _ _ _ _) rfl ((K0.2.1 23 0 rfl).trans hR.2.2.1.1) ?_
        refine zw_lmul ((Int32.toInt64 (P 54 k)) * W.1) 19 f54_18 rfl rfl ?_
        refine zw_aload_n 20 f54_19 rfl rfl ?_
        refine zw_getfield 23 f54_20 rfl g54_12_10 (hb_22 _ _ _ _) rfl ?_
        refine zw_getfield 26 f54_23 rfl g54_87_9 (hb_23 _ _ _ _) rfl ?_
        refine zw_iload_n 27 f54_26 rfl rfl ?_
        refine zw_laload k ((W.2.2.2.2.1) k) 28 f54_27 rfl (hb_24 _ _ _ _) (nI_clamp (by omega)) (nI_pos (by omega)) (by omega) (congrFun (((K0.2.2.2 24 rfl).trans hR.2.2.2.1)) k) ?_
        refine zw_lsub (((Int32.toInt64 (P 54 k)) * W.1) - ((W.2.2.2.2.1) k)) 29 f54_28 rfl rfl ?_
        refine zw_aload_n 30 f54_29 rfl rfl ?_
        refine zw_getfield 33 f54_30 rfl g54_22_10 (hb_22 _ _ _ _) rfl ?_
        refine zw_iload_n 34 f54_33 rfl rfl ?_
        refine zw_iaload k ((wCh nv np P W) k) 35 f54_34 rfl (hb_28 _ _ _ _) (nI_clamp (by omega)) (nI_pos (by omega)) (by omega) (hr.1.2.2.1 k (by omega)) ?_
        refine zw_i2l (Int32.toInt64 ((wCh nv np P W) k)) 36 f54_35 rfl rfl ?_
        refine zw_virtual_v 39 0 0 [.ref 22, .long (((Int32.toInt64 (P 54 k)) * W.1) - ((W.2.2.2.2.1) k)), .long (Int32.toInt64 ((wCh nv np P W) k))] [(0, .ref 22), (1, .long (((Int32.toInt64 (P 54 k)) * W.1) - ((W.2.2.2.2.1) k))), (3, .long (Int32.toInt64 ((wCh nv np P W) k)))] f54_36 rfl n54_128 k54_128_10 rfl (hb_22 _ _ _ _) (by decide +kernel) (Nat.le_of_ble_eq_true rfl) rfl rfl (by decide +kernel) (by decide +kernel) rfl (Nat.le_of_ble_eq_true rfl) rfl ?_
        refine zWp.mono (cx_offer_22 ro _ _ _ _ W.1 (((Int32.toInt64 (P 54 k)) * W.1) - ((W.2.2.2.2.1) k)) ((wCh nv np P W) k) (mSk (P 53) (P 54) (P 55) (P 56) (P 57) W.2.2.2.2.2.2.1 W.2.2.2.2.2.1 (wCh nv np P W) W.2.2.2.2.1 W.1 (1, 0, 0) k) hg (way_b (b := 0) hg (by omega) (by have := lk; omega)).1 (by have := ck; omega) hN) ?_
        rintro r h1 ⟨G_13, rfl, K_13, N_13, rfl⟩
        refine ⟨rfl, ?_⟩
        refine zw_aload_n 40 f54_39 rfl rfl ?_
        refine zw_getfield 43 f54_40 rfl g54_37_10 (hb_22 _ _ _ _) rfl ?_
        refine zw_iload_n 44 f54_43 rfl rfl ?_
        refine zw_virtual_i 47 0 0 [.ref 1, .int (nI k)] [(0, .ref 1), (1, .int (nI k))] f54_44 rfl n54_132 k54_132_4 rfl (hb_1 _ _ _ _) (by decide +kernel) (Nat.le_of_ble_eq_true rfl) rfl rfl (by decide +kernel) (by decide +kernel) rfl (Nat.le_of_ble_eq_true rfl) rfl ?_
        refine zw_iload_n 1 f15_0 rfl rfl ?_
        refine zw_if_lt_f 4 27 f15_1 (by decide +kernel) rfl (nI_pos (by omega)) ?_
        refine zw_iload_n 5 f15_4 rfl rfl ?_
        refine zw_aload_n 6 f15_5 rfl rfl ?_
        refine zw_getI (nI nv) 9 f15_6 rfl g15_39_4 (hb_1 _ _ _ _) rfl ((K_13.1 1 0 rfl).trans ((K0.1 1 0 rfl).trans hR.1.1)) ?_
        refine zw_ic_ge_f 12 27 f15_9 (by decide +kernel) rfl hc1 ?_
        refine zw_iload_n 13 f15_12 rfl rfl ?_
        refine zw_bipush 8 15 f15_13 rfl (by decide +kernel) ?_
        refine zw_ic_ge_f 18 27 f15_15 (by decide +kernel) rfl (fun q => absurd (zn_ge (a := 8) (b := k) (by omega) (by omega) q) (by omega)) ?_
        refine zw_aload_n 19 f15_18 rfl rfl ?_
        refine zw_getfield 22 f15_19 rfl g15_9_4 (hb_1 _ _ _ _) rfl ?_
        refine zw_iload_n 23 f15_22 rfl rfl ?_
        refine zw_iaload k (P 53 k) 24 f15_23 rfl (hb_2 _ _ _ _) (nI_clamp (by omega)) (nI_pos (by omega)) (by omega) (congrFun (((K_13.2.2.1 2 rfl).trans ((K0.2.2.1 2 rfl).trans (hR.2.1 53 (by omega) (by omega))))) k) ?_
        refine zw_goto 28 f15_24 (by decide +kernel) ?_
        refine zw_ireturn f15_28 r15 u15 ⟨_, rfl, ?_⟩
        refine zw_iconst 1 48 f54_47 rfl (by decide +kernel) ?_
        refine zw_ic_ne 51 70 f54_48 (by decide +kernel) rfl (fun hc14 => ?_) (fun hc14 => ?_)
        · refine zw_aload_n 71 f54_70 rfl rfl ?_
          refine zw_iload_n 72 f54_71 rfl rfl ?_
          refine zw_iconst 1 73 f54_72 rfl (by decide +kernel) ?_
          refine zw_virtual_i 76 0 0 [.ref 22, .int (nI k), .int 1] [(0, .ref 22), (1, .int (nI k)), (2, .int 1)] f54_73 rfl n54_135 k54_135_10 rfl (hb_22 _ _ _ _) (by decide +kernel) (Nat.le_of_ble_eq_true rfl) rfl rfl (by decide +kernel) (by decide +kernel) rfl (Nat.le_of_ble_eq_true rfl) rfl ?_
          refine zw_aload_n 1 f56_0 rfl rfl ?_
          refine zw_getfield 4 f56_1 rfl g56_37_10 (hb_22 _ _ _ _) rfl ?_
          refine zw_iload_n 5 f56_4 rfl rfl ?_
          refine zw_virtual_i 8 0 0 [.ref 1, .int (nI k)] [(0, .ref 1), (1, .int (nI k))] f56_5 rfl n56_145 k56_145_4 rfl (hb_1 _ _ _ _) (by decide +kernel) (Nat.le_of_ble_eq_true rfl) rfl rfl (by decide +kernel) (by decide +kernel) rfl (Nat.le_of_ble_eq_true rfl) rfl ?_
          refine zw_iload_n 1 f17_0 rfl rfl ?_
          refine zw_if_lt_f 4 22 f17_1 (by decide +kernel) rfl (nI_pos (by omega)) ?_
          refine zw_iload_n 5 f17_4 rfl rfl ?_
          refine zw_aload_n 6 f17_5 rfl rfl ?_
          refine zw_getI (nI nv) 9 f17_6 rfl g17_39_4 (hb_1 _ _ _ _) rfl ((K_13.1 1 0 rfl).trans ((K0.1 1 0 rfl).trans hR.1.1)) ?_
          refine zw_ic_ge_f 12 22 f17_9 (by decide +kernel) rfl hc1 ?_
          refine zw_iload_n 13 f17_12 rfl rfl ?_
          refine zw_bipush 8 15 f17_13 rfl (by decide +kernel) ?_
          refine zw_ic_ge_f 18 22 f17_15 (by decide +kernel) rfl (fun q => absurd (zn_ge (a := 8) (b := k) (by omega) (by omega) q) (by omega)) ?_
          refine zw_iconst 1 19 f17_18 rfl (by decide +kernel) ?_
          refine zw_goto 23 f17_19 (by decide +kernel) ?_
          refine zw_istore_n _ 24 f17_23 rfl (by decide +kernel) rfl ?_
          refine zw_iload_n 25 f17_24 rfl zl1_eq ?_
          refine zw_if_eq_f 28 52 f17_25 (by decide +kernel) rfl (by decide +kernel) ?_
          refine zw_aload_n 29 f17_28 rfl (zl1_ne rfl rfl rfl) ?_
          refine zw_getfield 32 f17_29 rfl g17_9_4 (hb_1 _ _ _ _) rfl ?_
          refine zw_iload_n 33 f17_32 rfl (zl1_ne rfl rfl rfl) ?_
          refine zw_iaload k (P 53 k) 34 f17_33 rfl (hb_2 _ _ _ _) (nI_clamp (by omega)) (nI_pos (by omega)) (by omega) (congrFun (((K_13.2.2.1 2 rfl).trans ((K0.2.2.1 2 rfl).trans (hR.2.1 53 (by omega) (by omega))))) k) ?_
          refine zw_iconst 3 35 f17_34 rfl (by decide +kernel) ?_
          refine zw_ic_eq 38 48 f17_35 (by decide +kernel) rfl (fun hc15 => ?_) (fun hc15 => ?_)
          · refine zw_iconst 1 49 f17_48 rfl (by decide +kernel) ?_
            refine zw_goto 53 f17_49 (by decide +kernel) ?_
            refine zw_zreturn f17_53 r17 u17 (by decide +kernel) ⟨_, rfl, ?_⟩
            refine zw_if_eq_f 11 23 f56_8 (by decide +kernel) rfl (by decide +kernel) ?_
            refine zw_aload_n 12 f56_11 rfl rfl ?_
            refine zw_getfield 15 f56_12 rfl g56_37_10 (hb_22 _ _ _ _) rfl ?_
            refine zw_getfield 18 f56_15 rfl g56_148_4 (hb_1 _ _ _ _) rfl ?_
            refine zw_iload_n 19 f56_18 rfl rfl ?_
            rcases (hp.2.2.1 k (by omega)).2.2.2.1 with t16q | ⟨t16, t16l, t16n, t16q⟩
            · refine zw_iaload k (-1) 20 f56_19 rfl (hb_6 _ _ _ _) (nI_clamp (by omega)) (nI_pos (by omega)) (by omega) ((congrFun ((K_13.2.2.1 6 rfl).trans ((K0.2.2.1 6 rfl).trans (hR.2.1 57 (by omega) (by omega)))) k).trans t16q) ?_
              refine zw_goto 24 f56_20 (by decide +kernel) ?_
              refine zw_istore_n _ 25 f56_24 rfl (by decide +kernel) rfl ?_
              refine zw_iload_n 26 f56_25 rfl zl1_eq ?_
              refine zw_iconst (-1) 27 f56_26 rfl (by decide +kernel) ?_
              refine zw_ic_eq_t 46 f56_27 (by decide +kernel) (by decide +kernel) ?_
              refine zw_iconst 0 47 f56_46 rfl (by decide +kernel) ?_
              refine zw_zreturn f56_47 r56 u56 (by decide +kernel) ⟨_, rfl, ?_⟩
              refine zw_istore_n _ 77 f54_76 rfl (by decide +kernel) rfl ?_
              refine zw_iload_n 78 f54_77 rfl zl1_eq ?_
              refine zw_if_eq_t 120 f54_78 (by decide +kernel) (by decide +kernel) ?_
              refine zw_vreturn f54_120 r54 u54 ⟨rfl, ?_⟩
              refine zw_goto 58 f53_41 (by decide +kernel) ?_
              refine zw_iinc (nI (k + 1)) _ 61 f53_58 rfl h1 (by decide +kernel) (nI_1 _) rfl ?_
              refine zw_goto 16 f53_61 (by decide +kernel) ?_
              have E : cNx W.1 (mSk (P 53) (P 54) (P 55) (P 56) (P 57) W.2.2.2.2.2.2.1 W.2.2.2.2.2.1 (wCh nv np P W) W.2.2.2.2.1 W.1 (1, 0, 0) (k + 1)) (G_13 22 8) (G_13 22 9) := by
                rw [mSk_s, mS1_r (Int32.not_le.mp hc2) (by have := ck; omega), mS2_a hc14, mS3_b t16q]
                exact N_13
              exact ih (k + 1) _ _ _ _ _ (KQ.tr K0 (KQ.wk K_13 (fCo_s 22) p0_x)) ⟨hr.1, hr.2⟩ E (zl1_ne rfl rfl h0) zl1_eq (by omega) (by omega)
            · refine zw_iaload k (nI t16) 20 f56_19 rfl (hb_6 _ _ _ _) (nI_clamp (by omega)) (nI_pos (by omega)) (by omega) ((congrFun ((K_13.2.2.1 6 rfl).trans ((K0.2.2.1 6 rfl).trans (hR.2.1 57 (by omega) (by omega)))) k).trans t16q) ?_
              refine zw_goto 24 f56_20 (by decide +kernel) ?_
              refine zw_istore_n _ 25 f56_24 rfl (by decide +kernel) rfl ?_
              refine zw_iload_n 26 f56_25 rfl zl1_eq ?_
              refine zw_iconst (-1) 27 f56_26 rfl (by decide +kernel) ?_
              refine zw_ic_eq_f 30 46 f56_27 (by decide +kernel) rfl (nI_nem (by omega)) ?_
              refine zw_aload_n 31 f56_30 rfl (zl1_ne rfl rfl rfl) ?_
              refine zw_getfield 34 f56_31 rfl g56_12_10 (hb_22 _ _ _ _) rfl ?_
              refine zw_iload_n 35 f56_34 rfl zl1_eq ?_
              refine zw_virtual_i 38 0 0 [.ref 23, .int (nI t16)] [(0, .ref 23), (1, .int (nI t16))] f56_35 rfl n56_47 k56_47_9 rfl (hb_23 _ _ _ _) (by decide +kernel) (Nat.le_of_ble_eq_true rfl) rfl rfl (by decide +kernel) (by decide +kernel) rfl (Nat.le_of_ble_eq_true rfl) rfl ?_
              refine zWp.mono (cx_isOpen_22 ro nv np P W _ _ _ _ (hR.k (KQ.tr K0 (KQ.wk K_13 (fCo_s 22) p0_x)) ⟨rfl, rfl⟩ (fCs_w 22) (pCr_w 22 (by omega))) hp hb t16 (by omega)) ?_
              rintro r h1 ⟨rfl, rfl⟩
              refine ⟨_, rfl, ?_⟩
              refine zw_iload_n 39 f56_38 rfl (zl1_ne rfl rfl rfl) ?_
              refine zw_ic_ne 42 46 f56_39 (by decide +kernel) rfl (fun hc17 => ?_) (fun hc17 => ?_)
              · refine zw_iconst 0 47 f56_46 rfl (by decide +kernel) ?_
                refine zw_zreturn f56_47 r56 u56 (by decide +kernel) ⟨_, rfl, ?_⟩
                refine zw_istore_n _ 77 f54_76 rfl (by decide +kernel) rfl ?_
                refine zw_iload_n 78 f54_77 rfl zl1_eq ?_
                refine zw_if_eq_t 120 f54_78 (by decide +kernel) (by decide +kernel) ?_
                refine zw_vreturn f54_120 r54 u54 ⟨rfl, ?_⟩
                refine zw_goto 58 f53_41 (by decide +kernel) ?_
                refine zw_iinc (nI (k + 1)) _ 61 f53_58 rfl h1 (by decide +kernel) (nI_1 _) rfl ?_
                refine zw_goto 16 f53_61 (by decide +kernel) ?_
                have E : cNx W.1 (mSk (P 53) (P 54) (P 55) (P 56) (P 57) W.2.2.2.2.2.2.1 W.2.2.2.2.2.1 (wCh nv np P W) W.2.2.2.2.1 W.1 (1, 0, 0) (k + 1)) (G_13 22 8) (G_13 22 9) := by
                  rw [mSk_s, mS1_r (Int32.not_le.mp hc2) (by have := ck; omega), mS2_a hc14, mS3_c (Or.inl hc15) t16q (by omega) ((hb.1 t16 (by omega)).resolve_right hc17), mayF_b (ng_p (Int32.not_le.mp hc2) (by have := ck; omega))]
                  exact N_13
                exact ih (k + 1) _ _ _ _ _ (KQ.tr K0 (KQ.wk K_13 (fCo_s 22) p0_x)) ⟨hr.1, hr.2⟩ E (zl1_ne rfl rfl h0) zl1_eq (by omega) (by omega)
              · refine zw_iconst 1 43 f56_42 rfl (by decide +kernel) ?_
                refine zw_goto 47 f56_43 (by decide +kernel) ?_
                refine zw_zreturn f56_47 r56 u56 (by decide +kernel) ⟨_, rfl, ?_⟩
                refine zw_istore_n _ 77 f54_76 rfl (by decide +kernel) rfl ?_
                refine zw_iload_n 78 f54_77 rfl zl1_eq ?_
                refine zw_if_eq_f 81 120 f54_78 (by decide +kernel) rfl (by decide +kernel) ?_
                refine zw_aload_n 82 f54_81 rfl (zl1_ne rfl rfl rfl) ?_
                refine zw_aload_n 83 f54_82 rfl (zl1_ne rfl rfl rfl) ?_
                refine zw_getfield 86 f54_83 rfl g54_37_10 (hb_22 _ _ _ _) rfl ?_
                refine zw_getfield 89 f54_86 rfl g54_139_4 (hb_1 _ _ _ _) rfl ?_
                refine zw_iload_n 90 f54_89 rfl (zl1_ne rfl rfl rfl) ?_
                refine zw_iaload k (P 55 k) 91 f54_90 rfl (hb_4 _ _ _ _) (nI_clamp (by omega)) (nI_pos (by omega)) (by omega) (congrFun (((K_13.2.2.1 4 rfl).trans ((K0.2.2.1 4 rfl).trans (hR.2.1 55 (by omega) (by omega))))) k) ?_
                refine zw_i2l (Int32.toInt64 (P 55 k)) 92 f54_91 rfl rfl ?_
                refine zw_aload_n 93 f54_92 rfl (zl1_ne rfl rfl rfl) ?_
                refine zw_getfield 96 f54_93 rfl g54_12_10 (hb_22 _ _ _ _) rfl ?_
                refine zw_getG W.1 99 f54_96 rfl g54_109_9 (hb_23 _ _ _ _) rfl ((K_13.2.1 23 0 rfl).trans ((K0.2.1 23 0 rfl).trans hR.2.2.1.1)) ?_
                refine zw_lmul ((Int32.toInt64 (P 55 k)) * W.1) 100 f54_99 rfl rfl ?_
                refine zw_aload_n 101 f54_100 rfl (zl1_ne rfl rfl rfl) ?_
                refine zw_getfield 104 f54_101 rfl g54_12_10 (hb_22 _ _ _ _) rfl ?_
                refine zw_getfield 107 f54_104 rfl g54_87_9 (hb_23 _ _ _ _) rfl ?_
                refine zw_iload_n 108 f54_107 rfl (zl1_ne rfl rfl rfl) ?_
                refine zw_laload k ((W.2.2.2.2.1) k) 109 f54_108 rfl (hb_24 _ _ _ _) (nI_clamp (by omega)) (nI_pos (by omega)) (by omega) (congrFun (((K_13.2.2.2 24 rfl).trans ((K0.2.2.2 24 rfl).trans hR.2.2.2.1))) k) ?_
                refine zw_lsub (((Int32.toInt64 (P 55 k)) * W.1) - ((W.2.2.2.2.1) k)) 110 f54_109 rfl rfl ?_
                refine zw_aload_n 111 f54_110 rfl (zl1_ne rfl rfl rfl) ?_
                refine zw_getfield 114 f54_111 rfl g54_22_10 (hb_22 _ _ _ _) rfl ?_
                refine zw_iload_n 115 f54_114 rfl (zl1_ne rfl rfl rfl) ?_
                refine zw_iaload k ((wCh nv np P W) k) 116 f54_115 rfl (hb_28 _ _ _ _) (nI_clamp (by omega)) (nI_pos (by omega)) (by omega) ((congrFun (K_13.2.2.1 28 rfl) k).trans (hr.1.2.2.1 k (by omega))) ?_
                refine zw_i2l (Int32.toInt64 ((wCh nv np P W) k)) 117 f54_116 rfl rfl ?_
                refine zw_virtual_v 120 0 0 [.ref 22, .long (((Int32.toInt64 (P 55 k)) * W.1) - ((W.2.2.2.2.1) k)), .long (Int32.toInt64 ((wCh nv np P W) k))] [(0, .ref 22), (1, .long (((Int32.toInt64 (P 55 k)) * W.1) - ((W.2.2.2.2.1) k))), (3, .long (Int32.toInt64 ((wCh nv np P W) k)))] f54_117 rfl n54_128 k54_128_10 rfl (hb_22 _ _ _ _) (by decide +kernel) (Nat.le_of_ble_eq_true rfl) rfl rfl (by decide +kernel) (by decide +kernel) rfl (Nat.le_of_ble_eq_true rfl) rfl ?_
                refine zWp.mono (cx_offer_22 ro _ _ _ _ W.1 (((Int32.toInt64 (P 55 k)) * W.1) - ((W.2.2.2.2.1) k)) ((wCh nv np P W) k) (mayF W.1 (mSk (P 53) (P 54) (P 55) (P 56) (P 57) W.2.2.2.2.2.2.1 W.2.2.2.2.2.1 (wCh nv np P W) W.2.2.2.2.1 W.1 (1, 0, 0) k) (((Int32.toInt64 (P 54 k)) * W.1) - ((W.2.2.2.2.1) k)) ((wCh nv np P W) k)) hg (way_b (b := 0) hg (by omega) (by have := lk; omega)).1 (by have := ck; omega) N_13) ?_
                rintro r h1 ⟨G_18, rfl, K_18, N_18, rfl⟩
                refine ⟨rfl, ?_⟩
                refine zw_vreturn f54_120 r54 u54 ⟨rfl, ?_⟩
                refine zw_goto 58 f53_41 (by decide +kernel) ?_
                refine zw_iinc (nI (k + 1)) _ 61 f53_58 rfl h1 (by decide +kernel) (nI_1 _) rfl ?_
                refine zw_goto 16 f53_61 (by decide +kernel) ?_
                have E : cNx W.1 (mSk (P 53) (P 54) (P 55) (P 56) (P 57) W.2.2.2.2.2.2.1 W.2.2.2.2.2.1 (wCh nv np P W) W.2.2.2.2.1 W.1 (1, 0, 0) (k + 1)) (G_18 22 8) (G_18 22 9) := by
                  rw [mSk_s, mS1_r (Int32.not_le.mp hc2) (by have := ck; omega), mS2_a hc14, mS3_d (Or.inl hc15) t16q (by omega) (kne (Decidable.of_not_not hc17) (by decide))]
                  exact N_18
                exact ih (k + 1) _ _ _ _ _ (KQ.tr (KQ.tr K0 (KQ.wk K_13 (fCo_s 22) p0_x)) (KQ.wk K_18 (fCo_s 22) p0_x)) ⟨hr.1, hr.2⟩ E (zl1_ne rfl rfl h0) zl1_eq (by omega) (by omega)
          · refine zw_aload_n 39 f17_38 rfl (zl1_ne rfl rfl rfl) ?_
            refine zw_getfield 42 f17_39 rfl g17_9_4 (hb_1 _ _ _ _) rfl ?_
            refine zw_iload_n 43 f17_42 rfl (zl1_ne rfl rfl rfl) ?_
            refine zw_iaload k (P 53 k) 44 f17_43 rfl (hb_2 _ _ _ _) (nI_clamp (by omega)) (nI_pos (by omega)) (by omega) (congrFun (((K_13.2.2.1 2 rfl).trans ((K0.2.2.1 2 rfl).trans (hR.2.1 53 (by omega) (by omega))))) k) ?_
            refine zw_iconst 4 45 f17_44 rfl (by decide +kernel) ?_
            refine zw_ic_ne 48 52 f17_45 (by decide +kernel) rfl (fun hc19 => ?_) (fun hc19 => ?_)
            · refine zw_iconst 0 53 f17_52 rfl (by decide +kernel) ?_
              refine zw_zreturn f17_53 r17 u17 (by decide +kernel) ⟨_, rfl, ?_⟩
              refine zw_if_eq_t 23 f56_8 (by decide +kernel) (by decide +kernel) ?_
              refine zw_iconst (-1) 24 f56_23 rfl (by decide +kernel) ?_
              refine zw_istore_n _ 25 f56_24 rfl (by decide +kernel) rfl ?_
              refine zw_iload_n 26 f56_25 rfl zl1_eq ?_
              refine zw_iconst (-1) 27 f56_26 rfl (by decide +kernel) ?_
              refine zw_ic_eq_t 46 f56_27 (by decide +kernel) (by decide +kernel) ?_
              refine zw_iconst 0 47 f56_46 rfl (by decide +kernel) ?_
              refine zw_zreturn f56_47 r56 u56 (by decide +kernel) ⟨_, rfl, ?_⟩
              refine zw_istore_n _ 77 f54_76 rfl (by decide +kernel) rfl ?_
              refine zw_iload_n 78 f54_77 rfl zl1_eq ?_
              refine zw_if_eq_t 120 f54_78 (by decide +kernel) (by decide +kernel) ?_
              refine zw_vreturn f54_120 r54 u54 ⟨rfl, ?_⟩
              refine zw_goto 58 f53_41 (by decide +kernel) ?_
              refine zw_iinc (nI (k + 1)) _ 61 f53_58 rfl h1 (by decide +kernel) (nI_1 _) rfl ?_
              refine zw_goto 16 f53_61 (by decide +kernel) ?_
              have E : cNx W.1 (mSk (P 53) (P 54) (P 55) (P 56) (P 57) W.2.2.2.2.2.2.1 W.2.2.2.2.2.1 (wCh nv np P W) W.2.2.2.2.1 W.1 (1, 0, 0) (k + 1)) (G_13 22 8) (G_13 22 9) := by
                rw [mSk_s, mS1_r (Int32.not_le.mp hc2) (by have := ck; omega), mS2_a hc14, mS3_a hc15 hc19]
                exact N_13
              exact ih (k + 1) _ _ _ _ _ (KQ.tr K0 (KQ.wk K_13 (fCo_s 22) p0_x)) ⟨hr.1, hr.2⟩ E (zl1_ne rfl rfl h0) zl1_eq (by omega) (by omega)
            · refine zw_iconst 1 49 f17_48 rfl (by decide +kernel) ?_
              refine zw_goto 53 f17_49 (by decide +kernel) ?_
              refine zw_zreturn f17_53 r17 u17 (by decide +kernel) ⟨_, rfl, ?_⟩
              refine zw_if_eq_f 11 23 f56_8 (by decide +kernel) rfl (by decide +kernel) ?_
              refine zw_aload_n 12 f56_11 rfl rfl ?_
              refine zw_getfield 15 f56_12 rfl g56_37_10 (hb_22 _ _ _ _) rfl ?_
              refine zw_getfield 18 f56_15 rfl g56_148_4 (hb_1 _ _ _ _) rfl ?_
              refine zw_iload_n 19 f56_18 rfl rfl ?_
              rcases (hp.2.2.1 k (by omega)).2.2.2.1 with t20q | ⟨t20, t20l, t20n, t20q⟩
              · refine zw_iaload k (-1) 20 f56_19 rfl (hb_6 _ _ _ _) (nI_clamp (by omega)) (nI_pos (by omega)) (by omega) ((congrFun ((K_13.2.2.1 6 rfl).trans ((K0.2.2.1 6 rfl).trans (hR.2.1 57 (by omega) (by omega)))) k).trans t20q) ?_
                refine zw_goto 24 f56_20 (by decide +kernel) ?_
                refine zw_istore_n _ 25 f56_24 rfl (by decide +kernel) rfl ?_
                refine zw_iload_n 26 f56_25 rfl zl1_eq ?_
                refine zw_iconst (-1) 27 f56_26 rfl (by decide +kernel) ?_
                refine zw_ic_eq_t 46 f56_27 (by decide +kernel) (by decide +kernel) ?_
                refine zw_iconst 0 47 f56_46 rfl (by decide +kernel) ?_
                refine zw_zreturn f56_47 r56 u56 (by decide +kernel) ⟨_, rfl, ?_⟩
                refine zw_istore_n _ 77 f54_76 rfl (by decide +kernel) rfl ?_
                refine zw_iload_n 78 f54_77 rfl zl1_eq ?_
                refine zw_if_eq_t 120 f54_78 (by decide +kernel) (by decide +kernel) ?_
                refine zw_vreturn f54_120 r54 u54 ⟨rfl, ?_⟩
                refine zw_goto 58 f53_41 (by decide +kernel) ?_
                refine zw_iinc (nI (k + 1)) _ 61 f53_58 rfl h1 (by decide +kernel) (nI_1 _) rfl ?_
                refine zw_goto 16 f53_61 (by decide +kernel) ?_
                have E : cNx W.1 (mSk (P 53) (P 54) (P 55) (P 56) (P 57) W.2.2.2.2.2.2.1 W.2.2.2.2.2.1 (wCh nv np P W) W.2.2.2.2.1 W.1 (1, 0, 0) (k + 1)) (G_13 22 8) (G_13 22 9) := by
                  rw [mSk_s, mS1_r (Int32.not_le.mp hc2) (by have := ck; omega), mS2_a hc14, mS3_b t20q]
                  exact N_13
                exact ih (k + 1) _ _ _ _ _ (KQ.tr K0 (KQ.wk K_13 (fCo_s 22) p0_x)) ⟨hr.1, hr.2⟩ E (zl1_ne rfl rfl h0) zl1_eq (by omega) (by omega)
              · refine zw_iaload k (nI t20) 20 f56_19 rfl (hb_6 _ _ _ _) (nI_clamp (by omega)) (nI_pos (by omega)) (by omega) ((congrFun ((K_13.2.2.1 6 rfl).trans ((K0.2.2.1 6 rfl).trans (hR.2.1 57 (by omega) (by omega)))) k).trans t20q) ?_
                refine zw_goto 24 f56_20 (by decide +kernel) ?_
                refine zw_istore_n _ 25 f56_24 rfl (by decide +kernel) rfl ?_
                refine zw_iload_n 26 f56_25 rfl zl1_eq ?_
                refine zw_iconst (-1) 27 f56_26 rfl (by decide +kernel) ?_
                refine zw_ic_eq_f 30 46 f56_27 (by decide +kernel) rfl (nI_nem (by omega)) ?_
                refine zw_aload_n 31 f56_30 rfl (zl1_ne rfl rfl rfl) ?_
                refine zw_getfield 34 f56_31 rfl g56_12_10 (hb_22 _ _ _ _) rfl ?_
                refine zw_iload_n 35 f56_34 rfl zl1_eq ?_
                refine zw_virtual_i 38 0 0 [.ref 23, .int (nI t20)] [(0, .ref 23), (1, .int (nI t20))] f56_35 rfl n56_47 k56_47_9 rfl (hb_23 _ _ _ _) (by decide +kernel) (Nat.le_of_ble_eq_true rfl) rfl rfl (by decide +kernel) (by decide +kernel) rfl (Nat.le_of_ble_eq_true rfl) rfl ?_
                refine zWp.mono (cx_isOpen_22 ro nv np P W _ _ _ _ (hR.k (KQ.tr K0 (KQ.wk K_13 (fCo_s 22) p0_x)) ⟨rfl, rfl⟩ (fCs_w 22) (pCr_w 22 (by omega))) hp hb t20 (by omega)) ?_
                rintro r h1 ⟨rfl, rfl⟩
                refine ⟨_, rfl, ?_⟩
                refine zw_iload_n 39 f56_38 rfl (zl1_ne rfl rfl rfl) ?_
                refine zw_ic_ne 42 46 f56_39 (by decide +kernel) rfl (fun hc21 => ?_) (fun hc21 => ?_)
                · refine zw_iconst 0 47 f56_46 rfl (by decide +kernel) ?_
                  refine zw_zreturn f56_47 r56 u56 (by decide +kernel) ⟨_, rfl, ?_⟩
                  refine zw_istore_n _ 77 f54_76 rfl (by decide +kernel) rfl ?_
                  refine zw_iload_n 78 f54_77 rfl zl1_eq ?_
                  refine zw_if_eq_t 120 f54_78 (by decide +kernel) (by decide +kernel) ?_
                  refine zw_vreturn f54_120 r54 u54 ⟨rfl, ?_⟩
                  refine zw_goto 58 f53_41 (by decide +kernel) ?_
                  refine zw_iinc (nI (k + 1)) _ 61 f53_58 rfl h1 (by decide +kernel) (nI_1 _) rfl ?_
                  refine zw_goto 16 f53_61 (by decide +kernel) ?_
                  have E : cNx W.1 (mSk (P 53) (P 54) (P 55) (P 56) (P 57) W.2.2.2.2.2.2.1 W.2.2.2.2.2.1 (wCh nv np P W) W.2.2.2.2.1 W.1 (1, 0, 0) (k + 1)) (G_13 22 8) (G_13 22 9) := by
                    rw [mSk_s, mS1_r (Int32.not_le.mp hc2) (by have := ck; omega), mS2_a hc14, mS3_c (Or.inr (Decidable.of_not_not hc19)) t20q (by omega) ((hb.1 t20 (by omega)).resolve_right hc21), mayF_b (ng_p (Int32.not_le.mp hc2) (by have := ck; omega))]
                    exact N_13
                  exact ih (k + 1) _ _ _ _ _ (KQ.tr K0 (KQ.wk K_13 (fCo_s 22) p0_x)) ⟨hr.1, hr.2⟩ E (zl1_ne rfl rfl h0) zl1_eq (by omega) (by omega)
                · refine zw_iconst 1 43 f56_42 rfl (by decide +kernel) ?_
                  refine zw_goto 47 f56_43 (by decide +kernel) ?_
                  refine zw_zreturn f56_47 r56 u56 (by decide +kernel) ⟨_, rfl, ?_⟩
                  refine zw_istore_n _ 77 f54_76 rfl (by decide +kernel) rfl ?_
                  refine zw_iload_n 78 f54_77 rfl zl1_eq ?_
                  refine zw_if_eq_f 81 120 f54_78 (by decide +kernel) rfl (by decide +kernel) ?_
                  refine zw_aload_n 82 f54_81 rfl (zl1_ne rfl rfl rfl) ?_
                  refine zw_aload_n 83 f54_82 rfl (zl1_ne rfl rfl rfl) ?_
                  refine zw_getfield 86 f54_83 rfl g54_37_10 (hb_22 _ _ _ _) rfl ?_
                  refine zw_getfield 89 f54_86 rfl g54_139_4 (hb_1 _ _ _ _) rfl ?_
                  refine zw_iload_n 90 f54_89 rfl (zl1_ne rfl rfl rfl) ?_
                  refine zw_iaload k (P 55 k) 91 f54_90 rfl (hb_4 _ _ _ _) (nI_clamp (by omega)) (nI_pos (by omega)) (by omega) (congrFun (((K_13.2.2.1 4 rfl).trans ((K0.2.2.1 4 rfl).trans (hR.2.1 55 (by omega) (by omega))))) k) ?_
                  refine zw_i2l (Int32.toInt64 (P 55 k)) 92 f54_91 rfl rfl ?_
                  refine zw_aload_n 93 f54_92 rfl (zl1_ne rfl rfl rfl) ?_
                  refine zw_getfield 96 f54_93 rfl g54_12_10 (hb_22 _ _ _ _) rfl ?_
                  refine zw_getG W.1 99 f54_96 rfl g54_109_9 (hb_23 _ _ _ _) rfl ((K_13.2.1 23 0 rfl).trans ((K0.2.1 23 0 rfl).trans hR.2.2.1.1)) ?_
                  refine zw_lmul ((Int32.toInt64 (P 55 k)) * W.1) 100 f54_99 rfl rfl ?_
                  refine zw_aload_n 101 f54_100 rfl (zl1_ne rfl rfl rfl) ?_
                  refine zw_getfield 104 f54_101 rfl g54_12_10 (hb_22 _ _ _ _) rfl ?_
                  refine zw_getfield 107 f54_104 rfl g54_87_9 (hb_23 _ _ _ _) rfl ?_
                  refine zw_iload_n 108 f54_107 rfl (zl1_ne rfl rfl rfl) ?_
                  refine zw_laload k ((W.2.2.2.2.1) k) 109 f54_108 rfl (hb_24 _ _ _ _) (nI_clamp (by omega)) (nI_pos (by omega)) (by omega) (congrFun (((K_13.2.2.2 24 rfl).trans ((K0.2.2.2 24 rfl).trans hR.2.2.2.1))) k) ?_
                  refine zw_lsub (((Int32.toInt64 (P 55 k)) * W.1) - ((W.2.2.2.2.1) k)) 110 f54_109 rfl rfl ?_
                  refine zw_aload_n 111 f54_110 rfl (zl1_ne rfl rfl rfl) ?_
                  refine zw_getfield 114 f54_111 rfl g54_22_10 (hb_22 _ _ _ _) rfl ?_
                  refine zw_iload_n 115 f54_114 rfl (zl1_ne rfl rfl rfl) ?_
                  refine zw_iaload k ((wCh nv np P W) k) 116 f54_115 rfl (hb_28 _ _ _ _) (nI_clamp (by omega)) (nI_pos (by omega)) (by omega) ((congrFun (K_13.2.2.1 28 rfl) k).trans (hr.1.2.2.1 k (by omega))) ?_
                  refine zw_i2l (Int32.toInt64 ((wCh nv np P W) k)) 117 f54_116 rfl rfl ?_
                  refine zw_virtual_v 120 0 0 [.ref 22, .long (((Int32.toInt64 (P 55 k)) * W.1) - ((W.2.2.2.2.1) k)), .long (Int32.toInt64 ((wCh nv np P W) k))] [(0, .ref 22), (1, .long (((Int32.toInt64 (P 55 k)) * W.1) - ((W.2.2.2.2.1) k))), (3, .long (Int32.toInt64 ((wCh nv np P W) k)))] f54_117 rfl n54_128 k54_128_10 rfl (hb_22 _ _ _ _) (by decide +kernel) (Nat.le_of_ble_eq_true rfl) rfl rfl (by decide +kernel) (by decide +kernel) rfl (Nat.le_of_ble_eq_true rfl) rfl ?_
                  refine zWp.mono (cx_offer_22 ro _ _ _ _ W.1 (((Int32.toInt64 (P 55 k)) * W.1) - ((W.2.2.2.2.1) k)) ((wCh nv np P W) k) (mayF W.1 (mSk (P 53) (P 54) (P 55) (P 56) (P 57) W.2.2.2.2.2.2.1 W.2.2.2.2.2.1 (wCh nv np P W) W.2.2.2.2.1 W.1 (1, 0, 0) k) (((Int32.toInt64 (P 54 k)) * W.1) - ((W.2.2.2.2.1) k)) ((wCh nv np P W) k)) hg (way_b (b := 0) hg (by omega) (by have := lk; omega)).1 (by have := ck; omega) N_13) ?_
                  rintro r h1 ⟨G_22, rfl, K_22, N_22, rfl⟩
                  refine ⟨rfl, ?_⟩
                  refine zw_vreturn f54_120 r54 u54 ⟨rfl, ?_⟩
                  refine zw_goto 58 f53_41 (by decide +kernel) ?_
                  refine zw_iinc (nI (k + 1)) _ 61 f53_58 rfl h1 (by decide +kernel) (nI_1 _) rfl ?_
                  refine zw_goto 16 f53_61 (by decide +kernel) ?_
                  have E : cNx W.1 (mSk (P 53) (P 54) (P 55) (P 56) (P 57) W.2.2.2.2.2.2.1 W.2.2.2.2.2.1 (wCh nv np P W) W.2.2.2.2.1 W.1 (1, 0, 0) (k + 1)) (G_22 22 8) (G_22 22 9) := by
                    rw [mSk_s, mS1_r (Int32.not_le.mp hc2) (by have := ck; omega), mS2_a hc14, mS3_d (Or.inr (Decidable.of_not_not hc19)) t20q (by omega) (kne (Decidable.of_not_not hc21) (by decide))]
                    exact N_22
                  exact ih (k + 1) _ _ _ _ _ (KQ.tr (KQ.tr K0 (KQ.wk K_13 (fCo_s 22) p0_x)) (KQ.wk K_22 (fCo_s 22) p0_x)) ⟨hr.1, hr.2⟩ E (zl1_ne rfl rfl h0) zl1_eq (by omega) (by omega)
        · refine zw_aload_n 52 f54_51 rfl rfl ?_
          refine zw_getfield 55 f54_52 rfl g54_12_10 (hb_22 _ _ _ _) rfl ?_
          refine zw_iload_n 56 f54_55 rfl rfl ?_
          refine zw_virtual_i 59 0 0 [.ref 23, .int (nI k)] [(0, .ref 23), (1, .int (nI k))] f54_56 rfl n54_51 k54_51_9 rfl (hb_23 _ _ _ _) (by decide +kernel) (Nat.le_of_ble_eq_true rfl) rfl rfl (by decide +kernel) (by decide +kernel) rfl (Nat.le_of_ble_eq_true rfl) rfl ?_
          refine zWp.mono (cx_isSiphoning_22 ro nv np P W _ _ _ _ (hR.k (KQ.tr K0 (KQ.wk K_13 (fCo_s 22) p0_x)) ⟨rfl, rfl⟩ (fCs_w 22) (pCr_w 22 (by omega))) hp hb k (by omega)) ?_
          rintro r h1 ⟨rfl, rfl⟩
          refine ⟨_, rfl, ?_⟩
          refine zw_if_ne 62 66 f54_59 (by decide +kernel) rfl (fun hc23 => ?_) (fun hc23 => ?_)
          · refine zw_iconst 0 67 f54_66 rfl (by decide +kernel) ?_
            refine zw_goto 76 f54_67 (by decide +kernel) ?_
            refine zw_istore_n _ 77 f54_76 rfl (by decide +kernel) rfl ?_
            refine zw_iload_n 78 f54_77 rfl zl1_eq ?_
            refine zw_if_eq_t 120 f54_78 (by decide +kernel) (by decide +kernel) ?_
            refine zw_vreturn f54_120 r54 u54 ⟨rfl, ?_⟩
            refine zw_goto 58 f53_41 (by decide +kernel) ?_
            refine zw_iinc (nI (k + 1)) _ 61 f53_58 rfl h1 (by decide +kernel) (nI_1 _) rfl ?_
            refine zw_goto 16 f53_61 (by decide +kernel) ?_
            have E : cNx W.1 (mSk (P 53) (P 54) (P 55) (P 56) (P 57) W.2.2.2.2.2.2.1 W.2.2.2.2.2.1 (wCh nv np P W) W.2.2.2.2.1 W.1 (1, 0, 0) (k + 1)) (G_13 22 8) (G_13 22 9) := by
              rw [mSk_s, mS1_r (Int32.not_le.mp hc2) (by have := ck; omega), mS2_b hc23, mS3_a (kne (Decidable.of_not_not hc14) (by decide)) (kne (Decidable.of_not_not hc14) (by decide))]
              exact N_13
            exact ih (k + 1) _ _ _ _ _ (KQ.tr K0 (KQ.wk K_13 (fCo_s 22) p0_x)) ⟨hr.1, hr.2⟩ E (zl1_ne rfl rfl h0) zl1_eq (by omega) (by omega)
          · refine zw_iconst 1 63 f54_62 rfl (by decide +kernel) ?_
            refine zw_goto 76 f54_63 (by decide +kernel) ?_
            refine zw_istore_n _ 77 f54_76 rfl (by decide +kernel) rfl ?_
            refine zw_iload_n 78 f54_77 rfl zl1_eq ?_
            refine zw_if_eq_f 81 120 f54_78 (by decide +kernel) rfl (by decide +kernel) ?_
            refine zw_aload_n 82 f54_81 rfl (zl1_ne rfl rfl rfl) ?_
            refine zw_aload_n 83 f54_82 rfl (zl1_ne rfl rfl rfl) ?_
            refine zw_getfield 86 f54_83 rfl g54_37_10 (hb_22 _ _ _ _) rfl ?_
            refine zw_getfield 89 f54_86 rfl g54_139_4 (hb_1 _ _ _ _) rfl ?_
            refine zw_iload_n 90 f54_89 rfl (zl1_ne rfl rfl rfl) ?_
            refine zw_iaload k (P 55 k) 91 f54_90 rfl (hb_4 _ _ _ _) (nI_clamp (by omega)) (nI_pos (by omega)) (by omega) (congrFun (((K_13.2.2.1 4 rfl).trans ((K0.2.2.1 4 rfl).trans (hR.2.1 55 (by omega) (by omega))))) k) ?_
            refine zw_i2l (Int32.toInt64 (P 55 k)) 92 f54_91 rfl rfl ?_
            refine zw_aload_n 93 f54_92 rfl (zl1_ne rfl rfl rfl) ?_
            refine zw_getfield 96 f54_93 rfl g54_12_10 (hb_22 _ _ _ _) rfl ?_
            refine zw_getG W.1 99 f54_96 rfl g54_109_9 (hb_23 _ _ _ _) rfl ((K_13.2.1 23 0 rfl).trans ((K0.2.1 23 0 rfl).trans hR.2.2.1.1)) ?_
            refine zw_lmul ((Int32.toInt64 (P 55 k)) * W.1) 100 f54_99 rfl rfl ?_
            refine zw_aload_n 101 f54_100 rfl (zl1_ne rfl rfl rfl) ?_
            refine zw_getfield 104 f54_101 rfl g54_12_10 (hb_22 _ _ _ _) rfl ?_
            refine zw_getfield 107 f54_104 rfl g54_87_9 (hb_23 _ _ _ _) rfl ?_
            refine zw_iload_n 108 f54_107 rfl (zl1_ne rfl rfl rfl) ?_
            refine zw_laload k ((W.2.2.2.2.1) k) 109 f54_108 rfl (hb_24 _ _ _ _) (nI_clamp (by omega)) (nI_pos (by omega)) (by omega) (congrFun (((K_13.2.2.2 24 rfl).trans ((K0.2.2.2 24 rfl).trans hR.2.2.2.1))) k) ?_
            refine zw_lsub (((Int32.toInt64 (P 55 k)) * W.1) - ((W.2.2.2.2.1) k)) 110 f54_109 rfl rfl ?_
            refine zw_aload_n 111 f54_110 rfl (zl1_ne rfl rfl rfl) ?_
            refine zw_getfield 114 f54_111 rfl g54_22_10 (hb_22 _ _ _ _) rfl ?_
            refine zw_iload_n 115 f54_114 rfl (zl1_ne rfl rfl rfl) ?_
            refine zw_iaload k ((wCh nv np P W) k) 116 f54_115 rfl (hb_28 _ _ _ _) (nI_clamp (by omega)) (nI_pos (by omega)) (by omega) ((congrFun (K_13.2.2.1 28 rfl) k).trans (hr.1.2.2.1 k (by omega))) ?_
            refine zw_i2l (Int32.toInt64 ((wCh nv np P W) k)) 117 f54_116 rfl rfl ?_
            refine zw_virtual_v 120 0 0 [.ref 22, .long (((Int32.toInt64 (P 55 k)) * W.1) - ((W.2.2.2.2.1) k)), .long (Int32.toInt64 ((wCh nv np P W) k))] [(0, .ref 22), (1, .long (((Int32.toInt64 (P 55 k)) * W.1) - ((W.2.2.2.2.1) k))), (3, .long (Int32.toInt64 ((wCh nv np P W) k)))] f54_117 rfl n54_128 k54_128_10 rfl (hb_22 _ _ _ _) (by decide +kernel) (Nat.le_of_ble_eq_true rfl) rfl rfl (by decide +kernel) (by decide +kernel) rfl (Nat.le_of_ble_eq_true rfl) rfl ?_
            refine zWp.mono (cx_offer_22 ro _ _ _ _ W.1 (((Int32.toInt64 (P 55 k)) * W.1) - ((W.2.2.2.2.1) k)) ((wCh nv np P W) k) (mayF W.1 (mSk (P 53) (P 54) (P 55) (P 56) (P 57) W.2.2.2.2.2.2.1 W.2.2.2.2.2.1 (wCh nv np P W) W.2.2.2.2.1 W.1 (1, 0, 0) k) (((Int32.toInt64 (P 54 k)) * W.1) - ((W.2.2.2.2.1) k)) ((wCh nv np P W) k)) hg (way_b (b := 0) hg (by omega) (by have := lk; omega)).1 (by have := ck; omega) N_13) ?_
            rintro r h1 ⟨G_24, rfl, K_24, N_24, rfl⟩
            refine ⟨rfl, ?_⟩
            refine zw_vreturn f54_120 r54 u54 ⟨rfl, ?_⟩
            refine zw_goto 58 f53_41 (by decide +kernel) ?_
            refine zw_iinc (nI (k + 1)) _ 61 f53_58 rfl h1 (by decide +kernel) (nI_1 _) rfl ?_
            refine zw_goto 16 f53_61 (by decide +kernel) ?_
            have E : cNx W.1 (mSk (P 53) (P 54) (P 55) (P 56) (P 57) W.2.2.2.2.2.2.1 W.2.2.2.2.2.1 (wCh nv np P W) W.2.2.2.2.1 W.1 (1, 0, 0) (k + 1)) (G_24 22 8) (G_24 22 9) := by
              rw [mSk_s, mS1_r (Int32.not_le.mp hc2) (by have := ck; omega), mS2_y (Decidable.of_not_not hc14) (Decidable.of_not_not hc23), mS3_a (kne (Decidable.of_not_not hc14) (by decide)) (kne (Decidable.of_not_not hc14) (by decide))]
              exact N_24
            exact ih (k + 1) _ _ _ _ _ (KQ.tr (KQ.tr K0 (KQ.wk K_13 (fCo_s 22) p0_x)) (KQ.wk K_24 (fCo_s 22) p0_x)) ⟨hr.1, hr.2⟩ E (zl1_ne rfl rfl h0) zl1_eq (by omega) (by omega)
set_option maxRecDepth 100000 in
set_option maxHeartbeats 0 in
theorem cx_seek_22 (ro : UInt32 → Nat × (Nat → Int32)) (nv np : Nat) (P : Nat → Nat → Int32) (W : qW) (T K : Int) (I : Nat → Nat → Int32) (G : Nat → Nat → Int64) (A : Nat → Nat → Int32) (B : Nat → Nat → Int64) (hR : cRS 22 nv np P W I G A B) (hp : MPa nv np P) (hb : wBo W) (hq : qOw nv np P) (hW : wOk nv T K P W) : zWp ro 53 0 [(0, .ref 22)] [] (hS I G A B) 0 0 (fun r h1 => ∃ I2 G2 A2 B2, h1 = hS I2 G2 A2 B2 ∧ KQ (fCs 22) (pCr 22) I G A B I2 G2 A2 B2 ∧ (cRel 22 I2 A2 (wR2 nv np P W) nv ∧ I2 22 6 = wSr nv np P W) ∧ cNx W.1 (wNx nv np P W) (G2 22 8) (G2 22 9) ∧ r = none) := by
  have h8 := hp.1
  have h14 := hp.2.1
  have hg : 1 ≤ W.1.toInt ∧ W.1.toInt ≤ 10000 := hW.1.1
  have bb := wR2_b hp W
  refine zw_aload_n 1 f53_0 rfl rfl ?_
  refine zw_virtual_v 4 0 0 [.ref 22] [(0, .ref 22)] f53_1 rfl n53_113 k53_113_10 rfl (hb_22 _ _ _ _) (by decide +kernel) (Nat.le_of_ble_eq_true rfl) rfl rfl (by decide +kernel) (by decide +kernel) rfl (Nat.le_of_ble_eq_true rfl) rfl ?_
  refine zWp.mono (cx_rates_22 ro nv np P W T K _ _ _ _ hR hp hb hq hW) ?_
  rintro r h1 ⟨Ir, Gr, Ar, Br, rfl, Kr, hr, rfl⟩
  refine ⟨rfl, ?_⟩
  refine zw_aload_n 5 f53_4 rfl rfl ?_
  refine zw_lconst 0 6 f53_5 rfl (by decide +kernel) ?_
  refine zw_put _ 9 f53_6 rfl g53_116_10 (hb_22 _ _ _ _) rfl (Nat.le_of_ble_eq_true rfl) (by decide +kernel) (hg_22_8 _ _ _ _ _) ?_
  refine zw_aload_n 10 f53_9 rfl rfl ?_
  refine zw_lconst 0 11 f53_10 rfl (by decide +kernel) ?_
  refine zw_put _ 14 f53_11 rfl g53_119_10 (hb_22 _ _ _ _) rfl (Nat.le_of_ble_eq_true rfl) (by decide +kernel) (hg_22_9 _ _ _ _ _) ?_
  refine zw_iconst 0 15 f53_14 rfl (by decide +kernel) ?_
  refine zw_istore_n _ 16 f53_15 rfl (by decide +kernel) rfl ?_
  exact lcx_sn22 ro nv np P W T K I G A B hR hp hb hq hW (nv + 1) 0 _ _ _ _ _ (KQ.g rfl (KQ.g rfl (KQ.wk Kr (fCr_s 22) (fun _ h => h)))) ⟨hr.1, hr.2⟩ (Or.inl ⟨rfl, rfl⟩) (zl1_ne rfl rfl rfl) zl1_eq (by omega) (by omega)
set_option maxRecDepth 100000 in
set_option maxHeartbeats 0 in
theorem lcx_cb22 (ro : UInt32 → Nat × (Nat → Int32)) (nv np : Nat) (P : Nat → Nat → Int32) (W : qW) (I : Nat → Nat → Int32) (G : Nat → Nat → Int64) (A : Nat → Nat → Int32) (B : Nat → Nat → Int64) (hR : cRS 22 nv np P W I G A B) (hp : MPa nv np P) (ch : Nat → Int32) (sr dr : Int32) (hc : ∀ j, j < nv → A 28 j = ch j) (hs : I 22 6 = sr) (hd : I 22 7 = dr) (sc wy : Int64) : ∀ (n k : Nat) (ls : List (Nat × Value)), zld ls 0 = some (.ref 22) → zld ls 1 = some (.long sc) → zld ls 3 = some (.long wy) → zld ls 7 = some (.long (cCm W ch sr dr sc wy k)) → zld ls 9 = some (.int (nI k)) → k ≤ nv → nv + 1 ≤ k + n → zWp ro 69 69 ls [] (hS I G A B) 0 0 (fun r h1 => h1 = hS I G A B ∧ r = some (.long (cCm W ch sr dr sc wy nv))) := by
  have h8 := hp.1
  intro n
  induction n with
  | zero =>
    intro k ls _ _ _ _ _ a c
    exact absurd c (by omega)
  | succ n ih =>
    intro k ls h0 h1 h3 h7 h9 hk1 hk2
    refine zw_iload 71 f69_69 rfl h9 ?_
    refine zw_aload_n 72 f69_71 rfl h0 ?_
    refine zw_getfield 75 f69_72 rfl g69_37_10 (hb_22 _ _ _ _) rfl ?_
    refine zw_getI (nI nv) 78 f69_75 rfl g69_80_4 (hb_1 _ _ _ _) rfl hR.1.1 ?_
    refine zw_ic_ge 81 124 f69_78 (by decide +kernel) rfl (fun hc1 => ?_) (fun hc1 => ?_)
    · have hn_hc1 : nv ≤ k := zn_ge (by omega) (by omega) hc1
      refine zw_lload 126 f69_124 rfl h7 ?_
      refine zw_lreturn f69_126 r69 u69 ?_
      have hk : k = nv := by omega
      rw [hk]
      exact ⟨rfl, rfl⟩
    · have hn_hc1 : k < nv := zn_lt (by omega) (by omega) hc1
      refine zw_lload 83 f69_81 rfl h7 ?_
      refine zw_lconst 1 84 f69_83 rfl (by decide +kernel) ?_
      refine zw_lcmp (lg_cmp (cCm W ch sr dr sc wy k) 1) 85 f69_84 rfl rfl ?_
      refine zw_if_le 88 124 f69_85 (by decide +kernel) rfl (fun hc2 => ?_) (fun hc2 => ?_)
      · refine zw_lload 126 f69_124 rfl h7 ?_
        refine zw_lreturn f69_126 r69 u69 ?_
        exact ⟨rfl, by rw [cCm_st (Int64.not_lt.mpr ((lg_cmp_le _ _).mp hc2)) nv (by omega)]⟩
      · refine zw_aload_n 89 f69_88 rfl h0 ?_
        refine zw_getfield 92 f69_89 rfl g69_12_10 (hb_22 _ _ _ _) rfl ?_
        refine zw_getfield 95 f69_92 rfl g69_87_9 (hb_23 _ _ _ _) rfl ?_
        refine zw_iload 97 f69_95 rfl h9 ?_
        refine zw_laload k ((W.2.2.2.2.1) k) 98 f69_97 rfl (hb_24 _ _ _ _) (nI_clamp (by omega)) (nI_pos (by omega)) (by omega) (congrFun (hR.2.2.2.1) k) ?_
        refine zw_lload_n 99 f69_98 rfl h1 ?_
        refine zw_lmul (((W.2.2.2.2.1) k) * sc) 100 f69_99 rfl rfl ?_
        refine zw_aload_n 101 f69_100 rfl h0 ?_
        refine zw_getfield 104 f69_101 rfl g69_22_10 (hb_22 _ _ _ _) rfl ?_
        refine zw_iload 106 f69_104 rfl h9 ?_
        refine zw_iaload k (ch k) 107 f69_106 rfl (hb_28 _ _ _ _) (nI_clamp (by omega)) (nI_pos (by omega)) (by omega) (hc k (by omega)) ?_
        refine zw_i2l (Int32.toInt64 (ch k)) 108 f69_107 rfl rfl ?_
        refine zw_lload_n 109 f69_108 rfl h3 ?_
        refine zw_lmul ((Int32.toInt64 (ch k)) * wy) 110 f69_109 rfl rfl ?_
        refine zw_ladd ((((W.2.2.2.2.1) k) * sc) + ((Int32.toInt64 (ch k)) * wy)) 111 f69_110 rfl rfl ?_
        refine zw_lload 113 f69_111 rfl h7 ?_
        refine zw_static_l 116 0 0 [.long ((((W.2.2.2.2.1) k) * sc) + ((Int32.toInt64 (ch k)) * wy)), .long (cCm W ch sr dr sc wy k)] [] [(0, .long ((((W.2.2.2.2.1) k) * sc) + ((Int32.toInt64 (ch k)) * wy))), (2, .long (cCm W ch sr dr sc wy k))] f69_113 rfl k69_183_99 rfl (by decide +kernel) (Nat.le_of_ble_eq_true rfl) (Nat.le_of_ble_eq_true rfl) rfl rfl (by decide +kernel) (by decide +kernel) rfl (Nat.le_of_ble_eq_true rfl) rfl ?_
        refine zWp.mono (cx_gcd ro _ ((((W.2.2.2.2.1) k) * sc) + ((Int32.toInt64 (ch k)) * wy)) (cCm W ch sr dr sc wy k)) ?_
        rintro r h1 ⟨rfl, rfl⟩
        refine ⟨_, rfl, ?_⟩
        refine zw_lstore _ 118 f69_116 rfl (by decide +kernel) rfl ?_
        refine zw_iinc (nI (k + 1)) _ 121 f69_118 rfl (zl2_ne rfl rfl h9) (by decide +kernel) (nI_1 _) rfl ?_
        refine zw_goto 69 f69_121 (by decide +kernel) ?_
        exact ih (k + 1) _ (zl1_ne rfl rfl (zl2_ne rfl rfl h0)) (zl1_ne rfl rfl (zl2_ne rfl rfl h1)) (zl1_ne rfl rfl (zl2_ne rfl rfl h3)) (by rw [cCm_y (Int64.not_le.mp (fun q => hc2 ((lg_cmp_le _ _).mpr q)))]; exact (zl1_ne rfl rfl zl2_eq)) zl1_eq (by omega) (by omega)
set_option maxRecDepth 100000 in
set_option maxHeartbeats 0 in
theorem cx_cb_22 (ro : UInt32 → Nat × (Nat → Int32)) (nv np : Nat) (P : Nat → Nat → Int32) (W : qW) (I : Nat → Nat → Int32) (G : Nat → Nat → Int64) (A : Nat → Nat → Int32) (B : Nat → Nat → Int64) (hR : cRS 22 nv np P W I G A B) (hp : MPa nv np P) (ch : Nat → Int32) (sr dr : Int32) (hc : ∀ j, j < nv → A 28 j = ch j) (hs : I 22 6 = sr) (hd : I 22 7 = dr) (sc wy : Int64) : zWp ro 69 0 [(0, .ref 22), (1, .long sc), (3, .long wy), (5, .long (W.1 * sc))] [] (hS I G A B) 0 0 (fun r h1 => h1 = hS I G A B ∧ r = some (.long (cCm W ch sr dr sc wy nv))) := by
  have h8 := hp.1
  refine zw_aload_n 1 f69_0 rfl rfl ?_
  refine zw_getfield 4 f69_1 rfl g69_12_10 (hb_22 _ _ _ _) rfl ?_
  refine zw_getG W.2.1 7 f69_4 rfl g69_151_9 (hb_23 _ _ _ _) rfl hR.2.2.1.2.1 ?_
  refine zw_lload_n 8 f69_7 rfl rfl ?_
  refine zw_lmul (W.2.1 * sc) 9 f69_8 rfl rfl ?_
  refine zw_lload_n 10 f69_9 rfl rfl ?_
  refine zw_ladd ((W.2.1 * sc) + wy) 11 f69_10 rfl rfl ?_
  refine zw_lload 13 f69_11 rfl rfl ?_
  refine zw_static_l 16 0 0 [.long ((W.2.1 * sc) + wy), .long (W.1 * sc)] [] [(0, .long ((W.2.1 * sc) + wy)), (2, .long (W.1 * sc))] f69_13 rfl k69_183_99 rfl (by decide +kernel) (Nat.le_of_ble_eq_true rfl) (Nat.le_of_ble_eq_true rfl) rfl rfl (by decide +kernel) (by decide +kernel) rfl (Nat.le_of_ble_eq_true rfl) rfl ?_
  refine zWp.mono (cx_gcd ro _ ((W.2.1 * sc) + wy) (W.1 * sc)) ?_
  rintro r h1 ⟨rfl, rfl⟩
  refine ⟨_, rfl, ?_⟩
  refine zw_lstore _ 18 f69_16 rfl (by decide +kernel) rfl ?_
  refine zw_aload_n 19 f69_18 rfl (zl2_ne rfl rfl rfl) ?_
  refine zw_getfield 22 f69_19 rfl g69_12_10 (hb_22 _ _ _ _) rfl ?_
  refine zw_getG W.2.2.1 25 f69_22 rfl g69_177_9 (hb_23 _ _ _ _) rfl hR.2.2.1.2.2.1 ?_
  refine zw_lload_n 26 f69_25 rfl (zl2_ne rfl rfl rfl) ?_
  refine zw_lmul (W.2.2.1 * sc) 27 f69_26 rfl rfl ?_
  refine zw_aload_n 28 f69_27 rfl (zl2_ne rfl rfl rfl) ?_
  refine zw_getI sr 31 f69_28 rfl g69_54_10 (hb_22 _ _ _ _) rfl hs ?_
  refine zw_i2l (Int32.toInt64 sr) 32 f69_31 rfl rfl ?_
  refine zw_lload_n 33 f69_32 rfl (zl2_ne rfl rfl rfl) ?_
  refine zw_lmul ((Int32.toInt64 sr) * wy) 34 f69_33 rfl rfl ?_
  refine zw_ladd ((W.2.2.1 * sc) + ((Int32.toInt64 sr) * wy)) 35 f69_34 rfl rfl ?_
  refine zw_lload 37 f69_35 rfl zl2_eq ?_
  refine zw_static_l 40 0 0 [.long ((W.2.2.1 * sc) + ((Int32.toInt64 sr) * wy)), .long (cGc ((W.2.1 * sc) + wy) (W.1 * sc))] [] [(0, .long ((W.2.2.1 * sc) + ((Int32.toInt64 sr) * wy))), (2, .long (cGc ((W.2.1 * sc) + wy) (W.1 * sc)))] f69_37 rfl k69_183_99 rfl (by decide +kernel) (Nat.le_of_ble_eq_true rfl) (Nat.le_of_ble_eq_true rfl) rfl rfl (by decide +kernel) (by decide +kernel) rfl (Nat.le_of_ble_eq_true rfl) rfl ?_
  refine zWp.mono (cx_gcd ro _ ((W.2.2.1 * sc) + ((Int32.toInt64 sr) * wy)) (cGc ((W.2.1 * sc) + wy) (W.1 * sc))) ?_
  rintro r h1 ⟨rfl, rfl⟩
  refine ⟨_, rfl, ?_⟩
  refine zw_lstore _ 42 f69_40 rfl (by decide +kernel) rfl ?_
  refine zw_aload_n 43 f69_42 rfl (zl2_ne rfl rfl (zl2_ne rfl rfl rfl)) ?_
  refine zw_getfield 46 f69_43 rfl g69_12_10 (hb_22 _ _ _ _) rfl ?_
  refine zw_getG W.2.2.2.1 49 f69_46 rfl g69_180_9 (hb_23 _ _ _ _) rfl hR.2.2.1.2.2.2 ?_
  refine zw_lload_n 50 f69_49 rfl (zl2_ne rfl rfl (zl2_ne rfl rfl rfl)) ?_
  refine zw_lmul (W.2.2.2.1 * sc) 51 f69_50 rfl rfl ?_
  refine zw_aload_n 52 f69_51 rfl (zl2_ne rfl rfl (zl2_ne rfl rfl rfl)) ?_
  refine zw_getI dr 55 f69_52 rfl g69_58_10 (hb_22 _ _ _ _) rfl hd ?_
  refine zw_i2l (Int32.toInt64 dr) 56 f69_55 rfl rfl ?_
  refine zw_lload_n 57 f69_56 rfl (zl2_ne rfl rfl (zl2_ne rfl rfl rfl)) ?_
  refine zw_lmul ((Int32.toInt64 dr) * wy) 58 f69_57 rfl rfl ?_
  refine zw_ladd ((W.2.2.2.1 * sc) + ((Int32.toInt64 dr) * wy)) 59 f69_58 rfl rfl ?_
  refine zw_lload 61 f69_59 rfl zl2_eq ?_
  refine zw_static_l 64 0 0 [.long ((W.2.2.2.1 * sc) + ((Int32.toInt64 dr) * wy)), .long (cGc ((W.2.2.1 * sc) + ((Int32.toInt64 sr) * wy)) (cGc ((W.2.1 * sc) + wy) (W.1 * sc)))] [] [(0, .long ((W.2.2.2.1 * sc) + ((Int32.toInt64 dr) * wy))), (2, .long (cGc ((W.2.2.1 * sc) + ((Int32.toInt64 sr) * wy)) (cGc ((W.2.1 * sc) + wy) (W.1 * sc))))] f69_61 rfl k69_183_99 rfl (by decide +kernel) (Nat.le_of_ble_eq_true rfl) (Nat.le_of_ble_eq_true rfl) rfl rfl (by decide +kernel) (by decide +kernel) rfl (Nat.le_of_ble_eq_true rfl) rfl ?_
  refine zWp.mono (cx_gcd ro _ ((W.2.2.2.1 * sc) + ((Int32.toInt64 dr) * wy)) (cGc ((W.2.2.1 * sc) + ((Int32.toInt64 sr) * wy)) (cGc ((W.2.1 * sc) + wy) (W.1 * sc)))) ?_
  rintro r h1 ⟨rfl, rfl⟩
  refine ⟨_, rfl, ?_⟩
  refine zw_lstore _ 66 f69_64 rfl (by decide +kernel) rfl ?_
  refine zw_iconst 0 67 f69_66 rfl (by decide +kernel) ?_
  refine zw_istore _ 69 f69_67 rfl (by decide +kernel) rfl ?_
  exact lcx_cb22 ro nv np P W I G A B hR hp ch sr dr hc hs hd sc wy (nv + 1) 0 _ (zl1_ne rfl rfl (zl2_ne rfl rfl (zl2_ne rfl rfl (zl2_ne rfl rfl rfl)))) (zl1_ne rfl rfl (zl2_ne rfl rfl (zl2_ne rfl rfl (zl2_ne rfl rfl rfl)))) (zl1_ne rfl rfl (zl2_ne rfl rfl (zl2_ne rfl rfl (zl2_ne rfl rfl rfl)))) (zl1_ne rfl rfl zl2_eq) zl1_eq (by omega) (by omega)
set_option maxRecDepth 100000 in
set_option maxHeartbeats 0 in
theorem lcx_ad22 (ro : UInt32 → Nat × (Nat → Int32)) (nv np : Nat) (P : Nat → Nat → Int32) (W : qW) (I : Nat → Nat → Int32) (G : Nat → Nat → Int64) (A : Nat → Nat → Int32) (B : Nat → Nat → Int64) (hR : cRS 22 nv np P W I G A B) (hp : MPa nv np P) (ch : Nat → Int32) (sr dr : Int32) (hc : ∀ j, j < nv → A 28 j = ch j) (hs : I 22 6 = sr) (hd : I 22 7 = dr) (sc wy : Int64) (hgr : ¬ 10000 < W.1 * sc / (cCm W ch sr dr sc wy nv)) : ∀ (n k : Nat) (ls : List (Nat × Value)) (I1 : Nat → Nat → Int32) (G1 : Nat → Nat → Int64) (A1 : Nat → Nat → Int32) (B1 : Nat → Nat → Int64), KQ (fCa 22) (pCa 22) I G A B I1 G1 A1 B1 → ((G1 23 0 = W.1 * sc / (cCm W ch sr dr sc wy nv) ∧ G1 23 1 = (W.2.1 * sc + wy) / (cCm W ch sr dr sc wy nv) ∧ G1 23 2 = (W.2.2.1 * sc + Int32.toInt64 sr * wy) / (cCm W ch sr dr sc wy nv) ∧ G1 23 3 = (W.2.2.2.1 * sc + Int32.toInt64 dr * wy) / (cCm W ch sr dr sc wy nv)) ∧ (∀ j, j < k → B1 24 j = ((W.2.2.2.2.1 j * sc + Int32.toInt64 (ch j) * wy) / (cCm W ch sr dr sc wy nv))) ∧ ∀ j, k ≤ j → B1 24 j = W.2.2.2.2.1 j) → zld ls 0 = some (.ref 22) → zld ls 1 = some (.long sc) → zld ls 3 = some (.long wy) → zld ls 7 = some (.long (cCm W ch sr dr sc wy nv)) → zld ls 9 = some (.int (nI k)) → k ≤ nv → nv + 1 ≤ k + n → zWp ro 68 132 ls [] (hS I1 G1 A1 B1) 0 0 (fun r h1 => ∃ I2 G2 A2 B2, h1 = hS I2 G2 A2 B2 ∧ KQ (fCa 22) (pCa 22) I G A B I2 G2 A2 B2 ∧ ((r = some (.int 0) ∧ cAdv W ch sr dr nv sc wy = none ∧ cRS 22 nv np P W I2 G2 A2 B2) ∨ (r = some (.int 1) ∧ cAdv W ch sr dr nv sc wy = some (cAdvd W ch sr dr nv sc wy (cCm W ch sr dr sc wy nv)) ∧ cRS 22 nv np P (cAdvd W ch sr dr nv sc wy (cCm W ch sr dr sc wy nv)) I2 G2 A2 B2))) := by
  have h8 := hp.1
  intro n
  induction n with
  | zero =>
    intro k ls I1 G1 A1 B1 _ _ _ _ _ _ _ a c
    exact absurd c (by omega)
  | succ n ih =>
    intro k ls I1 G1 A1 B1 K0 hr h0 h1 h3 h7 h9 hk1 hk2
    refine zw_iload 134 f68_132 rfl h9 ?_
    refine zw_aload_n 135 f68_134 rfl h0 ?_
    refine zw_getfield 138 f68_135 rfl g68_37_10 (hb_22 _ _ _ _) rfl ?_
    refine zw_getI (nI nv) 141 f68_138 rfl g68_80_4 (hb_1 _ _ _ _) rfl ((K0.1 1 0 rfl).trans hR.1.1) ?_
    refine zw_ic_ge 144 186 f68_141 (by decide +kernel) rfl (fun hc1 => ?_) (fun hc1 => ?_)
    · have hn_hc1 : nv ≤ k := zn_ge (by omega) (by omega) hc1
      refine zw_iconst 1 187 f68_186 rfl (by decide +kernel) ?_
      refine zw_zreturn f68_187 r68 u68 (by decide +kernel) ?_
      have hk : k = nv := by omega
      rw [hk] at hr
      have eB : B1 24 = fun j => if j < nv then ((W.2.2.2.2.1 j * sc + Int32.toInt64 (ch j) * wy) / (cCm W ch sr dr sc wy nv)) else W.2.2.2.2.1 j := by
        funext j
        by_cases c : j < nv
        · rw [if_pos c]; exact hr.2.1 j c
        · rw [if_neg c]; exact hr.2.2 j (by omega)
      refine ⟨_, _, _, _, rfl, K0, Or.inr ⟨rfl, if_neg hgr, ⟨⟨(K0.1 1 0 rfl).trans hR.1.1, (K0.1 1 1 rfl).trans hR.1.2⟩, ?_, hr.1, eB, ?_, ?_, fun v hv => ?_⟩⟩⟩
      · rw [cPb_c (A := A) (fun k k1 k2 => K0.2.2.1 k (by simp only [pCa, decide_eq_false_iff_not]; omega))]; exact hR.2.1
      · rw [K0.1 _ 6 rfl]; exact hR.2.2.2.2.1
      · rw [K0.1 _ 5 rfl]; exact hR.2.2.2.2.2.1
      · rw [K0.2.2.1 _ rfl]; exact hR.2.2.2.2.2.2 v hv
    · have hn_hc1 : k < nv := zn_lt (by omega) (by omega) hc1
      refine zw_aload_n 145 f68_144 rfl h0 ?_
      refine zw_getfield 148 f68_145 rfl g68_12_10 (hb_22 _ _ _ _) rfl ?_
      refine zw_getfield 151 f68_148 rfl g68_87_9 (hb_23 _ _ _ _) rfl ?_
      refine zw_iload 153 f68_151 rfl h9 ?_
      refine zw_aload_n 154 f68_153 rfl h0 ?_
      refine zw_getfield 157 f68_154 rfl g68_12_10 (hb_22 _ _ _ _) rfl ?_
      refine zw_getfield 160 f68_157 rfl g68_87_9 (hb_23 _ _ _ _) rfl ?_
      refine zw_iload 162 f68_160 rfl h9 ?_
      refine zw_laload k (W.2.2.2.2.1 k) 163 f68_162 rfl (hb_24 _ _ _ _) (nI_clamp (by omega)) (nI_pos (by omega)) (by omega) (hr.2.2 k (Nat.le_refl _)) ?_
      refine zw_lload_n 164 f68_163 rfl h1 ?_
      refine zw_lmul ((W.2.2.2.2.1 k) * sc) 165 f68_164 rfl rfl ?_
      refine zw_aload_n 166 f68_165 rfl h0 ?_
      refine zw_getfield 169 f68_166 rfl g68_22_10 (hb_22 _ _ _ _) rfl ?_
      refine zw_iload 171 f68_169 rfl h9 ?_
      refine zw_iaload k (ch k) 172 f68_171 rfl (hb_28 _ _ _ _) (nI_clamp (by omega)) (nI_pos (by omega)) (by omega) ((congrFun (K0.2.2.1 28 rfl) k).trans (hc k (by omega))) ?_
      refine zw_i2l (Int32.toInt64 (ch k)) 173 f68_172 rfl rfl ?_
      refine zw_lload_n 174 f68_173 rfl h3 ?_
      refine zw_lmul ((Int32.toInt64 (ch k)) * wy) 175 f68_174 rfl rfl ?_
      refine zw_ladd (((W.2.2.2.2.1 k) * sc) + ((Int32.toInt64 (ch k)) * wy)) 176 f68_175 rfl rfl ?_
      refine zw_lload 178 f68_176 rfl h7 ?_
      refine zw_ldiv ((((W.2.2.2.2.1 k) * sc) + ((Int32.toInt64 (ch k)) * wy)) / (cCm W ch sr dr sc wy nv)) 179 f68_178 rfl (cCm_ne0 nv) rfl ?_
      refine zw_lst k _ 180 f68_179 rfl (hb_24 _ _ _ _) (nI_clamp (by omega)) (nI_pos (by omega)) (by omega) (ha_24 _ _ _ _ _) ?_
      refine zw_iinc (nI (k + 1)) _ 183 f68_180 rfl h9 (by decide +kernel) (nI_1 _) rfl ?_
      refine zw_goto 132 f68_183 (by decide +kernel) ?_
      have z := mLv_u (T := fun j => ((W.2.2.2.2.1 j * sc + Int32.toInt64 (ch j) * wy) / (cCm W ch sr dr sc wy nv))) hr.2.1 hr.2.2 (show _ = ((W.2.2.2.2.1 k * sc + Int32.toInt64 (ch k) * wy) / (cCm W ch sr dr sc wy nv)) from rfl)
      exact ih (k + 1) _ _ _ _ _ (KQ.b rfl K0) ⟨hr.1, z⟩ (zl1_ne rfl rfl h0) (zl1_ne rfl rfl h1) (zl1_ne rfl rfl h3) (zl1_ne rfl rfl h7) zl1_eq (by omega) (by omega)
set_option maxRecDepth 100000 in
set_option maxHeartbeats 0 in
theorem cx_adv_22 (ro : UInt32 → Nat × (Nat → Int32)) (nv np : Nat) (P : Nat → Nat → Int32) (W : qW) (I : Nat → Nat → Int32) (G : Nat → Nat → Int64) (A : Nat → Nat → Int32) (B : Nat → Nat → Int64) (hR : cRS 22 nv np P W I G A B) (hp : MPa nv np P) (ch : Nat → Int32) (sr dr : Int32) (hc : ∀ j, j < nv → A 28 j = ch j) (hs : I 22 6 = sr) (hd : I 22 7 = dr) (sc wy : Int64) : zWp ro 68 0 [(0, .ref 22), (1, .long sc), (3, .long wy)] [] (hS I G A B) 0 0 (fun r h1 => ∃ I2 G2 A2 B2, h1 = hS I2 G2 A2 B2 ∧ KQ (fCa 22) (pCa 22) I G A B I2 G2 A2 B2 ∧ ((r = some (.int 0) ∧ cAdv W ch sr dr nv sc wy = none ∧ cRS 22 nv np P W I2 G2 A2 B2) ∨ (r = some (.int 1) ∧ cAdv W ch sr dr nv sc wy = some (cAdvd W ch sr dr nv sc wy (cCm W ch sr dr sc wy nv)) ∧ cRS 22 nv np P (cAdvd W ch sr dr nv sc wy (cCm W ch sr dr sc wy nv)) I2 G2 A2 B2))) := by
  have h8 := hp.1
  refine zw_aload_n 1 f68_0 rfl rfl ?_
  refine zw_getfield 4 f68_1 rfl g68_12_10 (hb_22 _ _ _ _) rfl ?_
  refine zw_getG W.1 7 f68_4 rfl g68_109_9 (hb_23 _ _ _ _) rfl hR.2.2.1.1 ?_
  refine zw_lload_n 8 f68_7 rfl rfl ?_
  refine zw_lmul (W.1 * sc) 9 f68_8 rfl rfl ?_
  refine zw_lstore _ 11 f68_9 rfl (by decide +kernel) rfl ?_
  refine zw_aload_n 12 f68_11 rfl (zl2_ne rfl rfl rfl) ?_
  refine zw_lload_n 13 f68_12 rfl (zl2_ne rfl rfl rfl) ?_
  refine zw_lload_n 14 f68_13 rfl (zl2_ne rfl rfl rfl) ?_
  refine zw_lload 16 f68_14 rfl zl2_eq ?_
  refine zw_virtual_l 19 0 0 [.ref 22, .long sc, .long wy, .long (W.1 * sc)] [(0, .ref 22), (1, .long sc), (3, .long wy), (5, .long (W.1 * sc))] f68_16 rfl n68_171 k68_171_10 rfl (hb_22 _ _ _ _) (by decide +kernel) (Nat.le_of_ble_eq_true rfl) rfl rfl (by decide +kernel) (by decide +kernel) rfl (Nat.le_of_ble_eq_true rfl) rfl ?_
  refine zWp.mono (cx_cb_22 ro nv np P W I G A B hR hp ch sr dr hc hs hd sc wy) ?_
  rintro r h1 ⟨rfl, rfl⟩
  refine ⟨_, rfl, ?_⟩
  refine zw_lstore _ 21 f68_19 rfl (by decide +kernel) rfl ?_
  refine zw_lload 23 f68_21 rfl zl2_eq ?_
  refine zw_lconst 0 24 f68_23 rfl (by decide +kernel) ?_
  refine zw_lcmp (lg_cmp (cCm W ch sr dr sc wy nv) 0) 25 f68_24 rfl rfl ?_
  refine zw_if_eq_f 28 40 f68_25 (by decide +kernel) rfl (fun q => (cCm_ne0 nv) ((lg_cmp_eq _ _).mp q)) ?_
  refine zw_lload 30 f68_28 rfl (zl2_ne rfl rfl zl2_eq) ?_
  refine zw_lload 32 f68_30 rfl zl2_eq ?_
  refine zw_ldiv ((W.1 * sc) / (cCm W ch sr dr sc wy nv)) 33 f68_32 rfl (cCm_ne0 nv) rfl ?_
  refine zw_ldc2_w 10000 36 f68_33 rfl (by decide +kernel) ?_
  refine zw_lcmp (lg_cmp ((W.1 * sc) / (cCm W ch sr dr sc wy nv)) 10000) 37 f68_36 rfl rfl ?_
  refine zw_if_le 40 42 f68_37 (by decide +kernel) rfl (fun hc1 => ?_) (fun hc1 => ?_)
  · refine zw_aload_n 43 f68_42 rfl (zl2_ne rfl rfl (zl2_ne rfl rfl rfl)) ?_
    refine zw_getfield 46 f68_43 rfl g68_12_10 (hb_22 _ _ _ _) rfl ?_
    refine zw_lload 48 f68_46 rfl (zl2_ne rfl rfl zl2_eq) ?_
    refine zw_lload 50 f68_48 rfl zl2_eq ?_
    refine zw_ldiv ((W.1 * sc) / (cCm W ch sr dr sc wy nv)) 51 f68_50 rfl (cCm_ne0 nv) rfl ?_
    refine zw_put _ 54 f68_51 rfl g68_109_9 (hb_23 _ _ _ _) rfl (Nat.le_of_ble_eq_true rfl) (by decide +kernel) (hg_23_0 _ _ _ _ _) ?_
    refine zw_aload_n 55 f68_54 rfl (zl2_ne rfl rfl (zl2_ne rfl rfl rfl)) ?_
    refine zw_getfield 58 f68_55 rfl g68_12_10 (hb_22 _ _ _ _) rfl ?_
    refine zw_aload_n 59 f68_58 rfl (zl2_ne rfl rfl (zl2_ne rfl rfl rfl)) ?_
    refine zw_getfield 62 f68_59 rfl g68_12_10 (hb_22 _ _ _ _) rfl ?_
    refine zw_getG W.2.1 65 f68_62 rfl g68_151_9 (hb_23 _ _ _ _) rfl hR.2.2.1.2.1 ?_
    refine zw_lload_n 66 f68_65 rfl (zl2_ne rfl rfl (zl2_ne rfl rfl rfl)) ?_
    refine zw_lmul (W.2.1 * sc) 67 f68_66 rfl rfl ?_
    refine zw_lload_n 68 f68_67 rfl (zl2_ne rfl rfl (zl2_ne rfl rfl rfl)) ?_
    refine zw_ladd ((W.2.1 * sc) + wy) 69 f68_68 rfl rfl ?_
    refine zw_lload 71 f68_69 rfl zl2_eq ?_
    refine zw_ldiv (((W.2.1 * sc) + wy) / (cCm W ch sr dr sc wy nv)) 72 f68_71 rfl (cCm_ne0 nv) rfl ?_
    refine zw_put _ 75 f68_72 rfl g68_151_9 (hb_23 _ _ _ _) rfl (Nat.le_of_ble_eq_true rfl) (by decide +kernel) (hg_23_1 _ _ _ _ _) ?_
    refine zw_aload_n 76 f68_75 rfl (zl2_ne rfl rfl (zl2_ne rfl rfl rfl)) ?_
    refine zw_getfield 79 f68_76 rfl g68_12_10 (hb_22 _ _ _ _) rfl ?_
    refine zw_aload_n 80 f68_79 rfl (zl2_ne rfl rfl (zl2_ne rfl rfl rfl)) ?_
    refine zw_getfield 83 f68_80 rfl g68_12_10 (hb_22 _ _ _ _) rfl ?_
    refine zw_getG W.2.2.1 86 f68_83 rfl g68_177_9 (hb_23 _ _ _ _) rfl hR.2.2.1.2.2.1 ?_
    refine zw_lload_n 87 f68_86 rfl (zl2_ne rfl rfl (zl2_ne rfl rfl rfl)) ?_
    refine zw_lmul (W.2.2.1 * sc) 88 f68_87 rfl rfl ?_
    refine zw_aload_n 89 f68_88 rfl (zl2_ne rfl rfl (zl2_ne rfl rfl rfl)) ?_
    refine zw_getI sr 92 f68_89 rfl g68_54_10 (hb_22 _ _ _ _) rfl hs ?_
    refine zw_i2l (Int32.toInt64 sr) 93 f68_92 rfl rfl ?_
    refine zw_lload_n 94 f68_93 rfl (zl2_ne rfl rfl (zl2_ne rfl rfl rfl)) ?_
    refine zw_lmul ((Int32.toInt64 sr) * wy) 95 f68_94 rfl rfl ?_
    refine zw_ladd ((W.2.2.1 * sc) + ((Int32.toInt64 sr) * wy)) 96 f68_95 rfl rfl ?_
    refine zw_lload 98 f68_96 rfl zl2_eq ?_
    refine zw_ldiv (((W.2.2.1 * sc) + ((Int32.toInt64 sr) * wy)) / (cCm W ch sr dr sc wy nv)) 99 f68_98 rfl (cCm_ne0 nv) rfl ?_
    refine zw_put _ 102 f68_99 rfl g68_177_9 (hb_23 _ _ _ _) rfl (Nat.le_of_ble_eq_true rfl) (by decide +kernel) (hg_23_2 _ _ _ _ _) ?_
    refine zw_aload_n 103 f68_102 rfl (zl2_ne rfl rfl (zl2_ne rfl rfl rfl)) ?_
    refine zw_getfield 106 f68_103 rfl g68_12_10 (hb_22 _ _ _ _) rfl ?_
    refine zw_aload_n 107 f68_106 rfl (zl2_ne rfl rfl (zl2_ne rfl rfl rfl)) ?_
    refine zw_getfield 110 f68_107 rfl g68_12_10 (hb_22 _ _ _ _) rfl ?_
    refine zw_getG W.2.2.2.1 113 f68_110 rfl g68_180_9 (hb_23 _ _ _ _) rfl hR.2.2.1.2.2.2 ?_
    refine zw_lload_n 114 f68_113 rfl (zl2_ne rfl rfl (zl2_ne rfl rfl rfl)) ?_
    refine zw_lmul (W.2.2.2.1 * sc) 115 f68_114 rfl rfl ?_
    refine zw_aload_n 116 f68_115 rfl (zl2_ne rfl rfl (zl2_ne rfl rfl rfl)) ?_
    refine zw_getI dr 119 f68_116 rfl g68_58_10 (hb_22 _ _ _ _) rfl hd ?_
    refine zw_i2l (Int32.toInt64 dr) 120 f68_119 rfl rfl ?_
    refine zw_lload_n 121 f68_120 rfl (zl2_ne rfl rfl (zl2_ne rfl rfl rfl)) ?_
    refine zw_lmul ((Int32.toInt64 dr) * wy) 122 f68_121 rfl rfl ?_
    refine zw_ladd ((W.2.2.2.1 * sc) + ((Int32.toInt64 dr) * wy)) 123 f68_122 rfl rfl ?_
    refine zw_lload 125 f68_123 rfl zl2_eq ?_
    refine zw_ldiv (((W.2.2.2.1 * sc) + ((Int32.toInt64 dr) * wy)) / (cCm W ch sr dr sc wy nv)) 126 f68_125 rfl (cCm_ne0 nv) rfl ?_
    refine zw_put _ 129 f68_126 rfl g68_180_9 (hb_23 _ _ _ _) rfl (Nat.le_of_ble_eq_true rfl) (by decide +kernel) (hg_23_3 _ _ _ _ _) ?_
    refine zw_iconst 0 130 f68_129 rfl (by decide +kernel) ?_
    refine zw_istore _ 132 f68_130 rfl (by decide +kernel) rfl ?_
    exact lcx_ad22 ro nv np P W I G A B hR hp ch sr dr hc hs hd sc wy (Int64.not_lt.mpr ((lg_cmp_le _ _).mp hc1)) (nv + 1) 0 _ _ _ _ _ (KQ.g rfl (KQ.g rfl (KQ.g rfl (KQ.g rfl KQ.rf)))) ⟨⟨rfl, rfl, rfl, rfl⟩, fun j hj => absurd hj (by omega), fun j _ => congrFun hR.2.2.2.1 j⟩ (zl1_ne rfl rfl (zl2_ne rfl rfl (zl2_ne rfl rfl rfl))) (zl1_ne rfl rfl (zl2_ne rfl rfl (zl2_ne rfl rfl rfl))) (zl1_ne rfl rfl (zl2_ne rfl rfl (zl2_ne rfl rfl rfl))) (zl1_ne rfl rfl zl2_eq) zl1_eq (by omega) (by omega)
  · refine zw_iconst 0 41 f68_40 rfl (by decide +kernel) ?_
    refine zw_zreturn f68_41 r68 u68 (by decide +kernel) ?_
    exact ⟨_, _, _, _, rfl, KQ.rf, Or.inl ⟨rfl, if_pos (Int64.not_le.mp (fun q => hc1 ((lg_cmp_le _ _).mpr q))), hR⟩⟩
set_option maxRecDepth 100000 in
set_option maxHeartbeats 0 in
theorem lcx_pour22 (ro : UInt32 → Nat × (Nat → Int32)) (nv np : Nat) (P : Nat → Nat → Int32) (I : Nat → Nat → Int32) (G : Nat → Nat → Int64) (A : Nat → Nat → Int32) (B : Nat → Nat → Int64) (hp : MPa nv np P) (g dr : Int64) (hg1 : 1 ≤ g.toInt ∧ g.toInt ≤ 10000) (hnv : I 1 0 = nI nv) (hbr : A 3 = P 54) (hov : A 8 = P 59) (hg : G 23 0 = g) : ∀ (n i lo : Nat) (ls : List (Nat × Value)) (I1 : Nat → Nat → Int32) (G1 : Nat → Nat → Int64) (A1 : Nat → Nat → Int32) (B1 : Nat → Nat → Int64) (lev : Nat → Int64) (w : Int32) (left : Int64), KQ (fCp 22) (pCa 22) I G A B I1 G1 A1 B1 → G1 23 3 = dr → B1 24 = lev → qLv nv (P 54) g lev → mTo nv lo w → i ≤ lo → i ≤ 8 → i + n = 9 → 0 ≤ left.toInt → left.toInt ≤ 100000000 → zld ls 0 = some (.ref 22) → zld ls 4 = some (.int w) → zld ls 5 = some (.long left) → zld ls 7 = some (.int (nI i)) → zWp ro 72 9 ls [] (hS I1 G1 A1 B1) 0 0 (fun r h1 => ∃ I2 G2 A2 B2, h1 = hS I2 G2 A2 B2 ∧ KQ (fCp 22) (pCa 22) I G A B I2 G2 A2 B2 ∧ (B2 24 = (qPour (P 54) (P 59) g n lev dr w left).1 ∧ G2 23 3 = (qPour (P 54) (P 59) g n lev dr w left).2) ∧ r = none) := by
  have h8 := hp.1
  intro n
  induction n with
  | zero =>
    intro i lo ls I1 G1 A1 B1 lev w left K hd hl hlv hw h1 h2 h3
    exact absurd h3 (by omega)
  | succ n ih =>
    intro i lo ls I1 G1 A1 B1 lev w left K hd hl hlv hw hi1 hi2 hi3 hl0 hl1 h0 h4 h5 h7
    rcases hw with hw | ⟨t, ht1, ht2, hw⟩ <;> subst hw
    · refine zw_iload 11 f72_9 rfl h7 ?_
      refine zw_bipush 8 13 f72_11 rfl (by decide +kernel) ?_
      refine zw_ic_ge 16 112 f72_13 (by decide +kernel) rfl (fun hc1 => ?_) (fun hc1 => ?_)
      · have hn_hc1 : 8 ≤ i := zn_ge (by omega) (by omega) hc1
        refine zw_aload_n 113 f72_112 rfl h0 ?_
        refine zw_getfield 116 f72_113 rfl g72_12_10 (hb_22 _ _ _ _) rfl ?_
        refine zw_dup 117 f72_116 rfl rfl ?_
        refine zw_getG dr 120 f72_117 rfl g72_180_9 (hb_23 _ _ _ _) rfl hd ?_
        refine zw_lload 122 f72_120 rfl h5 ?_
        refine zw_ladd (dr + left) 123 f72_122 rfl rfl ?_
        refine zw_put _ 126 f72_123 rfl g72_180_9 (hb_23 _ _ _ _) rfl (Nat.le_of_ble_eq_true rfl) (by decide +kernel) (hg_23_3 _ _ _ _ _) ?_
        refine zw_vreturn f72_126 r72 u72 ?_
        rw [(qPour_m rfl)]
        exact ⟨_, _, _, _, rfl, (KQ.g rfl K), ⟨hl, rfl⟩, rfl⟩
      · have hn_hc1 : i < 8 := zn_lt (by omega) (by omega) hc1
        refine zw_lload 18 f72_16 rfl h5 ?_
        refine zw_lconst 0 19 f72_18 rfl (by decide +kernel) ?_
        refine zw_lcmp (lg_cmp left 0) 20 f72_19 rfl rfl ?_
        refine zw_if_le 23 112 f72_20 (by decide +kernel) rfl (fun hc2 => ?_) (fun hc2 => ?_)
        · refine zw_aload_n 113 f72_112 rfl h0 ?_
          refine zw_getfield 116 f72_113 rfl g72_12_10 (hb_22 _ _ _ _) rfl ?_
          refine zw_dup 117 f72_116 rfl rfl ?_
          refine zw_getG dr 120 f72_117 rfl g72_180_9 (hb_23 _ _ _ _) rfl hd ?_
          refine zw_lload 122 f72_120 rfl h5 ?_
          refine zw_ladd (dr + left) 123 f72_122 rfl rfl ?_
          refine zw_put _ 126 f72_123 rfl g72_180_9 (hb_23 _ _ _ _) rfl (Nat.le_of_ble_eq_true rfl) (by decide +kernel) (hg_23_3 _ _ _ _ _) ?_
          refine zw_vreturn f72_126 r72 u72 ?_
          rw [(qPour_m rfl)]
          exact ⟨_, _, _, _, rfl, (KQ.g rfl K), ⟨hl, rfl⟩, rfl⟩
        · refine zw_aload_n 24 f72_23 rfl h0 ?_
          refine zw_getfield 27 f72_24 rfl g72_37_10 (hb_22 _ _ _ _) rfl ?_
          refine zw_iload 29 f72_27 rfl h4 ?_
          refine zw_virtual_i 32 0 0 [.ref 1, .int (-1)] [(0, .ref 1), (1, .int (-1))] f72_29 rfl n72_103 k72_103_4 rfl (hb_1 _ _ _ _) (by decide +kernel) (Nat.le_of_ble_eq_true rfl) rfl rfl (by decide +kernel) (by decide +kernel) rfl (Nat.le_of_ble_eq_true rfl) rfl ?_
          refine zw_iload_n 1 f13_0 rfl rfl ?_
          refine zw_if_lt_t 22 f13_1 (by decide +kernel) (by decide +kernel) ?_
          refine zw_iconst 0 23 f13_22 rfl (by decide +kernel) ?_
          refine zw_zreturn f13_23 r13 u13 (by decide +kernel) ⟨_, rfl, ?_⟩
          refine zw_if_eq_t 112 f72_32 (by decide +kernel) (by decide +kernel) ?_
          refine zw_aload_n 113 f72_112 rfl h0 ?_
          refine zw_getfield 116 f72_113 rfl g72_12_10 (hb_22 _ _ _ _) rfl ?_
          refine zw_dup 117 f72_116 rfl rfl ?_
          refine zw_getG dr 120 f72_117 rfl g72_180_9 (hb_23 _ _ _ _) rfl hd ?_
          refine zw_lload 122 f72_120 rfl h5 ?_
          refine zw_ladd (dr + left) 123 f72_122 rfl rfl ?_
          refine zw_put _ 126 f72_123 rfl g72_180_9 (hb_23 _ _ _ _) rfl (Nat.le_of_ble_eq_true rfl) (by decide +kernel) (hg_23_3 _ _ _ _ _) ?_
          refine zw_vreturn f72_126 r72 u72 ?_
          rw [(qPour_m rfl)]
          exact ⟨_, _, _, _, rfl, (KQ.g rfl K), ⟨hl, rfl⟩, rfl⟩
    · refine zw_iload 11 f72_9 rfl h7 ?_
      refine zw_bipush 8 13 f72_11 rfl (by decide +kernel) ?_
      refine zw_ic_ge 16 112 f72_13 (by decide +kernel) rfl (fun hc1 => ?_) (fun hc1 => ?_)
      · have hn_hc1 : 8 ≤ i := zn_ge (by omega) (by omega) hc1
        refine zw_aload_n 113 f72_112 rfl h0 ?_
        refine zw_getfield 116 f72_113 rfl g72_12_10 (hb_22 _ _ _ _) rfl ?_
        refine zw_dup 117 f72_116 rfl rfl ?_
        refine zw_getG dr 120 f72_117 rfl g72_180_9 (hb_23 _ _ _ _) rfl hd ?_
        refine zw_lload 122 f72_120 rfl h5 ?_
        refine zw_ladd (dr + left) 123 f72_122 rfl rfl ?_
        refine zw_put _ 126 f72_123 rfl g72_180_9 (hb_23 _ _ _ _) rfl (Nat.le_of_ble_eq_true rfl) (by decide +kernel) (hg_23_3 _ _ _ _ _) ?_
        refine zw_vreturn f72_126 r72 u72 ?_
        exact absurd ht2 (by omega)
      · have hn_hc1 : i < 8 := zn_lt (by omega) (by omega) hc1
        refine zw_lload 18 f72_16 rfl h5 ?_
        refine zw_lconst 0 19 f72_18 rfl (by decide +kernel) ?_
        refine zw_lcmp (lg_cmp left 0) 20 f72_19 rfl rfl ?_
        refine zw_if_le 23 112 f72_20 (by decide +kernel) rfl (fun hc2 => ?_) (fun hc2 => ?_)
        · refine zw_aload_n 113 f72_112 rfl h0 ?_
          refine zw_getfield 116 f72_113 rfl g72_12_10 (hb_22 _ _ _ _) rfl ?_
          refine zw_dup 117 f72_116 rfl rfl ?_
          refine zw_getG dr 120 f72_117 rfl g72_180_9 (hb_23 _ _ _ _) rfl hd ?_
          refine zw_lload 122 f72_120 rfl h5 ?_
          refine zw_ladd (dr + left) 123 f72_122 rfl rfl ?_
          refine zw_put _ 126 f72_123 rfl g72_180_9 (hb_23 _ _ _ _) rfl (Nat.le_of_ble_eq_true rfl) (by decide +kernel) (hg_23_3 _ _ _ _ _) ?_
          refine zw_vreturn f72_126 r72 u72 ?_
          rw [(qPour_z (Int64.not_lt.mpr ((lg_cmp_le _ _).mp hc2)))]
          exact ⟨_, _, _, _, rfl, (KQ.g rfl K), ⟨hl, rfl⟩, rfl⟩
        · refine zw_aload_n 24 f72_23 rfl h0 ?_
          refine zw_getfield 27 f72_24 rfl g72_37_10 (hb_22 _ _ _ _) rfl ?_
          refine zw_iload 29 f72_27 rfl h4 ?_
          refine zw_virtual_i 32 0 0 [.ref 1, .int (nI t)] [(0, .ref 1), (1, .int (nI t))] f72_29 rfl n72_103 k72_103_4 rfl (hb_1 _ _ _ _) (by decide +kernel) (Nat.le_of_ble_eq_true rfl) rfl rfl (by decide +kernel) (by decide +kernel) rfl (Nat.le_of_ble_eq_true rfl) rfl ?_
          refine zw_iload_n 1 f13_0 rfl rfl ?_
          refine zw_if_lt_f 4 22 f13_1 (by decide +kernel) rfl (nI_pos (by omega)) ?_
          refine zw_iload_n 5 f13_4 rfl rfl ?_
          refine zw_aload_n 6 f13_5 rfl rfl ?_
          refine zw_getI (nI nv) 9 f13_6 rfl g13_39_4 (hb_1 _ _ _ _) rfl ((K.1 1 0 rfl).trans hnv) ?_
          refine zw_ic_ge_f 12 22 f13_9 (by decide +kernel) rfl (fun q => absurd (zn_ge (a := nv) (b := t) (by omega) (by omega) q) (by omega)) ?_
          refine zw_iload_n 13 f13_12 rfl rfl ?_
          refine zw_bipush 8 15 f13_13 rfl (by decide +kernel) ?_
          refine zw_ic_ge_f 18 22 f13_15 (by decide +kernel) rfl (fun q => absurd (zn_ge (a := 8) (b := t) (by omega) (by omega) q) (by omega)) ?_
          refine zw_iconst 1 19 f13_18 rfl (by decide +kernel) ?_
          refine zw_goto 23 f13_19 (by decide +kernel) ?_
          refine zw_zreturn f13_23 r13 u13 (by decide +kernel) ⟨_, rfl, ?_⟩
          refine zw_if_eq_f 35 112 f72_32 (by decide +kernel) rfl (by decide +kernel) ?_
          refine zw_lload 37 f72_35 rfl h5 ?_
          refine zw_aload_n 38 f72_37 rfl h0 ?_
          refine zw_getfield 41 f72_38 rfl g72_37_10 (hb_22 _ _ _ _) rfl ?_
          refine zw_getfield 44 f72_41 rfl g72_106_4 (hb_1 _ _ _ _) rfl ?_
          refine zw_iload 46 f72_44 rfl h4 ?_
          refine zw_iaload t (P 54 t) 47 f72_46 rfl (hb_3 _ _ _ _) (nI_clamp (by omega)) (nI_pos (by omega)) (by omega) (congrFun (((K.2.2.1 3 rfl).trans hbr)) t) ?_
          refine zw_i2l (Int32.toInt64 (P 54 t)) 48 f72_47 rfl rfl ?_
          refine zw_aload_n 49 f72_48 rfl h0 ?_
          refine zw_getfield 52 f72_49 rfl g72_12_10 (hb_22 _ _ _ _) rfl ?_
          refine zw_getG g 55 f72_52 rfl g72_109_9 (hb_23 _ _ _ _) rfl ((K.2.1 23 0 rfl).trans hg) ?_
          refine zw_lmul ((Int32.toInt64 (P 54 t)) * g) 56 f72_55 rfl rfl ?_
          refine zw_aload_n 57 f72_56 rfl h0 ?_
          refine zw_getfield 60 f72_57 rfl g72_12_10 (hb_22 _ _ _ _) rfl ?_
          refine zw_getfield 63 f72_60 rfl g72_87_9 (hb_23 _ _ _ _) rfl ?_
          refine zw_iload 65 f72_63 rfl h4 ?_
          refine zw_laload t (lev t) 66 f72_65 rfl (hb_24 _ _ _ _) (nI_clamp (by omega)) (nI_pos (by omega)) (by omega) (congrFun (hl) t) ?_
          refine zw_lsub (((Int32.toInt64 (P 54 t)) * g) - (lev t)) 67 f72_66 rfl rfl ?_
          refine zw_static_l 70 0 0 [.long left, .long (((Int32.toInt64 (P 54 t)) * g) - (lev t))] [] [(0, .long left), (2, .long (((Int32.toInt64 (P 54 t)) * g) - (lev t)))] f72_67 rfl k72_206_99 rfl (by decide +kernel) (Nat.le_of_ble_eq_true rfl) (Nat.le_of_ble_eq_true rfl) rfl rfl (by decide +kernel) (by decide +kernel) rfl (Nat.le_of_ble_eq_true rfl) rfl ?_
          refine zw_lload_n 1 f188_0 rfl rfl ?_
          refine zw_lload_n 2 f188_1 rfl rfl ?_
          refine zw_lcmp (lg_cmp left (((Int32.toInt64 (P 54 t)) * g) - (lev t))) 3 f188_2 rfl rfl ?_
          refine zw_if_gt 6 10 f188_3 (by decide +kernel) rfl (fun hc3 => ?_) (fun hc3 => ?_)
          · refine zw_lload_n 11 f188_10 rfl rfl ?_
            refine zw_lreturn f188_11 r188 u188 ⟨_, rfl, ?_⟩
            refine zw_lstore _ 72 f72_70 rfl (by decide +kernel) rfl ?_
            refine zw_aload_n 73 f72_72 rfl (zl2_ne rfl rfl h0) ?_
            refine zw_getfield 76 f72_73 rfl g72_12_10 (hb_22 _ _ _ _) rfl ?_
            refine zw_getfield 79 f72_76 rfl g72_87_9 (hb_23 _ _ _ _) rfl ?_
            refine zw_iload 81 f72_79 rfl (zl2_ne rfl rfl h4) ?_
            refine zw_dup2 82 f72_81 rfl rfl rfl ?_
            refine zw_laload t (lev t) 83 f72_82 rfl (hb_24 _ _ _ _) (nI_clamp (by omega)) (nI_pos (by omega)) (by omega) (congrFun (hl) t) ?_
            refine zw_lload 85 f72_83 rfl zl2_eq ?_
            refine zw_ladd ((lev t) + (((Int32.toInt64 (P 54 t)) * g) - (lev t))) 86 f72_85 rfl rfl ?_
            refine zw_lst t _ 87 f72_86 rfl (hb_24 _ _ _ _) (nI_clamp (by omega)) (nI_pos (by omega)) (by omega) (ha_24 _ _ _ _ _) ?_
            refine zw_lload 89 f72_87 rfl (zl2_ne rfl rfl h5) ?_
            refine zw_lload 91 f72_89 rfl zl2_eq ?_
            refine zw_lsub (left - (((Int32.toInt64 (P 54 t)) * g) - (lev t))) 92 f72_91 rfl rfl ?_
            refine zw_lstore _ 94 f72_92 rfl (by decide +kernel) rfl ?_
            refine zw_aload_n 95 f72_94 rfl (zl2_ne rfl rfl (zl2_ne rfl rfl h0)) ?_
            refine zw_getfield 98 f72_95 rfl g72_37_10 (hb_22 _ _ _ _) rfl ?_
            refine zw_getfield 101 f72_98 rfl g72_100_4 (hb_1 _ _ _ _) rfl ?_
            refine zw_iload 103 f72_101 rfl (zl2_ne rfl rfl (zl2_ne rfl rfl h4)) ?_
            refine zw_iaload t (P 59 t) 104 f72_103 rfl (hb_8 _ _ _ _) (nI_clamp (by omega)) (nI_pos (by omega)) (by omega) (congrFun (((K.2.2.1 8 rfl).trans hov)) t) ?_
            refine zw_istore _ 106 f72_104 rfl (by decide +kernel) rfl ?_
            refine zw_iinc (nI (i + 1)) _ 109 f72_106 rfl (zl1_ne rfl rfl (zl2_ne rfl rfl (zl2_ne rfl rfl h7))) (by decide +kernel) (nI_1 _) rfl ?_
            refine zw_goto 9 f72_109 (by decide +kernel) ?_
            have lv := hlv.1 t ht2
            have br := (hp.2.2.1 t ht2).1
            have Q := qInc (a := lev t) (left := left) (d := (((Int32.toInt64 (P 54 t)) * g) - (lev t))) (b := P 54 t) (g := g) hg1 br lv ⟨hl0, hl1⟩ (Or.inr ⟨rfl, ((lg_cmp_gt _ _).mp hc3)⟩)
            have N := qIn (a := lev t) (left := left) (b := P 54 t) (g := g) hg1 br lv ⟨hl0, hl1⟩
            have E := qPour_y (brim := P 54) (over := P 59) (g := g) (n := n) (lev := lev) (dr := dr) (left := left) (w := nI t) (t := t) rfl (by omega) (Int64.not_le.mp (fun q => hc2 ((lg_cmp_le _ _).mpr q)))
            rw [vpL_2] at E
            have N4 := N.2.2.2.1
            have N5 := N.2.2.2.2.1
            rw [← N.2.2.1, Q.1] at N4 N5
            have N1 := N.1
            have N2 := N.2.1
            rw [Q.2] at N1 N2
            rw [Q.1, Q.2] at E
            rw [E]
            exact ih (i + 1) (t + 1) _ _ _ _ _ _ _ _ (KQ.b rfl K) hd (congrArg (fun z => vp_updL z t ((lev t) + (((Int32.toInt64 (P 54 t)) * g) - (lev t)))) (hl)) (hlv.u ht2 N5 N4) (hp.2.2.1 t ht2).2.2.2.2.2 (by omega) (by omega) (by omega) N1 (by omega) (zl1_ne rfl rfl (zl1_ne rfl rfl (zl2_ne rfl rfl (zl2_ne rfl rfl h0)))) (zl1_ne rfl rfl zl1_eq) (zl1_ne rfl rfl (zl1_ne rfl rfl zl2_eq)) zl1_eq
          · refine zw_lload_n 7 f188_6 rfl rfl ?_
            refine zw_goto 11 f188_7 (by decide +kernel) ?_
            refine zw_lreturn f188_11 r188 u188 ⟨_, rfl, ?_⟩
            refine zw_lstore _ 72 f72_70 rfl (by decide +kernel) rfl ?_
            refine zw_aload_n 73 f72_72 rfl (zl2_ne rfl rfl h0) ?_
            refine zw_getfield 76 f72_73 rfl g72_12_10 (hb_22 _ _ _ _) rfl ?_
            refine zw_getfield 79 f72_76 rfl g72_87_9 (hb_23 _ _ _ _) rfl ?_
            refine zw_iload 81 f72_79 rfl (zl2_ne rfl rfl h4) ?_
            refine zw_dup2 82 f72_81 rfl rfl rfl ?_
            refine zw_laload t (lev t) 83 f72_82 rfl (hb_24 _ _ _ _) (nI_clamp (by omega)) (nI_pos (by omega)) (by omega) (congrFun (hl) t) ?_
            refine zw_lload 85 f72_83 rfl zl2_eq ?_
            refine zw_ladd ((lev t) + left) 86 f72_85 rfl rfl ?_
            refine zw_lst t _ 87 f72_86 rfl (hb_24 _ _ _ _) (nI_clamp (by omega)) (nI_pos (by omega)) (by omega) (ha_24 _ _ _ _ _) ?_
            refine zw_lload 89 f72_87 rfl (zl2_ne rfl rfl h5) ?_
            refine zw_lload 91 f72_89 rfl zl2_eq ?_
            refine zw_lsub (left - left) 92 f72_91 rfl rfl ?_
            refine zw_lstore _ 94 f72_92 rfl (by decide +kernel) rfl ?_
            refine zw_aload_n 95 f72_94 rfl (zl2_ne rfl rfl (zl2_ne rfl rfl h0)) ?_
            refine zw_getfield 98 f72_95 rfl g72_37_10 (hb_22 _ _ _ _) rfl ?_
            refine zw_getfield 101 f72_98 rfl g72_100_4 (hb_1 _ _ _ _) rfl ?_
            refine zw_iload 103 f72_101 rfl (zl2_ne rfl rfl (zl2_ne rfl rfl h4)) ?_
            refine zw_iaload t (P 59 t) 104 f72_103 rfl (hb_8 _ _ _ _) (nI_clamp (by omega)) (nI_pos (by omega)) (by omega) (congrFun (((K.2.2.1 8 rfl).trans hov)) t) ?_
            refine zw_istore _ 106 f72_104 rfl (by decide +kernel) rfl ?_
            refine zw_iinc (nI (i + 1)) _ 109 f72_106 rfl (zl1_ne rfl rfl (zl2_ne rfl rfl (zl2_ne rfl rfl h7))) (by decide +kernel) (nI_1 _) rfl ?_
            refine zw_goto 9 f72_109 (by decide +kernel) ?_
            have lv := hlv.1 t ht2
            have br := (hp.2.2.1 t ht2).1
            have Q := qInc (a := lev t) (left := left) (d := left) (b := P 54 t) (g := g) hg1 br lv ⟨hl0, hl1⟩ (Or.inl ⟨rfl, (Int64.not_lt.mp (fun q => hc3 ((lg_cmp_gt _ _).mpr q)))⟩)
            have N := qIn (a := lev t) (left := left) (b := P 54 t) (g := g) hg1 br lv ⟨hl0, hl1⟩
            have E := qPour_y (brim := P 54) (over := P 59) (g := g) (n := n) (lev := lev) (dr := dr) (left := left) (w := nI t) (t := t) rfl (by omega) (Int64.not_le.mp (fun q => hc2 ((lg_cmp_le _ _).mpr q)))
            rw [vpL_2] at E
            have N4 := N.2.2.2.1
            have N5 := N.2.2.2.2.1
            rw [← N.2.2.1, Q.1] at N4 N5
            have N1 := N.1
            have N2 := N.2.1
            rw [Q.2] at N1 N2
            rw [Q.1, Q.2] at E
            rw [E]
            exact ih (i + 1) (t + 1) _ _ _ _ _ _ _ _ (KQ.b rfl K) hd (congrArg (fun z => vp_updL z t ((lev t) + left)) (hl)) (hlv.u ht2 N5 N4) (hp.2.2.1 t ht2).2.2.2.2.2 (by omega) (by omega) (by omega) N1 (by omega) (zl1_ne rfl rfl (zl1_ne rfl rfl (zl2_ne rfl rfl (zl2_ne rfl rfl h0)))) (zl1_ne rfl rfl zl1_eq) (zl1_ne rfl rfl (zl1_ne rfl rfl zl2_eq)) zl1_eq
set_option maxRecDepth 100000 in
set_option maxHeartbeats 0 in
theorem cx_pour_22 (ro : UInt32 → Nat × (Nat → Int32)) (nv np : Nat) (P : Nat → Nat → Int32) (I : Nat → Nat → Int32) (G : Nat → Nat → Int64) (A : Nat → Nat → Int32) (B : Nat → Nat → Int64) (hp : MPa nv np P) (g dr : Int64) (hg1 : 1 ≤ g.toInt ∧ g.toInt ≤ 10000) (hnv : I 1 0 = nI nv) (hbr : A 3 = P 54) (hov : A 8 = P 59) (hg : G 23 0 = g) (lev : Nat → Int64) (hl : B 24 = lev) (hd : G 23 3 = dr) (hlv : qLv nv (P 54) g lev) (w : Int32) (left : Int64) (hw : mTo nv 0 w) (hl0 : 0 ≤ left.toInt) (hl1 : left.toInt ≤ 100000000) : zWp ro 72 0 [(0, .ref 22), (1, .int w), (2, .long left)] [] (hS I G A B) 0 0 (fun r h1 => ∃ I2 G2 A2 B2, h1 = hS I2 G2 A2 B2 ∧ KQ (fCp 22) (pCa 22) I G A B I2 G2 A2 B2 ∧ (B2 24 = (qPour (P 54) (P 59) g 9 lev dr w left).1 ∧ G2 23 3 = (qPour (P 54) (P 59) g 9 lev dr w left).2) ∧ r = none) := by
  have h8 := hp.1
  refine zw_iload_n 1 f72_0 rfl rfl ?_
  refine zw_istore _ 3 f72_1 rfl (by decide +kernel) rfl ?_
  refine zw_lload_n 4 f72_3 rfl (zl1_ne rfl rfl rfl) ?_
  refine zw_lstore _ 6 f72_4 rfl (by decide +kernel) rfl ?_
  refine zw_iconst 0 7 f72_6 rfl (by decide +kernel) ?_
  refine zw_istore _ 9 f72_7 rfl (by decide +kernel) rfl ?_
  exact lcx_pour22 ro nv np P I G A B hp g dr hg1 hnv hbr hov hg 9 0 0 _ _ _ _ _ lev w left KQ.rf hd hl hlv hw (by omega) (by omega) (by omega) hl0 hl1 (zl1_ne rfl rfl (zl2_ne rfl rfl (zl1_ne rfl rfl rfl))) (zl1_ne rfl rfl (zl2_ne rfl rfl zl1_eq)) (zl1_ne rfl rfl zl2_eq) zl1_eq
set_option maxRecDepth 100000 in
set_option maxHeartbeats 0 in
theorem lcx_se22_87 (ro : UInt32 → Nat × (Nat → Int32)) (nv np : Nat) (P : Nat → Nat → Int32) (W : qW) (T K : Int) (I : Nat → Nat → Int32) (G : Nat → Nat → Int64) (A : Nat → Nat → Int32) (B : Nat → Nat → Int64) (hR : cRS 22 nv np P W I G A B) (hp : MPa nv np P) (hb : wBo W) (hW : wOk nv T K P W) (hT : T ≤ 40000) (hK : K ≤ 200000000) : ∀ (n k : Nat) (ls : List (Nat × Value)) (I1 : Nat → Nat → Int32) (G1 : Nat → Nat → Int64) (A1 : Nat → Nat → Int32) (B1 : Nat → Nat → Int64) (lev : Nat → Int64) (dr : Int64) (sip opn cnt : Nat → Int32) (ev : List (Int32 × Int32)), KQ (fSe 22) (pSe 22) I G A B I1 G1 A1 B1 → wT3 nv P W k = (lev, dr, sip, opn, cnt, ev) → cRS 22 nv np P (wMid W (lev, dr, sip, opn, cnt, ev)) I1 G1 A1 B1 → cHp 22 I1 A1 ev → zld ls 0 = some (.ref 22) → zld ls 1 = some (.int (nI k)) → k ≤ nv → nv + 1 ≤ k + n → zWp ro 70 87 ls [] (hS I1 G1 A1 B1) 0 0 (fun r h1 => ∃ I2 G2 A2 B2, h1 = hS I2 G2 A2 B2 ∧ KQ (fSe 22) (pSe 22) I G A B I2 G2 A2 B2 ∧ (cRS 22 nv np P (wMom nv P W) I2 G2 A2 B2 ∧ cHp 22 I2 A2 (wEv nv P W)) ∧ r = none) := by
  have h8 := hp.1
  have h14 := hp.2.1
  have hg : 1 ≤ W.1.toInt ∧ W.1.toInt ≤ 10000 := hW.1.1
  have tok := wT_ok hp hb hW hT hK
  have tln := wT_len (nv := nv) (P := P) (W := W)
  have tsum := qN_sum (kind := P 53) nv
  intro n
  induction n with
  | zero =>
    intro k ls I1 G1 A1 B1 lev dr sip opn cnt ev _ _ _ _ _ _ a b
    exact absurd b (by omega)
  | succ n ih =>
    intro k ls I1 G1 A1 B1 lev dr sip opn cnt ev K0 hm hR1 hH h0 h1 hk1 hk2
    have hO := tok.2.2 k hk1
    have hLn := tln.2.2 k
    rw [hm] at hO hLn
    change ev.length ≤ _ at hLn
    have hbm : wBo (wMid W (lev, dr, sip, opn, cnt, ev)) := ⟨hO.2.2.2.1.1, hO.2.2.2.1.2⟩
    refine zw_iload_n 88 f70_87 rfl h1 ?_
    refine zw_aload_n 89 f70_88 rfl h0 ?_
    refine zw_getfield 92 f70_89 rfl g70_37_10 (hb_22 _ _ _ _) rfl ?_
    refine zw_getI (nI nv) 95 f70_92 rfl g70_80_4 (hb_1 _ _ _ _) rfl hR1.1.1 ?_
    refine zw_ic_ge 98 109 f70_95 (by decide +kernel) rfl (fun hc1 => ?_) (fun hc1 => ?_)
    · have hn_hc1 : nv ≤ k := zn_ge (by omega) (by omega) hc1
      refine zw_aload_n 110 f70_109 rfl h0 ?_
      refine zw_lconst 1 111 f70_110 rfl (by decide +kernel) ?_
      refine zw_lconst 0 112 f70_111 rfl (by decide +kernel) ?_
      refine zw_virtual_i 115 0 0 [.ref 22, .long 1, .long 0] [(0, .ref 22), (1, .long 1), (3, .long 0)] f70_112 rfl n70_164 k70_164_10 rfl (hb_22 _ _ _ _) (by decide +kernel) (Nat.le_of_ble_eq_true rfl) rfl rfl (by decide +kernel) (by decide +kernel) rfl (Nat.le_of_ble_eq_true rfl) rfl ?_
      have hk : k = nv := by omega
      rw [hk] at hm
      have EM : wMm nv P W = (lev, dr, sip, opn, cnt, ev) := hm
      refine zWp.mono (cx_adv_22 ro nv np P (wMid W (lev, dr, sip, opn, cnt, ev)) I1 G1 A1 B1 hR1 hp (A1 28) (I1 22 6) (I1 22 7) (fun _ _ => rfl) rfl rfl 1 0) ?_
      rintro r h1 ⟨I2, G2, A2, B2, rfl, K2, hc⟩
      have hlow := mid_low (ch := A1 28) (sr := I1 22 6) (dr := I1 22 7) hp hW hO
      rcases hc with ⟨-, hn, -⟩ | ⟨rfl, hs, hR2⟩
      · rw [hlow] at hn; exact absurd hn (by intro q; cases q)
      rw [hlow] at hs
      have hs2 := Option.some.inj hs
      rw [← hs2] at hR2
      refine ⟨_, rfl, ?_⟩
      refine zw_pop 116 f70_115 rfl rfl ?_
      refine zw_vreturn f70_116 r70 u70 ?_
      refine ⟨_, _, _, _, rfl, (KQ.tr K0 (KQ.wk K2 (fCa_Se 22) (pCa_Se 22))), ⟨?_, ?_⟩, rfl⟩
      · unfold wMom; rw [EM]; exact hR2
      · unfold wEv; rw [EM]
        exact ⟨(K2.1 _ _ rfl).trans hH.1, fun i hi => ⟨(congrFun (K2.2.2.1 _ rfl) i).trans (hH.2 i hi).1, (congrFun (K2.2.2.1 _ rfl) i).trans (hH.2 i hi).2⟩⟩
    · have hn_hc1 : k < nv := zn_lt (by omega) (by omega) hc1
      refine zw_aload_n 99 f70_98 rfl h0 ?_
      refine zw_iload_n 100 f70_99 rfl h1 ?_
      refine zw_virtual_v 103 0 0 [.ref 22, .int (nI k)] [(0, .ref 22), (1, .int (nI k))] f70_100 rfl n70_193 k70_193_10 rfl (hb_22 _ _ _ _) (by decide +kernel) (Nat.le_of_ble_eq_true rfl) rfl rfl (by decide +kernel) (by decide +kernel) rfl (Nat.le_of_ble_eq_true rfl) rfl ?_
      refine zw_aload_n 1 f74_0 rfl rfl ?_
      refine zw_iload_n 2 f74_1 rfl rfl ?_
      refine zw_iconst 1 3 f74_2 rfl (by decide +kernel) ?_
      refine zw_virtual_i 6 0 0 [.ref 22, .int (nI k), .int 1] [(0, .ref 22), (1, .int (nI k)), (2, .int 1)] f74_3 rfl n74_135 k74_135_10 rfl (hb_22 _ _ _ _) (by decide +kernel) (Nat.le_of_ble_eq_true rfl) rfl rfl (by decide +kernel) (by decide +kernel) rfl (Nat.le_of_ble_eq_true rfl) rfl ?_
      refine zw_aload_n 1 f56_0 rfl rfl ?_
      refine zw_getfield 4 f56_1 rfl g56_37_10 (hb_22 _ _ _ _) rfl ?_
      refine zw_iload_n 5 f56_4 rfl rfl ?_
      refine zw_virtual_i 8 0 0 [.ref 1, .int (nI k)] [(0, .ref 1), (1, .int (nI k))] f56_5 rfl n56_145 k56_145_4 rfl (hb_1 _ _ _ _) (by decide +kernel) (Nat.le_of_ble_eq_true rfl) rfl rfl (by decide +kernel) (by decide +kernel) rfl (Nat.le_of_ble_eq_true rfl) rfl ?_
      refine zw_iload_n 1 f17_0 rfl rfl ?_
      refine zw_if_lt_f 4 22 f17_1 (by decide +kernel) rfl (nI_pos (by omega)) ?_
      refine zw_iload_n 5 f17_4 rfl rfl ?_
      refine zw_aload_n 6 f17_5 rfl rfl ?_
      refine zw_getI (nI nv) 9 f17_6 rfl g17_39_4 (hb_1 _ _ _ _) rfl hR1.1.1 ?_
      refine zw_ic_ge_f 12 22 f17_9 (by decide +kernel) rfl hc1 ?_
      refine zw_iload_n 13 f17_12 rfl rfl ?_
      refine zw_bipush 8 15 f17_13 rfl (by decide +kernel) ?_
      refine zw_ic_ge_f 18 22 f17_15 (by decide +kernel) rfl (fun q => absurd (zn_ge (a := 8) (b := k) (by omega) (by omega) q) (by omega)) ?_
      refine zw_iconst 1 19 f17_18 rfl (by decide +kernel) ?_
      refine zw_goto 23 f17_19 (by decide +kernel) ?_
      refine zw_istore_n _ 24 f17_23 rfl (by decide +kernel) rfl ?_
      refine zw_iload_n 25 f17_24 rfl zl1_eq ?_
      refine zw_if_eq_f 28 52 f17_25 (by decide +kernel) rfl (by decide +kernel) ?_
      refine zw_aload_n 29 f17_28 rfl (zl1_ne rfl rfl rfl) ?_
      refine zw_getfield 32 f17_29 rfl g17_9_4 (hb_1 _ _ _ _) rfl ?_
      refine zw_iload_n 33 f17_32 rfl (zl1_ne rfl rfl rfl) ?_
      refine zw_iaload k (P 53 k) 34 f17_33 rfl (hb_2 _ _ _ _) (nI_clamp (by omega)) (nI_pos (by omega)) (by omega) (congrFun ((hR1.2.1 53 (by omega) (by omega))) k) ?_
      refine zw_iconst 3 35 f17_34 rfl (by decide +kernel) ?_
      refine zw_ic_eq 38 48 f17_35 (by decide +kernel) rfl (fun hc2 => ?_) (fun hc2 => ?_)
      · have eY := qN_y (kind := P 53) (k := k) (show s34 (P 53 k) from Or.inl hc2)
        have eM := qN_mo (s := s34) (kind := P 53) (k := k + 1) nv (by omega)
        have he8 : ev.length < 8 := by omega
        refine zw_iconst 1 49 f17_48 rfl (by decide +kernel) ?_
        refine zw_goto 53 f17_49 (by decide +kernel) ?_
        refine zw_zreturn f17_53 r17 u17 (by decide +kernel) ⟨_, rfl, ?_⟩
        refine zw_if_eq_f 11 23 f56_8 (by decide +kernel) rfl (by decide +kernel) ?_
        refine zw_aload_n 12 f56_11 rfl rfl ?_
        refine zw_getfield 15 f56_12 rfl g56_37_10 (hb_22 _ _ _ _) rfl ?_
        refine zw_getfield 18 f56_15 rfl g56_148_4 (hb_1 _ _ _ _) rfl ?_
        refine zw_iload_n 19 f56_18 rfl rfl ?_
        rcases (hp.2.2.1 k (by omega)).2.2.2.1 with t3q | ⟨t3, t3l, t3n, t3q⟩
        · refine zw_iaload k (-1) 20 f56_19 rfl (hb_6 _ _ _ _) (nI_clamp (by omega)) (nI_pos (by omega)) (by omega) ((congrFun (hR1.2.1 57 (by omega) (by omega)) k).trans t3q) ?_
          refine zw_goto 24 f56_20 (by decide +kernel) ?_
          refine zw_istore_n _ 25 f56_24 rfl (by decide +kernel) rfl ?_
          refine zw_iload_n 26 f56_25 rfl zl1_eq ?_
          refine zw_iconst (-1) 27 f56_26 rfl (by decide +kernel) ?_
          refine zw_ic_eq_t 46 f56_27 (by decide +kernel) (by decide +kernel) ?_
          refine zw_iconst 0 47 f56_46 rfl (by decide +kernel) ?_
          refine zw_zreturn f56_47 r56 u56 (by decide +kernel) ⟨_, rfl, ?_⟩
          refine zw_if_eq_t 79 f74_6 (by decide +kernel) (by decide +kernel) ?_
          refine zw_aload_n 80 f74_79 rfl rfl ?_
          refine zw_iload_n 81 f74_80 rfl rfl ?_
          refine zw_iconst 0 82 f74_81 rfl (by decide +kernel) ?_
          refine zw_virtual_i 85 0 0 [.ref 22, .int (nI k), .int 0] [(0, .ref 22), (1, .int (nI k)), (2, .int 0)] f74_82 rfl n74_135 k74_135_10 rfl (hb_22 _ _ _ _) (by decide +kernel) (Nat.le_of_ble_eq_true rfl) rfl rfl (by decide +kernel) (by decide +kernel) rfl (Nat.le_of_ble_eq_true rfl) rfl ?_
          refine zw_aload_n 1 f56_0 rfl rfl ?_
          refine zw_getfield 4 f56_1 rfl g56_37_10 (hb_22 _ _ _ _) rfl ?_
          refine zw_iload_n 5 f56_4 rfl rfl ?_
          refine zw_virtual_i 8 0 0 [.ref 1, .int (nI k)] [(0, .ref 1), (1, .int (nI k))] f56_5 rfl n56_145 k56_145_4 rfl (hb_1 _ _ _ _) (by decide +kernel) (Nat.le_of_ble_eq_true rfl) rfl rfl (by decide +kernel) (by decide +kernel) rfl (Nat.le_of_ble_eq_true rfl) rfl ?_
          refine zw_iload_n 1 f17_0 rfl rfl ?_
          refine zw_if_lt_f 4 22 f17_1 (by decide +kernel) rfl (nI_pos (by omega)) ?_
          refine zw_iload_n 5 f17_4 rfl rfl ?_
          refine zw_aload_n 6 f17_5 rfl rfl ?_
          refine zw_getI (nI nv) 9 f17_6 rfl g17_39_4 (hb_1 _ _ _ _) rfl hR1.1.1 ?_
          refine zw_ic_ge_f 12 22 f17_9 (by decide +kernel) rfl hc1 ?_
          refine zw_iload_n 13 f17_12 rfl rfl ?_
          refine zw_bipush 8 15 f17_13 rfl (by decide +kernel) ?_
          refine zw_ic_ge_f 18 22 f17_15 (by decide +kernel) rfl (fun q => absurd (zn_ge (a := 8) (b := k) (by omega) (by omega) q) (by omega)) ?_
          refine zw_iconst 1 19 f17_18 rfl (by decide +kernel) ?_
          refine zw_goto 23 f17_19 (by decide +kernel) ?_
          refine zw_istore_n _ 24 f17_23 rfl (by decide +kernel) rfl ?_
          refine zw_iload_n 25 f17_24 rfl zl1_eq ?_
          refine zw_if_eq_f 28 52 f17_25 (by decide +kernel) rfl (by decide +kernel) ?_
          refine zw_aload_n 29 f17_28 rfl (zl1_ne rfl rfl rfl) ?_
          refine zw_getfield 32 f17_29 rfl g17_9_4 (hb_1 _ _ _ _) rfl ?_
          refine zw_iload_n 33 f17_32 rfl (zl1_ne rfl rfl rfl) ?_
          refine zw_iaload k (P 53 k) 34 f17_33 rfl (hb_2 _ _ _ _) (nI_clamp (by omega)) (nI_pos (by omega)) (by omega) (congrFun ((hR1.2.1 53 (by omega) (by omega))) k) ?_
          refine zw_iconst 3 35 f17_34 rfl (by decide +kernel) ?_
          refine zw_ic_eq_t 48 f17_35 (by decide +kernel) hc2 ?_
          refine zw_iconst 1 49 f17_48 rfl (by decide +kernel) ?_
          refine zw_goto 53 f17_49 (by decide +kernel) ?_
          refine zw_zreturn f17_53 r17 u17 (by decide +kernel) ⟨_, rfl, ?_⟩
          refine zw_if_eq_f 11 23 f56_8 (by decide +kernel) rfl (by decide +kernel) ?_
          refine zw_aload_n 12 f56_11 rfl rfl ?_
          refine zw_getfield 15 f56_12 rfl g56_37_10 (hb_22 _ _ _ _) rfl ?_
          refine zw_getfield 18 f56_15 rfl g56_148_4 (hb_1 _ _ _ _) rfl ?_
          refine zw_iload_n 19 f56_18 rfl rfl ?_
          refine zw_iaload k (-1) 20 f56_19 rfl (hb_6 _ _ _ _) (nI_clamp (by omega)) (nI_pos (by omega)) (by omega) ((congrFun (hR1.2.1 57 (by omega) (by omega)) k).trans t3q) ?_
          refine zw_goto 24 f56_20 (by decide +kernel) ?_
          refine zw_istore_n _ 25 f56_24 rfl (by decide +kernel) rfl ?_
          refine zw_iload_n 26 f56_25 rfl zl1_eq ?_
          refine zw_iconst (-1) 27 f56_26 rfl (by decide +kernel) ?_
          refine zw_ic_eq_t 46 f56_27 (by decide +kernel) (by decide +kernel) ?_
          refine zw_iconst 0 47 f56_46 rfl (by decide +kernel) ?_
          refine zw_zreturn f56_47 r56 u56 (by decide +kernel) ⟨_, rfl, ?_⟩
          refine zw_if_eq_t 142 f74_85 (by decide +kernel) (by decide +kernel) ?_
          refine zw_vreturn f74_142 r74 u74 ⟨rfl, ?_⟩
          refine zw_iinc (nI (k + 1)) _ 106 f70_103 rfl h1 (by decide +kernel) (nI_1 _) rfl ?_
          refine zw_goto 87 f70_106 (by decide +kernel) ?_
          have E : wT3 nv P W (k + 1) = (lev, dr, sip, opn, cnt, ev) := by
            show qFlo1 (P 53) (P 55) (P 56) (P 57) W.1 k (wT3 nv P W k) = _
            rw [hm]
            exact qFlo1_b t3q
          exact ih (k + 1) _ _ _ _ _ _ _ _ _ _ _ K0 E hR1 hH (zl1_ne rfl rfl h0) zl1_eq (by omega) (by omega)
        · refine zw_iaload k (nI t3) 20 f56_19 rfl (hb_6 _ _ _ _) (nI_clamp (by omega)) (nI_pos (by omega)) (by omega) ((congrFun (hR1.2.1 57 (by omega) (by omega)) k).trans t3q) ?_
          refine zw_goto 24 f56_20 (by decide +kernel) ?_
          refine zw_istore_n _ 25 f56_24 rfl (by decide +kernel) rfl ?_
          refine zw_iload_n 26 f56_25 rfl zl1_eq ?_
          refine zw_iconst (-1) 27 f56_26 rfl (by decide +kernel) ?_
          refine zw_ic_eq_f 30 46 f56_27 (by decide +kernel) rfl (nI_nem (by omega)) ?_
          refine zw_aload_n 31 f56_30 rfl (zl1_ne rfl rfl rfl) ?_
          refine zw_getfield 34 f56_31 rfl g56_12_10 (hb_22 _ _ _ _) rfl ?_
          refine zw_iload_n 35 f56_34 rfl zl1_eq ?_
          refine zw_virtual_i 38 0 0 [.ref 23, .int (nI t3)] [(0, .ref 23), (1, .int (nI t3))] f56_35 rfl n56_47 k56_47_9 rfl (hb_23 _ _ _ _) (by decide +kernel) (Nat.le_of_ble_eq_true rfl) rfl rfl (by decide +kernel) (by decide +kernel) rfl (Nat.le_of_ble_eq_true rfl) rfl ?_
          refine zWp.mono (cx_isOpen_22 ro nv np P (wMid W (lev, dr, sip, opn, cnt, ev)) _ _ _ _ hR1 hp hbm t3 (by omega)) ?_
          rintro r h1 ⟨rfl, rfl⟩
          refine ⟨_, rfl, ?_⟩
          refine zw_iload_n 39 f56_38 rfl (zl1_ne rfl rfl rfl) ?_
          refine zw_ic_ne 42 46 f56_39 (by decide +kernel) rfl (fun hc4 => ?_) (fun hc4 => ?_)
          · refine zw_iconst 0 47 f56_46 rfl (by decide +kernel) ?_
            refine zw_zreturn f56_47 r56 u56 (by decide +kernel) ⟨_, rfl, ?_⟩
            refine zw_if_eq_t 79 f74_6 (by decide +kernel) (by decide +kernel) ?_
            refine zw_aload_n 80 f74_79 rfl rfl ?_
            refine zw_iload_n 81 f74_80 rfl rfl ?_
            refine zw_iconst 0 82 f74_81 rfl (by decide +kernel) ?_
            refine zw_virtual_i 85 0 0 [.ref 22, .int (nI k), .int 0] [(0, .ref 22), (1, .int (nI k)), (2, .int 0)] f74_82 rfl n74_135 k74_135_10 rfl (hb_22 _ _ _ _) (by decide +kernel) (Nat.le_of_ble_eq_true rfl) rfl rfl (by decide +kernel) (by decide +kernel) rfl (Nat.le_of_ble_eq_true rfl) rfl ?_
            refine zw_aload_n 1 f56_0 rfl rfl ?_
            refine zw_getfield 4 f56_1 rfl g56_37_10 (hb_22 _ _ _ _) rfl ?_
            refine zw_iload_n 5 f56_4 rfl rfl ?_
            refine zw_virtual_i 8 0 0 [.ref 1, .int (nI k)] [(0, .ref 1), (1, .int (nI k))] f56_5 rfl n56_145 k56_145_4 rfl (hb_1 _ _ _ _) (by decide +kernel) (Nat.le_of_ble_eq_true rfl) rfl rfl (by decide +kernel) (by decide +kernel) rfl (Nat.le_of_ble_eq_true rfl) rfl ?_
            refine zw_iload_n 1 f17_0 rfl rfl ?_
            refine zw_if_lt_f 4 22 f17_1 (by decide +kernel) rfl (nI_pos (by omega)) ?_
            refine zw_iload_n 5 f17_4 rfl rfl ?_
            refine zw_aload_n 6 f17_5 rfl rfl ?_
            refine zw_getI (nI nv) 9 f17_6 rfl g17_39_4 (hb_1 _ _ _ _) rfl hR1.1.1 ?_
            refine zw_ic_ge_f 12 22 f17_9 (by decide +kernel) rfl hc1 ?_
            refine zw_iload_n 13 f17_12 rfl rfl ?_
            refine zw_bipush 8 15 f17_13 rfl (by decide +kernel) ?_
            refine zw_ic_ge_f 18 22 f17_15 (by decide +kernel) rfl (fun q => absurd (zn_ge (a := 8) (b := k) (by omega) (by omega) q) (by omega)) ?_
            refine zw_iconst 1 19 f17_18 rfl (by decide +kernel) ?_
            refine zw_goto 23 f17_19 (by decide +kernel) ?_
            refine zw_istore_n _ 24 f17_23 rfl (by decide +kernel) rfl ?_
            refine zw_iload_n 25 f17_24 rfl zl1_eq ?_
            refine zw_if_eq_f 28 52 f17_25 (by decide +kernel) rfl (by decide +kernel) ?_
            refine zw_aload_n 29 f17_28 rfl (zl1_ne rfl rfl rfl) ?_
            refine zw_getfield 32 f17_29 rfl g17_9_4 (hb_1 _ _ _ _) rfl ?_
            refine zw_iload_n 33 f17_32 rfl (zl1_ne rfl rfl rfl) ?_
            refine zw_iaload k (P 53 k) 34 f17_33 rfl (hb_2 _ _ _ _) (nI_clamp (by omega)) (nI_pos (by omega)) (by omega) (congrFun ((hR1.2.1 53 (by omega) (by omega))) k) ?_
            refine zw_iconst 3 35 f17_34 rfl (by decide +kernel) ?_
            refine zw_ic_eq_t 48 f17_35 (by decide +kernel) hc2 ?_
            refine zw_iconst 1 49 f17_48 rfl (by decide +kernel) ?_
            refine zw_goto 53 f17_49 (by decide +kernel) ?_
            refine zw_zreturn f17_53 r17 u17 (by decide +kernel) ⟨_, rfl, ?_⟩
            refine zw_if_eq_f 11 23 f56_8 (by decide +kernel) rfl (by decide +kernel) ?_
            refine zw_aload_n 12 f56_11 rfl rfl ?_
            refine zw_getfield 15 f56_12 rfl g56_37_10 (hb_22 _ _ _ _) rfl ?_
            refine zw_getfield 18 f56_15 rfl g56_148_4 (hb_1 _ _ _ _) rfl ?_
            refine zw_iload_n 19 f56_18 rfl rfl ?_
            refine zw_iaload k (nI t3) 20 f56_19 rfl (hb_6 _ _ _ _) (nI_clamp (by omega)) (nI_pos (by omega)) (by omega) ((congrFun (hR1.2.1 57 (by omega) (by omega)) k).trans t3q) ?_
            refine zw_goto 24 f56_20 (by decide +kernel) ?_
            refine zw_istore_n _ 25 f56_24 rfl (by decide +kernel) rfl ?_
            refine zw_iload_n 26 f56_25 rfl zl1_eq ?_
            refine zw_iconst (-1) 27 f56_26 rfl (by decide +kernel) ?_
            refine zw_ic_eq_f 30 46 f56_27 (by decide +kernel) rfl (nI_nem (by omega)) ?_
            refine zw_aload_n 31 f56_30 rfl (zl1_ne rfl rfl rfl) ?_
            refine zw_getfield 34 f56_31 rfl g56_12_10 (hb_22 _ _ _ _) rfl ?_
            refine zw_iload_n 35 f56_34 rfl zl1_eq ?_
            refine zw_virtual_i 38 0 0 [.ref 23, .int (nI t3)] [(0, .ref 23), (1, .int (nI t3))] f56_35 rfl n56_47 k56_47_9 rfl (hb_23 _ _ _ _) (by decide +kernel) (Nat.le_of_ble_eq_true rfl) rfl rfl (by decide +kernel) (by decide +kernel) rfl (Nat.le_of_ble_eq_true rfl) rfl ?_
            refine zWp.mono (cx_isOpen_22 ro nv np P (wMid W (lev, dr, sip, opn, cnt, ev)) _ _ _ _ hR1 hp hbm t3 (by omega)) ?_
            rintro r h1 ⟨rfl, rfl⟩
            refine ⟨_, rfl, ?_⟩
            refine zw_iload_n 39 f56_38 rfl (zl1_ne rfl rfl rfl) ?_
            refine zw_ic_ne_f 42 46 f56_39 (by decide +kernel) rfl (fun q => q ((hbm.1 _ (by omega)).resolve_right hc4)) ?_
            refine zw_iconst 1 43 f56_42 rfl (by decide +kernel) ?_
            refine zw_goto 47 f56_43 (by decide +kernel) ?_
            refine zw_zreturn f56_47 r56 u56 (by decide +kernel) ⟨_, rfl, ?_⟩
            refine zw_if_eq_f 88 142 f74_85 (by decide +kernel) rfl (by decide +kernel) ?_
            refine zw_aload_n 89 f74_88 rfl rfl ?_
            refine zw_getfield 92 f74_89 rfl g74_12_10 (hb_22 _ _ _ _) rfl ?_
            refine zw_getfield 95 f74_92 rfl g74_87_9 (hb_23 _ _ _ _) rfl ?_
            refine zw_iload_n 96 f74_95 rfl rfl ?_
            refine zw_laload k (lev k) 97 f74_96 rfl (hb_24 _ _ _ _) (nI_clamp (by omega)) (nI_pos (by omega)) (by omega) (congrFun (hR1.2.2.2.1) k) ?_
            refine zw_aload_n 98 f74_97 rfl rfl ?_
            refine zw_getfield 101 f74_98 rfl g74_37_10 (hb_22 _ _ _ _) rfl ?_
            refine zw_getfield 104 f74_101 rfl g74_142_4 (hb_1 _ _ _ _) rfl ?_
            refine zw_iload_n 105 f74_104 rfl rfl ?_
            refine zw_iaload k (P 56 k) 106 f74_105 rfl (hb_5 _ _ _ _) (nI_clamp (by omega)) (nI_pos (by omega)) (by omega) (congrFun ((hR1.2.1 56 (by omega) (by omega))) k) ?_
            refine zw_i2l (Int32.toInt64 (P 56 k)) 107 f74_106 rfl rfl ?_
            refine zw_aload_n 108 f74_107 rfl rfl ?_
            refine zw_getfield 111 f74_108 rfl g74_12_10 (hb_22 _ _ _ _) rfl ?_
            refine zw_getG W.1 114 f74_111 rfl g74_109_9 (hb_23 _ _ _ _) rfl hR1.2.2.1.1 ?_
            refine zw_lmul ((Int32.toInt64 (P 56 k)) * W.1) 115 f74_114 rfl rfl ?_
            refine zw_lcmp (lg_cmp (lev k) ((Int32.toInt64 (P 56 k)) * W.1)) 116 f74_115 rfl rfl ?_
            refine zw_if_gt 119 142 f74_116 (by decide +kernel) rfl (fun hc5 => ?_) (fun hc5 => ?_)
            · refine zw_vreturn f74_142 r74 u74 ⟨rfl, ?_⟩
              refine zw_iinc (nI (k + 1)) _ 106 f70_103 rfl h1 (by decide +kernel) (nI_1 _) rfl ?_
              refine zw_goto 87 f70_106 (by decide +kernel) ?_
              have E : wT3 nv P W (k + 1) = (lev, dr, sip, opn, cnt, ev) := by
                show qFlo1 (P 53) (P 55) (P 56) (P 57) W.1 k (wT3 nv P W k) = _
                rw [hm]
                exact (qFlo1_o (Or.inl hc2) t3q (by omega)).trans (qFlo2_c ((hbm.1 _ (by omega)).resolve_right hc4) (Int64.not_le.mpr ((lg_cmp_gt _ _).mp hc5)))
              exact ih (k + 1) _ _ _ _ _ _ _ _ _ _ _ K0 E hR1 hH (zl1_ne rfl rfl h0) zl1_eq (by omega) (by omega)
            · refine zw_aload_n 120 f74_119 rfl rfl ?_
              refine zw_getfield 123 f74_120 rfl g74_12_10 (hb_22 _ _ _ _) rfl ?_
              refine zw_aload_n 124 f74_123 rfl rfl ?_
              refine zw_getfield 127 f74_124 rfl g74_37_10 (hb_22 _ _ _ _) rfl ?_
              refine zw_getfield 130 f74_127 rfl g74_148_4 (hb_1 _ _ _ _) rfl ?_
              refine zw_iload_n 131 f74_130 rfl rfl ?_
              refine zw_iaload k (nI t3) 132 f74_131 rfl (hb_6 _ _ _ _) (nI_clamp (by omega)) (nI_pos (by omega)) (by omega) ((congrFun (hR1.2.1 57 (by omega) (by omega)) k).trans t3q) ?_
              refine zw_iconst 1 133 f74_132 rfl (by decide +kernel) ?_
              refine zw_virtual_v 136 0 0 [.ref 23, .int (nI t3), .int 1] [(0, .ref 23), (1, .int (nI t3)), (2, .int 1)] f74_133 rfl n74_212 k74_212_9 rfl (hb_23 _ _ _ _) (by decide +kernel) (Nat.le_of_ble_eq_true rfl) rfl rfl (by decide +kernel) (by decide +kernel) rfl (Nat.le_of_ble_eq_true rfl) rfl ?_
              refine zw_aload_n 1 f44_0 rfl rfl ?_
              refine zw_iload_n 2 f44_1 rfl rfl ?_
              refine zw_if_eq_f 5 16 f44_2 (by decide +kernel) rfl (by decide +kernel) ?_
              refine zw_aload_n 6 f44_5 rfl rfl ?_
              refine zw_getI (I1 23 5) 9 f44_6 rfl g44_38_9 (hb_23 _ _ _ _) rfl rfl ?_
              refine zw_iconst 1 10 f44_9 rfl (by decide +kernel) ?_
              refine zw_iload_n 11 f44_10 rfl rfl ?_
              refine zw_ishl (1 <<< ((nI t3) &&& 31)) 12 f44_11 rfl rfl ?_
              refine zw_ior ((I1 23 5) ||| (1 <<< ((nI t3) &&& 31))) 13 f44_12 rfl rfl ?_
              refine zw_goto 26 f44_13 (by decide +kernel) ?_
              refine zw_put _ 29 f44_26 rfl g44_38_9 (hb_23 _ _ _ _) rfl (Nat.le_of_ble_eq_true rfl) (by decide +kernel) (hi_23_5 _ _ _ _ _) ?_
              refine zw_vreturn f44_29 r44 u44 ⟨rfl, ?_⟩
              refine zw_aload_n 137 f74_136 rfl rfl ?_
              refine zw_iconst 5 138 f74_137 rfl (by decide +kernel) ?_
              refine zw_iload_n 139 f74_138 rfl rfl ?_
              refine zw_virtual_v 142 0 0 [.ref 22, .int 5, .int (nI k)] [(0, .ref 22), (1, .int 5), (2, .int (nI k))] f74_139 rfl n74_203 k74_203_10 rfl (hb_22 _ _ _ _) (by decide +kernel) (Nat.le_of_ble_eq_true rfl) rfl rfl (by decide +kernel) (by decide +kernel) rfl (Nat.le_of_ble_eq_true rfl) rfl ?_
              refine zw_aload_n 1 f75_0 rfl rfl ?_
              refine zw_getI (nI ev.length) 4 f75_1 rfl g75_161_10 (hb_22 _ _ _ _) rfl hH.1 ?_
              refine zw_bipush 8 6 f75_4 rfl (by decide +kernel) ?_
              refine zw_ic_ge_f 9 39 f75_6 (by decide +kernel) rfl (fun q => absurd (zn_ge (a := 8) (b := ev.length) (by omega) (by omega) q) (by omega)) ?_
              refine zw_aload_n 10 f75_9 rfl rfl ?_
              refine zw_getfield 13 f75_10 rfl g75_31_10 (hb_22 _ _ _ _) rfl ?_
              refine zw_aload_n 14 f75_13 rfl rfl ?_
              refine zw_getI (nI ev.length) 17 f75_14 rfl g75_161_10 (hb_22 _ _ _ _) rfl hH.1 ?_
              refine zw_iload_n 18 f75_17 rfl rfl ?_
              refine zw_ast ev.length _ 19 f75_18 rfl (hb_31 _ _ _ _) (nI_clamp (by omega)) (nI_pos (by omega)) (by omega) (ha_31 _ _ _ _ _) ?_
              refine zw_aload_n 20 f75_19 rfl rfl ?_
              refine zw_getfield 23 f75_20 rfl g75_34_10 (hb_22 _ _ _ _) rfl ?_
              refine zw_aload_n 24 f75_23 rfl rfl ?_
              refine zw_getI (nI ev.length) 27 f75_24 rfl g75_161_10 (hb_22 _ _ _ _) rfl hH.1 ?_
              refine zw_iload_n 28 f75_27 rfl rfl ?_
              refine zw_ast ev.length _ 29 f75_28 rfl (hb_32 _ _ _ _) (nI_clamp (by omega)) (nI_pos (by omega)) (by omega) (ha_32 _ _ _ _ _) ?_
              refine zw_aload_n 30 f75_29 rfl rfl ?_
              refine zw_dup 31 f75_30 rfl rfl ?_
              refine zw_getI (nI ev.length) 34 f75_31 rfl g75_161_10 (hb_22 _ _ _ _) rfl hH.1 ?_
              refine zw_iconst 1 35 f75_34 rfl (by decide +kernel) ?_
              refine zw_iadd (nI (ev.length + 1)) 36 f75_35 rfl (nI_add _ 1) ?_
              refine zw_put _ 39 f75_36 rfl g75_161_10 (hb_22 _ _ _ _) rfl (Nat.le_of_ble_eq_true rfl) (by decide +kernel) (hi_22_12 _ _ _ _ _) ?_
              refine zw_vreturn f75_39 r75 u75 ⟨rfl, ?_⟩
              refine zw_vreturn f74_142 r74 u74 ⟨rfl, ?_⟩
              refine zw_iinc (nI (k + 1)) _ 106 f70_103 rfl h1 (by decide +kernel) (nI_1 _) rfl ?_
              refine zw_goto 87 f70_106 (by decide +kernel) ?_
              have E : wT3 nv P W (k + 1) = (lev, dr, sip, (upd opn t3 1), cnt, (ev ++ [(5, nI k)])) := by
                show qFlo1 (P 53) (P 55) (P 56) (P 57) W.1 k (wT3 nv P W k) = _
                rw [hm]
                exact (qFlo1_o (Or.inl hc2) t3q (by omega)).trans (qFlo2_z ((hbm.1 _ (by omega)).resolve_right hc4) (Int64.not_lt.mp (fun q => hc5 ((lg_cmp_gt _ _).mpr q))))
              exact ih (k + 1) _ _ _ _ _ _ _ _ _ _ _ (KQ.i rfl (KQ.a rfl (KQ.a rfl (KQ.i rfl K0)))) E ⟨⟨hR1.1.1, hR1.1.2⟩, PE.of10 ((hR1.2.1 53 (by omega) (by omega))) ((hR1.2.1 54 (by omega) (by omega))) ((hR1.2.1 55 (by omega) (by omega))) ((hR1.2.1 56 (by omega) (by omega))) ((hR1.2.1 57 (by omega) (by omega))) ((hR1.2.1 58 (by omega) (by omega))) ((hR1.2.1 59 (by omega) (by omega))) ((hR1.2.1 60 (by omega) (by omega))) ((hR1.2.1 61 (by omega) (by omega))) ((hR1.2.1 62 (by omega) (by omega))), ⟨hR1.2.2.1.1, hR1.2.2.1.2.1, hR1.2.2.1.2.2.1, hR1.2.2.1.2.2.2⟩, hR1.2.2.2.1, hR1.2.2.2.2.1, ((bOf_set (by omega) (by omega)).trans (congrArg (fun z => upd z t3 1) hR1.2.2.2.2.2.1)), hR1.2.2.2.2.2.2⟩ ⟨(show _ = nI _ by rw [len_s]; rfl), hp_s hH.2 rfl rfl⟩ (zl1_ne rfl rfl h0) zl1_eq (by omega) (by omega)
          · refine zw_iconst 1 43 f56_42 rfl (by decide +kernel) ?_
            refine zw_goto 47 f56_43 (by decide +kernel) ?_
            refine zw_zreturn f56_47 r56 u56 (by decide +kernel) ⟨_, rfl, ?_⟩
            refine zw_if_eq_f 9 79 f74_6 (by decide +kernel) rfl (by decide +kernel) ?_
            refine zw_aload_n 10 f74_9 rfl rfl ?_
            refine zw_getfield 13 f74_10 rfl g74_12_10 (hb_22 _ _ _ _) rfl ?_
            refine zw_getfield 16 f74_13 rfl g74_87_9 (hb_23 _ _ _ _) rfl ?_
            refine zw_iload_n 17 f74_16 rfl rfl ?_
            refine zw_laload k (lev k) 18 f74_17 rfl (hb_24 _ _ _ _) (nI_clamp (by omega)) (nI_pos (by omega)) (by omega) (congrFun (hR1.2.2.2.1) k) ?_
            refine zw_aload_n 19 f74_18 rfl rfl ?_
            refine zw_getfield 22 f74_19 rfl g74_37_10 (hb_22 _ _ _ _) rfl ?_
            refine zw_getfield 25 f74_22 rfl g74_139_4 (hb_1 _ _ _ _) rfl ?_
            refine zw_iload_n 26 f74_25 rfl rfl ?_
            refine zw_iaload k (P 55 k) 27 f74_26 rfl (hb_4 _ _ _ _) (nI_clamp (by omega)) (nI_pos (by omega)) (by omega) (congrFun ((hR1.2.1 55 (by omega) (by omega))) k) ?_
            refine zw_i2l (Int32.toInt64 (P 55 k)) 28 f74_27 rfl rfl ?_
            refine zw_aload_n 29 f74_28 rfl rfl ?_
            refine zw_getfield 32 f74_29 rfl g74_12_10 (hb_22 _ _ _ _) rfl ?_
            refine zw_getG W.1 35 f74_32 rfl g74_109_9 (hb_23 _ _ _ _) rfl hR1.2.2.1.1 ?_
            refine zw_lmul ((Int32.toInt64 (P 55 k)) * W.1) 36 f74_35 rfl rfl ?_
            refine zw_lcmp (lg_cmp (lev k) ((Int32.toInt64 (P 55 k)) * W.1)) 37 f74_36 rfl rfl ?_
            refine zw_if_lt 40 142 f74_37 (by decide +kernel) rfl (fun hc6 => ?_) (fun hc6 => ?_)
            · refine zw_vreturn f74_142 r74 u74 ⟨rfl, ?_⟩
              refine zw_iinc (nI (k + 1)) _ 106 f70_103 rfl h1 (by decide +kernel) (nI_1 _) rfl ?_
              refine zw_goto 87 f70_106 (by decide +kernel) ?_
              have E : wT3 nv P W (k + 1) = (lev, dr, sip, opn, cnt, ev) := by
                show qFlo1 (P 53) (P 55) (P 56) (P 57) W.1 k (wT3 nv P W k) = _
                rw [hm]
                exact (qFlo1_o (Or.inl hc2) t3q (by omega)).trans (qFlo2_b (fun z => absurd (z.symm.trans (Decidable.of_not_not hc4)) (by decide)) (Int64.not_le.mpr ((lg_cmp_lt _ _).mp hc6)))
              exact ih (k + 1) _ _ _ _ _ _ _ _ _ _ _ K0 E hR1 hH (zl1_ne rfl rfl h0) zl1_eq (by omega) (by omega)
            · refine zw_aload_n 41 f74_40 rfl rfl ?_
              refine zw_getfield 44 f74_41 rfl g74_12_10 (hb_22 _ _ _ _) rfl ?_
              refine zw_aload_n 45 f74_44 rfl rfl ?_
              refine zw_getfield 48 f74_45 rfl g74_37_10 (hb_22 _ _ _ _) rfl ?_
              refine zw_getfield 51 f74_48 rfl g74_148_4 (hb_1 _ _ _ _) rfl ?_
              refine zw_iload_n 52 f74_51 rfl rfl ?_
              refine zw_iaload k (nI t3) 53 f74_52 rfl (hb_6 _ _ _ _) (nI_clamp (by omega)) (nI_pos (by omega)) (by omega) ((congrFun (hR1.2.1 57 (by omega) (by omega)) k).trans t3q) ?_
              refine zw_iconst 0 54 f74_53 rfl (by decide +kernel) ?_
              refine zw_virtual_v 57 0 0 [.ref 23, .int (nI t3), .int 0] [(0, .ref 23), (1, .int (nI t3)), (2, .int 0)] f74_54 rfl n74_212 k74_212_9 rfl (hb_23 _ _ _ _) (by decide +kernel) (Nat.le_of_ble_eq_true rfl) rfl rfl (by decide +kernel) (by decide +kernel) rfl (Nat.le_of_ble_eq_true rfl) rfl ?_
              refine zw_aload_n 1 f44_0 rfl rfl ?_
              refine zw_iload_n 2 f44_1 rfl rfl ?_
              refine zw_if_eq_t 16 f44_2 (by decide +kernel) (by decide +kernel) ?_
              refine zw_aload_n 17 f44_16 rfl rfl ?_
              refine zw_getI (I1 23 5) 20 f44_17 rfl g44_38_9 (hb_23 _ _ _ _) rfl rfl ?_
              refine zw_iconst 1 21 f44_20 rfl (by decide +kernel) ?_
              refine zw_iload_n 22 f44_21 rfl rfl ?_
              refine zw_ishl (1 <<< ((nI t3) &&& 31)) 23 f44_22 rfl rfl ?_
              refine zw_iconst (-1) 24 f44_23 rfl (by decide +kernel) ?_
              refine zw_ixor ((1 <<< ((nI t3) &&& 31)) ^^^ (-1)) 25 f44_24 rfl rfl ?_
              refine zw_iand ((I1 23 5) &&& ((1 <<< ((nI t3) &&& 31)) ^^^ (-1))) 26 f44_25 rfl rfl ?_
              refine zw_put _ 29 f44_26 rfl g44_38_9 (hb_23 _ _ _ _) rfl (Nat.le_of_ble_eq_true rfl) (by decide +kernel) (hi_23_5 _ _ _ _ _) ?_
              refine zw_vreturn f44_29 r44 u44 ⟨rfl, ?_⟩
              refine zw_aload_n 58 f74_57 rfl rfl ?_
              refine zw_getfield 61 f74_58 rfl g74_12_10 (hb_22 _ _ _ _) rfl ?_
              refine zw_getfield 64 f74_61 rfl g74_215_9 (hb_23 _ _ _ _) rfl ?_
              refine zw_iload_n 65 f74_64 rfl rfl ?_
              refine zw_dup2 66 f74_65 rfl rfl rfl ?_
              refine zw_iaload k (A1 25 k) 67 f74_66 rfl (hb_25 _ _ _ _) (nI_clamp (by omega)) (nI_pos (by omega)) (by omega) rfl ?_
              refine zw_iconst 1 68 f74_67 rfl (by decide +kernel) ?_
              refine zw_iadd ((A1 25 k) + 1) 69 f74_68 rfl rfl ?_
              refine zw_ast k _ 70 f74_69 rfl (hb_25 _ _ _ _) (nI_clamp (by omega)) (nI_pos (by omega)) (by omega) (ha_25 _ _ _ _ _) ?_
              refine zw_aload_n 71 f74_70 rfl rfl ?_
              refine zw_iconst 4 72 f74_71 rfl (by decide +kernel) ?_
              refine zw_iload_n 73 f74_72 rfl rfl ?_
              refine zw_virtual_v 76 0 0 [.ref 22, .int 4, .int (nI k)] [(0, .ref 22), (1, .int 4), (2, .int (nI k))] f74_73 rfl n74_203 k74_203_10 rfl (hb_22 _ _ _ _) (by decide +kernel) (Nat.le_of_ble_eq_true rfl) rfl rfl (by decide +kernel) (by decide +kernel) rfl (Nat.le_of_ble_eq_true rfl) rfl ?_
              refine zw_aload_n 1 f75_0 rfl rfl ?_
              refine zw_getI (nI ev.length) 4 f75_1 rfl g75_161_10 (hb_22 _ _ _ _) rfl hH.1 ?_
              refine zw_bipush 8 6 f75_4 rfl (by decide +kernel) ?_
              refine zw_ic_ge_f 9 39 f75_6 (by decide +kernel) rfl (fun q => absurd (zn_ge (a := 8) (b := ev.length) (by omega) (by omega) q) (by omega)) ?_
              refine zw_aload_n 10 f75_9 rfl rfl ?_
              refine zw_getfield 13 f75_10 rfl g75_31_10 (hb_22 _ _ _ _) rfl ?_
              refine zw_aload_n 14 f75_13 rfl rfl ?_
              refine zw_getI (nI ev.length) 17 f75_14 rfl g75_161_10 (hb_22 _ _ _ _) rfl hH.1 ?_
              refine zw_iload_n 18 f75_17 rfl rfl ?_
              refine zw_ast ev.length _ 19 f75_18 rfl (hb_31 _ _ _ _) (nI_clamp (by omega)) (nI_pos (by omega)) (by omega) (ha_31 _ _ _ _ _) ?_
              refine zw_aload_n 20 f75_19 rfl rfl ?_
              refine zw_getfield 23 f75_20 rfl g75_34_10 (hb_22 _ _ _ _) rfl ?_
              refine zw_aload_n 24 f75_23 rfl rfl ?_
              refine zw_getI (nI ev.length) 27 f75_24 rfl g75_161_10 (hb_22 _ _ _ _) rfl hH.1 ?_
              refine zw_iload_n 28 f75_27 rfl rfl ?_
              refine zw_ast ev.length _ 29 f75_28 rfl (hb_32 _ _ _ _) (nI_clamp (by omega)) (nI_pos (by omega)) (by omega) (ha_32 _ _ _ _ _) ?_
              refine zw_aload_n 30 f75_29 rfl rfl ?_
              refine zw_dup 31 f75_30 rfl rfl ?_
              refine zw_getI (nI ev.length) 34 f75_31 rfl g75_161_10 (hb_22 _ _ _ _) rfl hH.1 ?_
              refine zw_iconst 1 35 f75_34 rfl (by decide +kernel) ?_
              refine zw_iadd (nI (ev.length + 1)) 36 f75_35 rfl (nI_add _ 1) ?_
              refine zw_put _ 39 f75_36 rfl g75_161_10 (hb_22 _ _ _ _) rfl (Nat.le_of_ble_eq_true rfl) (by decide +kernel) (hi_22_12 _ _ _ _ _) ?_
              refine zw_vreturn f75_39 r75 u75 ⟨rfl, ?_⟩
              refine zw_goto 142 f74_76 (by decide +kernel) ?_
              refine zw_vreturn f74_142 r74 u74 ⟨rfl, ?_⟩
              refine zw_iinc (nI (k + 1)) _ 106 f70_103 rfl h1 (by decide +kernel) (nI_1 _) rfl ?_
              refine zw_goto 87 f70_106 (by decide +kernel) ?_
              have E : wT3 nv P W (k + 1) = (lev, dr, sip, (upd opn t3 0), (upd cnt k (cnt k + 0)), (ev ++ [(4, nI k)])) := by
                show qFlo1 (P 53) (P 55) (P 56) (P 57) W.1 k (wT3 nv P W k) = _
                rw [hm]
                exact (qFlo1_o (Or.inl hc2) t3q (by omega)).trans (qFlo2_y (fun z => absurd (z.symm.trans (Decidable.of_not_not hc4)) (by decide)) (Int64.not_lt.mp (fun q => hc6 ((lg_cmp_lt _ _).mpr q))) (if_neg (k34n hc2)))
              exact ih (k + 1) _ _ _ _ _ _ _ _ _ _ _ (KQ.i rfl (KQ.a rfl (KQ.a rfl (KQ.a rfl (KQ.i rfl K0))))) E ⟨⟨hR1.1.1, hR1.1.2⟩, PE.of10 ((hR1.2.1 53 (by omega) (by omega))) ((hR1.2.1 54 (by omega) (by omega))) ((hR1.2.1 55 (by omega) (by omega))) ((hR1.2.1 56 (by omega) (by omega))) ((hR1.2.1 57 (by omega) (by omega))) ((hR1.2.1 58 (by omega) (by omega))) ((hR1.2.1 59 (by omega) (by omega))) ((hR1.2.1 60 (by omega) (by omega))) ((hR1.2.1 61 (by omega) (by omega))) ((hR1.2.1 62 (by omega) (by omega))), ⟨hR1.2.2.1.1, hR1.2.2.1.2.1, hR1.2.2.1.2.2.1, hR1.2.2.1.2.2.2⟩, hR1.2.2.2.1, hR1.2.2.2.2.1, ((bOf_clr (by omega) (by omega)).trans (congrArg (fun z => upd z t3 0) hR1.2.2.2.2.2.1)), (cnt_u hR1.2.2.2.2.2.2 (by omega) (fun q4 => absurd q4 (k34n hc2)))⟩ ⟨(show _ = nI _ by rw [len_s]; rfl), hp_s hH.2 rfl rfl⟩ (zl1_ne rfl rfl h0) zl1_eq (by omega) (by omega)
      · refine zw_aload_n 39 f17_38 rfl (zl1_ne rfl rfl rfl) ?_
        refine zw_getfield 42 f17_39 rfl g17_9_4 (hb_1 _ _ _ _) rfl ?_
        refine zw_iload_n 43 f17_42 rfl (zl1_ne rfl rfl rfl) ?_
        refine zw_iaload k (P 53 k) 44 f17_43 rfl (hb_2 _ _ _ _) (nI_clamp (by omega)) (nI_pos (by omega)) (by omega) (congrFun ((hR1.2.1 53 (by omega) (by omega))) k) ?_
        refine zw_iconst 4 45 f17_44 rfl (by decide +kernel) ?_
        refine zw_ic_ne 48 52 f17_45 (by decide +kernel) rfl (fun hc7 => ?_) (fun hc7 => ?_)
        · refine zw_iconst 0 53 f17_52 rfl (by decide +kernel) ?_
          refine zw_zreturn f17_53 r17 u17 (by decide +kernel) ⟨_, rfl, ?_⟩
          refine zw_if_eq_t 23 f56_8 (by decide +kernel) (by decide +kernel) ?_
          refine zw_iconst (-1) 24 f56_23 rfl (by decide +kernel) ?_
          refine zw_istore_n _ 25 f56_24 rfl (by decide +kernel) rfl ?_
          refine zw_iload_n 26 f56_25 rfl zl1_eq ?_
          refine zw_iconst (-1) 27 f56_26 rfl (by decide +kernel) ?_
          refine zw_ic_eq_t 46 f56_27 (by decide +kernel) (by decide +kernel) ?_
          refine zw_iconst 0 47 f56_46 rfl (by decide +kernel) ?_
          refine zw_zreturn f56_47 r56 u56 (by decide +kernel) ⟨_, rfl, ?_⟩
          refine zw_if_eq_t 79 f74_6 (by decide +kernel) (by decide +kernel) ?_
          refine zw_aload_n 80 f74_79 rfl rfl ?_
          refine zw_iload_n 81 f74_80 rfl rfl ?_
          refine zw_iconst 0 82 f74_81 rfl (by decide +kernel) ?_
          refine zw_virtual_i 85 0 0 [.ref 22, .int (nI k), .int 0] [(0, .ref 22), (1, .int (nI k)), (2, .int 0)] f74_82 rfl n74_135 k74_135_10 rfl (hb_22 _ _ _ _) (by decide +kernel) (Nat.le_of_ble_eq_true rfl) rfl rfl (by decide +kernel) (by decide +kernel) rfl (Nat.le_of_ble_eq_true rfl) rfl ?_
          refine zw_aload_n 1 f56_0 rfl rfl ?_
          refine zw_getfield 4 f56_1 rfl g56_37_10 (hb_22 _ _ _ _) rfl ?_
          refine zw_iload_n 5 f56_4 rfl rfl ?_
          refine zw_virtual_i 8 0 0 [.ref 1, .int (nI k)] [(0, .ref 1), (1, .int (nI k))] f56_5 rfl n56_145 k56_145_4 rfl (hb_1 _ _ _ _) (by decide +kernel) (Nat.le_of_ble_eq_true rfl) rfl rfl (by decide +kernel) (by decide +kernel) rfl (Nat.le_of_ble_eq_true rfl) rfl ?_
          refine zw_iload_n 1 f17_0 rfl rfl ?_
          refine zw_if_lt_f 4 22 f17_1 (by decide +kernel) rfl (nI_pos (by omega)) ?_
          refine zw_iload_n 5 f17_4 rfl rfl ?_
          refine zw_aload_n 6 f17_5 rfl rfl ?_
          refine zw_getI (nI nv) 9 f17_6 rfl g17_39_4 (hb_1 _ _ _ _) rfl hR1.1.1 ?_
          refine zw_ic_ge_f 12 22 f17_9 (by decide +kernel) rfl hc1 ?_
          refine zw_iload_n 13 f17_12 rfl rfl ?_
          refine zw_bipush 8 15 f17_13 rfl (by decide +kernel) ?_
          refine zw_ic_ge_f 18 22 f17_15 (by decide +kernel) rfl (fun q => absurd (zn_ge (a := 8) (b := k) (by omega) (by omega) q) (by omega)) ?_
          refine zw_iconst 1 19 f17_18 rfl (by decide +kernel) ?_
          refine zw_goto 23 f17_19 (by decide +kernel) ?_
          refine zw_istore_n _ 24 f17_23 rfl (by decide +kernel) rfl ?_
          refine zw_iload_n 25 f17_24 rfl zl1_eq ?_
          refine zw_if_eq_f 28 52 f17_25 (by decide +kernel) rfl (by decide +kernel) ?_
          refine zw_aload_n 29 f17_28 rfl (zl1_ne rfl rfl rfl) ?_
          refine zw_getfield 32 f17_29 rfl g17_9_4 (hb_1 _ _ _ _) rfl ?_
          refine zw_iload_n 33 f17_32 rfl (zl1_ne rfl rfl rfl) ?_
          refine zw_iaload k (P 53 k) 34 f17_33 rfl (hb_2 _ _ _ _) (nI_clamp (by omega)) (nI_pos (by omega)) (by omega) (congrFun ((hR1.2.1 53 (by omega) (by omega))) k) ?_
          refine zw_iconst 3 35 f17_34 rfl (by decide +kernel) ?_
          refine zw_ic_eq_f 38 48 f17_35 (by decide +kernel) rfl hc2 ?_
          refine zw_aload_n 39 f17_38 rfl (zl1_ne rfl rfl rfl) ?_
          refine zw_getfield 42 f17_39 rfl g17_9_4 (hb_1 _ _ _ _) rfl ?_
          refine zw_iload_n 43 f17_42 rfl (zl1_ne rfl rfl rfl) ?_
          refine zw_iaload k (P 53 k) 44 f17_43 rfl (hb_2 _ _ _ _) (nI_clamp (by omega)) (nI_pos (by omega)) (by omega) (congrFun ((hR1.2.1 53 (by omega) (by omega))) k) ?_
          refine zw_iconst 4 45 f17_44 rfl (by decide +kernel) ?_
          refine zw_ic_ne_t 52 f17_45 (by decide +kernel) hc7 ?_
          refine zw_iconst 0 53 f17_52 rfl (by decide +kernel) ?_
          refine zw_zreturn f17_53 r17 u17 (by decide +kernel) ⟨_, rfl, ?_⟩
          refine zw_if_eq_t 23 f56_8 (by decide +kernel) (by decide +kernel) ?_
          refine zw_iconst (-1) 24 f56_23 rfl (by decide +kernel) ?_
          refine zw_istore_n _ 25 f56_24 rfl (by decide +kernel) rfl ?_
          refine zw_iload_n 26 f56_25 rfl zl1_eq ?_
          refine zw_iconst (-1) 27 f56_26 rfl (by decide +kernel) ?_
          refine zw_ic_eq_t 46 f56_27 (by decide +kernel) (by decide +kernel) ?_
          refine zw_iconst 0 47 f56_46 rfl (by decide +kernel) ?_
          refine zw_zreturn f56_47 r56 u56 (by decide +kernel) ⟨_, rfl, ?_⟩
          refine zw_if_eq_t 142 f74_85 (by decide +kernel) (by decide +kernel) ?_
          refine zw_vreturn f74_142 r74 u74 ⟨rfl, ?_⟩
          refine zw_iinc (nI (k + 1)) _ 106 f70_103 rfl h1 (by decide +kernel) (nI_1 _) rfl ?_
          refine zw_goto 87 f70_106 (by decide +kernel) ?_
          have E : wT3 nv P W (k + 1) = (lev, dr, sip, opn, cnt, ev) := by
            show qFlo1 (P 53) (P 55) (P 56) (P 57) W.1 k (wT3 nv P W k) = _
            rw [hm]
            exact qFlo1_a hc2 hc7
          exact ih (k + 1) _ _ _ _ _ _ _ _ _ _ _ K0 E hR1 hH (zl1_ne rfl rfl h0) zl1_eq (by omega) (by omega)
        · have eY := qN_y (kind := P 53) (k := k) (show s34 (P 53 k) from Or.inr (Decidable.of_not_not hc7))
          have eM := qN_mo (s := s34) (kind := P 53) (k := k + 1) nv (by omega)
          have he8 : ev.length < 8 := by omega
          refine zw_iconst 1 49 f17_48 rfl (by decide +kernel) ?_
          refine zw_goto 53 f17_49 (by decide +kernel) ?_
          refine zw_zreturn f17_53 r17 u17 (by decide +kernel) ⟨_, rfl, ?_⟩
          refine zw_if_eq_f 11 23 f56_8 (by decide +kernel) rfl (by decide +kernel) ?_
          refine zw_aload_n 12 f56_11 rfl rfl ?_
          refine zw_getfield 15 f56_12 rfl g56_37_10 (hb_22 _ _ _ _) rfl ?_
          refine zw_getfield 18 f56_15 rfl g56_148_4 (hb_1 _ _ _ _) rfl ?_
          refine zw_iload_n 19 f56_18 rfl rfl ?_
          rcases (hp.2.2.1 k (by omega)).2.2.2.1 with t8q | ⟨t8, t8l, t8n, t8q⟩
          · refine zw_iaload k (-1) 20 f56_19 rfl (hb_6 _ _ _ _) (nI_clamp (by omega)) (nI_pos (by omega)) (by omega) ((congrFun (hR1.2.1 57 (by omega) (by omega)) k).trans t8q) ?_
            refine zw_goto 24 f56_20 (by decide +kernel) ?_
            refine zw_istore_n _ 25 f56_24 rfl (by decide +kernel) rfl ?_
            refine zw_iload_n 26 f56_25 rfl zl1_eq ?_
            refine zw_iconst (-1) 27 f56_26 rfl (by decide +kernel) ?_
            refine zw_ic_eq_t 46 f56_27 (by decide +kernel) (by decide +kernel) ?_
            refine zw_iconst 0 47 f56_46 rfl (by decide +kernel) ?_
            refine zw_zreturn f56_47 r56 u56 (by decide +kernel) ⟨_, rfl, ?_⟩
            refine zw_if_eq_t 79 f74_6 (by decide +kernel) (by decide +kernel) ?_
            refine zw_aload_n 80 f74_79 rfl rfl ?_
            refine zw_iload_n 81 f74_80 rfl rfl ?_
            refine zw_iconst 0 82 f74_81 rfl (by decide +kernel) ?_
            refine zw_virtual_i 85 0 0 [.ref 22, .int (nI k), .int 0] [(0, .ref 22), (1, .int (nI k)), (2, .int 0)] f74_82 rfl n74_135 k74_135_10 rfl (hb_22 _ _ _ _) (by decide +kernel) (Nat.le_of_ble_eq_true rfl) rfl rfl (by decide +kernel) (by decide +kernel) rfl (Nat.le_of_ble_eq_true rfl) rfl ?_
            refine zw_aload_n 1 f56_0 rfl rfl ?_
            refine zw_getfield 4 f56_1 rfl g56_37_10 (hb_22 _ _ _ _) rfl ?_
            refine zw_iload_n 5 f56_4 rfl rfl ?_
            refine zw_virtual_i 8 0 0 [.ref 1, .int (nI k)] [(0, .ref 1), (1, .int (nI k))] f56_5 rfl n56_145 k56_145_4 rfl (hb_1 _ _ _ _) (by decide +kernel) (Nat.le_of_ble_eq_true rfl) rfl rfl (by decide +kernel) (by decide +kernel) rfl (Nat.le_of_ble_eq_true rfl) rfl ?_
            refine zw_iload_n 1 f17_0 rfl rfl ?_
            refine zw_if_lt_f 4 22 f17_1 (by decide +kernel) rfl (nI_pos (by omega)) ?_
            refine zw_iload_n 5 f17_4 rfl rfl ?_
            refine zw_aload_n 6 f17_5 rfl rfl ?_
            refine zw_getI (nI nv) 9 f17_6 rfl g17_39_4 (hb_1 _ _ _ _) rfl hR1.1.1 ?_
            refine zw_ic_ge_f 12 22 f17_9 (by decide +kernel) rfl hc1 ?_
            refine zw_iload_n 13 f17_12 rfl rfl ?_
            refine zw_bipush 8 15 f17_13 rfl (by decide +kernel) ?_
            refine zw_ic_ge_f 18 22 f17_15 (by decide +kernel) rfl (fun q => absurd (zn_ge (a := 8) (b := k) (by omega) (by omega) q) (by omega)) ?_
            refine zw_iconst 1 19 f17_18 rfl (by decide +kernel) ?_
            refine zw_goto 23 f17_19 (by decide +kernel) ?_
            refine zw_istore_n _ 24 f17_23 rfl (by decide +kernel) rfl ?_
            refine zw_iload_n 25 f17_24 rfl zl1_eq ?_
            refine zw_if_eq_f 28 52 f17_25 (by decide +kernel) rfl (by decide +kernel) ?_
            refine zw_aload_n 29 f17_28 rfl (zl1_ne rfl rfl rfl) ?_
            refine zw_getfield 32 f17_29 rfl g17_9_4 (hb_1 _ _ _ _) rfl ?_
            refine zw_iload_n 33 f17_32 rfl (zl1_ne rfl rfl rfl) ?_
            refine zw_iaload k (P 53 k) 34 f17_33 rfl (hb_2 _ _ _ _) (nI_clamp (by omega)) (nI_pos (by omega)) (by omega) (congrFun ((hR1.2.1 53 (by omega) (by omega))) k) ?_
            refine zw_iconst 3 35 f17_34 rfl (by decide +kernel) ?_
            refine zw_ic_eq_f 38 48 f17_35 (by decide +kernel) rfl hc2 ?_
            refine zw_aload_n 39 f17_38 rfl (zl1_ne rfl rfl rfl) ?_
            refine zw_getfield 42 f17_39 rfl g17_9_4 (hb_1 _ _ _ _) rfl ?_
            refine zw_iload_n 43 f17_42 rfl (zl1_ne rfl rfl rfl) ?_
            refine zw_iaload k (P 53 k) 44 f17_43 rfl (hb_2 _ _ _ _) (nI_clamp (by omega)) (nI_pos (by omega)) (by omega) (congrFun ((hR1.2.1 53 (by omega) (by omega))) k) ?_
            refine zw_iconst 4 45 f17_44 rfl (by decide +kernel) ?_
            refine zw_ic_ne_f 48 52 f17_45 (by decide +kernel) rfl hc7 ?_
            refine zw_iconst 1 49 f17_48 rfl (by decide +kernel) ?_
            refine zw_goto 53 f17_49 (by decide +kernel) ?_
            refine zw_zreturn f17_53 r17 u17 (by decide +kernel) ⟨_, rfl, ?_⟩
            refine zw_if_eq_f 11 23 f56_8 (by decide +kernel) rfl (by decide +kernel) ?_
            refine zw_aload_n 12 f56_11 rfl rfl ?_
            refine zw_getfield 15 f56_12 rfl g56_37_10 (hb_22 _ _ _ _) rfl ?_
            refine zw_getfield 18 f56_15 rfl g56_148_4 (hb_1 _ _ _ _) rfl ?_
            refine zw_iload_n 19 f56_18 rfl rfl ?_
            refine zw_iaload k (-1) 20 f56_19 rfl (hb_6 _ _ _ _) (nI_clamp (by omega)) (nI_pos (by omega)) (by omega) ((congrFun (hR1.2.1 57 (by omega) (by omega)) k).trans t8q) ?_
            refine zw_goto 24 f56_20 (by decide +kernel) ?_
            refine zw_istore_n _ 25 f56_24 rfl (by decide +kernel) rfl ?_
            refine zw_iload_n 26 f56_25 rfl zl1_eq ?_
            refine zw_iconst (-1) 27 f56_26 rfl (by decide +kernel) ?_
            refine zw_ic_eq_t 46 f56_27 (by decide +kernel) (by decide +kernel) ?_
            refine zw_iconst 0 47 f56_46 rfl (by decide +kernel) ?_
            refine zw_zreturn f56_47 r56 u56 (by decide +kernel) ⟨_, rfl, ?_⟩
            refine zw_if_eq_t 142 f74_85 (by decide +kernel) (by decide +kernel) ?_
            refine zw_vreturn f74_142 r74 u74 ⟨rfl, ?_⟩
            refine zw_iinc (nI (k + 1)) _ 106 f70_103 rfl h1 (by decide +kernel) (nI_1 _) rfl ?_
            refine zw_goto 87 f70_106 (by decide +kernel) ?_
            have E : wT3 nv P W (k + 1) = (lev, dr, sip, opn, cnt, ev) := by
              show qFlo1 (P 53) (P 55) (P 56) (P 57) W.1 k (wT3 nv P W k) = _
              rw [hm]
              exact qFlo1_b t8q
            exact ih (k + 1) _ _ _ _ _ _ _ _ _ _ _ K0 E hR1 hH (zl1_ne rfl rfl h0) zl1_eq (by omega) (by omega)
          · refine zw_iaload k (nI t8) 20 f56_19 rfl (hb_6 _ _ _ _) (nI_clamp (by omega)) (nI_pos (by omega)) (by omega) ((congrFun (hR1.2.1 57 (by omega) (by omega)) k).trans t8q) ?_
            refine zw_goto 24 f56_20 (by decide +kernel) ?_
            refine zw_istore_n _ 25 f56_24 rfl (by decide +kernel) rfl ?_
            refine zw_iload_n 26 f56_25 rfl zl1_eq ?_
            refine zw_iconst (-1) 27 f56_26 rfl (by decide +kernel) ?_
            refine zw_ic_eq_f 30 46 f56_27 (by decide +kernel) rfl (nI_nem (by omega)) ?_
            refine zw_aload_n 31 f56_30 rfl (zl1_ne rfl rfl rfl) ?_
            refine zw_getfield 34 f56_31 rfl g56_12_10 (hb_22 _ _ _ _) rfl ?_
            refine zw_iload_n 35 f56_34 rfl zl1_eq ?_
            refine zw_virtual_i 38 0 0 [.ref 23, .int (nI t8)] [(0, .ref 23), (1, .int (nI t8))] f56_35 rfl n56_47 k56_47_9 rfl (hb_23 _ _ _ _) (by decide +kernel) (Nat.le_of_ble_eq_true rfl) rfl rfl (by decide +kernel) (by decide +kernel) rfl (Nat.le_of_ble_eq_true rfl) rfl ?_
            refine zWp.mono (cx_isOpen_22 ro nv np P (wMid W (lev, dr, sip, opn, cnt, ev)) _ _ _ _ hR1 hp hbm t8 (by omega)) ?_
            rintro r h1 ⟨rfl, rfl⟩
            refine ⟨_, rfl, ?_⟩
            refine zw_iload_n 39 f56_38 rfl (zl1_ne rfl rfl rfl) ?_
            refine zw_ic_ne 42 46 f56_39 (by decide +kernel) rfl (fun hc9 => ?_) (fun hc9 => ?_)
            · refine zw_iconst 0 47 f56_46 rfl (by decide +kernel) ?_
              refine zw_zreturn f56_47 r56 u56 (by decide +kernel) ⟨_, rfl, ?_⟩
              refine zw_if_eq_t 79 f74_6 (by decide +kernel) (by decide +kernel) ?_
              refine zw_aload_n 80 f74_79 rfl rfl ?_
              refine zw_iload_n 81 f74_80 rfl rfl ?_
              refine zw_iconst 0 82 f74_81 rfl (by decide +kernel) ?_
              refine zw_virtual_i 85 0 0 [.ref 22, .int (nI k), .int 0] [(0, .ref 22), (1, .int (nI k)), (2, .int 0)] f74_82 rfl n74_135 k74_135_10 rfl (hb_22 _ _ _ _) (by decide +kernel) (Nat.le_of_ble_eq_true rfl) rfl rfl (by decide +kernel) (by decide +kernel) rfl (Nat.le_of_ble_eq_true rfl) rfl ?_
              refine zw_aload_n 1 f56_0 rfl rfl ?_
              refine zw_getfield 4 f56_1 rfl g56_37_10 (hb_22 _ _ _ _) rfl ?_
              refine zw_iload_n 5 f56_4 rfl rfl ?_
              refine zw_virtual_i 8 0 0 [.ref 1, .int (nI k)] [(0, .ref 1), (1, .int (nI k))] f56_5 rfl n56_145 k56_145_4 rfl (hb_1 _ _ _ _) (by decide +kernel) (Nat.le_of_ble_eq_true rfl) rfl rfl (by decide +kernel) (by decide +kernel) rfl (Nat.le_of_ble_eq_true rfl) rfl ?_
              refine zw_iload_n 1 f17_0 rfl rfl ?_
              refine zw_if_lt_f 4 22 f17_1 (by decide +kernel) rfl (nI_pos (by omega)) ?_
              refine zw_iload_n 5 f17_4 rfl rfl ?_
              refine zw_aload_n 6 f17_5 rfl rfl ?_
              refine zw_getI (nI nv) 9 f17_6 rfl g17_39_4 (hb_1 _ _ _ _) rfl hR1.1.1 ?_
              refine zw_ic_ge_f 12 22 f17_9 (by decide +kernel) rfl hc1 ?_
              refine zw_iload_n 13 f17_12 rfl rfl ?_
              refine zw_bipush 8 15 f17_13 rfl (by decide +kernel) ?_
              refine zw_ic_ge_f 18 22 f17_15 (by decide +kernel) rfl (fun q => absurd (zn_ge (a := 8) (b := k) (by omega) (by omega) q) (by omega)) ?_
              refine zw_iconst 1 19 f17_18 rfl (by decide +kernel) ?_
              refine zw_goto 23 f17_19 (by decide +kernel) ?_
              refine zw_istore_n _ 24 f17_23 rfl (by decide +kernel) rfl ?_
              refine zw_iload_n 25 f17_24 rfl zl1_eq ?_
              refine zw_if_eq_f 28 52 f17_25 (by decide +kernel) rfl (by decide +kernel) ?_
              refine zw_aload_n 29 f17_28 rfl (zl1_ne rfl rfl rfl) ?_
              refine zw_getfield 32 f17_29 rfl g17_9_4 (hb_1 _ _ _ _) rfl ?_
              refine zw_iload_n 33 f17_32 rfl (zl1_ne rfl rfl rfl) ?_
              refine zw_iaload k (P 53 k) 34 f17_33 rfl (hb_2 _ _ _ _) (nI_clamp (by omega)) (nI_pos (by omega)) (by omega) (congrFun ((hR1.2.1 53 (by omega) (by omega))) k) ?_
              refine zw_iconst 3 35 f17_34 rfl (by decide +kernel) ?_
              refine zw_ic_eq_f 38 48 f17_35 (by decide +kernel) rfl hc2 ?_
              refine zw_aload_n 39 f17_38 rfl (zl1_ne rfl rfl rfl) ?_
              refine zw_getfield 42 f17_39 rfl g17_9_4 (hb_1 _ _ _ _) rfl ?_
              refine zw_iload_n 43 f17_42 rfl (zl1_ne rfl rfl rfl) ?_
              refine zw_iaload k (P 53 k) 44 f17_43 rfl (hb_2 _ _ _ _) (nI_clamp (by omega)) (nI_pos (by omega)) (by omega) (congrFun ((hR1.2.1 53 (by omega) (by omega))) k) ?_
              refine zw_iconst 4 45 f17_44 rfl (by decide +kernel) ?_
              refine zw_ic_ne_f 48 52 f17_45 (by decide +kernel) rfl hc7 ?_
              refine zw_iconst 1 49 f17_48 rfl (by decide +kernel) ?_
              refine zw_goto 53 f17_49 (by decide +kernel) ?_
              refine zw_zreturn f17_53 r17 u17 (by decide +kernel) ⟨_, rfl, ?_⟩
              refine zw_if_eq_f 11 23 f56_8 (by decide +kernel) rfl (by decide +kernel) ?_
              refine zw_aload_n 12 f56_11 rfl rfl ?_
              refine zw_getfield 15 f56_12 rfl g56_37_10 (hb_22 _ _ _ _) rfl ?_
              refine zw_getfield 18 f56_15 rfl g56_148_4 (hb_1 _ _ _ _) rfl ?_
              refine zw_iload_n 19 f56_18 rfl rfl ?_
              refine zw_iaload k (nI t8) 20 f56_19 rfl (hb_6 _ _ _ _) (nI_clamp (by omega)) (nI_pos (by omega)) (by omega) ((congrFun (hR1.2.1 57 (by omega) (by omega)) k).trans t8q) ?_
              refine zw_goto 24 f56_20 (by decide +kernel) ?_
              refine zw_istore_n _ 25 f56_24 rfl (by decide +kernel) rfl ?_
              refine zw_iload_n 26 f56_25 rfl zl1_eq ?_
              refine zw_iconst (-1) 27 f56_26 rfl (by decide +kernel) ?_
              refine zw_ic_eq_f 30 46 f56_27 (by decide +kernel) rfl (nI_nem (by omega)) ?_
              refine zw_aload_n 31 f56_30 rfl (zl1_ne rfl rfl rfl) ?_
              refine zw_getfield 34 f56_31 rfl g56_12_10 (hb_22 _ _ _ _) rfl ?_
              refine zw_iload_n 35 f56_34 rfl zl1_eq ?_
              refine zw_virtual_i 38 0 0 [.ref 23, .int (nI t8)] [(0, .ref 23), (1, .int (nI t8))] f56_35 rfl n56_47 k56_47_9 rfl (hb_23 _ _ _ _) (by decide +kernel) (Nat.le_of_ble_eq_true rfl) rfl rfl (by decide +kernel) (by decide +kernel) rfl (Nat.le_of_ble_eq_true rfl) rfl ?_
              refine zWp.mono (cx_isOpen_22 ro nv np P (wMid W (lev, dr, sip, opn, cnt, ev)) _ _ _ _ hR1 hp hbm t8 (by omega)) ?_
              rintro r h1 ⟨rfl, rfl⟩
              refine ⟨_, rfl, ?_⟩
              refine zw_iload_n 39 f56_38 rfl (zl1_ne rfl rfl rfl) ?_
              refine zw_ic_ne_f 42 46 f56_39 (by decide +kernel) rfl (fun q => q ((hbm.1 _ (by omega)).resolve_right hc9)) ?_
              refine zw_iconst 1 43 f56_42 rfl (by decide +kernel) ?_
              refine zw_goto 47 f56_43 (by decide +kernel) ?_
              refine zw_zreturn f56_47 r56 u56 (by decide +kernel) ⟨_, rfl, ?_⟩
              refine zw_if_eq_f 88 142 f74_85 (by decide +kernel) rfl (by decide +kernel) ?_
              refine zw_aload_n 89 f74_88 rfl rfl ?_
              refine zw_getfield 92 f74_89 rfl g74_12_10 (hb_22 _ _ _ _) rfl ?_
              refine zw_getfield 95 f74_92 rfl g74_87_9 (hb_23 _ _ _ _) rfl ?_
              refine zw_iload_n 96 f74_95 rfl rfl ?_
              refine zw_laload k (lev k) 97 f74_96 rfl (hb_24 _ _ _ _) (nI_clamp (by omega)) (nI_pos (by omega)) (by omega) (congrFun (hR1.2.2.2.1) k) ?_
              refine zw_aload_n 98 f74_97 rfl rfl ?_
              refine zw_getfield 101 f74_98 rfl g74_37_10 (hb_22 _ _ _ _) rfl ?_
              refine zw_getfield 104 f74_101 rfl g74_142_4 (hb_1 _ _ _ _) rfl ?_
              refine zw_iload_n 105 f74_104 rfl rfl ?_
              refine zw_iaload k (P 56 k) 106 f74_105 rfl (hb_5 _ _ _ _) (nI_clamp (by omega)) (nI_pos (by omega)) (by omega) (congrFun ((hR1.2.1 56 (by omega) (by omega))) k) ?_
              refine zw_i2l (Int32.toInt64 (P 56 k)) 107 f74_106 rfl rfl ?_
              refine zw_aload_n 108 f74_107 rfl rfl ?_
              refine zw_getfield 111 f74_108 rfl g74_12_10 (hb_22 _ _ _ _) rfl ?_
              refine zw_getG W.1 114 f74_111 rfl g74_109_9 (hb_23 _ _ _ _) rfl hR1.2.2.1.1 ?_
              refine zw_lmul ((Int32.toInt64 (P 56 k)) * W.1) 115 f74_114 rfl rfl ?_
              refine zw_lcmp (lg_cmp (lev k) ((Int32.toInt64 (P 56 k)) * W.1)) 116 f74_115 rfl rfl ?_
              refine zw_if_gt 119 142 f74_116 (by decide +kernel) rfl (fun hc10 => ?_) (fun hc10 => ?_)
              · refine zw_vreturn f74_142 r74 u74 ⟨rfl, ?_⟩
                refine zw_iinc (nI (k + 1)) _ 106 f70_103 rfl h1 (by decide +kernel) (nI_1 _) rfl ?_
                refine zw_goto 87 f70_106 (by decide +kernel) ?_
                have E : wT3 nv P W (k + 1) = (lev, dr, sip, opn, cnt, ev) := by
                  show qFlo1 (P 53) (P 55) (P 56) (P 57) W.1 k (wT3 nv P W k) = _
                  rw [hm]
                  exact (qFlo1_o (Or.inr (Decidable.of_not_not hc7)) t8q (by omega)).trans (qFlo2_c ((hbm.1 _ (by omega)).resolve_right hc9) (Int64.not_le.mpr ((lg_cmp_gt _ _).mp hc10)))
                exact ih (k + 1) _ _ _ _ _ _ _ _ _ _ _ K0 E hR1 hH (zl1_ne rfl rfl h0) zl1_eq (by omega) (by omega)
              · refine zw_aload_n 120 f74_119 rfl rfl ?_
                refine zw_getfield 123 f74_120 rfl g74_12_10 (hb_22 _ _ _ _) rfl ?_
                refine zw_aload_n 124 f74_123 rfl rfl ?_
                refine zw_getfield 127 f74_124 rfl g74_37_10 (hb_22 _ _ _ _) rfl ?_
                refine zw_getfield 130 f74_127 rfl g74_148_4 (hb_1 _ _ _ _) rfl ?_
                refine zw_iload_n 131 f74_130 rfl rfl ?_
                refine zw_iaload k (nI t8) 132 f74_131 rfl (hb_6 _ _ _ _) (nI_clamp (by omega)) (nI_pos (by omega)) (by omega) ((congrFun (hR1.2.1 57 (by omega) (by omega)) k).trans t8q) ?_
                refine zw_iconst 1 133 f74_132 rfl (by decide +kernel) ?_
                refine zw_virtual_v 136 0 0 [.ref 23, .int (nI t8), .int 1] [(0, .ref 23), (1, .int (nI t8)), (2, .int 1)] f74_133 rfl n74_212 k74_212_9 rfl (hb_23 _ _ _ _) (by decide +kernel) (Nat.le_of_ble_eq_true rfl) rfl rfl (by decide +kernel) (by decide +kernel) rfl (Nat.le_of_ble_eq_true rfl) rfl ?_
                refine zw_aload_n 1 f44_0 rfl rfl ?_
                refine zw_iload_n 2 f44_1 rfl rfl ?_
                refine zw_if_eq_f 5 16 f44_2 (by decide +kernel) rfl (by decide +kernel) ?_
                refine zw_aload_n 6 f44_5 rfl rfl ?_
                refine zw_getI (I1 23 5) 9 f44_6 rfl g44_38_9 (hb_23 _ _ _ _) rfl rfl ?_
                refine zw_iconst 1 10 f44_9 rfl (by decide +kernel) ?_
                refine zw_iload_n 11 f44_10 rfl rfl ?_
                refine zw_ishl (1 <<< ((nI t8) &&& 31)) 12 f44_11 rfl rfl ?_
                refine zw_ior ((I1 23 5) ||| (1 <<< ((nI t8) &&& 31))) 13 f44_12 rfl rfl ?_
                refine zw_goto 26 f44_13 (by decide +kernel) ?_
                refine zw_put _ 29 f44_26 rfl g44_38_9 (hb_23 _ _ _ _) rfl (Nat.le_of_ble_eq_true rfl) (by decide +kernel) (hi_23_5 _ _ _ _ _) ?_
                refine zw_vreturn f44_29 r44 u44 ⟨rfl, ?_⟩
                refine zw_aload_n 137 f74_136 rfl rfl ?_
                refine zw_iconst 5 138 f74_137 rfl (by decide +kernel) ?_
                refine zw_iload_n 139 f74_138 rfl rfl ?_
                refine zw_virtual_v 142 0 0 [.ref 22, .int 5, .int (nI k)] [(0, .ref 22), (1, .int 5), (2, .int (nI k))] f74_139 rfl n74_203 k74_203_10 rfl (hb_22 _ _ _ _) (by decide +kernel) (Nat.le_of_ble_eq_true rfl) rfl rfl (by decide +kernel) (by decide +kernel) rfl (Nat.le_of_ble_eq_true rfl) rfl ?_
                refine zw_aload_n 1 f75_0 rfl rfl ?_
                refine zw_getI (nI ev.length) 4 f75_1 rfl g75_161_10 (hb_22 _ _ _ _) rfl hH.1 ?_
                refine zw_bipush 8 6 f75_4 rfl (by decide +kernel) ?_
                refine zw_ic_ge_f 9 39 f75_6 (by decide +kernel) rfl (fun q => absurd (zn_ge (a := 8) (b := ev.length) (by omega) (by omega) q) (by omega)) ?_
                refine zw_aload_n 10 f75_9 rfl rfl ?_
                refine zw_getfield 13 f75_10 rfl g75_31_10 (hb_22 _ _ _ _) rfl ?_
                refine zw_aload_n 14 f75_13 rfl rfl ?_
                refine zw_getI (nI ev.length) 17 f75_14 rfl g75_161_10 (hb_22 _ _ _ _) rfl hH.1 ?_
                refine zw_iload_n 18 f75_17 rfl rfl ?_
                refine zw_ast ev.length _ 19 f75_18 rfl (hb_31 _ _ _ _) (nI_clamp (by omega)) (nI_pos (by omega)) (by omega) (ha_31 _ _ _ _ _) ?_
                refine zw_aload_n 20 f75_19 rfl rfl ?_
                refine zw_getfield 23 f75_20 rfl g75_34_10 (hb_22 _ _ _ _) rfl ?_
                refine zw_aload_n 24 f75_23 rfl rfl ?_
                refine zw_getI (nI ev.length) 27 f75_24 rfl g75_161_10 (hb_22 _ _ _ _) rfl hH.1 ?_
                refine zw_iload_n 28 f75_27 rfl rfl ?_
                refine zw_ast ev.length _ 29 f75_28 rfl (hb_32 _ _ _ _) (nI_clamp (by omega)) (nI_pos (by omega)) (by omega) (ha_32 _ _ _ _ _) ?_
                refine zw_aload_n 30 f75_29 rfl rfl ?_
                refine zw_dup 31 f75_30 rfl rfl ?_
                refine zw_getI (nI ev.length) 34 f75_31 rfl g75_161_10 (hb_22 _ _ _ _) rfl hH.1 ?_
                refine zw_iconst 1 35 f75_34 rfl (by decide +kernel) ?_
                refine zw_iadd (nI (ev.length + 1)) 36 f75_35 rfl (nI_add _ 1) ?_
                refine zw_put _ 39 f75_36 rfl g75_161_10 (hb_22 _ _ _ _) rfl (Nat.le_of_ble_eq_true rfl) (by decide +kernel) (hi_22_12 _ _ _ _ _) ?_
                refine zw_vreturn f75_39 r75 u75 ⟨rfl, ?_⟩
                refine zw_vreturn f74_142 r74 u74 ⟨rfl, ?_⟩
                refine zw_iinc (nI (k + 1)) _ 106 f70_103 rfl h1 (by decide +kernel) (nI_1 _) rfl ?_
                refine zw_goto 87 f70_106 (by decide +kernel) ?_
                have E : wT3 nv P W (k + 1) = (lev, dr, sip, (upd opn t8 1), cnt, (ev ++ [(5, nI k)])) := by
                  show qFlo1 (P 53) (P 55) (P 56) (P 57) W.1 k (wT3 nv P W k) = _
                  rw [hm]
                  exact (qFlo1_o (Or.inr (Decidable.of_not_not hc7)) t8q (by omega)).trans (qFlo2_z ((hbm.1 _ (by omega)).resolve_right hc9) (Int64.not_lt.mp (fun q => hc10 ((lg_cmp_gt _ _).mpr q))))
                exact ih (k + 1) _ _ _ _ _ _ _ _ _ _ _ (KQ.i rfl (KQ.a rfl (KQ.a rfl (KQ.i rfl K0)))) E ⟨⟨hR1.1.1, hR1.1.2⟩, PE.of10 ((hR1.2.1 53 (by omega) (by omega))) ((hR1.2.1 54 (by omega) (by omega))) ((hR1.2.1 55 (by omega) (by omega))) ((hR1.2.1 56 (by omega) (by omega))) ((hR1.2.1 57 (by omega) (by omega))) ((hR1.2.1 58 (by omega) (by omega))) ((hR1.2.1 59 (by omega) (by omega))) ((hR1.2.1 60 (by omega) (by omega))) ((hR1.2.1 61 (by omega) (by omega))) ((hR1.2.1 62 (by omega) (by omega))), ⟨hR1.2.2.1.1, hR1.2.2.1.2.1, hR1.2.2.1.2.2.1, hR1.2.2.1.2.2.2⟩, hR1.2.2.2.1, hR1.2.2.2.2.1, ((bOf_set (by omega) (by omega)).trans (congrArg (fun z => upd z t8 1) hR1.2.2.2.2.2.1)), hR1.2.2.2.2.2.2⟩ ⟨(show _ = nI _ by rw [len_s]; rfl), hp_s hH.2 rfl rfl⟩ (zl1_ne rfl rfl h0) zl1_eq (by omega) (by omega)
            · refine zw_iconst 1 43 f56_42 rfl (by decide +kernel) ?_
              refine zw_goto 47 f56_43 (by decide +kernel) ?_
              refine zw_zreturn f56_47 r56 u56 (by decide +kernel) ⟨_, rfl, ?_⟩
              refine zw_if_eq_f 9 79 f74_6 (by decide +kernel) rfl (by decide +kernel) ?_
              refine zw_aload_n 10 f74_9 rfl rfl ?_
              refine zw_getfield 13 f74_10 rfl g74_12_10 (hb_22 _ _ _ _) rfl ?_
              refine zw_getfield 16 f74_13 rfl g74_87_9 (hb_23 _ _ _ _) rfl ?_
              refine zw_iload_n 17 f74_16 rfl rfl ?_
              refine zw_laload k (lev k) 18 f74_17 rfl (hb_24 _ _ _ _) (nI_clamp (by omega)) (nI_pos (by omega)) (by omega) (congrFun (hR1.2.2.2.1) k) ?_
              refine zw_aload_n 19 f74_18 rfl rfl ?_
              refine zw_getfield 22 f74_19 rfl g74_37_10 (hb_22 _ _ _ _) rfl ?_
              refine zw_getfield 25 f74_22 rfl g74_139_4 (hb_1 _ _ _ _) rfl ?_
              refine zw_iload_n 26 f74_25 rfl rfl ?_
              refine zw_iaload k (P 55 k) 27 f74_26 rfl (hb_4 _ _ _ _) (nI_clamp (by omega)) (nI_pos (by omega)) (by omega) (congrFun ((hR1.2.1 55 (by omega) (by omega))) k) ?_
              refine zw_i2l (Int32.toInt64 (P 55 k)) 28 f74_27 rfl rfl ?_
              refine zw_aload_n 29 f74_28 rfl rfl ?_
              refine zw_getfield 32 f74_29 rfl g74_12_10 (hb_22 _ _ _ _) rfl ?_
              refine zw_getG W.1 35 f74_32 rfl g74_109_9 (hb_23 _ _ _ _) rfl hR1.2.2.1.1 ?_
              refine zw_lmul ((Int32.toInt64 (P 55 k)) * W.1) 36 f74_35 rfl rfl ?_
              refine zw_lcmp (lg_cmp (lev k) ((Int32.toInt64 (P 55 k)) * W.1)) 37 f74_36 rfl rfl ?_
              refine zw_if_lt 40 142 f74_37 (by decide +kernel) rfl (fun hc11 => ?_) (fun hc11 => ?_)
              · refine zw_vreturn f74_142 r74 u74 ⟨rfl, ?_⟩
                refine zw_iinc (nI (k + 1)) _ 106 f70_103 rfl h1 (by decide +kernel) (nI_1 _) rfl ?_
                refine zw_goto 87 f70_106 (by decide +kernel) ?_
                have E : wT3 nv P W (k + 1) = (lev, dr, sip, opn, cnt, ev) := by
                  show qFlo1 (P 53) (P 55) (P 56) (P 57) W.1 k (wT3 nv P W k) = _
                  rw [hm]
                  exact (qFlo1_o (Or.inr (Decidable.of_not_not hc7)) t8q (by omega)).trans (qFlo2_b (fun z => absurd (z.symm.trans (Decidable.of_not_not hc9)) (by decide)) (Int64.not_le.mpr ((lg_cmp_lt _ _).mp hc11)))
                exact ih (k + 1) _ _ _ _ _ _ _ _ _ _ _ K0 E hR1 hH (zl1_ne rfl rfl h0) zl1_eq (by omega) (by omega)
              · refine zw_aload_n 41 f74_40 rfl rfl ?_
                refine zw_getfield 44 f74_41 rfl g74_12_10 (hb_22 _ _ _ _) rfl ?_
                refine zw_aload_n 45 f74_44 rfl rfl ?_
                refine zw_getfield 48 f74_45 rfl g74_37_10 (hb_22 _ _ _ _) rfl ?_
                refine zw_getfield 51 f74_48 rfl g74_148_4 (hb_1 _ _ _ _) rfl ?_
                refine zw_iload_n 52 f74_51 rfl rfl ?_
                refine zw_iaload k (nI t8) 53 f74_52 rfl (hb_6 _ _ _ _) (nI_clamp (by omega)) (nI_pos (by omega)) (by omega) ((congrFun (hR1.2.1 57 (by omega) (by omega)) k).trans t8q) ?_
                refine zw_iconst 0 54 f74_53 rfl (by decide +kernel) ?_
                refine zw_virtual_v 57 0 0 [.ref 23, .int (nI t8), .int 0] [(0, .ref 23), (1, .int (nI t8)), (2, .int 0)] f74_54 rfl n74_212 k74_212_9 rfl (hb_23 _ _ _ _) (by decide +kernel) (Nat.le_of_ble_eq_true rfl) rfl rfl (by decide +kernel) (by decide +kernel) rfl (Nat.le_of_ble_eq_true rfl) rfl ?_
                refine zw_aload_n 1 f44_0 rfl rfl ?_
                refine zw_iload_n 2 f44_1 rfl rfl ?_
                refine zw_if_eq_t 16 f44_2 (by decide +kernel) (by decide +kernel) ?_
                refine zw_aload_n 17 f44_16 rfl rfl ?_
                refine zw_getI (I1 23 5) 20 f44_17 rfl g44_38_9 (hb_23 _ _ _ _) rfl rfl ?_
                refine zw_iconst 1 21 f44_20 rfl (by decide +kernel) ?_
                refine zw_iload_n 22 f44_21 rfl rfl ?_
                refine zw_ishl (1 <<< ((nI t8) &&& 31)) 23 f44_22 rfl rfl ?_
                refine zw_iconst (-1) 24 f44_23 rfl (by decide +kernel) ?_
                refine zw_ixor ((1 <<< ((nI t8) &&& 31)) ^^^ (-1)) 25 f44_24 rfl rfl ?_
                refine zw_iand ((I1 23 5) &&& ((1 <<< ((nI t8) &&& 31)) ^^^ (-1))) 26 f44_25 rfl rfl ?_
                refine zw_put _ 29 f44_26 rfl g44_38_9 (hb_23 _ _ _ _) rfl (Nat.le_of_ble_eq_true rfl) (by decide +kernel) (hi_23_5 _ _ _ _ _) ?_
                refine zw_vreturn f44_29 r44 u44 ⟨rfl, ?_⟩
                refine zw_aload_n 58 f74_57 rfl rfl ?_
                refine zw_getfield 61 f74_58 rfl g74_12_10 (hb_22 _ _ _ _) rfl ?_
                refine zw_getfield 64 f74_61 rfl g74_215_9 (hb_23 _ _ _ _) rfl ?_
                refine zw_iload_n 65 f74_64 rfl rfl ?_
                refine zw_dup2 66 f74_65 rfl rfl rfl ?_
                refine zw_iaload k (A1 25 k) 67 f74_66 rfl (hb_25 _ _ _ _) (nI_clamp (by omega)) (nI_pos (by omega)) (by omega) rfl ?_
                refine zw_iconst 1 68 f74_67 rfl (by decide +kernel) ?_
                refine zw_iadd ((A1 25 k) + 1) 69 f74_68 rfl rfl ?_
                refine zw_ast k _ 70 f74_69 rfl (hb_25 _ _ _ _) (nI_clamp (by omega)) (nI_pos (by omega)) (by omega) (ha_25 _ _ _ _ _) ?_
                refine zw_aload_n 71 f74_70 rfl rfl ?_
                refine zw_iconst 4 72 f74_71 rfl (by decide +kernel) ?_
                refine zw_iload_n 73 f74_72 rfl rfl ?_
                refine zw_virtual_v 76 0 0 [.ref 22, .int 4, .int (nI k)] [(0, .ref 22), (1, .int 4), (2, .int (nI k))] f74_73 rfl n74_203 k74_203_10 rfl (hb_22 _ _ _ _) (by decide +kernel) (Nat.le_of_ble_eq_true rfl) rfl rfl (by decide +kernel) (by decide +kernel) rfl (Nat.le_of_ble_eq_true rfl) rfl ?_
                refine zw_aload_n 1 f75_0 rfl rfl ?_
                refine zw_getI (nI ev.length) 4 f75_1 rfl g75_161_10 (hb_22 _ _ _ _) rfl hH.1 ?_
                refine zw_bipush 8 6 f75_4 rfl (by decide +kernel) ?_
                refine zw_ic_ge_f 9 39 f75_6 (by decide +kernel) rfl (fun q => absurd (zn_ge (a := 8) (b := ev.length) (by omega) (by omega) q) (by omega)) ?_
                refine zw_aload_n 10 f75_9 rfl rfl ?_
                refine zw_getfield 13 f75_10 rfl g75_31_10 (hb_22 _ _ _ _) rfl ?_
                refine zw_aload_n 14 f75_13 rfl rfl ?_
                refine zw_getI (nI ev.length) 17 f75_14 rfl g75_161_10 (hb_22 _ _ _ _) rfl hH.1 ?_
                refine zw_iload_n 18 f75_17 rfl rfl ?_
                refine zw_ast ev.length _ 19 f75_18 rfl (hb_31 _ _ _ _) (nI_clamp (by omega)) (nI_pos (by omega)) (by omega) (ha_31 _ _ _ _ _) ?_
                refine zw_aload_n 20 f75_19 rfl rfl ?_
                refine zw_getfield 23 f75_20 rfl g75_34_10 (hb_22 _ _ _ _) rfl ?_
                refine zw_aload_n 24 f75_23 rfl rfl ?_
                refine zw_getI (nI ev.length) 27 f75_24 rfl g75_161_10 (hb_22 _ _ _ _) rfl hH.1 ?_
                refine zw_iload_n 28 f75_27 rfl rfl ?_
                refine zw_ast ev.length _ 29 f75_28 rfl (hb_32 _ _ _ _) (nI_clamp (by omega)) (nI_pos (by omega)) (by omega) (ha_32 _ _ _ _ _) ?_
                refine zw_aload_n 30 f75_29 rfl rfl ?_
                refine zw_dup 31 f75_30 rfl rfl ?_
                refine zw_getI (nI ev.length) 34 f75_31 rfl g75_161_10 (hb_22 _ _ _ _) rfl hH.1 ?_
                refine zw_iconst 1 35 f75_34 rfl (by decide +kernel) ?_
                refine zw_iadd (nI (ev.length + 1)) 36 f75_35 rfl (nI_add _ 1) ?_
                refine zw_put _ 39 f75_36 rfl g75_161_10 (hb_22 _ _ _ _) rfl (Nat.le_of_ble_eq_true rfl) (by decide +kernel) (hi_22_12 _ _ _ _ _) ?_
                refine zw_vreturn f75_39 r75 u75 ⟨rfl, ?_⟩
                refine zw_goto 142 f74_76 (by decide +kernel) ?_
                refine zw_vreturn f74_142 r74 u74 ⟨rfl, ?_⟩
                refine zw_iinc (nI (k + 1)) _ 106 f70_103 rfl h1 (by decide +kernel) (nI_1 _) rfl ?_
                refine zw_goto 87 f70_106 (by decide +kernel) ?_
                have E : wT3 nv P W (k + 1) = (lev, dr, sip, (upd opn t8 0), (upd cnt k (cnt k + 1)), (ev ++ [(4, nI k)])) := by
                  show qFlo1 (P 53) (P 55) (P 56) (P 57) W.1 k (wT3 nv P W k) = _
                  rw [hm]
                  exact (qFlo1_o (Or.inr (Decidable.of_not_not hc7)) t8q (by omega)).trans (qFlo2_y (fun z => absurd (z.symm.trans (Decidable.of_not_not hc9)) (by decide)) (Int64.not_lt.mp (fun q => hc11 ((lg_cmp_lt _ _).mpr q))) (if_pos (Decidable.of_not_not hc7)))
                exact ih (k + 1) _ _ _ _ _ _ _ _ _ _ _ (KQ.i rfl (KQ.a rfl (KQ.a rfl (KQ.a rfl (KQ.i rfl K0))))) E ⟨⟨hR1.1.1, hR1.1.2⟩, PE.of10 ((hR1.2.1 53 (by omega) (by omega))) ((hR1.2.1 54 (by omega) (by omega))) ((hR1.2.1 55 (by omega) (by omega))) ((hR1.2.1 56 (by omega) (by omega))) ((hR1.2.1 57 (by omega) (by omega))) ((hR1.2.1 58 (by omega) (by omega))) ((hR1.2.1 59 (by omega) (by omega))) ((hR1.2.1 60 (by omega) (by omega))) ((hR1.2.1 61 (by omega) (by omega))) ((hR1.2.1 62 (by omega) (by omega))), ⟨hR1.2.2.1.1, hR1.2.2.1.2.1, hR1.2.2.1.2.2.1, hR1.2.2.1.2.2.2⟩, hR1.2.2.2.1, hR1.2.2.2.2.1, ((bOf_clr (by omega) (by omega)).trans (congrArg (fun z => upd z t8 0) hR1.2.2.2.2.2.1)), (cnt_u hR1.2.2.2.2.2.2 (by omega) (fun q4 => by rw [hR1.2.2.2.2.2.2 k (fun _ => q4)]; rfl))⟩ ⟨(show _ = nI _ by rw [len_s]; rfl), hp_s hH.2 rfl rfl⟩ (zl1_ne rfl rfl h0) zl1_eq (by omega) (by omega)
set_option maxRecDepth 100000 in
set_option maxHeartbeats 0 in
theorem lcx_se22_51 (ro : UInt32 → Nat × (Nat → Int32)) (nv np : Nat) (P : Nat → Nat → Int32) (W : qW) (T K : Int) (I : Nat → Nat → Int32) (G : Nat → Nat → Int64) (A : Nat → Nat → Int32) (B : Nat → Nat → Int64) (hR : cRS 22 nv np P W I G A B) (hp : MPa nv np P) (hb : wBo W) (hW : wOk nv T K P W) (hT : T ≤ 40000) (hK : K ≤ 200000000) : ∀ (n k : Nat) (ls : List (Nat × Value)) (I1 : Nat → Nat → Int32) (G1 : Nat → Nat → Int64) (A1 : Nat → Nat → Int32) (B1 : Nat → Nat → Int64) (lev : Nat → Int64) (dr : Int64) (sip opn cnt : Nat → Int32) (ev : List (Int32 × Int32)), KQ (fSe 22) (pSe 22) I G A B I1 G1 A1 B1 → wT2 nv P W k = (lev, dr, sip, opn, cnt, ev) → cRS 22 nv np P (wMid W (lev, dr, sip, opn, cnt, ev)) I1 G1 A1 B1 → cHp 22 I1 A1 ev → zld ls 0 = some (.ref 22) → zld ls 1 = some (.int (nI k)) → k ≤ nv → nv + 1 ≤ k + n → zWp ro 70 51 ls [] (hS I1 G1 A1 B1) 0 0 (fun r h1 => ∃ I2 G2 A2 B2, h1 = hS I2 G2 A2 B2 ∧ KQ (fSe 22) (pSe 22) I G A B I2 G2 A2 B2 ∧ (cRS 22 nv np P (wMom nv P W) I2 G2 A2 B2 ∧ cHp 22 I2 A2 (wEv nv P W)) ∧ r = none) := by
  have h8 := hp.1
  have h14 := hp.2.1
  have hg : 1 ≤ W.1.toInt ∧ W.1.toInt ≤ 10000 := hW.1.1
  have tok := wT_ok hp hb hW hT hK
  have tln := wT_len (nv := nv) (P := P) (W := W)
  have tsum := qN_sum (kind := P 53) nv
  intro n
  induction n with
  | zero =>
    intro k ls I1 G1 A1 B1 lev dr sip opn cnt ev _ _ _ _ _ _ a b
    exact absurd b (by omega)
  | succ n ih =>
    intro k ls I1 G1 A1 B1 lev dr sip opn cnt ev K0 hm hR1 hH h0 h1 hk1 hk2
    have hO := tok.2.1 k hk1
    have hLn := tln.2.1 k
    rw [hm] at hO hLn
    change ev.length ≤ _ at hLn
    have hbm : wBo (wMid W (lev, dr, sip, opn, cnt, ev)) := ⟨hO.2.2.2.1.1, hO.2.2.2.1.2⟩
    refine zw_iload_n 52 f70_51 rfl h1 ?_
    refine zw_aload_n 53 f70_52 rfl h0 ?_
    refine zw_getfield 56 f70_53 rfl g70_37_10 (hb_22 _ _ _ _) rfl ?_
    refine zw_getI (nI nv) 59 f70_56 rfl g70_80_4 (hb_1 _ _ _ _) rfl hR1.1.1 ?_
    refine zw_ic_ge 62 85 f70_59 (by decide +kernel) rfl (fun hc1 => ?_) (fun hc1 => ?_)
    · have hn_hc1 : nv ≤ k := zn_ge (by omega) (by omega) hc1
      refine zw_iconst 0 86 f70_85 rfl (by decide +kernel) ?_
      refine zw_istore_n _ 87 f70_86 rfl (by decide +kernel) rfl ?_
      have hk : k = nv := by omega
      subst hk
      exact lcx_se22_87 ro k np P W T K I G A B hR hp hb hW hT hK (k + 1) 0 _ _ _ _ _ _ _ _ _ _ _ K0 hm hR1 hH (zl1_ne rfl rfl h0) zl1_eq (by omega) (by omega)
    · have hn_hc1 : k < nv := zn_lt (by omega) (by omega) hc1
      refine zw_aload_n 63 f70_62 rfl h0 ?_
      refine zw_getfield 66 f70_63 rfl g70_37_10 (hb_22 _ _ _ _) rfl ?_
      refine zw_iload_n 67 f70_66 rfl h1 ?_
      refine zw_virtual_i 70 0 0 [.ref 1, .int (nI k)] [(0, .ref 1), (1, .int (nI k))] f70_67 rfl n70_132 k70_132_4 rfl (hb_1 _ _ _ _) (by decide +kernel) (Nat.le_of_ble_eq_true rfl) rfl rfl (by decide +kernel) (by decide +kernel) rfl (Nat.le_of_ble_eq_true rfl) rfl ?_
      refine zw_iload_n 1 f15_0 rfl rfl ?_
      refine zw_if_lt_f 4 27 f15_1 (by decide +kernel) rfl (nI_pos (by omega)) ?_
      refine zw_iload_n 5 f15_4 rfl rfl ?_
      refine zw_aload_n 6 f15_5 rfl rfl ?_
      refine zw_getI (nI nv) 9 f15_6 rfl g15_39_4 (hb_1 _ _ _ _) rfl hR1.1.1 ?_
      refine zw_ic_ge_f 12 27 f15_9 (by decide +kernel) rfl hc1 ?_
      refine zw_iload_n 13 f15_12 rfl rfl ?_
      refine zw_bipush 8 15 f15_13 rfl (by decide +kernel) ?_
      refine zw_ic_ge_f 18 27 f15_15 (by decide +kernel) rfl (fun q => absurd (zn_ge (a := 8) (b := k) (by omega) (by omega) q) (by omega)) ?_
      refine zw_aload_n 19 f15_18 rfl rfl ?_
      refine zw_getfield 22 f15_19 rfl g15_9_4 (hb_1 _ _ _ _) rfl ?_
      refine zw_iload_n 23 f15_22 rfl rfl ?_
      refine zw_iaload k (P 53 k) 24 f15_23 rfl (hb_2 _ _ _ _) (nI_clamp (by omega)) (nI_pos (by omega)) (by omega) (congrFun ((hR1.2.1 53 (by omega) (by omega))) k) ?_
      refine zw_goto 28 f15_24 (by decide +kernel) ?_
      refine zw_ireturn f15_28 r15 u15 ⟨_, rfl, ?_⟩
      refine zw_iconst 1 71 f70_70 rfl (by decide +kernel) ?_
      refine zw_ic_ne 74 79 f70_71 (by decide +kernel) rfl (fun hc2 => ?_) (fun hc2 => ?_)
      · refine zw_iinc (nI (k + 1)) _ 82 f70_79 rfl h1 (by decide +kernel) (nI_1 _) rfl ?_
        refine zw_goto 51 f70_82 (by decide +kernel) ?_
        have E : wT2 nv P W (k + 1) = (lev, dr, sip, opn, cnt, ev) := by
          show qSip1 (P 53) (P 55) W.1 k (wT2 nv P W k) = _
          rw [hm]
          exact qSip1_a hc2
        exact ih (k + 1) _ _ _ _ _ _ _ _ _ _ _ K0 E hR1 hH (zl1_ne rfl rfl h0) zl1_eq (by omega) (by omega)
      · have eY := qN_y (kind := P 53) (k := k) (show s1 (P 53 k) from (Decidable.of_not_not hc2))
        have eM := qN_mo (s := s1) (kind := P 53) (k := k + 1) nv (by omega)
        have he8 : ev.length < 8 := by omega
        refine zw_aload_n 75 f70_74 rfl h0 ?_
        refine zw_iload_n 76 f70_75 rfl h1 ?_
        refine zw_virtual_v 79 0 0 [.ref 22, .int (nI k)] [(0, .ref 22), (1, .int (nI k))] f70_76 rfl n70_190 k70_190_10 rfl (hb_22 _ _ _ _) (by decide +kernel) (Nat.le_of_ble_eq_true rfl) rfl rfl (by decide +kernel) (by decide +kernel) rfl (Nat.le_of_ble_eq_true rfl) rfl ?_
        refine zw_aload_n 1 f73_0 rfl rfl ?_
        refine zw_getfield 4 f73_1 rfl g73_12_10 (hb_22 _ _ _ _) rfl ?_
        refine zw_iload_n 5 f73_4 rfl rfl ?_
        refine zw_virtual_i 8 0 0 [.ref 23, .int (nI k)] [(0, .ref 23), (1, .int (nI k))] f73_5 rfl n73_51 k73_51_9 rfl (hb_23 _ _ _ _) (by decide +kernel) (Nat.le_of_ble_eq_true rfl) rfl rfl (by decide +kernel) (by decide +kernel) rfl (Nat.le_of_ble_eq_true rfl) rfl ?_
        refine zWp.mono (cx_isSiphoning_22 ro nv np P (wMid W (lev, dr, sip, opn, cnt, ev)) _ _ _ _ hR1 hp hbm k (by omega)) ?_
        rintro r h1 ⟨rfl, rfl⟩
        refine ⟨_, rfl, ?_⟩
        refine zw_if_ne 11 60 f73_8 (by decide +kernel) rfl (fun hc3 => ?_) (fun hc3 => ?_)
        · refine zw_aload_n 61 f73_60 rfl rfl ?_
          refine zw_getfield 64 f73_61 rfl g73_12_10 (hb_22 _ _ _ _) rfl ?_
          refine zw_getfield 67 f73_64 rfl g73_87_9 (hb_23 _ _ _ _) rfl ?_
          refine zw_iload_n 68 f73_67 rfl rfl ?_
          refine zw_laload k (lev k) 69 f73_68 rfl (hb_24 _ _ _ _) (nI_clamp (by omega)) (nI_pos (by omega)) (by omega) (congrFun (hR1.2.2.2.1) k) ?_
          refine zw_lconst 0 70 f73_69 rfl (by decide +kernel) ?_
          refine zw_lcmp (lg_cmp (lev k) 0) 71 f73_70 rfl rfl ?_
          refine zw_if_ne 74 89 f73_71 (by decide +kernel) rfl (fun hc4 => ?_) (fun hc4 => ?_)
          · refine zw_vreturn f73_89 r73 u73 ⟨rfl, ?_⟩
            refine zw_iinc (nI (k + 1)) _ 82 f70_79 rfl h1 (by decide +kernel) (nI_1 _) rfl ?_
            refine zw_goto 51 f70_82 (by decide +kernel) ?_
            have E : wT2 nv P W (k + 1) = (lev, dr, sip, opn, cnt, ev) := by
              show qSip1 (P 53) (P 55) W.1 k (wT2 nv P W k) = _
              rw [hm]
              exact qSip1_c hc3 (fun q => hc4 ((lg_cmp_eq _ _).mpr q))
            exact ih (k + 1) _ _ _ _ _ _ _ _ _ _ _ K0 E hR1 hH (zl1_ne rfl rfl h0) zl1_eq (by omega) (by omega)
          · refine zw_aload_n 75 f73_74 rfl rfl ?_
            refine zw_getfield 78 f73_75 rfl g73_12_10 (hb_22 _ _ _ _) rfl ?_
            refine zw_iload_n 79 f73_78 rfl rfl ?_
            refine zw_iconst 0 80 f73_79 rfl (by decide +kernel) ?_
            refine zw_virtual_v 83 0 0 [.ref 23, .int (nI k), .int 0] [(0, .ref 23), (1, .int (nI k)), (2, .int 0)] f73_80 rfl n73_208 k73_208_9 rfl (hb_23 _ _ _ _) (by decide +kernel) (Nat.le_of_ble_eq_true rfl) rfl rfl (by decide +kernel) (by decide +kernel) rfl (Nat.le_of_ble_eq_true rfl) rfl ?_
            refine zw_aload_n 1 f46_0 rfl rfl ?_
            refine zw_iload_n 2 f46_1 rfl rfl ?_
            refine zw_if_eq_t 16 f46_2 (by decide +kernel) (by decide +kernel) ?_
            refine zw_aload_n 17 f46_16 rfl rfl ?_
            refine zw_getI (I1 23 6) 20 f46_17 rfl g46_42_9 (hb_23 _ _ _ _) rfl rfl ?_
            refine zw_iconst 1 21 f46_20 rfl (by decide +kernel) ?_
            refine zw_iload_n 22 f46_21 rfl rfl ?_
            refine zw_ishl (1 <<< ((nI k) &&& 31)) 23 f46_22 rfl rfl ?_
            refine zw_iconst (-1) 24 f46_23 rfl (by decide +kernel) ?_
            refine zw_ixor ((1 <<< ((nI k) &&& 31)) ^^^ (-1)) 25 f46_24 rfl rfl ?_
            refine zw_iand ((I1 23 6) &&& ((1 <<< ((nI k) &&& 31)) ^^^ (-1))) 26 f46_25 rfl rfl ?_
            refine zw_put _ 29 f46_26 rfl g46_42_9 (hb_23 _ _ _ _) rfl (Nat.le_of_ble_eq_true rfl) (by decide +kernel) (hi_23_6 _ _ _ _ _) ?_
            refine zw_vreturn f46_29 r46 u46 ⟨rfl, ?_⟩
            refine zw_aload_n 84 f73_83 rfl rfl ?_
            refine zw_iconst 3 85 f73_84 rfl (by decide +kernel) ?_
            refine zw_iload_n 86 f73_85 rfl rfl ?_
            refine zw_virtual_v 89 0 0 [.ref 22, .int 3, .int (nI k)] [(0, .ref 22), (1, .int 3), (2, .int (nI k))] f73_86 rfl n73_203 k73_203_10 rfl (hb_22 _ _ _ _) (by decide +kernel) (Nat.le_of_ble_eq_true rfl) rfl rfl (by decide +kernel) (by decide +kernel) rfl (Nat.le_of_ble_eq_true rfl) rfl ?_
            refine zw_aload_n 1 f75_0 rfl rfl ?_
            refine zw_getI (nI ev.length) 4 f75_1 rfl g75_161_10 (hb_22 _ _ _ _) rfl hH.1 ?_
            refine zw_bipush 8 6 f75_4 rfl (by decide +kernel) ?_
            refine zw_ic_ge_f 9 39 f75_6 (by decide +kernel) rfl (fun q => absurd (zn_ge (a := 8) (b := ev.length) (by omega) (by omega) q) (by omega)) ?_
            refine zw_aload_n 10 f75_9 rfl rfl ?_
            refine zw_getfield 13 f75_10 rfl g75_31_10 (hb_22 _ _ _ _) rfl ?_
            refine zw_aload_n 14 f75_13 rfl rfl ?_
            refine zw_getI (nI ev.length) 17 f75_14 rfl g75_161_10 (hb_22 _ _ _ _) rfl hH.1 ?_
            refine zw_iload_n 18 f75_17 rfl rfl ?_
            refine zw_ast ev.length _ 19 f75_18 rfl (hb_31 _ _ _ _) (nI_clamp (by omega)) (nI_pos (by omega)) (by omega) (ha_31 _ _ _ _ _) ?_
            refine zw_aload_n 20 f75_19 rfl rfl ?_
            refine zw_getfield 23 f75_20 rfl g75_34_10 (hb_22 _ _ _ _) rfl ?_
            refine zw_aload_n 24 f75_23 rfl rfl ?_
            refine zw_getI (nI ev.length) 27 f75_24 rfl g75_161_10 (hb_22 _ _ _ _) rfl hH.1 ?_
            refine zw_iload_n 28 f75_27 rfl rfl ?_
            refine zw_ast ev.length _ 29 f75_28 rfl (hb_32 _ _ _ _) (nI_clamp (by omega)) (nI_pos (by omega)) (by omega) (ha_32 _ _ _ _ _) ?_
            refine zw_aload_n 30 f75_29 rfl rfl ?_
            refine zw_dup 31 f75_30 rfl rfl ?_
            refine zw_getI (nI ev.length) 34 f75_31 rfl g75_161_10 (hb_22 _ _ _ _) rfl hH.1 ?_
            refine zw_iconst 1 35 f75_34 rfl (by decide +kernel) ?_
            refine zw_iadd (nI (ev.length + 1)) 36 f75_35 rfl (nI_add _ 1) ?_
            refine zw_put _ 39 f75_36 rfl g75_161_10 (hb_22 _ _ _ _) rfl (Nat.le_of_ble_eq_true rfl) (by decide +kernel) (hi_22_12 _ _ _ _ _) ?_
            refine zw_vreturn f75_39 r75 u75 ⟨rfl, ?_⟩
            refine zw_vreturn f73_89 r73 u73 ⟨rfl, ?_⟩
            refine zw_iinc (nI (k + 1)) _ 82 f70_79 rfl h1 (by decide +kernel) (nI_1 _) rfl ?_
            refine zw_goto 51 f70_82 (by decide +kernel) ?_
            have E : wT2 nv P W (k + 1) = (lev, dr, (upd sip k 0), opn, cnt, (ev ++ [(3, nI k)])) := by
              show qSip1 (P 53) (P 55) W.1 k (wT2 nv P W k) = _
              rw [hm]
              exact qSip1_z (Decidable.of_not_not hc2) hc3 ((lg_cmp_eq _ _).mp (Decidable.of_not_not hc4))
            exact ih (k + 1) _ _ _ _ _ _ _ _ _ _ _ (KQ.i rfl (KQ.a rfl (KQ.a rfl (KQ.i rfl K0)))) E ⟨⟨hR1.1.1, hR1.1.2⟩, PE.of10 ((hR1.2.1 53 (by omega) (by omega))) ((hR1.2.1 54 (by omega) (by omega))) ((hR1.2.1 55 (by omega) (by omega))) ((hR1.2.1 56 (by omega) (by omega))) ((hR1.2.1 57 (by omega) (by omega))) ((hR1.2.1 58 (by omega) (by omega))) ((hR1.2.1 59 (by omega) (by omega))) ((hR1.2.1 60 (by omega) (by omega))) ((hR1.2.1 61 (by omega) (by omega))) ((hR1.2.1 62 (by omega) (by omega))), ⟨hR1.2.2.1.1, hR1.2.2.1.2.1, hR1.2.2.1.2.2.1, hR1.2.2.1.2.2.2⟩, hR1.2.2.2.1, ((bOf_clr (by omega) (by omega)).trans (congrArg (fun z => upd z k 0) hR1.2.2.2.2.1)), hR1.2.2.2.2.2.1, hR1.2.2.2.2.2.2⟩ ⟨(show _ = nI _ by rw [len_s]; rfl), hp_s hH.2 rfl rfl⟩ (zl1_ne rfl rfl h0) zl1_eq (by omega) (by omega)
        · refine zw_aload_n 12 f73_11 rfl rfl ?_
          refine zw_getfield 15 f73_12 rfl g73_12_10 (hb_22 _ _ _ _) rfl ?_
          refine zw_getfield 18 f73_15 rfl g73_87_9 (hb_23 _ _ _ _) rfl ?_
          refine zw_iload_n 19 f73_18 rfl rfl ?_
          refine zw_laload k (lev k) 20 f73_19 rfl (hb_24 _ _ _ _) (nI_clamp (by omega)) (nI_pos (by omega)) (by omega) (congrFun (hR1.2.2.2.1) k) ?_
          refine zw_aload_n 21 f73_20 rfl rfl ?_
          refine zw_getfield 24 f73_21 rfl g73_37_10 (hb_22 _ _ _ _) rfl ?_
          refine zw_getfield 27 f73_24 rfl g73_139_4 (hb_1 _ _ _ _) rfl ?_
          refine zw_iload_n 28 f73_27 rfl rfl ?_
          refine zw_iaload k (P 55 k) 29 f73_28 rfl (hb_4 _ _ _ _) (nI_clamp (by omega)) (nI_pos (by omega)) (by omega) (congrFun ((hR1.2.1 55 (by omega) (by omega))) k) ?_
          refine zw_i2l (Int32.toInt64 (P 55 k)) 30 f73_29 rfl rfl ?_
          refine zw_aload_n 31 f73_30 rfl rfl ?_
          refine zw_getfield 34 f73_31 rfl g73_12_10 (hb_22 _ _ _ _) rfl ?_
          refine zw_getG W.1 37 f73_34 rfl g73_109_9 (hb_23 _ _ _ _) rfl hR1.2.2.1.1 ?_
          refine zw_lmul ((Int32.toInt64 (P 55 k)) * W.1) 38 f73_37 rfl rfl ?_
          refine zw_lcmp (lg_cmp (lev k) ((Int32.toInt64 (P 55 k)) * W.1)) 39 f73_38 rfl rfl ?_
          refine zw_if_lt 42 89 f73_39 (by decide +kernel) rfl (fun hc5 => ?_) (fun hc5 => ?_)
          · refine zw_vreturn f73_89 r73 u73 ⟨rfl, ?_⟩
            refine zw_iinc (nI (k + 1)) _ 82 f70_79 rfl h1 (by decide +kernel) (nI_1 _) rfl ?_
            refine zw_goto 51 f70_82 (by decide +kernel) ?_
            have E : wT2 nv P W (k + 1) = (lev, dr, sip, opn, cnt, ev) := by
              show qSip1 (P 53) (P 55) W.1 k (wT2 nv P W k) = _
              rw [hm]
              exact qSip1_b (Decidable.of_not_not hc3) (Int64.not_le.mpr ((lg_cmp_lt _ _).mp hc5))
            exact ih (k + 1) _ _ _ _ _ _ _ _ _ _ _ K0 E hR1 hH (zl1_ne rfl rfl h0) zl1_eq (by omega) (by omega)
          · refine zw_aload_n 43 f73_42 rfl rfl ?_
            refine zw_getfield 46 f73_43 rfl g73_12_10 (hb_22 _ _ _ _) rfl ?_
            refine zw_iload_n 47 f73_46 rfl rfl ?_
            refine zw_iconst 1 48 f73_47 rfl (by decide +kernel) ?_
            refine zw_virtual_v 51 0 0 [.ref 23, .int (nI k), .int 1] [(0, .ref 23), (1, .int (nI k)), (2, .int 1)] f73_48 rfl n73_208 k73_208_9 rfl (hb_23 _ _ _ _) (by decide +kernel) (Nat.le_of_ble_eq_true rfl) rfl rfl (by decide +kernel) (by decide +kernel) rfl (Nat.le_of_ble_eq_true rfl) rfl ?_
            refine zw_aload_n 1 f46_0 rfl rfl ?_
            refine zw_iload_n 2 f46_1 rfl rfl ?_
            refine zw_if_eq_f 5 16 f46_2 (by decide +kernel) rfl (by decide +kernel) ?_
            refine zw_aload_n 6 f46_5 rfl rfl ?_
            refine zw_getI (I1 23 6) 9 f46_6 rfl g46_42_9 (hb_23 _ _ _ _) rfl rfl ?_
            refine zw_iconst 1 10 f46_9 rfl (by decide +kernel) ?_
            refine zw_iload_n 11 f46_10 rfl rfl ?_
            refine zw_ishl (1 <<< ((nI k) &&& 31)) 12 f46_11 rfl rfl ?_
            refine zw_ior ((I1 23 6) ||| (1 <<< ((nI k) &&& 31))) 13 f46_12 rfl rfl ?_
            refine zw_goto 26 f46_13 (by decide +kernel) ?_
            refine zw_put _ 29 f46_26 rfl g46_42_9 (hb_23 _ _ _ _) rfl (Nat.le_of_ble_eq_true rfl) (by decide +kernel) (hi_23_6 _ _ _ _ _) ?_
            refine zw_vreturn f46_29 r46 u46 ⟨rfl, ?_⟩
            refine zw_aload_n 52 f73_51 rfl rfl ?_
            refine zw_iconst 2 53 f73_52 rfl (by decide +kernel) ?_
            refine zw_iload_n 54 f73_53 rfl rfl ?_
            refine zw_virtual_v 57 0 0 [.ref 22, .int 2, .int (nI k)] [(0, .ref 22), (1, .int 2), (2, .int (nI k))] f73_54 rfl n73_203 k73_203_10 rfl (hb_22 _ _ _ _) (by decide +kernel) (Nat.le_of_ble_eq_true rfl) rfl rfl (by decide +kernel) (by decide +kernel) rfl (Nat.le_of_ble_eq_true rfl) rfl ?_
            refine zw_aload_n 1 f75_0 rfl rfl ?_
            refine zw_getI (nI ev.length) 4 f75_1 rfl g75_161_10 (hb_22 _ _ _ _) rfl hH.1 ?_
            refine zw_bipush 8 6 f75_4 rfl (by decide +kernel) ?_
            refine zw_ic_ge_f 9 39 f75_6 (by decide +kernel) rfl (fun q => absurd (zn_ge (a := 8) (b := ev.length) (by omega) (by omega) q) (by omega)) ?_
            refine zw_aload_n 10 f75_9 rfl rfl ?_
            refine zw_getfield 13 f75_10 rfl g75_31_10 (hb_22 _ _ _ _) rfl ?_
            refine zw_aload_n 14 f75_13 rfl rfl ?_
            refine zw_getI (nI ev.length) 17 f75_14 rfl g75_161_10 (hb_22 _ _ _ _) rfl hH.1 ?_
            refine zw_iload_n 18 f75_17 rfl rfl ?_
            refine zw_ast ev.length _ 19 f75_18 rfl (hb_31 _ _ _ _) (nI_clamp (by omega)) (nI_pos (by omega)) (by omega) (ha_31 _ _ _ _ _) ?_
            refine zw_aload_n 20 f75_19 rfl rfl ?_
            refine zw_getfield 23 f75_20 rfl g75_34_10 (hb_22 _ _ _ _) rfl ?_
            refine zw_aload_n 24 f75_23 rfl rfl ?_
            refine zw_getI (nI ev.length) 27 f75_24 rfl g75_161_10 (hb_22 _ _ _ _) rfl hH.1 ?_
            refine zw_iload_n 28 f75_27 rfl rfl ?_
            refine zw_ast ev.length _ 29 f75_28 rfl (hb_32 _ _ _ _) (nI_clamp (by omega)) (nI_pos (by omega)) (by omega) (ha_32 _ _ _ _ _) ?_
            refine zw_aload_n 30 f75_29 rfl rfl ?_
            refine zw_dup 31 f75_30 rfl rfl ?_
            refine zw_getI (nI ev.length) 34 f75_31 rfl g75_161_10 (hb_22 _ _ _ _) rfl hH.1 ?_
            refine zw_iconst 1 35 f75_34 rfl (by decide +kernel) ?_
            refine zw_iadd (nI (ev.length + 1)) 36 f75_35 rfl (nI_add _ 1) ?_
            refine zw_put _ 39 f75_36 rfl g75_161_10 (hb_22 _ _ _ _) rfl (Nat.le_of_ble_eq_true rfl) (by decide +kernel) (hi_22_12 _ _ _ _ _) ?_
            refine zw_vreturn f75_39 r75 u75 ⟨rfl, ?_⟩
            refine zw_goto 89 f73_57 (by decide +kernel) ?_
            refine zw_vreturn f73_89 r73 u73 ⟨rfl, ?_⟩
            refine zw_iinc (nI (k + 1)) _ 82 f70_79 rfl h1 (by decide +kernel) (nI_1 _) rfl ?_
            refine zw_goto 51 f70_82 (by decide +kernel) ?_
            have E : wT2 nv P W (k + 1) = (lev, dr, (upd sip k 1), opn, cnt, (ev ++ [(2, nI k)])) := by
              show qSip1 (P 53) (P 55) W.1 k (wT2 nv P W k) = _
              rw [hm]
              exact qSip1_y (Decidable.of_not_not hc2) (Decidable.of_not_not hc3) (Int64.not_lt.mp (fun q => hc5 ((lg_cmp_lt _ _).mpr q)))
            exact ih (k + 1) _ _ _ _ _ _ _ _ _ _ _ (KQ.i rfl (KQ.a rfl (KQ.a rfl (KQ.i rfl K0)))) E ⟨⟨hR1.1.1, hR1.1.2⟩, PE.of10 ((hR1.2.1 53 (by omega) (by omega))) ((hR1.2.1 54 (by omega) (by omega))) ((hR1.2.1 55 (by omega) (by omega))) ((hR1.2.1 56 (by omega) (by omega))) ((hR1.2.1 57 (by omega) (by omega))) ((hR1.2.1 58 (by omega) (by omega))) ((hR1.2.1 59 (by omega) (by omega))) ((hR1.2.1 60 (by omega) (by omega))) ((hR1.2.1 61 (by omega) (by omega))) ((hR1.2.1 62 (by omega) (by omega))), ⟨hR1.2.2.1.1, hR1.2.2.1.2.1, hR1.2.2.1.2.2.1, hR1.2.2.1.2.2.2⟩, hR1.2.2.2.1, ((bOf_set (by omega) (by omega)).trans (congrArg (fun z => upd z k 1) hR1.2.2.2.2.1)), hR1.2.2.2.2.2.1, hR1.2.2.2.2.2.2⟩ ⟨(show _ = nI _ by rw [len_s]; rfl), hp_s hH.2 rfl rfl⟩ (zl1_ne rfl rfl h0) zl1_eq (by omega) (by omega)
set_option maxRecDepth 100000 in
set_option maxHeartbeats 0 in
theorem lcx_se22_7 (ro : UInt32 → Nat × (Nat → Int32)) (nv np : Nat) (P : Nat → Nat → Int32) (W : qW) (T K : Int) (I : Nat → Nat → Int32) (G : Nat → Nat → Int64) (A : Nat → Nat → Int32) (B : Nat → Nat → Int64) (hR : cRS 22 nv np P W I G A B) (hp : MPa nv np P) (hb : wBo W) (hW : wOk nv T K P W) (hT : T ≤ 40000) (hK : K ≤ 200000000) : ∀ (n k : Nat) (ls : List (Nat × Value)) (I1 : Nat → Nat → Int32) (G1 : Nat → Nat → Int64) (A1 : Nat → Nat → Int32) (B1 : Nat → Nat → Int64) (lev : Nat → Int64) (dr : Int64) (sip opn cnt : Nat → Int32) (ev : List (Int32 × Int32)), KQ (fSe 22) (pSe 22) I G A B I1 G1 A1 B1 → wT1 P W k = (lev, dr, sip, opn, cnt, ev) → cRS 22 nv np P (wMid W (lev, dr, sip, opn, cnt, ev)) I1 G1 A1 B1 → cHp 22 I1 A1 ev → zld ls 0 = some (.ref 22) → zld ls 1 = some (.int (nI k)) → k ≤ nv → nv + 1 ≤ k + n → zWp ro 70 7 ls [] (hS I1 G1 A1 B1) 0 0 (fun r h1 => ∃ I2 G2 A2 B2, h1 = hS I2 G2 A2 B2 ∧ KQ (fSe 22) (pSe 22) I G A B I2 G2 A2 B2 ∧ (cRS 22 nv np P (wMom nv P W) I2 G2 A2 B2 ∧ cHp 22 I2 A2 (wEv nv P W)) ∧ r = none) := by
  have h8 := hp.1
  have h14 := hp.2.1
  have hg : 1 ≤ W.1.toInt ∧ W.1.toInt ≤ 10000 := hW.1.1
  have tok := wT_ok hp hb hW hT hK
  have tln := wT_len (nv := nv) (P := P) (W := W)
  have tsum := qN_sum (kind := P 53) nv
  intro n
  induction n with
  | zero =>
    intro k ls I1 G1 A1 B1 lev dr sip opn cnt ev _ _ _ _ _ _ a b
    exact absurd b (by omega)
  | succ n ih =>
    intro k ls I1 G1 A1 B1 lev dr sip opn cnt ev K0 hm hR1 hH h0 h1 hk1 hk2
    have hO := tok.1 k hk1
    have hLn := tln.1 k
    rw [hm] at hO hLn
    change ev.length ≤ _ at hLn
    have hbm : wBo (wMid W (lev, dr, sip, opn, cnt, ev)) := ⟨hO.2.2.2.1.1, hO.2.2.2.1.2⟩
    refine zw_iload_n 8 f70_7 rfl h1 ?_
    refine zw_aload_n 9 f70_8 rfl h0 ?_
    refine zw_getfield 12 f70_9 rfl g70_37_10 (hb_22 _ _ _ _) rfl ?_
    refine zw_getI (nI nv) 15 f70_12 rfl g70_80_4 (hb_1 _ _ _ _) rfl hR1.1.1 ?_
    refine zw_ic_ge 18 49 f70_15 (by decide +kernel) rfl (fun hc1 => ?_) (fun hc1 => ?_)
    · have hn_hc1 : nv ≤ k := zn_ge (by omega) (by omega) hc1
      refine zw_iconst 0 50 f70_49 rfl (by decide +kernel) ?_
      refine zw_istore_n _ 51 f70_50 rfl (by decide +kernel) rfl ?_
      have hk : k = nv := by omega
      subst hk
      exact lcx_se22_51 ro k np P W T K I G A B hR hp hb hW hT hK (k + 1) 0 _ _ _ _ _ _ _ _ _ _ _ K0 hm hR1 hH (zl1_ne rfl rfl h0) zl1_eq (by omega) (by omega)
    · have hn_hc1 : k < nv := zn_lt (by omega) (by omega) hc1
      refine zw_aload_n 19 f70_18 rfl h0 ?_
      refine zw_getfield 22 f70_19 rfl g70_37_10 (hb_22 _ _ _ _) rfl ?_
      refine zw_iload_n 23 f70_22 rfl h1 ?_
      refine zw_virtual_i 26 0 0 [.ref 1, .int (nI k)] [(0, .ref 1), (1, .int (nI k))] f70_23 rfl n70_132 k70_132_4 rfl (hb_1 _ _ _ _) (by decide +kernel) (Nat.le_of_ble_eq_true rfl) rfl rfl (by decide +kernel) (by decide +kernel) rfl (Nat.le_of_ble_eq_true rfl) rfl ?_
      refine zw_iload_n 1 f15_0 rfl rfl ?_
      refine zw_if_lt_f 4 27 f15_1 (by decide +kernel) rfl (nI_pos (by omega)) ?_
      refine zw_iload_n 5 f15_4 rfl rfl ?_
      refine zw_aload_n 6 f15_5 rfl rfl ?_
      refine zw_getI (nI nv) 9 f15_6 rfl g15_39_4 (hb_1 _ _ _ _) rfl hR1.1.1 ?_
      refine zw_ic_ge_f 12 27 f15_9 (by decide +kernel) rfl hc1 ?_
      refine zw_iload_n 13 f15_12 rfl rfl ?_
      refine zw_bipush 8 15 f15_13 rfl (by decide +kernel) ?_
      refine zw_ic_ge_f 18 27 f15_15 (by decide +kernel) rfl (fun q => absurd (zn_ge (a := 8) (b := k) (by omega) (by omega) q) (by omega)) ?_
      refine zw_aload_n 19 f15_18 rfl rfl ?_
      refine zw_getfield 22 f15_19 rfl g15_9_4 (hb_1 _ _ _ _) rfl ?_
      refine zw_iload_n 23 f15_22 rfl rfl ?_
      refine zw_iaload k (P 53 k) 24 f15_23 rfl (hb_2 _ _ _ _) (nI_clamp (by omega)) (nI_pos (by omega)) (by omega) (congrFun ((hR1.2.1 53 (by omega) (by omega))) k) ?_
      refine zw_goto 28 f15_24 (by decide +kernel) ?_
      refine zw_ireturn f15_28 r15 u15 ⟨_, rfl, ?_⟩
      refine zw_iconst 2 27 f70_26 rfl (by decide +kernel) ?_
      refine zw_ic_ne 30 43 f70_27 (by decide +kernel) rfl (fun hc2 => ?_) (fun hc2 => ?_)
      · refine zw_iinc (nI (k + 1)) _ 46 f70_43 rfl h1 (by decide +kernel) (nI_1 _) rfl ?_
        refine zw_goto 7 f70_46 (by decide +kernel) ?_
        have E : wT1 P W (k + 1) = (lev, dr, sip, opn, cnt, ev) := by
          show qTip1 (P 53) (P 54) (P 58) (P 59) W.1 k (wT1 P W k) = _
          rw [hm]
          exact qTip1_a hc2
        exact ih (k + 1) _ _ _ _ _ _ _ _ _ _ _ K0 E hR1 hH (zl1_ne rfl rfl h0) zl1_eq (by omega) (by omega)
      · have eY := qN_y (kind := P 53) (k := k) (show s2 (P 53 k) from (Decidable.of_not_not hc2))
        have eM := qN_mo (s := s2) (kind := P 53) (k := k + 1) nv (by omega)
        have he8 : ev.length < 8 := by omega
        refine zw_aload_n 31 f70_30 rfl h0 ?_
        refine zw_iload_n 32 f70_31 rfl h1 ?_
        refine zw_virtual_i 35 0 0 [.ref 22, .int (nI k)] [(0, .ref 22), (1, .int (nI k))] f70_32 rfl n70_97 k70_97_10 rfl (hb_22 _ _ _ _) (by decide +kernel) (Nat.le_of_ble_eq_true rfl) rfl rfl (by decide +kernel) (by decide +kernel) rfl (Nat.le_of_ble_eq_true rfl) rfl ?_
        refine zw_aload_n 1 f52_0 rfl rfl ?_
        refine zw_getfield 4 f52_1 rfl g52_12_10 (hb_22 _ _ _ _) rfl ?_
        refine zw_getfield 7 f52_4 rfl g52_87_9 (hb_23 _ _ _ _) rfl ?_
        refine zw_iload_n 8 f52_7 rfl rfl ?_
        refine zw_laload k (lev k) 9 f52_8 rfl (hb_24 _ _ _ _) (nI_clamp (by omega)) (nI_pos (by omega)) (by omega) (congrFun (hR1.2.2.2.1) k) ?_
        refine zw_aload_n 10 f52_9 rfl rfl ?_
        refine zw_getfield 13 f52_10 rfl g52_37_10 (hb_22 _ _ _ _) rfl ?_
        refine zw_getfield 16 f52_13 rfl g52_106_4 (hb_1 _ _ _ _) rfl ?_
        refine zw_iload_n 17 f52_16 rfl rfl ?_
        refine zw_iaload k (P 54 k) 18 f52_17 rfl (hb_3 _ _ _ _) (nI_clamp (by omega)) (nI_pos (by omega)) (by omega) (congrFun ((hR1.2.1 54 (by omega) (by omega))) k) ?_
        refine zw_i2l (Int32.toInt64 (P 54 k)) 19 f52_18 rfl rfl ?_
        refine zw_aload_n 20 f52_19 rfl rfl ?_
        refine zw_getfield 23 f52_20 rfl g52_12_10 (hb_22 _ _ _ _) rfl ?_
        refine zw_getG W.1 26 f52_23 rfl g52_109_9 (hb_23 _ _ _ _) rfl hR1.2.2.1.1 ?_
        refine zw_lmul ((Int32.toInt64 (P 54 k)) * W.1) 27 f52_26 rfl rfl ?_
        refine zw_lcmp (lg_cmp (lev k) ((Int32.toInt64 (P 54 k)) * W.1)) 28 f52_27 rfl rfl ?_
        refine zw_if_lt 31 35 f52_28 (by decide +kernel) rfl (fun hc3 => ?_) (fun hc3 => ?_)
        · refine zw_iconst 0 36 f52_35 rfl (by decide +kernel) ?_
          refine zw_zreturn f52_36 r52 u52 (by decide +kernel) ⟨_, rfl, ?_⟩
          refine zw_if_eq_t 43 f70_35 (by decide +kernel) (by decide +kernel) ?_
          refine zw_iinc (nI (k + 1)) _ 46 f70_43 rfl h1 (by decide +kernel) (nI_1 _) rfl ?_
          refine zw_goto 7 f70_46 (by decide +kernel) ?_
          have E : wT1 P W (k + 1) = (lev, dr, sip, opn, cnt, ev) := by
            show qTip1 (P 53) (P 54) (P 58) (P 59) W.1 k (wT1 P W k) = _
            rw [hm]
            exact qTip1_b (fun z => absurd ((lg_cmp_lt _ _).mp hc3) (by rw [z]; exact i64_irr))
          exact ih (k + 1) _ _ _ _ _ _ _ _ _ _ _ K0 E hR1 hH (zl1_ne rfl rfl h0) zl1_eq (by omega) (by omega)
        · refine zw_iconst 1 32 f52_31 rfl (by decide +kernel) ?_
          refine zw_goto 36 f52_32 (by decide +kernel) ?_
          refine zw_zreturn f52_36 r52 u52 (by decide +kernel) ⟨_, rfl, ?_⟩
          refine zw_if_eq_f 38 43 f70_35 (by decide +kernel) rfl (by decide +kernel) ?_
          refine zw_aload_n 39 f70_38 rfl h0 ?_
          refine zw_iload_n 40 f70_39 rfl h1 ?_
          refine zw_virtual_v 43 0 0 [.ref 22, .int (nI k)] [(0, .ref 22), (1, .int (nI k))] f70_40 rfl n70_187 k70_187_10 rfl (hb_22 _ _ _ _) (by decide +kernel) (Nat.le_of_ble_eq_true rfl) rfl rfl (by decide +kernel) (by decide +kernel) rfl (Nat.le_of_ble_eq_true rfl) rfl ?_
          refine zw_aload_n 1 f71_0 rfl rfl ?_
          refine zw_getfield 4 f71_1 rfl g71_12_10 (hb_22 _ _ _ _) rfl ?_
          refine zw_getfield 7 f71_4 rfl g71_87_9 (hb_23 _ _ _ _) rfl ?_
          refine zw_iload_n 8 f71_7 rfl rfl ?_
          refine zw_laload k (lev k) 9 f71_8 rfl (hb_24 _ _ _ _) (nI_clamp (by omega)) (nI_pos (by omega)) (by omega) (congrFun (hR1.2.2.2.1) k) ?_
          refine zw_lstore_n _ 10 f71_9 rfl (by decide +kernel) rfl ?_
          refine zw_aload_n 11 f71_10 rfl (zl2_ne rfl rfl rfl) ?_
          refine zw_getfield 14 f71_11 rfl g71_12_10 (hb_22 _ _ _ _) rfl ?_
          refine zw_getfield 17 f71_14 rfl g71_87_9 (hb_23 _ _ _ _) rfl ?_
          refine zw_iload_n 18 f71_17 rfl (zl2_ne rfl rfl rfl) ?_
          refine zw_lconst 0 19 f71_18 rfl (by decide +kernel) ?_
          refine zw_lst k _ 20 f71_19 rfl (hb_24 _ _ _ _) (nI_clamp (by omega)) (nI_pos (by omega)) (by omega) (ha_24 _ _ _ _ _) ?_
          refine zw_aload_n 21 f71_20 rfl (zl2_ne rfl rfl rfl) ?_
          refine zw_aload_n 22 f71_21 rfl (zl2_ne rfl rfl rfl) ?_
          refine zw_getfield 25 f71_22 rfl g71_37_10 (hb_22 _ _ _ _) rfl ?_
          refine zw_getfield 28 f71_25 rfl g71_196_4 (hb_1 _ _ _ _) rfl ?_
          refine zw_iload_n 29 f71_28 rfl (zl2_ne rfl rfl rfl) ?_
          refine zw_iaload k (P 58 k) 30 f71_29 rfl (hb_7 _ _ _ _) (nI_clamp (by omega)) (nI_pos (by omega)) (by omega) (congrFun ((hR1.2.1 58 (by omega) (by omega))) k) ?_
          refine zw_lload_n 31 f71_30 rfl zl2_eq ?_
          refine zw_virtual_v 34 0 0 [.ref 22, .int (P 58 k), .long (lev k)] [(0, .ref 22), (1, .int (P 58 k)), (2, .long (lev k))] f71_31 rfl n71_199 k71_199_10 rfl (hb_22 _ _ _ _) (by decide +kernel) (Nat.le_of_ble_eq_true rfl) rfl rfl (by decide +kernel) (by decide +kernel) rfl (Nat.le_of_ble_eq_true rfl) rfl ?_
          have lvk : 0 ≤ (lev k).toInt ∧ (lev k).toInt ≤ (P 54 k).toInt * W.1.toInt := hO.1.1 k (by omega)
          have bgk := (mBrim (a := P 54 k) (g := W.1) ⟨by have := (hp.2.2.1 k (by omega)).1; omega, (hp.2.2.1 k (by omega)).1.2⟩ hg).2.2
          refine zWp.mono (cx_pour_22 ro nv np P _ _ _ _ hp W.1 dr hg hR1.1.1 (hR1.2.1 54 (by omega) (by omega)) (hR1.2.1 59 (by omega) (by omega)) hR1.2.2.1.1 (vp_updL lev k 0) (congrArg (fun z => vp_updL z k 0) (hR1.2.2.2.1)) hR1.2.2.1.2.2.2 (hO.1.u (by omega) (by rw [i64_0]; omega) (by rw [i64_0]; exact Int.le_trans lvk.1 lvk.2)) (P 58 k) (lev k) (mTo_0 (hp.2.2.1 k (by omega)).2.2.2.2.1) lvk.1 (by omega)) ?_
          rintro r h1 ⟨I_4, G_4, A_4, B_4, rfl, K_4, P_4, rfl⟩
          refine ⟨rfl, ?_⟩
          refine zw_aload_n 35 f71_34 rfl (zl2_ne rfl rfl rfl) ?_
          refine zw_iconst 1 36 f71_35 rfl (by decide +kernel) ?_
          refine zw_iload_n 37 f71_36 rfl (zl2_ne rfl rfl rfl) ?_
          refine zw_virtual_v 40 0 0 [.ref 22, .int 1, .int (nI k)] [(0, .ref 22), (1, .int 1), (2, .int (nI k))] f71_37 rfl n71_203 k71_203_10 rfl (hb_22 _ _ _ _) (by decide +kernel) (Nat.le_of_ble_eq_true rfl) rfl rfl (by decide +kernel) (by decide +kernel) rfl (Nat.le_of_ble_eq_true rfl) rfl ?_
          refine zw_aload_n 1 f75_0 rfl rfl ?_
          refine zw_getI (nI ev.length) 4 f75_1 rfl g75_161_10 (hb_22 _ _ _ _) rfl ((K_4.1 22 12 rfl).trans hH.1) ?_
          refine zw_bipush 8 6 f75_4 rfl (by decide +kernel) ?_
          refine zw_ic_ge_f 9 39 f75_6 (by decide +kernel) rfl (fun q => absurd (zn_ge (a := 8) (b := ev.length) (by omega) (by omega) q) (by omega)) ?_
          refine zw_aload_n 10 f75_9 rfl rfl ?_
          refine zw_getfield 13 f75_10 rfl g75_31_10 (hb_22 _ _ _ _) rfl ?_
          refine zw_aload_n 14 f75_13 rfl rfl ?_
          refine zw_getI (nI ev.length) 17 f75_14 rfl g75_161_10 (hb_22 _ _ _ _) rfl ((K_4.1 22 12 rfl).trans hH.1) ?_
          refine zw_iload_n 18 f75_17 rfl rfl ?_
          refine zw_ast ev.length _ 19 f75_18 rfl (hb_31 _ _ _ _) (nI_clamp (by omega)) (nI_pos (by omega)) (by omega) (ha_31 _ _ _ _ _) ?_
          refine zw_aload_n 20 f75_19 rfl rfl ?_
          refine zw_getfield 23 f75_20 rfl g75_34_10 (hb_22 _ _ _ _) rfl ?_
          refine zw_aload_n 24 f75_23 rfl rfl ?_
          refine zw_getI (nI ev.length) 27 f75_24 rfl g75_161_10 (hb_22 _ _ _ _) rfl ((K_4.1 22 12 rfl).trans hH.1) ?_
          refine zw_iload_n 28 f75_27 rfl rfl ?_
          refine zw_ast ev.length _ 29 f75_28 rfl (hb_32 _ _ _ _) (nI_clamp (by omega)) (nI_pos (by omega)) (by omega) (ha_32 _ _ _ _ _) ?_
          refine zw_aload_n 30 f75_29 rfl rfl ?_
          refine zw_dup 31 f75_30 rfl rfl ?_
          refine zw_getI (nI ev.length) 34 f75_31 rfl g75_161_10 (hb_22 _ _ _ _) rfl ((K_4.1 22 12 rfl).trans hH.1) ?_
          refine zw_iconst 1 35 f75_34 rfl (by decide +kernel) ?_
          refine zw_iadd (nI (ev.length + 1)) 36 f75_35 rfl (nI_add _ 1) ?_
          refine zw_put _ 39 f75_36 rfl g75_161_10 (hb_22 _ _ _ _) rfl (Nat.le_of_ble_eq_true rfl) (by decide +kernel) (hi_22_12 _ _ _ _ _) ?_
          refine zw_vreturn f75_39 r75 u75 ⟨rfl, ?_⟩
          refine zw_vreturn f71_40 r71 u71 ⟨rfl, ?_⟩
          refine zw_iinc (nI (k + 1)) _ 46 f70_43 rfl h1 (by decide +kernel) (nI_1 _) rfl ?_
          refine zw_goto 7 f70_46 (by decide +kernel) ?_
          have E : wT1 P W (k + 1) = (((qPour (P 54) (P 59) W.1 9 (vp_updL lev k 0) dr (P 58 k) (lev k)).1), ((qPour (P 54) (P 59) W.1 9 (vp_updL lev k 0) dr (P 58 k) (lev k)).2), sip, opn, cnt, (ev ++ [(1, nI k)])) := by
            show qTip1 (P 53) (P 54) (P 58) (P 59) W.1 k (wT1 P W k) = _
            rw [hm]
            exact qTip1_y (Decidable.of_not_not hc2) (fullk (hp.2.2.1 k (by omega)).1 hg (hO.1.1 k (by omega)) (Int64.not_lt.mpr (Int64.not_lt.mp (fun q => hc3 ((lg_cmp_lt _ _).mpr q)))))
          exact ih (k + 1) _ _ _ _ _ _ _ _ _ _ _ (KQ.i rfl (KQ.a rfl (KQ.a rfl (KQ.tr (KQ.b rfl K0) (KQ.wk K_4 (fCp_Se 22) (pCa_Se 22)))))) E ⟨⟨((K_4.1 1 0 rfl).trans hR1.1.1), ((K_4.1 1 1 rfl).trans hR1.1.2)⟩, PE.of10 (((K_4.2.2.1 2 rfl).trans (hR1.2.1 53 (by omega) (by omega)))) (((K_4.2.2.1 3 rfl).trans (hR1.2.1 54 (by omega) (by omega)))) (((K_4.2.2.1 4 rfl).trans (hR1.2.1 55 (by omega) (by omega)))) (((K_4.2.2.1 5 rfl).trans (hR1.2.1 56 (by omega) (by omega)))) (((K_4.2.2.1 6 rfl).trans (hR1.2.1 57 (by omega) (by omega)))) (((K_4.2.2.1 7 rfl).trans (hR1.2.1 58 (by omega) (by omega)))) (((K_4.2.2.1 8 rfl).trans (hR1.2.1 59 (by omega) (by omega)))) (((K_4.2.2.1 9 rfl).trans (hR1.2.1 60 (by omega) (by omega)))) (((K_4.2.2.1 10 rfl).trans (hR1.2.1 61 (by omega) (by omega)))) (((K_4.2.2.1 26 rfl).trans (hR1.2.1 62 (by omega) (by omega)))), ⟨((K_4.2.1 23 0 rfl).trans hR1.2.2.1.1), ((K_4.2.1 23 1 rfl).trans hR1.2.2.1.2.1), ((K_4.2.1 23 2 rfl).trans hR1.2.2.1.2.2.1), P_4.2⟩, P_4.1, ((congrArg (bOf 8) (K_4.1 23 6 rfl)).trans hR1.2.2.2.2.1), ((congrArg (bOf 14) (K_4.1 23 5 rfl)).trans hR1.2.2.2.2.2.1), (fun v hv => (congrFun (K_4.2.2.1 25 rfl) v).trans (hR1.2.2.2.2.2.2 v hv))⟩ ⟨(show _ = nI _ by rw [len_s]; rfl), hp_s hH.2 (congrArg (fun z => upd z ev.length 1) ((K_4.2.2.1 31 rfl))) (congrArg (fun z => upd z ev.length (nI k)) ((K_4.2.2.1 32 rfl)))⟩ (zl1_ne rfl rfl h0) zl1_eq (by omega) (by omega)
set_option maxRecDepth 100000 in
set_option maxHeartbeats 0 in
theorem cx_settle_22 (ro : UInt32 → Nat × (Nat → Int32)) (nv np : Nat) (P : Nat → Nat → Int32) (W : qW) (T K : Int) (I : Nat → Nat → Int32) (G : Nat → Nat → Int64) (A : Nat → Nat → Int32) (B : Nat → Nat → Int64) (hR : cRS 22 nv np P W I G A B) (hp : MPa nv np P) (hb : wBo W) (hW : wOk nv T K P W) (hT : T ≤ 40000) (hK : K ≤ 200000000) : zWp ro 70 0 [(0, .ref 22)] [] (hS I G A B) 0 0 (fun r h1 => ∃ I2 G2 A2 B2, h1 = hS I2 G2 A2 B2 ∧ KQ (fSe 22) (pSe 22) I G A B I2 G2 A2 B2 ∧ (cRS 22 nv np P (wMom nv P W) I2 G2 A2 B2 ∧ cHp 22 I2 A2 (wEv nv P W)) ∧ r = none) := by
  have h8 := hp.1
  have h14 := hp.2.1
  have hg : 1 ≤ W.1.toInt ∧ W.1.toInt ≤ 10000 := hW.1.1
  have tok := wT_ok hp hb hW hT hK
  have tln := wT_len (nv := nv) (P := P) (W := W)
  have tsum := qN_sum (kind := P 53) nv
  refine zw_aload_n 1 f70_0 rfl rfl ?_
  refine zw_iconst 0 2 f70_1 rfl (by decide +kernel) ?_
  refine zw_put _ 5 f70_2 rfl g70_161_10 (hb_22 _ _ _ _) rfl (Nat.le_of_ble_eq_true rfl) (by decide +kernel) (hi_22_12 _ _ _ _ _) ?_
  refine zw_iconst 0 6 f70_5 rfl (by decide +kernel) ?_
  refine zw_istore_n _ 7 f70_6 rfl (by decide +kernel) rfl ?_
  exact lcx_se22_7 ro nv np P W T K I G A B hR hp hb hW hT hK (nv + 1) 0 _ _ _ _ _ _ _ _ _ _ _ (KQ.i rfl KQ.rf) rfl ⟨hR.1, hR.2⟩ ⟨rfl, fun i hi => absurd hi (by simp only [List.length_nil]; omega)⟩ (zl1_ne rfl rfl rfl) zl1_eq (by omega) (by omega)
set_option maxRecDepth 100000 in
set_option maxHeartbeats 0 in
theorem cx_step_22 (ro : UInt32 → Nat × (Nat → Int32)) (nv np : Nat) (P : Nat → Nat → Int32) (W : qW) (T T2 K : Int) (I : Nat → Nat → Int32) (G : Nat → Nat → Int64) (A : Nat → Nat → Int32) (B : Nat → Nat → Int64) (hR : cRS 22 nv np P W I G A B) (hp : MPa nv np P) (hb : wBo W) (hW : wOk nv T K P W) (hT : T ≤ 40000) (hT2 : T2 ≤ 40000) (hK : K ≤ 200000000) (hRt : cRel 22 I A (wR2 nv np P W) nv ∧ I 22 6 = wSr nv np P W) (na nb : Int64) (hN : wNx nv np P W = (0, na, nb)) (hC : cNx W.1 (wNx nv np P W) (G 22 8) (G 22 9)) (hps : ∀ W1, wPass nv np P W na nb = some W1 → wOk nv T2 K P W1 ∧ W1.2.2.2.2.2 = W.2.2.2.2.2) : zWp ro 66 0 [(0, .ref 22)] [] (hS I G A B) 0 0 (fun r h1 => ∃ I2 G2 A2 B2, h1 = hS I2 G2 A2 B2 ∧ KQ (fSe 22) (pSe 22) I G A B I2 G2 A2 B2 ∧ ((r = some (.int 0) ∧ wPass nv np P W na nb = none ∧ cRS 22 nv np P W I2 G2 A2 B2 ∧ cHp 22 I2 A2 []) ∨ (r = some (.int 1) ∧ ∃ W1, wPass nv np P W na nb = some W1 ∧ cRS 22 nv np P (wMom nv P W1) I2 G2 A2 B2 ∧ cHp 22 I2 A2 (wEv nv P W1)))) := by
  have ph := wNext_ph hp hW hN
  have ae : cAdv W (wCh nv np P W) (wSr nv np P W) (wDr nv np P W) nv (G 22 9) (G 22 8) = wPass nv np P W na nb := by
    have hC2 := hC
    rw [hN] at hC2
    rcases hC2 with ⟨a, -⟩ | ⟨-, e1, e2, s, g0, g1⟩
    · exact absurd a (by show ¬ (0 : Int32) = 1; decide)
    have e1 : G 22 8 = na := e1
    have e2 : nb = W.1 * G 22 9 := e2
    have hg : 1 ≤ W.1.toInt ∧ W.1.toInt ≤ 10000 := hW.1.1
    rw [e1, adv_eq (tB := nb) hp hW hT hK s.1 s.2 e2 ph.1.1 (by omega) (fun v hv => (ph.2.2 v hv).1)]
  refine zw_aload_n 1 f66_0 rfl rfl ?_
  refine zw_iconst 0 2 f66_1 rfl (by decide +kernel) ?_
  refine zw_put _ 5 f66_2 rfl g66_161_10 (hb_22 _ _ _ _) rfl (Nat.le_of_ble_eq_true rfl) (by decide +kernel) (hi_22_12 _ _ _ _ _) ?_
  refine zw_aload_n 6 f66_5 rfl rfl ?_
  refine zw_aload_n 7 f66_6 rfl rfl ?_
  refine zw_getG (G 22 9) 10 f66_7 rfl g66_119_10 (hb_22 _ _ _ _) rfl rfl ?_
  refine zw_aload_n 11 f66_10 rfl rfl ?_
  refine zw_getG (G 22 8) 14 f66_11 rfl g66_116_10 (hb_22 _ _ _ _) rfl rfl ?_
  refine zw_virtual_i 17 0 0 [.ref 22, .long (G 22 9), .long (G 22 8)] [(0, .ref 22), (1, .long (G 22 9)), (3, .long (G 22 8))] f66_14 rfl n66_164 k66_164_10 rfl (hb_22 _ _ _ _) (by decide +kernel) (Nat.le_of_ble_eq_true rfl) rfl rfl (by decide +kernel) (by decide +kernel) rfl (Nat.le_of_ble_eq_true rfl) rfl ?_
  have hR0 := hR.k (show KQ (fHp 22) p0 I G A B _ G A B from KQ.i (k := 22) (j := 12) (v := 0) rfl KQ.rf) ⟨rfl, rfl⟩ (fHp_w 22) (p0_w 22)
  refine zWp.mono (cx_adv_22 ro nv np P W _ _ _ _ hR0 hp (wCh nv np P W) (wSr nv np P W) (wDr nv np P W) hRt.1.2.2.1 hRt.2 hRt.1.2.1 (G 22 9) (G 22 8)) ?_
  rw [ae]
  rintro r h1 ⟨I2, G2, A2, B2, rfl, K2, (⟨rfl, hn, hR2⟩ | ⟨rfl, hs, hR2⟩)⟩
  · refine ⟨_, rfl, ?_⟩
    refine zw_if_ne_f 20 22 f66_17 (by decide +kernel) rfl (by decide +kernel) ?_
    refine zw_iconst 0 21 f66_20 rfl (by decide +kernel) ?_
    refine zw_zreturn f66_21 r66 u66 (by decide +kernel) ?_
    exact ⟨_, _, _, _, rfl, (KQ.tr (KQ.i rfl KQ.rf) (KQ.wk K2 (fCa_Se 22) (pCa_Se 22))), Or.inl ⟨rfl, hn, hR2, ⟨(K2.1 22 12 rfl), fun i hi => absurd hi (by simp only [List.length_nil]; omega)⟩⟩⟩
  · refine ⟨_, rfl, ?_⟩
    refine zw_if_ne_t 22 f66_17 (by decide +kernel) (by decide +kernel) ?_
    refine zw_aload_n 23 f66_22 rfl rfl ?_
    refine zw_virtual_v 26 0 0 [.ref 22] [(0, .ref 22)] f66_23 rfl n66_168 k66_168_10 rfl (hb_22 _ _ _ _) (by decide +kernel) (Nat.le_of_ble_eq_true rfl) rfl rfl (by decide +kernel) (by decide +kernel) rfl (Nat.le_of_ble_eq_true rfl) rfl ?_
    obtain ⟨w1, w2⟩ := hps _ hs
    have hb1 : wBo (cAdvd W (wCh nv np P W) (wSr nv np P W) (wDr nv np P W) nv (G 22 9) (G 22 8) (cCm W (wCh nv np P W) (wSr nv np P W) (wDr nv np P W) (G 22 9) (G 22 8) nv)) := hb
    refine zWp.mono (cx_settle_22 ro nv np P _ T2 K _ _ _ _ hR2 hp hb1 w1 hT2 hK) ?_
    rintro r h1 ⟨I3, G3, A3, B3, rfl, K3, ⟨hR3, hH3⟩, rfl⟩
    refine ⟨rfl, ?_⟩
    refine zw_iconst 1 27 f66_26 rfl (by decide +kernel) ?_
    refine zw_zreturn f66_27 r66 u66 (by decide +kernel) ?_
    exact ⟨_, _, _, _, rfl, (KQ.tr (KQ.tr (KQ.i rfl KQ.rf) (KQ.wk K2 (fCa_Se 22) (pCa_Se 22))) K3), Or.inr ⟨rfl, _, hs, hR3, hH3⟩⟩
