def fNe (k j : Nat) : Bool := decide ((k = 0 ∧ j = 7) ∨ (k = 11 ∧ 6 ≤ j ∧ j ≤ 9))
def pNe (k : Nat) : Bool := decide (16 ≤ k ∧ k ≤ 19)
theorem fNe_52 : ∀ k j, 52 ≤ k → fNe k j = false := by
  intro k j h
  simp only [fNe, decide_eq_false_iff_not]
  omega
theorem pNe_52 : ∀ k, 52 ≤ k → pNe k = false := by
  intro k h
  simp only [pNe, decide_eq_false_iff_not]
  omega
def qTr (n : Nat) (a : Int32) : Prop := ¬ a < 0 ∧ ¬ nI n ≤ a ∧ ¬ 50 ≤ a
noncomputable def an_trace (tl : List Int32) (a : Int32) : Int32 := cI (qTr tl.length a) (lG tl a.toNatClampNeg) (-1)
theorem qTr_lt {n : Nat} {a : Int32} (hn : n ≤ 50) (h : qTr n a) : a.toNatClampNeg < n := by
  obtain ⟨h0, h1, -⟩ := h
  have e6 : a.toNatClampNeg = a.toInt.toNat := rfl
  rw [i32_lt, i32_0] at h0
  rw [Int32.le_iff_toInt_le, nI_toInt (by omega)] at h1
  omega
theorem qTr_of {n : Nat} {a : Int32} (hn : n ≤ 50) (h0 : ¬ a < 0) (h : ¬ nI n - 1 < a ∨ (¬ 49 < a ∧ 50 ≤ nI n)) : qTr n a := by
  have e1 : (1 : Int32).toInt = 1 := by decide
  have e2 := nI_toInt (n := n) (by omega)
  have e3 : (nI n - 1 : Int32).toInt = n - 1 := by rw [i32_sub, e2, e1] <;> rw [e2, e1] <;> omega
  have e4 : (50 : Int32).toInt = 50 := by decide
  have e5 : (49 : Int32).toInt = 49 := by decide
  rw [i32_lt, i32_lt, e3, e5, Int32.le_iff_toInt_le, e4, e2] at h
  have h0' := h0
  rw [i32_lt, i32_0] at h0'
  refine ⟨h0, fun q => ?_, fun q => ?_⟩
  · rw [Int32.le_iff_toInt_le, e2] at q; omega
  · rw [Int32.le_iff_toInt_le, e4] at q; omega
theorem qTr_n1 {n : Nat} {a : Int32} (hn : n ≤ 50) (h : nI n - 1 < a) : ¬ qTr n a := by
  rintro ⟨-, q, -⟩
  apply q
  have e1 : (1 : Int32).toInt = 1 := by decide
  have e2 := nI_toInt (n := n) (by omega)
  have e3 : (nI n - 1 : Int32).toInt = n - 1 := by rw [i32_sub, e2, e1] <;> rw [e2, e1] <;> omega
  rw [i32_lt, e3] at h
  rw [Int32.le_iff_toInt_le, e2]
  omega
theorem qTr_n2 {n : Nat} {a : Int32} (h : 49 < a) : ¬ qTr n a := by
  rintro ⟨-, -, q⟩
  apply q
  have e4 : (50 : Int32).toInt = 50 := by decide
  have e5 : (49 : Int32).toInt = 49 := by decide
  rw [i32_lt, e5] at h
  rw [Int32.le_iff_toInt_le, e4]
  omega
set_option maxRecDepth 100000 in
set_option maxHeartbeats 0 in
theorem cq_trace (ro : UInt32 → Nat × (Nat → Int32)) (nv np : Nat) (P : Nat → Nat → Int32) (W : qW) (L : qLog) (tl : List Int32) (I : Nat → Nat → Int32) (G : Nat → Nat → Int64) (A : Nat → Nat → Int32) (B : Nat → Nat → Int64) (hR : cRS 11 nv np P W I G A B) (hL : cLg L I A) (tc : cTl (I 44 4) (A 45) tl) (tn : tl.length ≤ 50) (a : Int32) : zWp ro 102 0 [(0, .ref 0), (1, .int a)] [] (hS I G A B) 0 0 (fun r h1 => ∃ I2 G2 A2 B2, h1 = hS I2 G2 A2 B2 ∧ KQ fNe pNe I G A B I2 G2 A2 B2 ∧ r = some (.int (an_trace tl a))) := by
  refine zw_iload_n 1 f102_0 rfl rfl ?_
  refine zw_if_lt 4 33 f102_1 (by decide +kernel) rfl (fun hc1 => ?_) (fun hc1 => ?_)
  · refine zw_iconst (-1) 34 f102_33 rfl (by decide +kernel) ?_
    refine zw_ireturn f102_34 r102 u102 ?_
    exact ⟨_, _, _, _, rfl, KQ.rf, by rw [show an_trace tl a = (-1) from (cI_n (fun q => q.1 hc1))]⟩
  · refine zw_iload_n 5 f102_4 rfl rfl ?_
    refine zw_aload_n 6 f102_5 rfl rfl ?_
    refine zw_getfield 9 f102_6 rfl g102_45_11 (hb_0 _ _ _ _) rfl ?_
    refine zw_getI (nI tl.length) 12 f102_9 rfl g102_256_0 (hb_44 _ _ _ _) rfl tc.1 ?_
    refine zw_ic_ge 15 33 f102_12 (by decide +kernel) rfl (fun hc2 => ?_) (fun hc2 => ?_)
    · refine zw_iconst (-1) 34 f102_33 rfl (by decide +kernel) ?_
      refine zw_ireturn f102_34 r102 u102 ?_
      exact ⟨_, _, _, _, rfl, KQ.rf, by rw [show an_trace tl a = (-1) from (cI_n (fun q => q.2.1 hc2))]⟩
    · refine zw_iload_n 16 f102_15 rfl rfl ?_
      refine zw_bipush 50 18 f102_16 rfl (by decide +kernel) ?_
      refine zw_ic_ge 21 33 f102_18 (by decide +kernel) rfl (fun hc3 => ?_) (fun hc3 => ?_)
      · refine zw_iconst (-1) 34 f102_33 rfl (by decide +kernel) ?_
        refine zw_ireturn f102_34 r102 u102 ?_
        exact ⟨_, _, _, _, rfl, KQ.rf, by rw [show an_trace tl a = (-1) from (cI_n (fun q => q.2.2 hc3))]⟩
      · refine zw_aload_n 22 f102_21 rfl rfl ?_
        refine zw_getfield 25 f102_22 rfl g102_45_11 (hb_0 _ _ _ _) rfl ?_
        refine zw_getfield 28 f102_25 rfl g102_301_0 (hb_44 _ _ _ _) rfl ?_
        refine zw_iload_n 29 f102_28 rfl rfl ?_
        refine zw_iaload a.toNatClampNeg (lG tl a.toNatClampNeg) 30 f102_29 rfl (hb_45 _ _ _ _) rfl hc1 (zix (by decide) hc1 hc3) (tc.2 _ (qTr_lt tn ⟨hc1, hc2, hc3⟩)) ?_
        refine zw_goto 34 f102_30 (by decide +kernel) ?_
        refine zw_ireturn f102_34 r102 u102 ?_
        exact ⟨_, _, _, _, rfl, KQ.rf, by rw [show an_trace tl a = (lG tl a.toNatClampNeg) from (cI_y ⟨hc1, hc2, hc3⟩)]⟩
set_option maxRecDepth 100000 in
set_option maxHeartbeats 0 in
theorem mx_trace (ro : UInt32 → Nat × (Nat → Int32)) (nv np : Nat) (P : Nat → Nat → Int32) (W : qW) (L : qLog) (tl : List Int32) (I : Nat → Nat → Int32) (G : Nat → Nat → Int64) (A : Nat → Nat → Int32) (B : Nat → Nat → Int64) (hR : mRS nv np P W L I G A B) (tm : cTl (I 52 29) (A 71) tl) (tn : tl.length ≤ 50) (hi : mId I) (a : Int32) : zWp ro 181 0 [(0, .ref 52), (1, .int a)] [] (hS I G A B) 0 0 (fun r h1 => ∃ I2 G2 A2 B2, h1 = hS I2 G2 A2 B2 ∧ KQ fQv pQv I G A B I2 G2 A2 B2 ∧ mId I2 ∧ r = some (.int (an_trace tl a))) := by
  refine zw_iload_n 1 f181_0 rfl rfl ?_
  refine zw_iconst 0 2 f181_1 rfl (by decide +kernel) ?_
  refine zw_aload_n 3 f181_2 rfl rfl ?_
  refine zw_getI (nI tl.length) 6 f181_3 rfl g181_246_12 (hb_52 _ _ _ _) rfl tm.1 ?_
  refine zw_bipush 50 8 f181_6 rfl (by decide +kernel) ?_
  refine zw_ic_ge 11 18 f181_8 (by decide +kernel) rfl (fun hc1 => ?_) (fun hc1 => ?_)
  · have hn_hc1 : 50 ≤ tl.length := zn_ge (by omega) (by omega) hc1
    refine zw_bipush 50 20 f181_18 rfl (by decide +kernel) ?_
    refine zw_iconst 1 21 f181_20 rfl (by decide +kernel) ?_
    refine zw_isub 49 22 f181_21 rfl (by decide +kernel) ?_
    refine zw_static_i 25 0 0 [.int a, .int 0, .int 49] [] [(0, .int a), (1, .int 0), (2, .int 49)] f181_22 rfl k181_117_99 rfl (by decide +kernel) (Nat.le_of_ble_eq_true rfl) (Nat.le_of_ble_eq_true rfl) rfl rfl (by decide +kernel) (by decide +kernel) rfl (Nat.le_of_ble_eq_true rfl) rfl ?_
    refine zw_iload_n 1 f120_0 rfl rfl ?_
    refine zw_iload_n 2 f120_1 rfl rfl ?_
    refine zw_ic_lt 5 14 f120_2 (by decide +kernel) rfl (fun hc2 => ?_) (fun hc2 => ?_)
    · refine zw_iconst 0 15 f120_14 rfl (by decide +kernel) ?_
      refine zw_zreturn f120_15 r120 u120 (by decide +kernel) ⟨_, rfl, ?_⟩
      refine zw_if_eq_t 37 f181_25 (by decide +kernel) (by decide +kernel) ?_
      refine zw_iconst (-1) 38 f181_37 rfl (by decide +kernel) ?_
      refine zw_ireturn f181_38 r181 u181 ?_
      exact ⟨_, _, _, _, rfl, KQ.rf, hi, by rw [show an_trace tl a = (-1) from (cI_n (fun q => q.1 hc2))]⟩
    · refine zw_iload_n 6 f120_5 rfl rfl ?_
      refine zw_iload_n 7 f120_6 rfl rfl ?_
      refine zw_ic_gt 10 14 f120_7 (by decide +kernel) rfl (fun hc3 => ?_) (fun hc3 => ?_)
      · refine zw_iconst 0 15 f120_14 rfl (by decide +kernel) ?_
        refine zw_zreturn f120_15 r120 u120 (by decide +kernel) ⟨_, rfl, ?_⟩
        refine zw_if_eq_t 37 f181_25 (by decide +kernel) (by decide +kernel) ?_
        refine zw_iconst (-1) 38 f181_37 rfl (by decide +kernel) ?_
        refine zw_ireturn f181_38 r181 u181 ?_
        exact ⟨_, _, _, _, rfl, KQ.rf, hi, by rw [show an_trace tl a = (-1) from (cI_n (qTr_n2 hc3))]⟩
      · have qt := qTr_of tn hc2 (Or.inr ⟨hc3, hc1⟩)
        refine zw_iconst 1 11 f120_10 rfl (by decide +kernel) ?_
        refine zw_goto 15 f120_11 (by decide +kernel) ?_
        refine zw_zreturn f120_15 r120 u120 (by decide +kernel) ⟨_, rfl, ?_⟩
        refine zw_if_eq_f 28 37 f181_25 (by decide +kernel) rfl (by decide +kernel) ?_
        refine zw_aload_n 29 f181_28 rfl rfl ?_
        refine zw_getfield 32 f181_29 rfl g181_74_12 (hb_52 _ _ _ _) rfl ?_
        refine zw_iload_n 33 f181_32 rfl rfl ?_
        refine zw_iaload a.toNatClampNeg (lG tl a.toNatClampNeg) 34 f181_33 rfl (hb_71 _ _ _ _) rfl hc2 (zix (by decide) hc2 qt.2.2) (tm.2 _ (qTr_lt tn qt)) ?_
        refine zw_goto 38 f181_34 (by decide +kernel) ?_
        refine zw_ireturn f181_38 r181 u181 ?_
        exact ⟨_, _, _, _, rfl, KQ.rf, hi, by rw [show an_trace tl a = (lG tl a.toNatClampNeg) from (cI_y qt)]⟩
  · have hn_hc1 : tl.length < 50 := zn_lt (by omega) (by omega) hc1
    refine zw_aload_n 12 f181_11 rfl rfl ?_
    refine zw_getI (nI tl.length) 15 f181_12 rfl g181_246_12 (hb_52 _ _ _ _) rfl tm.1 ?_
    refine zw_goto 20 f181_15 (by decide +kernel) ?_
    refine zw_iconst 1 21 f181_20 rfl (by decide +kernel) ?_
    refine zw_isub ((nI tl.length) - 1) 22 f181_21 rfl rfl ?_
    refine zw_static_i 25 0 0 [.int a, .int 0, .int ((nI tl.length) - 1)] [] [(0, .int a), (1, .int 0), (2, .int ((nI tl.length) - 1))] f181_22 rfl k181_117_99 rfl (by decide +kernel) (Nat.le_of_ble_eq_true rfl) (Nat.le_of_ble_eq_true rfl) rfl rfl (by decide +kernel) (by decide +kernel) rfl (Nat.le_of_ble_eq_true rfl) rfl ?_
    refine zw_iload_n 1 f120_0 rfl rfl ?_
    refine zw_iload_n 2 f120_1 rfl rfl ?_
    refine zw_ic_lt 5 14 f120_2 (by decide +kernel) rfl (fun hc4 => ?_) (fun hc4 => ?_)
    · refine zw_iconst 0 15 f120_14 rfl (by decide +kernel) ?_
      refine zw_zreturn f120_15 r120 u120 (by decide +kernel) ⟨_, rfl, ?_⟩
      refine zw_if_eq_t 37 f181_25 (by decide +kernel) (by decide +kernel) ?_
      refine zw_iconst (-1) 38 f181_37 rfl (by decide +kernel) ?_
      refine zw_ireturn f181_38 r181 u181 ?_
      exact ⟨_, _, _, _, rfl, KQ.rf, hi, by rw [show an_trace tl a = (-1) from (cI_n (fun q => q.1 hc4))]⟩
    · refine zw_iload_n 6 f120_5 rfl rfl ?_
      refine zw_iload_n 7 f120_6 rfl rfl ?_
      refine zw_ic_gt 10 14 f120_7 (by decide +kernel) rfl (fun hc5 => ?_) (fun hc5 => ?_)
      · refine zw_iconst 0 15 f120_14 rfl (by decide +kernel) ?_
        refine zw_zreturn f120_15 r120 u120 (by decide +kernel) ⟨_, rfl, ?_⟩
        refine zw_if_eq_t 37 f181_25 (by decide +kernel) (by decide +kernel) ?_
        refine zw_iconst (-1) 38 f181_37 rfl (by decide +kernel) ?_
        refine zw_ireturn f181_38 r181 u181 ?_
        exact ⟨_, _, _, _, rfl, KQ.rf, hi, by rw [show an_trace tl a = (-1) from (cI_n (qTr_n1 tn hc5))]⟩
      · have qt := qTr_of tn hc4 (Or.inl hc5)
        refine zw_iconst 1 11 f120_10 rfl (by decide +kernel) ?_
        refine zw_goto 15 f120_11 (by decide +kernel) ?_
        refine zw_zreturn f120_15 r120 u120 (by decide +kernel) ⟨_, rfl, ?_⟩
        refine zw_if_eq_f 28 37 f181_25 (by decide +kernel) rfl (by decide +kernel) ?_
        refine zw_aload_n 29 f181_28 rfl rfl ?_
        refine zw_getfield 32 f181_29 rfl g181_74_12 (hb_52 _ _ _ _) rfl ?_
        refine zw_iload_n 33 f181_32 rfl rfl ?_
        refine zw_iaload a.toNatClampNeg (lG tl a.toNatClampNeg) 34 f181_33 rfl (hb_71 _ _ _ _) rfl hc4 (zix (by decide) hc4 qt.2.2) (tm.2 _ (qTr_lt tn qt)) ?_
        refine zw_goto 38 f181_34 (by decide +kernel) ?_
        refine zw_ireturn f181_38 r181 u181 ?_
        exact ⟨_, _, _, _, rfl, KQ.rf, hi, by rw [show an_trace tl a = (lG tl a.toNatClampNeg) from (cI_y qt)]⟩
set_option maxHeartbeats 0 in
theorem pairX_tracex (ro : UInt32 → Nat × (Nat → Int32)) (k : Nat) (I : Nat → Nat → Int32) (G : Nat → Nat → Int64) (A : Nat → Nat → Int32) (B : Nat → Nat → Int64) (h : zCx k I G A B) (hk : k < 512) (a : Int32) : zWp ro 102 0 [(0, .ref 0), (1, .int a)] [] (hS I G A B) 0 0 (zPX ro 181 [(0, .ref 52), (1, .int a)] k (fun v w => v = w)) := by
  obtain ⟨nv, np, W, L, F, R, ow, kd, lw, lg, tl, tc, tm, tn⟩ := h
  have fn := F.2.2.2.2.2
  refine zWp.mono (cq_trace ro nv np A W L tl I G A B R lg tc tn a) ?_
  rintro r h1 ⟨I1, G1, A1, B1, rfl, K1, rfl⟩
  have F1 := F.kq K1 fNe_52 pNe_52
  have e1 : PE A A1 := fun k _ _ => (K1.2.2.1 k (pNe_52 k (by omega))).symm
  have R1 := R.k K1 ⟨rfl, rfl⟩ (fun j h1 h2 => by simp only [fNe, decide_eq_false_iff_not]; omega) (fun k h1 h2 => by simp only [pNe, decide_eq_false_iff_not]; omega)
  have g1 := lg.k K1 rfl rfl rfl rfl rfl
  refine ⟨_, rfl, zWp.mono (mx_trace ro nv np A W L tl I1 G1 A1 B1 ⟨F1.1.1, e1.sy, F1.1.2.2⟩ (tm.e (K1.1 52 29 rfl) (K1.2.2.1 71 rfl)) tn F1.2.2.2.2.1 a) ?_⟩
  rintro r2 h2 ⟨I2, G2, A2, B2, rfl, K2, id2, rfl⟩
  have R2 := F1.1.k K2 fQv_R pQv_R
  refine ⟨_, rfl, ?_, rfl⟩
  exact zCx.mk (zRf.of R2 F1.2.1 F1.2.2.1 F1.2.2.2.1 id2 fn) (by omega) (by omega) R1 (e1.tr R2.2.1.sy) K2 fQv_c pQv_c ow kd lw g1 (tc.e (K1.1 44 4 rfl) (K1.2.2.1 45 rfl)) (tm.e ((K2.1 52 29 rfl).trans (K1.1 52 29 rfl)) ((K2.2.2.1 71 rfl).trans (K1.2.2.1 71 rfl))) tn
theorem pair2_tracex (ro : UInt32 → Nat × (Nat → Int32)) (k : Nat) (I : Nat → Nat → Int32) (G : Nat → Nat → Int64) (A : Nat → Nat → Int32) (B : Nat → Nat → Int64) (h : zL2 k I G A B) (hk : k < 512) (a : Int32) : zWp ro 102 0 [(0, .ref 0), (1, .int a)] [] (hS I G A B) 0 0 (zP2 ro 181 [(0, .ref 52), (1, .int a)] k (fun v w => v = w)) := by
  obtain ⟨h1, I3, G3, A3, B3, eh, hx⟩ := h
  have p1 := pair_trace ro k I G A B h1 hk a
  have p2 := pairX_tracex ro k I3 G3 A3 B3 hx hk a
  rw [← eh] at p2
  exact zP_and p1 p2
