def nxD (nv np : Nat) (P : Nat → Nat → Int32) (W : qW) : Int64 := (wNx nv np P W).2.2
def nxN (nv np : Nat) (P : Nat → Nat → Int32) (W : qW) : Int64 := W.2.1 * ((wNx nv np P W).2.2 / W.1) + (wNx nv np P W).2.1
noncomputable def an_next (nv np : Nat) (P : Nat → Nat → Int32) (W : qW) (a : Int32) : Int64 := cI (qRg a 0 1 ∧ (wNx nv np P W).1 = 0) (cI (a = 0) (rAb (nxN nv np P W) (nxD nv np P W)) (rBe (nxN nv np P W) (nxD nv np P W))) (-1)
theorem nx_cls {nv np : Nat} {K : Int} {P : Nat → Nat → Int32} {W : qW} {gap sp : Int64} (hW : wOk nv 10000 K P W) (hC : cNx W.1 (wNx nv np P W) gap sp) (h0 : ¬ sp = 0) : (W.2.1 * sp + gap) / cGc (W.2.1 * sp + gap) (W.1 * sp) = rAb (nxN nv np P W) (nxD nv np P W) ∧ (W.1 * sp) / cGc (W.2.1 * sp + gap) (W.1 * sp) = rBe (nxN nv np P W) (nxD nv np P W) := by
  rcases hC with ⟨-, a⟩ | ⟨-, e1, e2, s, g0, g1⟩
  · exact absurd a h0
  have hg : 1 ≤ W.1.toInt ∧ W.1.toInt ≤ 10000 := hW.1.1
  have ht : 0 ≤ W.2.1.toInt ∧ W.2.1.toInt ≤ 10000 * W.1.toInt := hW.2.1
  have m1 := mul_bd (a := W.1.toInt) (b := sp.toInt) (A := 10000) (B := 71400) (by omega) hg.2 (by omega) s.2
  have p1 := Int.mul_pos (a := W.1.toInt) (b := sp.toInt) (by omega) (by omega)
  have x1 : (W.1 * sp).toInt = W.1.toInt * sp.toInt := i64_mul (by omega) (by omega)
  have m3 := mul_bd (a := W.2.1.toInt) (b := sp.toInt) (A := 100000000) (B := 71400) ht.1 (by omega) (by omega) s.2
  have x3 : (W.2.1 * sp).toInt = W.2.1.toInt * sp.toInt := i64_mul (by omega) (by omega)
  have x4 : (W.2.1 * sp + gap).toInt = W.2.1.toInt * sp.toInt + gap.toInt := by
    rw [i64_add, x3] <;> rw [x3] <;> omega
  have d : (wNx nv np P W).2.2 / W.1 = sp := by
    rw [e2]
    apply Int64.toInt_inj.mp
    rw [i64_div (by omega) (by omega), x1, Int.mul_ediv_cancel_left _ (by omega)]
  have en : nxN nv np P W = W.2.1 * sp + gap := by
    unfold nxN
    rw [d, e1]
  have ed : nxD nv np P W = W.1 * sp := e2
  rw [en, ed]
  exact rAb_c (by omega) (by omega)
theorem nx_all {nv np : Nat} {K : Int} {P : Nat → Nat → Int32} {W : qW} {na nb : Int64} (hp : MPa nv np P) (hW : wOk nv 10000 K P W) (hN : wNx nv np P W = (0, na, nb)) : W.1 / mD W.1 nb * nb = nb ∧ na * (nb / nb) = na := by
  obtain ⟨o, ⟨q, q1, q2, e⟩, -⟩ := wNext_ph hp hW hN
  have hg : 1 ≤ W.1.toInt ∧ W.1.toInt ≤ 10000 := hW.1.1
  have p1 := Int.mul_pos (a := W.1.toInt) (b := q) (by omega) (by omega)
  have g := mD_gcd (a := W.1) (b := nb) (by omega) (by omega)
  have e1 : nb.toInt.toNat = W.1.toInt.toNat * q.toNat := by rw [e, Int.toNat_mul (by omega) (by omega)]
  rw [show W.1.toInt.natAbs = W.1.toInt.toNat by omega, e1, Nat.gcd_eq_left (Nat.dvd_mul_right _ _)] at g
  · have e2 : mD W.1 nb = W.1 := Int64.toInt_inj.mp (by rw [g]; omega)
    have e3 : W.1 / W.1 = 1 := Int64.toInt_inj.mp (by rw [i64_div (by omega) (by omega), Int.ediv_self (by omega)]; decide)
    have e4 : nb / nb = 1 := Int64.toInt_inj.mp (by rw [i64_div (by omega) (by omega), Int.ediv_self (by omega)]; decide)
    rw [e2, e3, e4, Int64.one_mul, Int64.mul_one]
    exact ⟨rfl, rfl⟩
theorem nx_ref1 {nv np : Nat} {K : Int} {P : Nat → Nat → Int32} {W : qW} {na nb : Int64} (hp : MPa nv np P) (hW : wOk nv 10000 K P W) (hN : wNx nv np P W = (0, na, nb)) : rAb (nxN nv np P W) (nxD nv np P W) = (W.2.1 * ((W.1 / mD W.1 nb * nb) / W.1) + na * ((W.1 / mD W.1 nb * nb) / nb)) / mD (W.2.1 * ((W.1 / mD W.1 nb * nb) / W.1) + na * ((W.1 / mD W.1 nb * nb) / nb)) (W.1 / mD W.1 nb * nb) := by
  have n := nx_all hp hW hN
  rw [n.1, n.2]
  unfold rAb nxN nxD
  rw [hN]
theorem nx_ref2 {nv np : Nat} {K : Int} {P : Nat → Nat → Int32} {W : qW} {na nb : Int64} (hp : MPa nv np P) (hW : wOk nv 10000 K P W) (hN : wNx nv np P W = (0, na, nb)) : rBe (nxN nv np P W) (nxD nv np P W) = (W.1 / mD W.1 nb * nb) / mD (W.2.1 * ((W.1 / mD W.1 nb * nb) / W.1) + na * ((W.1 / mD W.1 nb * nb) / nb)) (W.1 / mD W.1 nb * nb) := by
  have n := nx_all hp hW hN
  rw [n.1, n.2]
  unfold rBe nxN nxD
  rw [hN]
set_option maxRecDepth 100000 in
set_option maxHeartbeats 0 in
theorem cq_next (ro : UInt32 → Nat × (Nat → Int32)) (nv np : Nat) (P : Nat → Nat → Int32) (W : qW) (L : qLog) (K : Int) (I : Nat → Nat → Int32) (G : Nat → Nat → Int64) (A : Nat → Nat → Int32) (B : Nat → Nat → Int64) (hR : cRS 11 nv np P W I G A B) (hp : MPa nv np P) (hq : qOw nv np P) (hW : wInv nv 10000 K P W) (hQ : qKd nv P) (hL : cLg L I A) (hn : L.1 < 900000000) (a : Int32) : zWp ro 89 0 [(0, .ref 0), (1, .int a)] [] (hS I G A B) 0 0 (fun r h1 => ∃ I2 G2 A2 B2, h1 = hS I2 G2 A2 B2 ∧ KQ fNe pNe I G A B I2 G2 A2 B2 ∧ r = some (.long (an_next nv np P W a))) := by
  have h8 := hp.1
  have h14 := hp.2.1
  have hg0 : 0 < W.1.toInt := hW.1.1.1.1
  have ht0 : 0 ≤ W.2.1.toInt := hW.1.2.1.1
  refine zw_iload_n 1 f89_0 rfl rfl ?_
  refine zw_iconst 0 2 f89_1 rfl (by decide +kernel) ?_
  refine zw_iconst 1 3 f89_2 rfl (by decide +kernel) ?_
  refine zw_static_i 6 0 0 [.int a, .int 0, .int 1] [] [(0, .int a), (1, .int 0), (2, .int 1)] f89_3 rfl k89_74_99 rfl (by decide +kernel) (Nat.le_of_ble_eq_true rfl) (Nat.le_of_ble_eq_true rfl) rfl rfl (by decide +kernel) (by decide +kernel) rfl (Nat.le_of_ble_eq_true rfl) rfl ?_
  refine zw_iload_n 1 f112_0 rfl rfl ?_
  refine zw_iload_n 2 f112_1 rfl rfl ?_
  refine zw_ic_lt 5 14 f112_2 (by decide +kernel) rfl (fun hc1 => ?_) (fun hc1 => ?_)
  · refine zw_iconst 0 15 f112_14 rfl (by decide +kernel) ?_
    refine zw_zreturn f112_15 r112 u112 (by decide +kernel) ⟨_, rfl, ?_⟩
    refine zw_if_ne_f 9 13 f89_6 (by decide +kernel) rfl (by decide +kernel) ?_
    refine zw_ldc2_w (-1) 12 f89_9 rfl (by decide +kernel) ?_
    refine zw_lreturn f89_12 r89 u89 ?_
    exact ⟨_, _, _, _, rfl, KQ.rf, by rw [show an_next nv np P W a = (-1) from (cI_n (fun q => (fun q => q.1 hc1) q.1))]⟩
  · refine zw_iload_n 6 f112_5 rfl rfl ?_
    refine zw_iload_n 7 f112_6 rfl rfl ?_
    refine zw_ic_gt 10 14 f112_7 (by decide +kernel) rfl (fun hc2 => ?_) (fun hc2 => ?_)
    · refine zw_iconst 0 15 f112_14 rfl (by decide +kernel) ?_
      refine zw_zreturn f112_15 r112 u112 (by decide +kernel) ⟨_, rfl, ?_⟩
      refine zw_if_ne_f 9 13 f89_6 (by decide +kernel) rfl (by decide +kernel) ?_
      refine zw_ldc2_w (-1) 12 f89_9 rfl (by decide +kernel) ?_
      refine zw_lreturn f89_12 r89 u89 ?_
      exact ⟨_, _, _, _, rfl, KQ.rf, by rw [show an_next nv np P W a = (-1) from (cI_n (fun q => (fun q => q.2 hc2) q.1))]⟩
    · refine zw_iconst 1 11 f112_10 rfl (by decide +kernel) ?_
      refine zw_goto 15 f112_11 (by decide +kernel) ?_
      refine zw_zreturn f112_15 r112 u112 (by decide +kernel) ⟨_, rfl, ?_⟩
      refine zw_if_ne_t 13 f89_6 (by decide +kernel) (by decide +kernel) ?_
      refine zw_aload_n 14 f89_13 rfl rfl ?_
      refine zw_getfield 17 f89_14 rfl g89_21_11 (hb_0 _ _ _ _) rfl ?_
      refine zw_virtual_v 20 0 0 [.ref 11] [(0, .ref 11)] f89_17 rfl n89_167 k89_167_10 rfl (hb_11 _ _ _ _) (by decide +kernel) (Nat.le_of_ble_eq_true rfl) rfl rfl (by decide +kernel) (by decide +kernel) rfl (Nat.le_of_ble_eq_true rfl) rfl ?_
      refine zWp.mono (cx_seek_11 ro nv np P W 10000 K _ _ _ _ hR hp hW.2.1 hq hW.1) ?_
      rintro r h1 ⟨I_s, G_s, A_s, B_s, rfl, K_s, hRt, hC, rfl⟩
      refine ⟨rfl, ?_⟩
      have hR2 := hR.k K_s ⟨rfl, rfl⟩ (fCs_w 11) (pCr_w 11 (by omega))
      refine zw_aload_n 21 f89_20 rfl rfl ?_
      refine zw_getfield 24 f89_21 rfl g89_21_11 (hb_0 _ _ _ _) rfl ?_
      refine zw_virtual_i 27 0 0 [.ref 11] [(0, .ref 11)] f89_24 rfl n89_170 k89_170_10 rfl (hb_11 _ _ _ _) (by decide +kernel) (Nat.le_of_ble_eq_true rfl) rfl rfl (by decide +kernel) (by decide +kernel) rfl (Nat.le_of_ble_eq_true rfl) rfl ?_
      refine zw_aload_n 1 f58_0 rfl rfl ?_
      refine zw_getG (G_s 11 9) 4 f58_1 rfl g58_119_10 (hb_11 _ _ _ _) rfl rfl ?_
      refine zw_lconst 0 5 f58_4 rfl (by decide +kernel) ?_
      refine zw_lcmp (lg_cmp (G_s 11 9) 0) 6 f58_5 rfl rfl ?_
      refine zw_if_ne 9 13 f58_6 (by decide +kernel) rfl (fun hc3 => ?_) (fun hc3 => ?_)
      · refine zw_iconst 0 14 f58_13 rfl (by decide +kernel) ?_
        refine zw_zreturn f58_14 r58 u58 (by decide +kernel) ⟨_, rfl, ?_⟩
        refine zw_if_eq_t 34 f89_27 (by decide +kernel) (by decide +kernel) ?_
        refine zw_aload_n 35 f89_34 rfl rfl ?_
        refine zw_getfield 38 f89_35 rfl g89_21_11 (hb_0 _ _ _ _) rfl ?_
        refine zw_virtual_l 41 0 0 [.ref 11] [(0, .ref 11)] f89_38 rfl n89_203 k89_203_10 rfl (hb_11 _ _ _ _) (by decide +kernel) (Nat.le_of_ble_eq_true rfl) rfl rfl (by decide +kernel) (by decide +kernel) rfl (Nat.le_of_ble_eq_true rfl) rfl ?_
        refine zw_aload_n 1 f59_0 rfl rfl ?_
        refine zw_getfield 4 f59_1 rfl g59_12_10 (hb_11 _ _ _ _) rfl ?_
        refine zw_getG W.2.1 7 f59_4 rfl g59_151_9 (hb_12 _ _ _ _) rfl hR2.2.2.1.2.1 ?_
        refine zw_aload_n 8 f59_7 rfl rfl ?_
        refine zw_getG (G_s 11 9) 11 f59_8 rfl g59_119_10 (hb_11 _ _ _ _) rfl rfl ?_
        refine zw_lmul (W.2.1 * (G_s 11 9)) 12 f59_11 rfl rfl ?_
        refine zw_aload_n 13 f59_12 rfl rfl ?_
        refine zw_getG (G_s 11 8) 16 f59_13 rfl g59_116_10 (hb_11 _ _ _ _) rfl rfl ?_
        refine zw_ladd ((W.2.1 * (G_s 11 9)) + (G_s 11 8)) 17 f59_16 rfl rfl ?_
        refine zw_lreturn f59_17 r59 u59 ⟨_, rfl, ?_⟩
        refine zw_aload_n 42 f89_41 rfl rfl ?_
        refine zw_getfield 45 f89_42 rfl g89_21_11 (hb_0 _ _ _ _) rfl ?_
        refine zw_virtual_l 48 0 0 [.ref 11] [(0, .ref 11)] f89_45 rfl n89_207 k89_207_10 rfl (hb_11 _ _ _ _) (by decide +kernel) (Nat.le_of_ble_eq_true rfl) rfl rfl (by decide +kernel) (by decide +kernel) rfl (Nat.le_of_ble_eq_true rfl) rfl ?_
        refine zw_aload_n 1 f60_0 rfl rfl ?_
        refine zw_getfield 4 f60_1 rfl g60_12_10 (hb_11 _ _ _ _) rfl ?_
        refine zw_getG W.1 7 f60_4 rfl g60_109_9 (hb_12 _ _ _ _) rfl hR2.2.2.1.1 ?_
        refine zw_aload_n 8 f60_7 rfl rfl ?_
        refine zw_getG (G_s 11 9) 11 f60_8 rfl g60_119_10 (hb_11 _ _ _ _) rfl rfl ?_
        refine zw_lmul (W.1 * (G_s 11 9)) 12 f60_11 rfl rfl ?_
        refine zw_lreturn f60_12 r60 u60 ⟨_, rfl, ?_⟩
        refine zw_iload_n 49 f89_48 rfl rfl ?_
        refine zw_static_l 52 0 0 [.long ((W.2.1 * (G_s 11 9)) + (G_s 11 8)), .long (W.1 * (G_s 11 9)), .int a] [] [(0, .long ((W.2.1 * (G_s 11 9)) + (G_s 11 8))), (2, .long (W.1 * (G_s 11 9))), (4, .int a)] f89_49 rfl k89_210_99 rfl (by decide +kernel) (Nat.le_of_ble_eq_true rfl) (Nat.le_of_ble_eq_true rfl) rfl rfl (by decide +kernel) (by decide +kernel) rfl (Nat.le_of_ble_eq_true rfl) rfl ?_
        refine zw_iload 2 f118_0 rfl rfl ?_
        refine zw_if_ne 5 13 f118_2 (by decide +kernel) rfl (fun hc4 => ?_) (fun hc4 => ?_)
        · refine zw_lload_n 14 f118_13 rfl rfl ?_
          refine zw_lload_n 15 f118_14 rfl rfl ?_
          refine zw_static_l 18 0 0 [.long ((W.2.1 * (G_s 11 9)) + (G_s 11 8)), .long (W.1 * (G_s 11 9))] [] [(0, .long ((W.2.1 * (G_s 11 9)) + (G_s 11 8))), (2, .long (W.1 * (G_s 11 9)))] f118_15 rfl k118_198_99 rfl (by decide +kernel) (Nat.le_of_ble_eq_true rfl) (Nat.le_of_ble_eq_true rfl) rfl rfl (by decide +kernel) (by decide +kernel) rfl (Nat.le_of_ble_eq_true rfl) rfl ?_
          refine zw_lload_n 1 f117_0 rfl rfl ?_
          refine zw_lload_n 2 f117_1 rfl rfl ?_
          refine zw_static_l 5 0 0 [.long ((W.2.1 * (G_s 11 9)) + (G_s 11 8)), .long (W.1 * (G_s 11 9))] [] [(0, .long ((W.2.1 * (G_s 11 9)) + (G_s 11 8))), (2, .long (W.1 * (G_s 11 9)))] f117_2 rfl k117_336_99 rfl (by decide +kernel) (Nat.le_of_ble_eq_true rfl) (Nat.le_of_ble_eq_true rfl) rfl rfl (by decide +kernel) (by decide +kernel) rfl (Nat.le_of_ble_eq_true rfl) rfl ?_
          refine zWp.mono (cx_gcd ro _ ((W.2.1 * (G_s 11 9)) + (G_s 11 8)) (W.1 * (G_s 11 9))) ?_
          rintro r h1 ⟨rfl, rfl⟩
          refine ⟨_, rfl, ?_⟩
          refine zw_lstore _ 7 f117_5 rfl (by decide +kernel) rfl ?_
          refine zw_lload 9 f117_7 rfl zl2_eq ?_
          refine zw_lconst 0 10 f117_9 rfl (by decide +kernel) ?_
          refine zw_lcmp (lg_cmp (cGc ((W.2.1 * (G_s 11 9)) + (G_s 11 8)) (W.1 * (G_s 11 9))) 0) 11 f117_10 rfl rfl ?_
          refine zw_if_ne_t 18 f117_11 (by decide +kernel) (fun q => cGc_ne0 ((lg_cmp_eq _ _).mp q)) ?_
          refine zw_lload_n 19 f117_18 rfl (zl2_ne rfl rfl rfl) ?_
          refine zw_lload 21 f117_19 rfl zl2_eq ?_
          refine zw_ldiv ((W.1 * (G_s 11 9)) / (cGc ((W.2.1 * (G_s 11 9)) + (G_s 11 8)) (W.1 * (G_s 11 9)))) 22 f117_21 rfl cGc_ne0 rfl ?_
          refine zw_lreturn f117_22 r117 u117 ⟨_, rfl, ?_⟩
          refine zw_lreturn f118_18 r118 u118 ⟨_, rfl, ?_⟩
          refine zw_lreturn f89_52 r89 u89 ?_
          exact ⟨_, _, _, _, rfl, (KQ.wk K_s fCs_Ne pCr_Ne), by rw [show an_next nv np P W a = ((W.1 * (G_s 11 9)) / (cGc ((W.2.1 * (G_s 11 9)) + (G_s 11 8)) (W.1 * (G_s 11 9)))) from ((cI_y ⟨⟨hc1, hc2⟩, cNx_n hC (fun q => hc3 ((lg_cmp_eq _ _).mpr q))⟩).trans ((cI_n hc4).trans (nx_cls hW.1 hC (fun q => hc3 ((lg_cmp_eq _ _).mpr q))).2.symm))]⟩
        · refine zw_lload_n 6 f118_5 rfl rfl ?_
          refine zw_lload_n 7 f118_6 rfl rfl ?_
          refine zw_static_l 10 0 0 [.long ((W.2.1 * (G_s 11 9)) + (G_s 11 8)), .long (W.1 * (G_s 11 9))] [] [(0, .long ((W.2.1 * (G_s 11 9)) + (G_s 11 8))), (2, .long (W.1 * (G_s 11 9)))] f118_7 rfl k118_194_99 rfl (by decide +kernel) (Nat.le_of_ble_eq_true rfl) (Nat.le_of_ble_eq_true rfl) rfl rfl (by decide +kernel) (by decide +kernel) rfl (Nat.le_of_ble_eq_true rfl) rfl ?_
          refine zw_lload_n 1 f116_0 rfl rfl ?_
          refine zw_lload_n 2 f116_1 rfl rfl ?_
          refine zw_static_l 5 0 0 [.long ((W.2.1 * (G_s 11 9)) + (G_s 11 8)), .long (W.1 * (G_s 11 9))] [] [(0, .long ((W.2.1 * (G_s 11 9)) + (G_s 11 8))), (2, .long (W.1 * (G_s 11 9)))] f116_2 rfl k116_336_99 rfl (by decide +kernel) (Nat.le_of_ble_eq_true rfl) (Nat.le_of_ble_eq_true rfl) rfl rfl (by decide +kernel) (by decide +kernel) rfl (Nat.le_of_ble_eq_true rfl) rfl ?_
          refine zWp.mono (cx_gcd ro _ ((W.2.1 * (G_s 11 9)) + (G_s 11 8)) (W.1 * (G_s 11 9))) ?_
          rintro r h1 ⟨rfl, rfl⟩
          refine ⟨_, rfl, ?_⟩
          refine zw_lstore _ 7 f116_5 rfl (by decide +kernel) rfl ?_
          refine zw_lload 9 f116_7 rfl zl2_eq ?_
          refine zw_lconst 0 10 f116_9 rfl (by decide +kernel) ?_
          refine zw_lcmp (lg_cmp (cGc ((W.2.1 * (G_s 11 9)) + (G_s 11 8)) (W.1 * (G_s 11 9))) 0) 11 f116_10 rfl rfl ?_
          refine zw_if_ne_t 18 f116_11 (by decide +kernel) (fun q => cGc_ne0 ((lg_cmp_eq _ _).mp q)) ?_
          refine zw_lload_n 19 f116_18 rfl (zl2_ne rfl rfl rfl) ?_
          refine zw_lload 21 f116_19 rfl zl2_eq ?_
          refine zw_ldiv (((W.2.1 * (G_s 11 9)) + (G_s 11 8)) / (cGc ((W.2.1 * (G_s 11 9)) + (G_s 11 8)) (W.1 * (G_s 11 9)))) 22 f116_21 rfl cGc_ne0 rfl ?_
          refine zw_lreturn f116_22 r116 u116 ⟨_, rfl, ?_⟩
          refine zw_goto 18 f118_10 (by decide +kernel) ?_
          refine zw_lreturn f118_18 r118 u118 ⟨_, rfl, ?_⟩
          refine zw_lreturn f89_52 r89 u89 ?_
          exact ⟨_, _, _, _, rfl, (KQ.wk K_s fCs_Ne pCr_Ne), by rw [show an_next nv np P W a = (((W.2.1 * (G_s 11 9)) + (G_s 11 8)) / (cGc ((W.2.1 * (G_s 11 9)) + (G_s 11 8)) (W.1 * (G_s 11 9)))) from ((cI_y ⟨⟨hc1, hc2⟩, cNx_n hC (fun q => hc3 ((lg_cmp_eq _ _).mpr q))⟩).trans ((cI_y (Decidable.of_not_not hc4)).trans (nx_cls hW.1 hC (fun q => hc3 ((lg_cmp_eq _ _).mpr q))).1.symm))]⟩
      · refine zw_iconst 1 10 f58_9 rfl (by decide +kernel) ?_
        refine zw_goto 14 f58_10 (by decide +kernel) ?_
        refine zw_zreturn f58_14 r58 u58 (by decide +kernel) ⟨_, rfl, ?_⟩
        refine zw_if_eq_f 30 34 f89_27 (by decide +kernel) rfl (by decide +kernel) ?_
        refine zw_ldc2_w (-1) 33 f89_30 rfl (by decide +kernel) ?_
        refine zw_lreturn f89_33 r89 u89 ?_
        exact ⟨_, _, _, _, rfl, (KQ.wk K_s fCs_Ne pCr_Ne), by rw [show an_next nv np P W a = (-1) from (cI_n (fun q => cNx_r hC ((lg_cmp_eq _ _).mp (Decidable.of_not_not hc3)) q.2))]⟩
set_option maxRecDepth 100000 in
set_option maxHeartbeats 0 in
theorem mx_next (ro : UInt32 → Nat × (Nat → Int32)) (nv np : Nat) (P : Nat → Nat → Int32) (W : qW) (L : qLog) (I : Nat → Nat → Int32) (G : Nat → Nat → Int64) (A : Nat → Nat → Int32) (B : Nat → Nat → Int64) (K : Int) (hR : mRS nv np P W L I G A B) (hp : MPa nv np P) (hW : wInv nv 10000 K P W) (hn : L.1 < 900000000) (hg : qLG L) (hi : mId I) (a : Int32) : zWp ro 155 0 [(0, .ref 52), (1, .int a)] [] (hS I G A B) 0 0 (fun r h1 => ∃ I2 G2 A2 B2, h1 = hS I2 G2 A2 B2 ∧ KQ fQu pQu I G A B I2 G2 A2 B2 ∧ mId I2 ∧ r = some (.long (an_next nv np P W a))) := by
  have h8 := hp.1
  have h14 := hp.2.1
  obtain ⟨t, ht, et⟩ := hi.2.2
  refine zw_aload_n 1 f155_0 rfl rfl ?_
  refine zw_virtual_v 4 0 0 [.ref 52] [(0, .ref 52)] f155_1 rfl n155_228 k155_228_12 rfl (hb_52 _ _ _ _) (by decide +kernel) (Nat.le_of_ble_eq_true rfl) rfl rfl (by decide +kernel) (by decide +kernel) rfl (Nat.le_of_ble_eq_true rfl) rfl ?_
  refine zWp.mono (mm_seekW ro nv np P W L _ _ _ _ hR hp hW.2.1) ?_
  rintro r h1 ⟨I_1, G_1, A_1, B_1, rfl, K_1, R_1, T_1, ⟨rs_1, na_1, nb_1, er_1, ea_1, eb_1, x_1⟩, rfl⟩
  refine ⟨rfl, ?_⟩
  refine zw_aload_n 5 f155_4 rfl rfl ?_
  refine zw_getI rs_1 8 f155_5 rfl g155_142_12 (hb_52 _ _ _ _) rfl er_1 ?_
  refine zw_if_ne 11 20 f155_8 (by decide +kernel) rfl (fun hc2 => ?_) (fun hc2 => ?_)
  · refine zw_ldc2_w (-1) 23 f155_20 rfl (by decide +kernel) ?_
    refine zw_lreturn f155_23 r155 u155 ?_
    exact ⟨_, _, _, _, rfl, (KQ.wk K_1 fS_Qu pS_Qu), ⟨((K_1.1 52 22 rfl).trans hi.1), ((K_1.1 52 41 rfl).trans hi.2.1), t, by omega, ((K_1.1 52 29 rfl).trans et)⟩, by rw [show an_next nv np P W a = (-1) from (cI_n (fun q => qNx_n x_1 hc2 q.2))]⟩
  · have nx := nx_al hp hW.1 (qNx_y x_1 (Decidable.of_not_not hc2))
    refine zw_iload_n 12 f155_11 rfl rfl ?_
    refine zw_iconst 0 13 f155_12 rfl (by decide +kernel) ?_
    refine zw_iconst 1 14 f155_13 rfl (by decide +kernel) ?_
    refine zw_static_i 17 0 0 [.int a, .int 0, .int 1] [] [(0, .int a), (1, .int 0), (2, .int 1)] f155_14 rfl k155_117_99 rfl (by decide +kernel) (Nat.le_of_ble_eq_true rfl) (Nat.le_of_ble_eq_true rfl) rfl rfl (by decide +kernel) (by decide +kernel) rfl (Nat.le_of_ble_eq_true rfl) rfl ?_
    refine zw_iload_n 1 f120_0 rfl rfl ?_
    refine zw_iload_n 2 f120_1 rfl rfl ?_
    refine zw_ic_lt 5 14 f120_2 (by decide +kernel) rfl (fun hc3 => ?_) (fun hc3 => ?_)
    · refine zw_iconst 0 15 f120_14 rfl (by decide +kernel) ?_
      refine zw_zreturn f120_15 r120 u120 (by decide +kernel) ⟨_, rfl, ?_⟩
      refine zw_if_ne_f 20 24 f155_17 (by decide +kernel) rfl (by decide +kernel) ?_
      refine zw_ldc2_w (-1) 23 f155_20 rfl (by decide +kernel) ?_
      refine zw_lreturn f155_23 r155 u155 ?_
      exact ⟨_, _, _, _, rfl, (KQ.wk K_1 fS_Qu pS_Qu), ⟨((K_1.1 52 22 rfl).trans hi.1), ((K_1.1 52 41 rfl).trans hi.2.1), t, by omega, ((K_1.1 52 29 rfl).trans et)⟩, by rw [show an_next nv np P W a = (-1) from (cI_n (fun q => (fun q => q.1 hc3) q.1))]⟩
    · refine zw_iload_n 6 f120_5 rfl rfl ?_
      refine zw_iload_n 7 f120_6 rfl rfl ?_
      refine zw_ic_gt 10 14 f120_7 (by decide +kernel) rfl (fun hc4 => ?_) (fun hc4 => ?_)
      · refine zw_iconst 0 15 f120_14 rfl (by decide +kernel) ?_
        refine zw_zreturn f120_15 r120 u120 (by decide +kernel) ⟨_, rfl, ?_⟩
        refine zw_if_ne_f 20 24 f155_17 (by decide +kernel) rfl (by decide +kernel) ?_
        refine zw_ldc2_w (-1) 23 f155_20 rfl (by decide +kernel) ?_
        refine zw_lreturn f155_23 r155 u155 ?_
        exact ⟨_, _, _, _, rfl, (KQ.wk K_1 fS_Qu pS_Qu), ⟨((K_1.1 52 22 rfl).trans hi.1), ((K_1.1 52 41 rfl).trans hi.2.1), t, by omega, ((K_1.1 52 29 rfl).trans et)⟩, by rw [show an_next nv np P W a = (-1) from (cI_n (fun q => (fun q => q.2 hc4) q.1))]⟩
      · refine zw_iconst 1 11 f120_10 rfl (by decide +kernel) ?_
        refine zw_goto 15 f120_11 (by decide +kernel) ?_
        refine zw_zreturn f120_15 r120 u120 (by decide +kernel) ⟨_, rfl, ?_⟩
        refine zw_if_ne_t 24 f155_17 (by decide +kernel) (by decide +kernel) ?_
        refine zw_aload_n 25 f155_24 rfl rfl ?_
        refine zw_getG W.1 28 f155_25 rfl g155_40_12 (hb_52 _ _ _ _) rfl R_1.g ?_
        refine zw_aload_n 29 f155_28 rfl rfl ?_
        refine zw_getG W.1 32 f155_29 rfl g155_40_12 (hb_52 _ _ _ _) rfl R_1.g ?_
        refine zw_aload_n 33 f155_32 rfl rfl ?_
        refine zw_getG nb_1 36 f155_33 rfl g155_145_12 (hb_52 _ _ _ _) rfl eb_1 ?_
        refine zw_static_l 39 0 0 [.long W.1, .long nb_1] [.long W.1] [(0, .long W.1), (2, .long nb_1)] f155_36 rfl k155_164_99 rfl (by decide +kernel) (Nat.le_of_ble_eq_true rfl) (Nat.le_of_ble_eq_true rfl) rfl rfl (by decide +kernel) (by decide +kernel) rfl (Nat.le_of_ble_eq_true rfl) rfl ?_
        refine zWp.mono (mm_divisor ro _ W.1 nb_1) ?_
        rintro r h1 ⟨rfl, rfl⟩
        refine ⟨_, rfl, ?_⟩
        refine zw_ldiv (W.1 / (mD W.1 nb_1)) 40 f155_39 rfl (mD_ne0 nx.1) rfl ?_
        refine zw_aload_n 41 f155_40 rfl rfl ?_
        refine zw_getG nb_1 44 f155_41 rfl g155_145_12 (hb_52 _ _ _ _) rfl eb_1 ?_
        refine zw_lmul ((W.1 / (mD W.1 nb_1)) * nb_1) 45 f155_44 rfl rfl ?_
        refine zw_lstore_n _ 46 f155_45 rfl (by decide +kernel) rfl ?_
        refine zw_aload_n 47 f155_46 rfl (zl2_ne rfl rfl rfl) ?_
        refine zw_getG W.2.1 50 f155_47 rfl g155_172_12 (hb_52 _ _ _ _) rfl R_1.t ?_
        refine zw_lload_n 51 f155_50 rfl zl2_eq ?_
        refine zw_aload_n 52 f155_51 rfl (zl2_ne rfl rfl rfl) ?_
        refine zw_getG W.1 55 f155_52 rfl g155_40_12 (hb_52 _ _ _ _) rfl R_1.g ?_
        refine zw_ldiv (((W.1 / (mD W.1 nb_1)) * nb_1) / W.1) 56 f155_55 rfl (i64_ne0 hW.1.1.1.1) rfl ?_
        refine zw_lmul (W.2.1 * (((W.1 / (mD W.1 nb_1)) * nb_1) / W.1)) 57 f155_56 rfl rfl ?_
        refine zw_aload_n 58 f155_57 rfl (zl2_ne rfl rfl rfl) ?_
        refine zw_getG na_1 61 f155_58 rfl g155_148_12 (hb_52 _ _ _ _) rfl ea_1 ?_
        refine zw_lload_n 62 f155_61 rfl zl2_eq ?_
        refine zw_aload_n 63 f155_62 rfl (zl2_ne rfl rfl rfl) ?_
        refine zw_getG nb_1 66 f155_63 rfl g155_145_12 (hb_52 _ _ _ _) rfl eb_1 ?_
        refine zw_ldiv (((W.1 / (mD W.1 nb_1)) * nb_1) / nb_1) 67 f155_66 rfl nx.1 rfl ?_
        refine zw_lmul (na_1 * (((W.1 / (mD W.1 nb_1)) * nb_1) / nb_1)) 68 f155_67 rfl rfl ?_
        refine zw_ladd ((W.2.1 * (((W.1 / (mD W.1 nb_1)) * nb_1) / W.1)) + (na_1 * (((W.1 / (mD W.1 nb_1)) * nb_1) / nb_1))) 69 f155_68 rfl rfl ?_
        refine zw_lload_n 70 f155_69 rfl zl2_eq ?_
        refine zw_iload_n 71 f155_70 rfl (zl2_ne rfl rfl rfl) ?_
        refine zw_static_l 74 0 0 [.long ((W.2.1 * (((W.1 / (mD W.1 nb_1)) * nb_1) / W.1)) + (na_1 * (((W.1 / (mD W.1 nb_1)) * nb_1) / nb_1))), .long ((W.1 / (mD W.1 nb_1)) * nb_1), .int a] [] [(0, .long ((W.2.1 * (((W.1 / (mD W.1 nb_1)) * nb_1) / W.1)) + (na_1 * (((W.1 / (mD W.1 nb_1)) * nb_1) / nb_1)))), (2, .long ((W.1 / (mD W.1 nb_1)) * nb_1)), (4, .int a)] f155_71 rfl k155_239_99 rfl (by decide +kernel) (Nat.le_of_ble_eq_true rfl) (Nat.le_of_ble_eq_true rfl) rfl rfl (by decide +kernel) (by decide +kernel) rfl (Nat.le_of_ble_eq_true rfl) rfl ?_
        refine zw_lload_n 1 f153_0 rfl rfl ?_
        refine zw_lload_n 2 f153_1 rfl rfl ?_
        refine zw_static_l 5 0 0 [.long ((W.2.1 * (((W.1 / (mD W.1 nb_1)) * nb_1) / W.1)) + (na_1 * (((W.1 / (mD W.1 nb_1)) * nb_1) / nb_1))), .long ((W.1 / (mD W.1 nb_1)) * nb_1)] [] [(0, .long ((W.2.1 * (((W.1 / (mD W.1 nb_1)) * nb_1) / W.1)) + (na_1 * (((W.1 / (mD W.1 nb_1)) * nb_1) / nb_1)))), (2, .long ((W.1 / (mD W.1 nb_1)) * nb_1))] f153_2 rfl k153_164_99 rfl (by decide +kernel) (Nat.le_of_ble_eq_true rfl) (Nat.le_of_ble_eq_true rfl) rfl rfl (by decide +kernel) (by decide +kernel) rfl (Nat.le_of_ble_eq_true rfl) rfl ?_
        refine zWp.mono (mm_divisor ro _ ((W.2.1 * (((W.1 / (mD W.1 nb_1)) * nb_1) / W.1)) + (na_1 * (((W.1 / (mD W.1 nb_1)) * nb_1) / nb_1))) ((W.1 / (mD W.1 nb_1)) * nb_1)) ?_
        rintro r h1 ⟨rfl, rfl⟩
        refine ⟨_, rfl, ?_⟩
        refine zw_lstore _ 7 f153_5 rfl (by decide +kernel) rfl ?_
        refine zw_iload 9 f153_7 rfl (zl2_ne rfl rfl rfl) ?_
        refine zw_if_ne 12 19 f153_9 (by decide +kernel) rfl (fun hc5 => ?_) (fun hc5 => ?_)
        · refine zw_lload_n 20 f153_19 rfl (zl2_ne rfl rfl rfl) ?_
          refine zw_lload 22 f153_20 rfl zl2_eq ?_
          refine zw_ldiv (((W.1 / (mD W.1 nb_1)) * nb_1) / (mD ((W.2.1 * (((W.1 / (mD W.1 nb_1)) * nb_1) / W.1)) + (na_1 * (((W.1 / (mD W.1 nb_1)) * nb_1) / nb_1))) ((W.1 / (mD W.1 nb_1)) * nb_1))) 23 f153_22 rfl (mD_ne0 nx.2) rfl ?_
          refine zw_lreturn f153_23 r153 u153 ⟨_, rfl, ?_⟩
          refine zw_lreturn f155_74 r155 u155 ?_
          exact ⟨_, _, _, _, rfl, (KQ.wk K_1 fS_Qu pS_Qu), ⟨((K_1.1 52 22 rfl).trans hi.1), ((K_1.1 52 41 rfl).trans hi.2.1), t, by omega, ((K_1.1 52 29 rfl).trans et)⟩, by rw [show an_next nv np P W a = (((W.1 / (mD W.1 nb_1)) * nb_1) / (mD ((W.2.1 * (((W.1 / (mD W.1 nb_1)) * nb_1) / W.1)) + (na_1 * (((W.1 / (mD W.1 nb_1)) * nb_1) / nb_1))) ((W.1 / (mD W.1 nb_1)) * nb_1))) from ((cI_y ⟨⟨hc3, hc4⟩, by rw [(qNx_y x_1 (Decidable.of_not_not hc2))]⟩).trans ((cI_n hc5).trans (nx_ref2 hp hW.1 (qNx_y x_1 (Decidable.of_not_not hc2)))))]⟩
        · refine zw_lload_n 13 f153_12 rfl (zl2_ne rfl rfl rfl) ?_
          refine zw_lload 15 f153_13 rfl zl2_eq ?_
          refine zw_ldiv (((W.2.1 * (((W.1 / (mD W.1 nb_1)) * nb_1) / W.1)) + (na_1 * (((W.1 / (mD W.1 nb_1)) * nb_1) / nb_1))) / (mD ((W.2.1 * (((W.1 / (mD W.1 nb_1)) * nb_1) / W.1)) + (na_1 * (((W.1 / (mD W.1 nb_1)) * nb_1) / nb_1))) ((W.1 / (mD W.1 nb_1)) * nb_1))) 16 f153_15 rfl (mD_ne0 nx.2) rfl ?_
          refine zw_goto 23 f153_16 (by decide +kernel) ?_
          refine zw_lreturn f153_23 r153 u153 ⟨_, rfl, ?_⟩
          refine zw_lreturn f155_74 r155 u155 ?_
          exact ⟨_, _, _, _, rfl, (KQ.wk K_1 fS_Qu pS_Qu), ⟨((K_1.1 52 22 rfl).trans hi.1), ((K_1.1 52 41 rfl).trans hi.2.1), t, by omega, ((K_1.1 52 29 rfl).trans et)⟩, by rw [show an_next nv np P W a = (((W.2.1 * (((W.1 / (mD W.1 nb_1)) * nb_1) / W.1)) + (na_1 * (((W.1 / (mD W.1 nb_1)) * nb_1) / nb_1))) / (mD ((W.2.1 * (((W.1 / (mD W.1 nb_1)) * nb_1) / W.1)) + (na_1 * (((W.1 / (mD W.1 nb_1)) * nb_1) / nb_1))) ((W.1 / (mD W.1 nb_1)) * nb_1))) from ((cI_y ⟨⟨hc3, hc4⟩, by rw [(qNx_y x_1 (Decidable.of_not_not hc2))]⟩).trans ((cI_y (Decidable.of_not_not hc5)).trans (nx_ref1 hp hW.1 (qNx_y x_1 (Decidable.of_not_not hc2)))))]⟩
set_option maxHeartbeats 0 in
theorem pairX_nextx (ro : UInt32 → Nat × (Nat → Int32)) (k : Nat) (I : Nat → Nat → Int32) (G : Nat → Nat → Int64) (A : Nat → Nat → Int32) (B : Nat → Nat → Int64) (h : zCx k I G A B) (hk : k < 512) (a : Int32) : zWp ro 89 0 [(0, .ref 0), (1, .int a)] [] (hS I G A B) 0 0 (zPY ro 155 [(0, .ref 52), (1, .int a)] k (fun v w => v = w)) := by
  obtain ⟨nv, np, W, L, F, R, ow, kd, lw, lg⟩ := h
  have fn := F.2.2.2.2.2
  refine zWp.mono (cq_next ro nv np A W L (242600 * k) I G A B R F.2.1 ow F.2.2.1 kd lg (by omega) a) ?_
  rintro r h1 ⟨I1, G1, A1, B1, rfl, K1, rfl⟩
  have F1 := F.kq K1 fNe_52 pNe_52
  have e1 : PE A A1 := fun k _ _ => (K1.2.2.1 k (pNe_52 k (by omega))).symm
  have R1 := R.k K1 ⟨rfl, rfl⟩ (fun j h1 h2 => by simp only [fNe, decide_eq_false_iff_not]; omega) (fun k h1 h2 => by simp only [pNe, decide_eq_false_iff_not]; omega)
  have g1 := lg.k K1 rfl rfl rfl rfl rfl
  refine ⟨_, rfl, zWp.mono (mx_next ro nv np A W L I1 G1 A1 B1 (242600 * k) ⟨F1.1.1, e1.sy, F1.1.2.2⟩ F.2.1 F.2.2.1 (by omega) F1.2.2.2.1 F1.2.2.2.2.1 a) ?_⟩
  rintro r2 h2 ⟨I2, G2, A2, B2, rfl, K2, id2, rfl⟩
  have R2 := F1.1.k K2 fQu_R pQu_R
  refine ⟨_, rfl, ?_, rfl⟩
  exact zCx.mk (zRf.of R2 F1.2.1 F1.2.2.1 F1.2.2.2.1 id2 fn) (by omega) (by omega) R1 (e1.tr R2.2.1.sy) K2 fQu_c pQu_c ow kd lw g1
theorem pair2_nextx (ro : UInt32 → Nat × (Nat → Int32)) (k : Nat) (I : Nat → Nat → Int32) (G : Nat → Nat → Int64) (A : Nat → Nat → Int32) (B : Nat → Nat → Int64) (h : zL2 k I G A B) (hk : k < 512) (a : Int32) : zWp ro 89 0 [(0, .ref 0), (1, .int a)] [] (hS I G A B) 0 0 (zP3 ro 155 [(0, .ref 52), (1, .int a)] k (fun v w => v = w)) := by
  obtain ⟨h1, I3, G3, A3, B3, eh, hx⟩ := h
  have p1 := pair_next ro k I G A B h1 hk a
  have p2 := pairX_nextx ro k I3 G3 A3 B3 hx hk a
  rw [← eh] at p2
  exact zL_and p1 p2
