def fNe (k j : Nat) : Bool := decide ((k = 0 ∧ j = 7) ∨ (k = 11 ∧ 6 ≤ j ∧ j ≤ 9))
def pNe (k : Nat) : Bool := decide (16 ≤ k ∧ k ≤ 19)
theorem fNe_52 : ∀ k j, 52 ≤ k → fNe k j = false := by
  intro k j h
  simp only [fNe, decide_eq_false_iff_not]
  omega
theorem pNe_52 : ∀ k, 52 ≤ k → pNe k = false := by
  intro k h
  simp only [pNe, decide_eq_false_iff_not]
  omega
noncomputable def an_count (nv np : Nat) (L : qLog) (tl : List Int32) (a : Int32) : Int32 := cI (a = 0) (nI nv) (cI (a = 1) (nI np) (cI (a = 2) (nI L.1) (cI (a = 3) (nI tl.length) (-1))))
set_option maxRecDepth 100000 in
set_option maxHeartbeats 0 in
theorem cq_count (ro : UInt32 → Nat × (Nat → Int32)) (nv np : Nat) (P : Nat → Nat → Int32) (W : qW) (L : qLog) (tl : List Int32) (I : Nat → Nat → Int32) (G : Nat → Nat → Int64) (A : Nat → Nat → Int32) (B : Nat → Nat → Int64) (hR : cRS 11 nv np P W I G A B) (hL : cLg L I A) (tc : cTl (I 44 4) (A 45) tl) (tn : tl.length ≤ 50) (a : Int32) : zWp ro 96 0 [(0, .ref 0), (1, .int a)] [] (hS I G A B) 0 0 (fun r h1 => ∃ I2 G2 A2 B2, h1 = hS I2 G2 A2 B2 ∧ KQ fNe pNe I G A B I2 G2 A2 B2 ∧ r = some (.int (an_count nv np L tl a))) := by
  refine zw_iload_n 1 f96_0 rfl rfl ?_
  rcases zl_sw 3 (by decide) a with hs1 | ⟨hs1k, hs1l, hs1e⟩
  · refine zw_table_o 64 f96_1 hs1 (by decide +kernel) ?_
    refine zw_iconst (-1) 65 f96_64 rfl (by decide +kernel) ?_
    refine zw_ireturn f96_65 r96 u96 ?_
    exact ⟨_, _, _, _, rfl, KQ.rf, by rw [show an_count nv np L tl a = (-1) from ((cI_n (sw_ne hs1 (by decide))).trans ((cI_n (sw_ne hs1 (by decide))).trans ((cI_n (sw_ne hs1 (by decide))).trans ((cI_n (sw_ne hs1 (by decide))).trans rfl))))]⟩
  · rcases (show hs1k = 0 ∨ hs1k = 1 ∨ hs1k = 2 ∨ hs1k = 3 by omega) with rfl | rfl | rfl | rfl
    · refine zw_table_k 31 32 f96_1 hs1e (by decide +kernel) (by decide +kernel) (by decide +kernel) ?_
      refine zw_aload_n 33 f96_32 rfl rfl ?_
      refine zw_getfield 36 f96_33 rfl g96_10_11 (hb_0 _ _ _ _) rfl ?_
      refine zw_getI (nI nv) 39 f96_36 rfl g96_250_4 (hb_1 _ _ _ _) rfl hR.1.1 ?_
      refine zw_ireturn f96_39 r96 u96 ?_
      exact ⟨_, _, _, _, rfl, KQ.rf, by rw [show an_count nv np L tl a = (nI nv) from ((cI_y (show a = 0 from hs1e)).trans rfl)]⟩
    · refine zw_table_k 39 40 f96_1 hs1e (by decide +kernel) (by decide +kernel) (by decide +kernel) ?_
      refine zw_aload_n 41 f96_40 rfl rfl ?_
      refine zw_getfield 44 f96_41 rfl g96_10_11 (hb_0 _ _ _ _) rfl ?_
      refine zw_getI (nI np) 47 f96_44 rfl g96_253_4 (hb_1 _ _ _ _) rfl hR.1.2 ?_
      refine zw_ireturn f96_47 r96 u96 ?_
      exact ⟨_, _, _, _, rfl, KQ.rf, by rw [show an_count nv np L tl a = (nI np) from ((cI_n (kne (show a = 1 from hs1e) (by decide))).trans ((cI_y (show a = 1 from hs1e)).trans rfl))]⟩
    · refine zw_table_k 47 48 f96_1 hs1e (by decide +kernel) (by decide +kernel) (by decide +kernel) ?_
      refine zw_aload_n 49 f96_48 rfl rfl ?_
      refine zw_getfield 52 f96_49 rfl g96_31_11 (hb_0 _ _ _ _) rfl ?_
      refine zw_getI (nI L.1) 55 f96_52 rfl g96_164_3 (hb_33 _ _ _ _) rfl hL.1 ?_
      refine zw_ireturn f96_55 r96 u96 ?_
      exact ⟨_, _, _, _, rfl, KQ.rf, by rw [show an_count nv np L tl a = (nI L.1) from ((cI_n (kne (show a = 2 from hs1e) (by decide))).trans ((cI_n (kne (show a = 2 from hs1e) (by decide))).trans ((cI_y (show a = 2 from hs1e)).trans rfl)))]⟩
    · refine zw_table_k 55 56 f96_1 hs1e (by decide +kernel) (by decide +kernel) (by decide +kernel) ?_
      refine zw_aload_n 57 f96_56 rfl rfl ?_
      refine zw_getfield 60 f96_57 rfl g96_45_11 (hb_0 _ _ _ _) rfl ?_
      refine zw_getI (nI tl.length) 63 f96_60 rfl g96_256_0 (hb_44 _ _ _ _) rfl tc.1 ?_
      refine zw_ireturn f96_63 r96 u96 ?_
      exact ⟨_, _, _, _, rfl, KQ.rf, by rw [show an_count nv np L tl a = (nI tl.length) from ((cI_n (kne (show a = 3 from hs1e) (by decide))).trans ((cI_n (kne (show a = 3 from hs1e) (by decide))).trans ((cI_n (kne (show a = 3 from hs1e) (by decide))).trans ((cI_y (show a = 3 from hs1e)).trans rfl))))]⟩
set_option maxRecDepth 100000 in
set_option maxHeartbeats 0 in
theorem mx_count (ro : UInt32 → Nat × (Nat → Int32)) (nv np : Nat) (P : Nat → Nat → Int32) (W : qW) (L : qLog) (tl : List Int32) (I : Nat → Nat → Int32) (G : Nat → Nat → Int64) (A : Nat → Nat → Int32) (B : Nat → Nat → Int64) (hR : mRS nv np P W L I G A B) (tm : cTl (I 52 29) (A 71) tl) (tn : tl.length ≤ 50) (hi : mId I) (a : Int32) : zWp ro 162 0 [(0, .ref 52), (1, .int a)] [] (hS I G A B) 0 0 (fun r h1 => ∃ I2 G2 A2 B2, h1 = hS I2 G2 A2 B2 ∧ KQ fQv pQv I G A B I2 G2 A2 B2 ∧ mId I2 ∧ r = some (.int (an_count nv np L tl a))) := by
  refine zw_iload_n 1 f162_0 rfl rfl ?_
  refine zw_if_ne 4 11 f162_1 (by decide +kernel) rfl (fun hc1 => ?_) (fun hc1 => ?_)
  · refine zw_iload_n 12 f162_11 rfl rfl ?_
    refine zw_iconst 1 13 f162_12 rfl (by decide +kernel) ?_
    refine zw_ic_ne 16 23 f162_13 (by decide +kernel) rfl (fun hc2 => ?_) (fun hc2 => ?_)
    · refine zw_iload_n 24 f162_23 rfl rfl ?_
      refine zw_iconst 2 25 f162_24 rfl (by decide +kernel) ?_
      refine zw_ic_ne 28 35 f162_25 (by decide +kernel) rfl (fun hc3 => ?_) (fun hc3 => ?_)
      · refine zw_iload_n 36 f162_35 rfl rfl ?_
        refine zw_iconst 3 37 f162_36 rfl (by decide +kernel) ?_
        refine zw_ic_ne 40 47 f162_37 (by decide +kernel) rfl (fun hc4 => ?_) (fun hc4 => ?_)
        · refine zw_iconst (-1) 48 f162_47 rfl (by decide +kernel) ?_
          refine zw_ireturn f162_48 r162 u162 ?_
          exact ⟨_, _, _, _, rfl, KQ.rf, hi, by rw [show an_count nv np L tl a = (-1) from ((cI_n hc1).trans ((cI_n hc2).trans ((cI_n hc3).trans ((cI_n hc4).trans rfl))))]⟩
        · refine zw_aload_n 41 f162_40 rfl rfl ?_
          refine zw_getI (nI tl.length) 44 f162_41 rfl g162_246_12 (hb_52 _ _ _ _) rfl tm.1 ?_
          refine zw_goto 48 f162_44 (by decide +kernel) ?_
          refine zw_ireturn f162_48 r162 u162 ?_
          exact ⟨_, _, _, _, rfl, KQ.rf, hi, by rw [show an_count nv np L tl a = (nI tl.length) from ((cI_n hc1).trans ((cI_n hc2).trans ((cI_n hc3).trans ((cI_y (Decidable.of_not_not hc4)).trans rfl))))]⟩
      · refine zw_aload_n 29 f162_28 rfl rfl ?_
        refine zw_getI (nI L.1) 32 f162_29 rfl g162_183_12 (hb_52 _ _ _ _) rfl hR.2.2.2.1 ?_
        refine zw_goto 48 f162_32 (by decide +kernel) ?_
        refine zw_ireturn f162_48 r162 u162 ?_
        exact ⟨_, _, _, _, rfl, KQ.rf, hi, by rw [show an_count nv np L tl a = (nI L.1) from ((cI_n hc1).trans ((cI_n hc2).trans ((cI_y (Decidable.of_not_not hc3)).trans rfl)))]⟩
    · refine zw_aload_n 17 f162_16 rfl rfl ?_
      refine zw_getI (nI np) 20 f162_17 rfl g162_121_12 (hb_52 _ _ _ _) rfl hR.1.2 ?_
      refine zw_goto 48 f162_20 (by decide +kernel) ?_
      refine zw_ireturn f162_48 r162 u162 ?_
      exact ⟨_, _, _, _, rfl, KQ.rf, hi, by rw [show an_count nv np L tl a = (nI np) from ((cI_n hc1).trans ((cI_y (Decidable.of_not_not hc2)).trans rfl))]⟩
  · refine zw_aload_n 5 f162_4 rfl rfl ?_
    refine zw_getI (nI nv) 8 f162_5 rfl g162_114_12 (hb_52 _ _ _ _) rfl hR.1.1 ?_
    refine zw_goto 48 f162_8 (by decide +kernel) ?_
    refine zw_ireturn f162_48 r162 u162 ?_
    exact ⟨_, _, _, _, rfl, KQ.rf, hi, by rw [show an_count nv np L tl a = (nI nv) from ((cI_y (Decidable.of_not_not hc1)).trans rfl)]⟩
set_option maxHeartbeats 0 in
theorem pairX_countx (ro : UInt32 → Nat × (Nat → Int32)) (k : Nat) (I : Nat → Nat → Int32) (G : Nat → Nat → Int64) (A : Nat → Nat → Int32) (B : Nat → Nat → Int64) (h : zCx k I G A B) (hk : k < 512) (a : Int32) : zWp ro 96 0 [(0, .ref 0), (1, .int a)] [] (hS I G A B) 0 0 (zPX ro 162 [(0, .ref 52), (1, .int a)] k (fun v w => v = w)) := by
  obtain ⟨nv, np, W, L, F, R, ow, kd, lw, lg, tl, tc, tm, tn⟩ := h
  have fn := F.2.2.2.2.2
  refine zWp.mono (cq_count ro nv np A W L tl I G A B R lg tc tn a) ?_
  rintro r h1 ⟨I1, G1, A1, B1, rfl, K1, rfl⟩
  have F1 := F.kq K1 fNe_52 pNe_52
  have e1 : PE A A1 := fun k _ _ => (K1.2.2.1 k (pNe_52 k (by omega))).symm
  have R1 := R.k K1 ⟨rfl, rfl⟩ (fun j h1 h2 => by simp only [fNe, decide_eq_false_iff_not]; omega) (fun k h1 h2 => by simp only [pNe, decide_eq_false_iff_not]; omega)
  have g1 := lg.k K1 rfl rfl rfl rfl rfl
  refine ⟨_, rfl, zWp.mono (mx_count ro nv np A W L tl I1 G1 A1 B1 ⟨F1.1.1, e1.sy, F1.1.2.2⟩ (tm.e (K1.1 52 29 rfl) (K1.2.2.1 71 rfl)) tn F1.2.2.2.2.1 a) ?_⟩
  rintro r2 h2 ⟨I2, G2, A2, B2, rfl, K2, id2, rfl⟩
  have R2 := F1.1.k K2 fQv_R pQv_R
  refine ⟨_, rfl, ?_, rfl⟩
  exact zCx.mk (zRf.of R2 F1.2.1 F1.2.2.1 F1.2.2.2.1 id2 fn) (by omega) (by omega) R1 (e1.tr R2.2.1.sy) K2 fQv_c pQv_c ow kd lw g1 (tc.e (K1.1 44 4 rfl) (K1.2.2.1 45 rfl)) (tm.e ((K2.1 52 29 rfl).trans (K1.1 52 29 rfl)) ((K2.2.2.1 71 rfl).trans (K1.2.2.1 71 rfl))) tn
theorem pair2_countx (ro : UInt32 → Nat × (Nat → Int32)) (k : Nat) (I : Nat → Nat → Int32) (G : Nat → Nat → Int64) (A : Nat → Nat → Int32) (B : Nat → Nat → Int64) (h : zL2 k I G A B) (hk : k < 512) (a : Int32) : zWp ro 96 0 [(0, .ref 0), (1, .int a)] [] (hS I G A B) 0 0 (zP2 ro 162 [(0, .ref 52), (1, .int a)] k (fun v w => v = w)) := by
  obtain ⟨h1, I3, G3, A3, B3, eh, hx⟩ := h
  have p1 := pair_count ro k I G A B h1 hk a
  have p2 := pairX_countx ro k I3 G3 A3 B3 hx hk a
  rw [← eh] at p2
  exact zP_and p1 p2
