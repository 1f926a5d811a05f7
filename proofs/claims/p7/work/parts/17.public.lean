def CV (nv np cm : Nat) (I : Nat → Nat → Int32) : Prop := CI nv np I ∧ (∃ c, c ≤ cm ∧ I 33 0 = nI c) ∧ ∃ t, t ≤ 50 ∧ I 44 4 = nI t
theorem CV.of {nv np cm : Nat} {I I2 : Nat → Nat → Int32} {G G2 : Nat → Nat → Int64} {A A2 : Nat → Nat → Int32} {B B2 : Nat → Nat → Int64} (h : CV nv np cm I) (K : KP pW I G A B I2 G2 A2 B2) (h2 : CI nv np I2) : CV nv np cm I2 := by
  obtain ⟨-, ⟨c, a, b⟩, ⟨t, d, e⟩⟩ := h
  exact ⟨h2, ⟨c, a, (K.1 33 0 rfl).trans b⟩, ⟨t, d, (K.1 44 4 rfl).trans e⟩⟩
theorem CV.mono {nv np cm cm2 : Nat} {I : Nat → Nat → Int32} (h : CV nv np cm I) (hc : cm ≤ cm2) : CV nv np cm2 I := by
  obtain ⟨h1, ⟨c, a, b⟩, h3⟩ := h
  exact ⟨h1, ⟨c, Nat.le_trans a hc, b⟩, h3⟩
theorem pWN : ∀ k, pN k = false → pW k = false := by
  intro k h
  simp only [pN, pW, Bool.or_eq_false_iff, Bool.and_eq_false_iff, decide_eq_false_iff_not] at h ⊢
  omega
theorem pNX : ∀ k, pX k = false → pN k = false := by
  intro k h
  simp only [pN, pX, Bool.or_eq_false_iff, Bool.and_eq_false_iff, decide_eq_false_iff_not] at h ⊢
  omega
def zWv (p : Nat → Bool) (nv np cm : Nat) (I : Nat → Nat → Int32) (G : Nat → Nat → Int64) (A : Nat → Nat → Int32) (B : Nat → Nat → Int64) (rt : Option Value → Prop) (r : Option Value) (h1 : List va_E) : Prop :=
  ∃ I2 G2 A2 B2, h1 = hS I2 G2 A2 B2 ∧ KP p I G A B I2 G2 A2 B2 ∧ CV nv np cm I2 ∧ rt r
def zRt4 (r : Option Value) : Prop := ∃ v : Int32, r = some (.int v) ∧ (v = -1 ∨ ∃ e : Nat, e < 151 ∧ v = nI e)
set_option maxRecDepth 100000 in
set_option maxHeartbeats 0 in
theorem lcv_X3_take_33_2 (ro : UInt32 → Nat × (Nat → Int32)) (nv np cm : Nat) (I : Nat → Nat → Int32) (G : Nat → Nat → Int64) (A : Nat → Nat → Int32) (B : Nat → Nat → Int64) (hI : CV nv np cm I) (hcm : cm < 2000000000) : ∀ (n k : Nat) (ls : List (Nat × Value)) (I1 : Nat → Nat → Int32) (G1 : Nat → Nat → Int64) (A1 : Nat → Nat → Int32) (B1 : Nat → Nat → Int64), KP pN I G A B I1 G1 A1 B1 → CV nv np (cm + 1 * k) I1 → True → zld ls 0 = some (.ref 33) → zld ls 1 = some (.ref 11) → zld ls 2 = some (.int (nI k)) → k ≤ 8 → 8 + 1 ≤ k + n → zWp ro 10 2 ls [] (hS I1 G1 A1 B1) 0 0 (zWv pN nv np (cm + 8) I G A B zRt0) := by
  have hnv := hI.1.1.2
  have hnp := hI.1.2.1.2
  intro n
  induction n with
  | zero =>
    intro k ls I1 G1 A1 B1 K hJ _ hl0 hl1 hl2 h1 h2
    exact absurd h2 (by omega)
  | succ n ih =>
    intro k ls I1 G1 A1 B1 K hJ _ hl0 hl1 hl2 hk1 hk2
    refine zw_iload_n 3 f10_2 rfl hl2 ?_
    refine zw_aload_n 4 f10_3 rfl hl1 ?_
    obtain ⟨x1p, x1q, x1e⟩ := hJ.1.2.2.1
    refine zw_getI (nI x1p) 7 f10_4 rfl g10_24_10 (hb_11 _ _ _ _) rfl x1e ?_
    refine zw_ic_ge 10 126 f10_7 (by decide +kernel) rfl (fun hc2 => ?_) (fun hc2 => ?_)
    · have hn_hc2 : x1p ≤ k := zn_ge (by omega) (by omega) hc2
      refine zw_vreturn f10_126 r10 u10 ?_
      exact ⟨_, _, _, _, rfl, K, CV.mono hJ (by omega), rfl⟩
    · have hn_hc2 : k < x1p := zn_lt (by omega) (by omega) hc2
      refine zw_iload_n 11 f10_10 rfl hl2 ?_
      refine zw_bipush 8 13 f10_11 rfl (by decide +kernel) ?_
      refine zw_ic_ge 16 126 f10_13 (by decide +kernel) rfl (fun hc3 => ?_) (fun hc3 => ?_)
      · have hn_hc3 : 8 ≤ k := zn_ge (by omega) (by omega) hc3
        refine zw_vreturn f10_126 r10 u10 ?_
        exact ⟨_, _, _, _, rfl, K, CV.mono hJ (by omega), rfl⟩
      · have hn_hc3 : k < 8 := zn_lt (by omega) (by omega) hc3
        refine zw_aload_n 17 f10_16 rfl hl0 ?_
        obtain ⟨x4p, x4q, x4e⟩ := hJ.2.1
        refine zw_getI (nI x4p) 20 f10_17 rfl g10_30_3 (hb_33 _ _ _ _) rfl x4e ?_
        refine zw_sipush 400 23 f10_20 rfl (by decide +kernel) ?_
        refine zw_ic_ge 26 110 f10_23 (by decide +kernel) rfl (fun hc5 => ?_) (fun hc5 => ?_)
        · have hn_hc5 : 400 ≤ x4p := zn_ge (by omega) (by omega) hc5
          refine zw_aload_n 111 f10_110 rfl hl0 ?_
          refine zw_dup 112 f10_111 rfl rfl ?_
          refine zw_getI (nI x4p) 115 f10_112 rfl g10_30_3 (hb_33 _ _ _ _) rfl x4e ?_
          refine zw_iconst 1 116 f10_115 rfl (by decide +kernel) ?_
          refine zw_iadd (nI (x4p + 1)) 117 f10_116 rfl (nI_1 _) ?_
          refine zw_put _ 120 f10_117 rfl g10_30_3 (hb_33 _ _ _ _) rfl (Nat.le_of_ble_eq_true rfl) (by decide +kernel) (hi_33_0 _ _ _ _ _) ?_
          have hV6 : CV nv np ((cm + 1 * k) + 1) (upd2 I1 33 0 (nI (x4p + 1))) := ⟨hJ.1, ⟨(x4p + 1), (by omega), rfl⟩, hJ.2.2⟩
          refine zw_iinc (nI (k + 1)) _ 123 f10_120 rfl hl2 (by decide +kernel) (nI_1 _) rfl ?_
          refine zw_goto 2 f10_123 (by decide +kernel) ?_
          exact ih ((k + 1)) _ _ _ _ _ (KP.i rfl K) (CV.mono hV6 (by omega))  trivial (zl1_ne rfl rfl hl0) (zl1_ne rfl rfl hl1) zl1_eq (by omega) (by omega)
        · have hn_hc5 : x4p < 400 := zn_lt (by omega) (by omega) hc5
          refine zw_aload_n 27 f10_26 rfl hl0 ?_
          refine zw_getfield 30 f10_27 rfl g10_9_3 (hb_33 _ _ _ _) rfl ?_
          refine zw_aload_n 31 f10_30 rfl hl0 ?_
          refine zw_getI (nI x4p) 34 f10_31 rfl g10_30_3 (hb_33 _ _ _ _) rfl x4e ?_
          refine zw_aload_n 35 f10_34 rfl hl1 ?_
          refine zw_getfield 38 f10_35 rfl g10_33_10 (hb_11 _ _ _ _) rfl ?_
          refine zw_iload_n 39 f10_38 rfl hl2 ?_
          refine zx_iaload k 40 f10_39 rfl (hb_20 _ _ _ _) (nI_clamp (by omega)) (nI_pos (by omega)) (by omega) (fun w7 hw7 => ?_)
          refine zw_ast x4p _ 41 f10_40 rfl (hb_34 _ _ _ _) (nI_clamp (by omega)) (nI_pos (by omega)) (by omega) (ha_34 _ _ _ _ _) ?_
          refine zw_aload_n 42 f10_41 rfl hl0 ?_
          refine zw_getfield 45 f10_42 rfl g10_15_3 (hb_33 _ _ _ _) rfl ?_
          refine zw_aload_n 46 f10_45 rfl hl0 ?_
          refine zw_getI (nI x4p) 49 f10_46 rfl g10_30_3 (hb_33 _ _ _ _) rfl x4e ?_
          refine zw_aload_n 50 f10_49 rfl hl1 ?_
          refine zw_getfield 53 f10_50 rfl g10_36_10 (hb_11 _ _ _ _) rfl ?_
          refine zw_iload_n 54 f10_53 rfl hl2 ?_
          refine zx_iaload k 55 f10_54 rfl (hb_21 _ _ _ _) (nI_clamp (by omega)) (nI_pos (by omega)) (by omega) (fun w8 hw8 => ?_)
          refine zw_ast x4p _ 56 f10_55 rfl (hb_35 _ _ _ _) (nI_clamp (by omega)) (nI_pos (by omega)) (by omega) (ha_35 _ _ _ _ _) ?_
          refine zw_aload_n 57 f10_56 rfl hl0 ?_
          refine zw_getfield 60 f10_57 rfl g10_18_3 (hb_33 _ _ _ _) rfl ?_
          refine zw_aload_n 61 f10_60 rfl hl0 ?_
          refine zw_getI (nI x4p) 64 f10_61 rfl g10_30_3 (hb_33 _ _ _ _) rfl x4e ?_
          refine zw_aload_n 65 f10_64 rfl hl1 ?_
          refine zw_getfield 68 f10_65 rfl g10_39_10 (hb_11 _ _ _ _) rfl ?_
          refine zx_getG 71 f10_68 rfl g10_43_9 (hb_12 _ _ _ _) rfl (fun w9 hw9 => ?_)
          refine zw_aload_n 72 f10_71 rfl hl1 ?_
          refine zw_getfield 75 f10_72 rfl g10_39_10 (hb_11 _ _ _ _) rfl ?_
          refine zx_getG 78 f10_75 rfl g10_49_9 (hb_12 _ _ _ _) rfl (fun w10 hw10 => ?_)
          refine zw_static_l 81 0 0 [.long w9, .long w10] [.int (nI x4p), .ref 36] [(0, .long w9), (2, .long w10)] f10_78 rfl k10_52_99 rfl (by decide +kernel) (Nat.le_of_ble_eq_true rfl) (Nat.le_of_ble_eq_true rfl) rfl rfl (by decide +kernel) (by decide +kernel) rfl (Nat.le_of_ble_eq_true rfl) rfl ?_
          refine zWp.mono (cp_X11_above ro nv np I1 _ _ _ hJ.1 w9 w10) ?_
          rintro r h1 ⟨rfl, ⟨w11, rfl⟩⟩
          refine ⟨_, rfl, ?_⟩
          refine zx_l2i 82 f10_81 rfl (fun w12 hw12 => ?_)
          refine zw_ast x4p _ 83 f10_82 rfl (hb_36 _ _ _ _) (nI_clamp (by omega)) (nI_pos (by omega)) (by omega) (ha_36 _ _ _ _ _) ?_
          refine zw_aload_n 84 f10_83 rfl hl0 ?_
          refine zw_getfield 87 f10_84 rfl g10_21_3 (hb_33 _ _ _ _) rfl ?_
          refine zw_aload_n 88 f10_87 rfl hl0 ?_
          refine zw_getI (nI x4p) 91 f10_88 rfl g10_30_3 (hb_33 _ _ _ _) rfl x4e ?_
          refine zw_aload_n 92 f10_91 rfl hl1 ?_
          refine zw_getfield 95 f10_92 rfl g10_39_10 (hb_11 _ _ _ _) rfl ?_
          refine zw_getG w9 98 f10_95 rfl g10_43_9 (hb_12 _ _ _ _) rfl hw9 ?_
          refine zw_aload_n 99 f10_98 rfl hl1 ?_
          refine zw_getfield 102 f10_99 rfl g10_39_10 (hb_11 _ _ _ _) rfl ?_
          refine zw_getG w10 105 f10_102 rfl g10_49_9 (hb_12 _ _ _ _) rfl hw10 ?_
          refine zw_static_l 108 0 0 [.long w9, .long w10] [.int (nI x4p), .ref 37] [(0, .long w9), (2, .long w10)] f10_105 rfl k10_56_99 rfl (by decide +kernel) (Nat.le_of_ble_eq_true rfl) (Nat.le_of_ble_eq_true rfl) rfl rfl (by decide +kernel) (by decide +kernel) rfl (Nat.le_of_ble_eq_true rfl) rfl ?_
          refine zWp.mono (cp_X11_below ro nv np I1 _ _ _ hJ.1 w9 w10) ?_
          rintro r h1 ⟨rfl, ⟨w13, rfl⟩⟩
          refine ⟨_, rfl, ?_⟩
          refine zx_l2i 109 f10_108 rfl (fun w14 hw14 => ?_)
          refine zw_ast x4p _ 110 f10_109 rfl (hb_37 _ _ _ _) (nI_clamp (by omega)) (nI_pos (by omega)) (by omega) (ha_37 _ _ _ _ _) ?_
          refine zw_aload_n 111 f10_110 rfl hl0 ?_
          refine zw_dup 112 f10_111 rfl rfl ?_
          refine zw_getI (nI x4p) 115 f10_112 rfl g10_30_3 (hb_33 _ _ _ _) rfl x4e ?_
          refine zw_iconst 1 116 f10_115 rfl (by decide +kernel) ?_
          refine zw_iadd (nI (x4p + 1)) 117 f10_116 rfl (nI_1 _) ?_
          refine zw_put _ 120 f10_117 rfl g10_30_3 (hb_33 _ _ _ _) rfl (Nat.le_of_ble_eq_true rfl) (by decide +kernel) (hi_33_0 _ _ _ _ _) ?_
          have hV15 : CV nv np ((cm + 1 * k) + 1) (upd2 I1 33 0 (nI (x4p + 1))) := ⟨hJ.1, ⟨(x4p + 1), (by omega), rfl⟩, hJ.2.2⟩
          refine zw_iinc (nI (k + 1)) _ 123 f10_120 rfl hl2 (by decide +kernel) (nI_1 _) rfl ?_
          refine zw_goto 2 f10_123 (by decide +kernel) ?_
          exact ih ((k + 1)) _ _ _ _ _ (KP.i rfl (KP.a rfl (KP.a rfl (KP.a rfl (KP.a rfl K))))) (CV.mono hV15 (by omega))  trivial (zl1_ne rfl rfl hl0) (zl1_ne rfl rfl hl1) zl1_eq (by omega) (by omega)
set_option maxRecDepth 100000 in
set_option maxHeartbeats 0 in
theorem cv_X3_take_33 (ro : UInt32 → Nat × (Nat → Int32)) (nv np cm : Nat) (I : Nat → Nat → Int32) (G : Nat → Nat → Int64) (A : Nat → Nat → Int32) (B : Nat → Nat → Int64) (hI : CV nv np cm I) (hcm : cm < 2000000000) : zWp ro 10 0 [(0, .ref 33), (1, .ref 11)] [] (hS I G A B) 0 0 (zWv pN nv np (cm + 8) I G A B zRt0) := by
  have hnv := hI.1.1.2
  have hnp := hI.1.2.1.2
  refine zw_iconst 0 1 f10_0 rfl (by decide +kernel) ?_
  refine zw_istore_n _ 2 f10_1 rfl (by decide +kernel) rfl ?_
  exact lcv_X3_take_33_2 ro nv np cm I G A B hI hcm (8 + 1) 0 _ _ _ _ _ KP.rf (CV.mono hI (by omega))  trivial (zl1_ne rfl rfl rfl) (zl1_ne rfl rfl rfl) (show zld _ _ = some (.int (nI 0)) from zl1_eq) (by omega) (by omega)
set_option maxRecDepth 100000 in
set_option maxHeartbeats 0 in
theorem cq_X3_toldOf_33 (ro : UInt32 → Nat × (Nat → Int32)) (nv np cm : Nat) (I : Nat → Nat → Int32) (G : Nat → Nat → Int64) (A : Nat → Nat → Int32) (B : Nat → Nat → Int64) (hI : CV nv np cm I) (hcm : cm < 1000000000) (a : Int32) (b : Int32) : zWp ro 11 0 [(0, .ref 33), (1, .int a), (2, .int b)] [] (hS I G A B) 0 0 (fun r h1 => h1 = hS I G A B ∧ zRt1 r) := by
  have hnv := hI.1.1.2
  have hnp := hI.1.2.1.2
  refine zw_iload_n 1 f11_0 rfl rfl ?_
  refine zw_if_lt 4 19 f11_1 (by decide +kernel) rfl (fun hc1 => ?_) (fun hc1 => ?_)
  · refine zw_iconst (-1) 20 f11_19 rfl (by decide +kernel) ?_
    refine zw_ireturn f11_20 r11 u11 ?_
    exact ⟨rfl, ⟨_, rfl⟩⟩
  · refine zw_iload_n 5 f11_4 rfl rfl ?_
    refine zw_aload_n 6 f11_5 rfl rfl ?_
    obtain ⟨x2p, x2q, x2e⟩ := hI.2.1
    refine zw_getI (nI x2p) 9 f11_6 rfl g11_30_3 (hb_33 _ _ _ _) rfl x2e ?_
    refine zw_ic_ge 12 19 f11_9 (by decide +kernel) rfl (fun hc3 => ?_) (fun hc3 => ?_)
    · refine zw_iconst (-1) 20 f11_19 rfl (by decide +kernel) ?_
      refine zw_ireturn f11_20 r11 u11 ?_
      exact ⟨rfl, ⟨_, rfl⟩⟩
    · refine zw_iload_n 13 f11_12 rfl rfl ?_
      refine zw_sipush 400 16 f11_13 rfl (by decide +kernel) ?_
      refine zw_ic_lt 19 21 f11_16 (by decide +kernel) rfl (fun hc4 => ?_) (fun hc4 => ?_)
      · refine zw_iload_n 22 f11_21 rfl rfl ?_
        rcases zl_sw 3 (by decide) b with hs5 | ⟨hs5k, hs5l, hs5e⟩
        · refine zw_table_o 80 f11_22 hs5 (by decide +kernel) ?_
          refine zw_iconst (-1) 81 f11_80 rfl (by decide +kernel) ?_
          refine zw_ireturn f11_81 r11 u11 ?_
          exact ⟨rfl, ⟨_, rfl⟩⟩
        · rcases (show hs5k = 0 ∨ hs5k = 1 ∨ hs5k = 2 ∨ hs5k = 3 by omega) with rfl | rfl | rfl | rfl
          · refine zw_table_k 30 52 f11_22 hs5e (by decide +kernel) (by decide +kernel) (by decide +kernel) ?_
            refine zw_aload_n 53 f11_52 rfl rfl ?_
            refine zw_getfield 56 f11_53 rfl g11_9_3 (hb_33 _ _ _ _) rfl ?_
            refine zw_iload_n 57 f11_56 rfl rfl ?_
            refine zx_iaload a.toNatClampNeg 58 f11_57 rfl (hb_34 _ _ _ _) rfl hc1 (zix (by decide) hc1 (Int32.not_le.mpr hc4)) (fun w6 hw6 => ?_)
            refine zw_ireturn f11_58 r11 u11 ?_
            exact ⟨rfl, ⟨_, rfl⟩⟩
          · refine zw_table_k 37 59 f11_22 hs5e (by decide +kernel) (by decide +kernel) (by decide +kernel) ?_
            refine zw_aload_n 60 f11_59 rfl rfl ?_
            refine zw_getfield 63 f11_60 rfl g11_15_3 (hb_33 _ _ _ _) rfl ?_
            refine zw_iload_n 64 f11_63 rfl rfl ?_
            refine zx_iaload a.toNatClampNeg 65 f11_64 rfl (hb_35 _ _ _ _) rfl hc1 (zix (by decide) hc1 (Int32.not_le.mpr hc4)) (fun w7 hw7 => ?_)
            refine zw_ireturn f11_65 r11 u11 ?_
            exact ⟨rfl, ⟨_, rfl⟩⟩
          · refine zw_table_k 44 66 f11_22 hs5e (by decide +kernel) (by decide +kernel) (by decide +kernel) ?_
            refine zw_aload_n 67 f11_66 rfl rfl ?_
            refine zw_getfield 70 f11_67 rfl g11_18_3 (hb_33 _ _ _ _) rfl ?_
            refine zw_iload_n 71 f11_70 rfl rfl ?_
            refine zx_iaload a.toNatClampNeg 72 f11_71 rfl (hb_36 _ _ _ _) rfl hc1 (zix (by decide) hc1 (Int32.not_le.mpr hc4)) (fun w8 hw8 => ?_)
            refine zw_ireturn f11_72 r11 u11 ?_
            exact ⟨rfl, ⟨_, rfl⟩⟩
          · refine zw_table_k 51 73 f11_22 hs5e (by decide +kernel) (by decide +kernel) (by decide +kernel) ?_
            refine zw_aload_n 74 f11_73 rfl rfl ?_
            refine zw_getfield 77 f11_74 rfl g11_21_3 (hb_33 _ _ _ _) rfl ?_
            refine zw_iload_n 78 f11_77 rfl rfl ?_
            refine zx_iaload a.toNatClampNeg 79 f11_78 rfl (hb_37 _ _ _ _) rfl hc1 (zix (by decide) hc1 (Int32.not_le.mpr hc4)) (fun w9 hw9 => ?_)
            refine zw_ireturn f11_79 r11 u11 ?_
            exact ⟨rfl, ⟨_, rfl⟩⟩
      · refine zw_iconst (-1) 20 f11_19 rfl (by decide +kernel) ?_
        refine zw_ireturn f11_20 r11 u11 ?_
        exact ⟨rfl, ⟨_, rfl⟩⟩
set_option maxRecDepth 100000 in
set_option maxHeartbeats 0 in
theorem cv_X5_keep_38 (ro : UInt32 → Nat × (Nat → Int32)) (nv np cm : Nat) (I : Nat → Nat → Int32) (G : Nat → Nat → Int64) (A : Nat → Nat → Int32) (B : Nat → Nat → Int64) (hI : CV nv np cm I) (hcm : cm < 1000000000) (a : Nat) (ha : a < 151) : zWp ro 27 0 [(0, .ref 38), (1, .int (nI a)), (2, .ref 23)] [] (hS I G A B) 0 0 (zWv pN nv np (cm + 0) I G A B zRt0) := by
  have hnv := hI.1.1.2
  have hnp := hI.1.2.1.2
  refine zw_iload_n 1 f27_0 rfl rfl ?_
  refine zw_if_lt 4 11 f27_1 (by decide +kernel) rfl (fun hc1 => ?_) (fun hc1 => ?_)
  · have hn_hc1 : a < 0 := zn_lt (by omega) (by omega) (Int32.not_le.mpr hc1)
    refine zw_vreturn f27_11 r27 u27 ?_
    exact ⟨_, _, _, _, rfl, KP.rf, CV.mono hI (by omega), rfl⟩
  · have hn_hc1 : 0 ≤ a := zn_ge (by omega) (by omega) (Int32.not_lt.mp hc1)
    refine zw_iload_n 5 f27_4 rfl rfl ?_
    refine zw_sipush 151 8 f27_5 rfl (by decide +kernel) ?_
    refine zw_ic_lt 11 12 f27_8 (by decide +kernel) rfl (fun hc2 => ?_) (fun hc2 => ?_)
    · have hn_hc2 : a < 151 := zn_lt (by omega) (by omega) (Int32.not_le.mpr hc2)
      refine zw_aload_n 13 f27_12 rfl rfl ?_
      refine zw_getfield 16 f27_13 rfl g27_11_5 (hb_38 _ _ _ _) rfl ?_
      refine zw_iload_n 17 f27_16 rfl rfl ?_
      refine zw_aload_n 18 f27_17 rfl rfl ?_
      refine zx_getG 21 f27_18 rfl g27_75_9 (hb_23 _ _ _ _) rfl (fun w3 hw3 => ?_)
      refine zw_lst a _ 22 f27_21 rfl (hb_39 _ _ _ _) (nI_clamp (by omega)) (nI_pos (by omega)) (by omega) (ha_39 _ _ _ _ _) ?_
      refine zw_aload_n 23 f27_22 rfl rfl ?_
      refine zw_getfield 26 f27_23 rfl g27_15_5 (hb_38 _ _ _ _) rfl ?_
      refine zw_iload_n 27 f27_26 rfl rfl ?_
      refine zw_aload_n 28 f27_27 rfl rfl ?_
      refine zx_getG 31 f27_28 rfl g27_80_9 (hb_23 _ _ _ _) rfl (fun w4 hw4 => ?_)
      refine zw_lst a _ 32 f27_31 rfl (hb_40 _ _ _ _) (nI_clamp (by omega)) (nI_pos (by omega)) (by omega) (ha_40 _ _ _ _ _) ?_
      refine zw_aload_n 33 f27_32 rfl rfl ?_
      refine zw_getfield 36 f27_33 rfl g27_18_5 (hb_38 _ _ _ _) rfl ?_
      refine zw_iload_n 37 f27_36 rfl rfl ?_
      refine zw_aload_n 38 f27_37 rfl rfl ?_
      refine zx_getI 41 f27_38 rfl g27_83_9 (hb_23 _ _ _ _) rfl (fun w5 hw5 => ?_)
      refine zw_ast a _ 42 f27_41 rfl (hb_41 _ _ _ _) (nI_clamp (by omega)) (nI_pos (by omega)) (by omega) (ha_41 _ _ _ _ _) ?_
      refine zw_aload_n 43 f27_42 rfl rfl ?_
      refine zw_getfield 46 f27_43 rfl g27_22_5 (hb_38 _ _ _ _) rfl ?_
      refine zw_iload_n 47 f27_46 rfl rfl ?_
      refine zw_aload_n 48 f27_47 rfl rfl ?_
      refine zx_getI 51 f27_48 rfl g27_86_9 (hb_23 _ _ _ _) rfl (fun w6 hw6 => ?_)
      refine zw_ast a _ 52 f27_51 rfl (hb_42 _ _ _ _) (nI_clamp (by omega)) (nI_pos (by omega)) (by omega) (ha_42 _ _ _ _ _) ?_
      refine zw_aload_n 53 f27_52 rfl rfl ?_
      refine zw_getfield 56 f27_53 rfl g27_89_9 (hb_23 _ _ _ _) rfl ?_
      refine zw_iconst 0 57 f27_56 rfl (by decide +kernel) ?_
      refine zw_aload_n 58 f27_57 rfl rfl ?_
      refine zw_getfield 61 f27_58 rfl g27_25_5 (hb_38 _ _ _ _) rfl ?_
      refine zw_iload_n 62 f27_61 rfl rfl ?_
      refine zw_bipush 8 64 f27_62 rfl (by decide +kernel) ?_
      refine zw_imul (nI (a * 8)) 65 f27_64 rfl (pk_mul _ _) ?_
      refine zw_bipush 8 67 f27_65 rfl (by decide +kernel) ?_
      refine zw_cpl _ 70 8 ((a * 8)) 0 f27_67 rfl k27_90_99 (hb_24 _ _ _ _) (hb_43 _ _ _ _) (by decide +kernel) (nI_clamp (by omega)) (by decide +kernel) (by decide +kernel) (nI_pos (by omega)) (by decide +kernel) (by decide +kernel) (by omega) (Nat.le_of_ble_eq_true rfl) (ha_43 _ _ _ _ _) ?_
      refine zw_vreturn f27_70 r27 u27 ?_
      exact ⟨_, _, _, _, rfl, (KP.b rfl (KP.a rfl (KP.a rfl (KP.b rfl (KP.b rfl KP.rf))))), CV.mono hI (by omega), rfl⟩
    · have hn_hc2 : 151 ≤ a := zn_ge (by omega) (by omega) (Int32.not_lt.mp hc2)
      refine zw_vreturn f27_11 r27 u27 ?_
      exact ⟨_, _, _, _, rfl, KP.rf, CV.mono hI (by omega), rfl⟩
set_option maxRecDepth 100000 in
set_option maxHeartbeats 0 in
theorem lcq_X5_isLike_38_30 (ro : UInt32 → Nat × (Nat → Int32)) (nv np cm : Nat) (I : Nat → Nat → Int32) (G : Nat → Nat → Int64) (A : Nat → Nat → Int32) (B : Nat → Nat → Int64) (hI : CV nv np cm I) (hcm : cm < 1000000000) (a : Nat) (ha : a < 151) : ∀ (n k : Nat) (ls : List (Nat × Value)), True → zld ls 0 = some (.ref 38) → zld ls 1 = some (.int (nI a)) → zld ls 2 = some (.ref 23) → zld ls 3 = some (.int (nI k)) → k ≤ 8 → 8 + 1 ≤ k + n → zWp ro 29 30 ls [] (hS I G A B) 0 0 (fun r h1 => h1 = hS I G A B ∧ zRt2 r) := by
  have hnv := hI.1.1.2
  have hnp := hI.1.2.1.2
  intro n
  induction n with
  | zero =>
    intro k ls _ hl0 hl1 hl2 hl3 h1 h2
    exact absurd h2 (by omega)
  | succ n ih =>
    intro k ls _ hl0 hl1 hl2 hl3 hk1 hk2
    refine zw_iload_n 31 f29_30 rfl hl3 ?_
    refine zw_bipush 8 33 f29_31 rfl (by decide +kernel) ?_
    refine zw_ic_ge 36 77 f29_33 (by decide +kernel) rfl (fun hc1 => ?_) (fun hc1 => ?_)
    · have hn_hc1 : 8 ≤ k := zn_ge (by omega) (by omega) hc1
      refine zw_iconst 1 78 f29_77 rfl (by decide +kernel) ?_
      refine zw_zreturn f29_78 r29 u29 (by decide +kernel) ?_
      exact ⟨rfl, ⟨_, rfl, (by decide +kernel)⟩⟩
    · have hn_hc1 : k < 8 := zn_lt (by omega) (by omega) hc1
      refine zw_aload_n 37 f29_36 rfl hl0 ?_
      refine zw_getfield 40 f29_37 rfl g29_25_5 (hb_38 _ _ _ _) rfl ?_
      refine zw_iload_n 41 f29_40 rfl hl1 ?_
      refine zw_bipush 8 43 f29_41 rfl (by decide +kernel) ?_
      refine zw_imul (nI (a * 8)) 44 f29_43 rfl (pk_mul _ _) ?_
      refine zw_iload_n 45 f29_44 rfl hl3 ?_
      refine zw_iadd (nI ((a * 8) + k)) 46 f29_45 rfl (nI_add _ _) ?_
      refine zx_laload (((a * 8) + k)) 47 f29_46 rfl (hb_43 _ _ _ _) (nI_clamp (by omega)) (nI_pos (by omega)) (by omega) (fun w2 hw2 => ?_)
      refine zw_aload_n 48 f29_47 rfl hl2 ?_
      refine zx_getG 51 f29_48 rfl g29_75_9 (hb_23 _ _ _ _) rfl (fun w3 hw3 => ?_)
      refine zx_lmul 52 f29_51 rfl (fun w4 hw4 => ?_)
      refine zw_aload_n 53 f29_52 rfl hl2 ?_
      refine zw_getfield 56 f29_53 rfl g29_89_9 (hb_23 _ _ _ _) rfl ?_
      refine zw_iload_n 57 f29_56 rfl hl3 ?_
      refine zx_laload k 58 f29_57 rfl (hb_24 _ _ _ _) (nI_clamp (by omega)) (nI_pos (by omega)) (by omega) (fun w5 hw5 => ?_)
      refine zw_aload_n 59 f29_58 rfl hl0 ?_
      refine zw_getfield 62 f29_59 rfl g29_11_5 (hb_38 _ _ _ _) rfl ?_
      refine zw_iload_n 63 f29_62 rfl hl1 ?_
      refine zx_laload a 64 f29_63 rfl (hb_39 _ _ _ _) (nI_clamp (by omega)) (nI_pos (by omega)) (by omega) (fun w6 hw6 => ?_)
      refine zx_lmul 65 f29_64 rfl (fun w7 hw7 => ?_)
      refine zx_lcmp 66 f29_65 rfl (fun w8 hw8 => ?_)
      refine zw_if_eq 69 71 f29_66 (by decide +kernel) rfl (fun hc9 => ?_) (fun hc9 => ?_)
      · refine zw_iinc (nI (k + 1)) _ 74 f29_71 rfl hl3 (by decide +kernel) (nI_1 _) rfl ?_
        refine zw_goto 30 f29_74 (by decide +kernel) ?_
        exact ih ((k + 1)) _  trivial (zl1_ne rfl rfl hl0) (zl1_ne rfl rfl hl1) (zl1_ne rfl rfl hl2) zl1_eq (by omega) (by omega)
      · refine zw_iconst 0 70 f29_69 rfl (by decide +kernel) ?_
        refine zw_zreturn f29_70 r29 u29 (by decide +kernel) ?_
        exact ⟨rfl, ⟨_, rfl, (by decide +kernel)⟩⟩
set_option maxRecDepth 100000 in
set_option maxHeartbeats 0 in
theorem cq_X5_isLike_38 (ro : UInt32 → Nat × (Nat → Int32)) (nv np cm : Nat) (I : Nat → Nat → Int32) (G : Nat → Nat → Int64) (A : Nat → Nat → Int32) (B : Nat → Nat → Int64) (hI : CV nv np cm I) (hcm : cm < 1000000000) (a : Nat) (ha : a < 151) : zWp ro 29 0 [(0, .ref 38), (1, .int (nI a)), (2, .ref 23)] [] (hS I G A B) 0 0 (fun r h1 => h1 = hS I G A B ∧ zRt2 r) := by
  have hnv := hI.1.1.2
  have hnp := hI.1.2.1.2
  refine zw_aload_n 1 f29_0 rfl rfl ?_
  refine zw_getfield 4 f29_1 rfl g29_18_5 (hb_38 _ _ _ _) rfl ?_
  refine zw_iload_n 5 f29_4 rfl rfl ?_
  refine zx_iaload a 6 f29_5 rfl (hb_41 _ _ _ _) (nI_clamp (by omega)) (nI_pos (by omega)) (by omega) (fun w1 hw1 => ?_)
  refine zw_aload_n 7 f29_6 rfl rfl ?_
  refine zx_getI 10 f29_7 rfl g29_83_9 (hb_23 _ _ _ _) rfl (fun w2 hw2 => ?_)
  refine zw_ic_ne 13 26 f29_10 (by decide +kernel) rfl (fun hc3 => ?_) (fun hc3 => ?_)
  · refine zw_iconst 0 27 f29_26 rfl (by decide +kernel) ?_
    refine zw_zreturn f29_27 r29 u29 (by decide +kernel) ?_
    exact ⟨rfl, ⟨_, rfl, (by decide +kernel)⟩⟩
  · refine zw_aload_n 14 f29_13 rfl rfl ?_
    refine zw_getfield 17 f29_14 rfl g29_22_5 (hb_38 _ _ _ _) rfl ?_
    refine zw_iload_n 18 f29_17 rfl rfl ?_
    refine zx_iaload a 19 f29_18 rfl (hb_42 _ _ _ _) (nI_clamp (by omega)) (nI_pos (by omega)) (by omega) (fun w4 hw4 => ?_)
    refine zw_aload_n 20 f29_19 rfl rfl ?_
    refine zx_getI 23 f29_20 rfl g29_86_9 (hb_23 _ _ _ _) rfl (fun w5 hw5 => ?_)
    refine zw_ic_eq 26 28 f29_23 (by decide +kernel) rfl (fun hc6 => ?_) (fun hc6 => ?_)
    · refine zw_iconst 0 29 f29_28 rfl (by decide +kernel) ?_
      refine zw_istore_n _ 30 f29_29 rfl (by decide +kernel) rfl ?_
      exact lcq_X5_isLike_38_30 ro nv np cm I G A B hI hcm a ha (8 + 1) 0 _  trivial (zl1_ne rfl rfl rfl) (zl1_ne rfl rfl rfl) (zl1_ne rfl rfl rfl) (show zld _ _ = some (.int (nI 0)) from zl1_eq) (by omega) (by omega)
    · refine zw_iconst 0 27 f29_26 rfl (by decide +kernel) ?_
      refine zw_zreturn f29_27 r29 u29 (by decide +kernel) ?_
      exact ⟨rfl, ⟨_, rfl, (by decide +kernel)⟩⟩
set_option maxRecDepth 100000 in
set_option maxHeartbeats 0 in
theorem lcq_X5_firstLike_38_2 (ro : UInt32 → Nat × (Nat → Int32)) (nv np cm : Nat) (I : Nat → Nat → Int32) (G : Nat → Nat → Int64) (A : Nat → Nat → Int32) (B : Nat → Nat → Int64) (hI : CV nv np cm I) (hcm : cm < 1000000000) (a : Int32) : ∀ (n k : Nat) (ls : List (Nat × Value)), True → zld ls 0 = some (.ref 38) → zld ls 1 = some (.ref 23) → zld ls 2 = some (.int a) → zld ls 3 = some (.int (nI k)) → k ≤ 151 → 151 + 1 ≤ k + n → zWp ro 28 2 ls [] (hS I G A B) 0 0 (fun r h1 => h1 = hS I G A B ∧ zRt4 r) := by
  have hnv := hI.1.1.2
  have hnp := hI.1.2.1.2
  intro n
  induction n with
  | zero =>
    intro k ls _ hl0 hl1 hl2 hl3 h1 h2
    exact absurd h2 (by omega)
  | succ n ih =>
    intro k ls _ hl0 hl1 hl2 hl3 hk1 hk2
    refine zw_iload_n 3 f28_2 rfl hl3 ?_
    refine zw_iload_n 4 f28_3 rfl hl2 ?_
    refine zw_ic_ge 7 31 f28_4 (by decide +kernel) rfl (fun hc1 => ?_) (fun hc1 => ?_)
    · refine zw_iconst (-1) 32 f28_31 rfl (by decide +kernel) ?_
      refine zw_ireturn f28_32 r28 u28 ?_
      exact ⟨rfl, ⟨_, rfl, Or.inl rfl⟩⟩
    · refine zw_iload_n 8 f28_7 rfl hl3 ?_
      refine zw_sipush 151 11 f28_8 rfl (by decide +kernel) ?_
      refine zw_ic_ge 14 31 f28_11 (by decide +kernel) rfl (fun hc2 => ?_) (fun hc2 => ?_)
      · have hn_hc2 : 151 ≤ k := zn_ge (by omega) (by omega) hc2
        refine zw_iconst (-1) 32 f28_31 rfl (by decide +kernel) ?_
        refine zw_ireturn f28_32 r28 u28 ?_
        exact ⟨rfl, ⟨_, rfl, Or.inl rfl⟩⟩
      · have hn_hc2 : k < 151 := zn_lt (by omega) (by omega) hc2
        refine zw_aload_n 15 f28_14 rfl hl0 ?_
        refine zw_iload_n 16 f28_15 rfl hl3 ?_
        refine zw_aload_n 17 f28_16 rfl hl1 ?_
        refine zw_virtual_i 20 0 0 [.ref 38, .int (nI k), .ref 23] [(0, .ref 38), (1, .int (nI k)), (2, .ref 23)] f28_17 rfl n28_96 k28_96_5 rfl (hb_38 _ _ _ _) (by decide +kernel) (Nat.le_of_ble_eq_true rfl) rfl rfl (by decide +kernel) (by decide +kernel) rfl (Nat.le_of_ble_eq_true rfl) rfl ?_
        refine zWp.mono (cq_X5_isLike_38 ro nv np cm I _ _ _ hI (by omega) k (by omega)) ?_
        rintro r h1 ⟨rfl, ⟨w3, rfl, hw3⟩⟩
        refine ⟨_, rfl, ?_⟩
        refine zw_if_eq 23 25 f28_20 (by decide +kernel) rfl (fun hc4 => ?_) (fun hc4 => ?_)
        · refine zw_iinc (nI (k + 1)) _ 28 f28_25 rfl hl3 (by decide +kernel) (nI_1 _) rfl ?_
          refine zw_goto 2 f28_28 (by decide +kernel) ?_
          exact ih ((k + 1)) _  trivial (zl1_ne rfl rfl hl0) (zl1_ne rfl rfl hl1) (zl1_ne rfl rfl hl2) zl1_eq (by omega) (by omega)
        · refine zw_iload_n 24 f28_23 rfl hl3 ?_
          refine zw_ireturn f28_24 r28 u28 ?_
          exact ⟨rfl, ⟨_, rfl, Or.inr ⟨k, (by omega), rfl⟩⟩⟩
set_option maxRecDepth 100000 in
set_option maxHeartbeats 0 in
theorem cq_X5_firstLike_38 (ro : UInt32 → Nat × (Nat → Int32)) (nv np cm : Nat) (I : Nat → Nat → Int32) (G : Nat → Nat → Int64) (A : Nat → Nat → Int32) (B : Nat → Nat → Int64) (hI : CV nv np cm I) (hcm : cm < 1000000000) (a : Int32) : zWp ro 28 0 [(0, .ref 38), (1, .ref 23), (2, .int a)] [] (hS I G A B) 0 0 (fun r h1 => h1 = hS I G A B ∧ zRt4 r) := by
  have hnv := hI.1.1.2
  have hnp := hI.1.2.1.2
  refine zw_iconst 0 1 f28_0 rfl (by decide +kernel) ?_
  refine zw_istore_n _ 2 f28_1 rfl (by decide +kernel) rfl ?_
  exact lcq_X5_firstLike_38_2 ro nv np cm I G A B hI hcm a (151 + 1) 0 _  trivial (zl1_ne rfl rfl rfl) (zl1_ne rfl rfl rfl) (zl1_ne rfl rfl rfl) (show zld _ _ = some (.int (nI 0)) from zl1_eq) (by omega) (by omega)
set_option maxRecDepth 100000 in
set_option maxHeartbeats 0 in
theorem cv_X5_tell_38 (ro : UInt32 → Nat × (Nat → Int32)) (nv np cm : Nat) (I : Nat → Nat → Int32) (G : Nat → Nat → Int64) (A : Nat → Nat → Int32) (B : Nat → Nat → Int64) (hI : CV nv np cm I) (hcm : cm < 1000000000) (a : Nat) (ha : a < 151) : zWp ro 30 0 [(0, .ref 38), (1, .int (nI a)), (2, .ref 23)] [] (hS I G A B) 0 0 (zWv pN nv np (cm + 0) I G A B zRt0) := by
  have hnv := hI.1.1.2
  have hnp := hI.1.2.1.2
  refine zw_aload_n 1 f30_0 rfl rfl ?_
  refine zw_aload_n 2 f30_1 rfl rfl ?_
  refine zw_getfield 5 f30_2 rfl g30_15_5 (hb_38 _ _ _ _) rfl ?_
  refine zw_iload_n 6 f30_5 rfl rfl ?_
  refine zx_laload a 7 f30_6 rfl (hb_40 _ _ _ _) (nI_clamp (by omega)) (nI_pos (by omega)) (by omega) (fun w1 hw1 => ?_)
  refine zw_put _ 10 f30_7 rfl g30_55_5 (hb_38 _ _ _ _) rfl (Nat.le_of_ble_eq_true rfl) (by decide +kernel) (hg_38_5 _ _ _ _ _) ?_
  refine zw_aload_n 11 f30_10 rfl rfl ?_
  refine zw_aload_n 12 f30_11 rfl rfl ?_
  refine zw_getfield 15 f30_12 rfl g30_11_5 (hb_38 _ _ _ _) rfl ?_
  refine zw_iload_n 16 f30_15 rfl rfl ?_
  refine zx_laload a 17 f30_16 rfl (hb_39 _ _ _ _) (nI_clamp (by omega)) (nI_pos (by omega)) (by omega) (fun w2 hw2 => ?_)
  refine zw_put _ 20 f30_17 rfl g30_59_5 (hb_38 _ _ _ _) rfl (Nat.le_of_ble_eq_true rfl) (by decide +kernel) (hg_38_6 _ _ _ _ _) ?_
  refine zw_aload_n 21 f30_20 rfl rfl ?_
  refine zw_aload_n 22 f30_21 rfl rfl ?_
  refine zx_getG 25 f30_22 rfl g30_80_9 (hb_23 _ _ _ _) rfl (fun w3 hw3 => ?_)
  refine zw_aload_n 26 f30_25 rfl rfl ?_
  refine zw_getG w2 29 f30_26 rfl g30_59_5 (hb_38 _ _ _ _) rfl rfl ?_
  refine zx_lmul 30 f30_29 rfl (fun w4 hw4 => ?_)
  refine zw_aload_n 31 f30_30 rfl rfl ?_
  refine zw_getG w1 34 f30_31 rfl g30_55_5 (hb_38 _ _ _ _) rfl rfl ?_
  refine zw_aload_n 35 f30_34 rfl rfl ?_
  refine zx_getG 38 f30_35 rfl g30_75_9 (hb_23 _ _ _ _) rfl (fun w5 hw5 => ?_)
  refine zx_lmul 39 f30_38 rfl (fun w6 hw6 => ?_)
  refine zx_lsub 40 f30_39 rfl (fun w7 hw7 => ?_)
  refine zw_put _ 43 f30_40 rfl g30_69_5 (hb_38 _ _ _ _) rfl (Nat.le_of_ble_eq_true rfl) (by decide +kernel) (hg_38_7 _ _ _ _ _) ?_
  refine zw_aload_n 44 f30_43 rfl rfl ?_
  refine zw_aload_n 45 f30_44 rfl rfl ?_
  refine zw_getG w5 48 f30_45 rfl g30_75_9 (hb_23 _ _ _ _) rfl hw5 ?_
  refine zw_aload_n 49 f30_48 rfl rfl ?_
  refine zw_getG w2 52 f30_49 rfl g30_59_5 (hb_38 _ _ _ _) rfl rfl ?_
  refine zx_lmul 53 f30_52 rfl (fun w8 hw8 => ?_)
  refine zw_put _ 56 f30_53 rfl g30_72_5 (hb_38 _ _ _ _) rfl (Nat.le_of_ble_eq_true rfl) (by decide +kernel) (hg_38_8 _ _ _ _ _) ?_
  refine zw_vreturn f30_56 r30 u30 ?_
  exact ⟨_, _, _, _, rfl, (KP.g rfl (KP.g rfl (KP.g rfl (KP.g rfl KP.rf)))), CV.mono hI (by omega), rfl⟩
set_option maxRecDepth 100000 in
set_option maxHeartbeats 0 in
theorem cq_X5_toldOf_38 (ro : UInt32 → Nat × (Nat → Int32)) (nv np cm : Nat) (I : Nat → Nat → Int32) (G : Nat → Nat → Int64) (A : Nat → Nat → Int32) (B : Nat → Nat → Int64) (hI : CV nv np cm I) (hcm : cm < 1000000000) (a : Int32) : zWp ro 26 0 [(0, .ref 38), (1, .int a)] [] (hS I G A B) 0 0 (fun r h1 => h1 = hS I G A B ∧ zRt1 r) := by
  have hnv := hI.1.1.2
  have hnp := hI.1.2.1.2
  refine zw_iload_n 1 f26_0 rfl rfl ?_
  rcases zl_sw 4 (by decide) a with hs1 | ⟨hs1k, hs1l, hs1e⟩
  · refine zw_table_o 84 f26_1 (zl_lo hs1 (by decide +kernel)) (by decide +kernel) ?_
    refine zw_iconst (-1) 85 f26_84 rfl (by decide +kernel) ?_
    refine zw_ireturn f26_85 r26 u26 ?_
    exact ⟨rfl, ⟨_, rfl⟩⟩
  · rcases (show hs1k = 0 ∨ hs1k = 1 ∨ hs1k = 2 ∨ hs1k = 3 ∨ hs1k = 4 by omega) with rfl | rfl | rfl | rfl | rfl
    · refine zw_table_ko 84 f26_1 hs1e (by decide +kernel) (by decide +kernel) ?_
      refine zw_iconst (-1) 85 f26_84 rfl (by decide +kernel) ?_
      refine zw_ireturn f26_85 r26 u26 ?_
      exact ⟨rfl, ⟨_, rfl⟩⟩
    · refine zw_table_k 31 32 f26_1 hs1e (by decide +kernel) (by decide +kernel) (by decide +kernel) ?_
      refine zw_aload_n 33 f26_32 rfl rfl ?_
      refine zx_getG 36 f26_33 rfl g26_55_5 (hb_38 _ _ _ _) rfl (fun w2 hw2 => ?_)
      refine zw_aload_n 37 f26_36 rfl rfl ?_
      refine zx_getG 40 f26_37 rfl g26_59_5 (hb_38 _ _ _ _) rfl (fun w3 hw3 => ?_)
      refine zw_static_l 43 0 0 [.long w2, .long w3] [] [(0, .long w2), (2, .long w3)] f26_40 rfl k26_62_99 rfl (by decide +kernel) (Nat.le_of_ble_eq_true rfl) (Nat.le_of_ble_eq_true rfl) rfl rfl (by decide +kernel) (by decide +kernel) rfl (Nat.le_of_ble_eq_true rfl) rfl ?_
      refine zWp.mono (cp_X11_above ro nv np I _ _ _ hI.1 w2 w3) ?_
      rintro r h1 ⟨rfl, ⟨w4, rfl⟩⟩
      refine ⟨_, rfl, ?_⟩
      refine zx_l2i 44 f26_43 rfl (fun w5 hw5 => ?_)
      refine zw_ireturn f26_44 r26 u26 ?_
      exact ⟨rfl, ⟨_, rfl⟩⟩
    · refine zw_table_k 44 45 f26_1 hs1e (by decide +kernel) (by decide +kernel) (by decide +kernel) ?_
      refine zw_aload_n 46 f26_45 rfl rfl ?_
      refine zx_getG 49 f26_46 rfl g26_55_5 (hb_38 _ _ _ _) rfl (fun w6 hw6 => ?_)
      refine zw_aload_n 50 f26_49 rfl rfl ?_
      refine zx_getG 53 f26_50 rfl g26_59_5 (hb_38 _ _ _ _) rfl (fun w7 hw7 => ?_)
      refine zw_static_l 56 0 0 [.long w6, .long w7] [] [(0, .long w6), (2, .long w7)] f26_53 rfl k26_66_99 rfl (by decide +kernel) (Nat.le_of_ble_eq_true rfl) (Nat.le_of_ble_eq_true rfl) rfl rfl (by decide +kernel) (by decide +kernel) rfl (Nat.le_of_ble_eq_true rfl) rfl ?_
      refine zWp.mono (cp_X11_below ro nv np I _ _ _ hI.1 w6 w7) ?_
      rintro r h1 ⟨rfl, ⟨w8, rfl⟩⟩
      refine ⟨_, rfl, ?_⟩
      refine zx_l2i 57 f26_56 rfl (fun w9 hw9 => ?_)
      refine zw_ireturn f26_57 r26 u26 ?_
      exact ⟨rfl, ⟨_, rfl⟩⟩
    · refine zw_table_k 57 58 f26_1 hs1e (by decide +kernel) (by decide +kernel) (by decide +kernel) ?_
      refine zw_aload_n 59 f26_58 rfl rfl ?_
      refine zx_getG 62 f26_59 rfl g26_69_5 (hb_38 _ _ _ _) rfl (fun w10 hw10 => ?_)
      refine zw_aload_n 63 f26_62 rfl rfl ?_
      refine zx_getG 66 f26_63 rfl g26_72_5 (hb_38 _ _ _ _) rfl (fun w11 hw11 => ?_)
      refine zw_static_l 69 0 0 [.long w10, .long w11] [] [(0, .long w10), (2, .long w11)] f26_66 rfl k26_62_99 rfl (by decide +kernel) (Nat.le_of_ble_eq_true rfl) (Nat.le_of_ble_eq_true rfl) rfl rfl (by decide +kernel) (by decide +kernel) rfl (Nat.le_of_ble_eq_true rfl) rfl ?_
      refine zWp.mono (cp_X11_above ro nv np I _ _ _ hI.1 w10 w11) ?_
      rintro r h1 ⟨rfl, ⟨w12, rfl⟩⟩
      refine ⟨_, rfl, ?_⟩
      refine zx_l2i 70 f26_69 rfl (fun w13 hw13 => ?_)
      refine zw_ireturn f26_70 r26 u26 ?_
      exact ⟨rfl, ⟨_, rfl⟩⟩
    · refine zw_table_k 70 71 f26_1 hs1e (by decide +kernel) (by decide +kernel) (by decide +kernel) ?_
      refine zw_aload_n 72 f26_71 rfl rfl ?_
      refine zx_getG 75 f26_72 rfl g26_69_5 (hb_38 _ _ _ _) rfl (fun w14 hw14 => ?_)
      refine zw_aload_n 76 f26_75 rfl rfl ?_
      refine zx_getG 79 f26_76 rfl g26_72_5 (hb_38 _ _ _ _) rfl (fun w15 hw15 => ?_)
      refine zw_static_l 82 0 0 [.long w14, .long w15] [] [(0, .long w14), (2, .long w15)] f26_79 rfl k26_66_99 rfl (by decide +kernel) (Nat.le_of_ble_eq_true rfl) (Nat.le_of_ble_eq_true rfl) rfl rfl (by decide +kernel) (by decide +kernel) rfl (Nat.le_of_ble_eq_true rfl) rfl ?_
      refine zWp.mono (cp_X11_below ro nv np I _ _ _ hI.1 w14 w15) ?_
      rintro r h1 ⟨rfl, ⟨w16, rfl⟩⟩
      refine ⟨_, rfl, ?_⟩
      refine zx_l2i 83 f26_82 rfl (fun w17 hw17 => ?_)
      refine zw_ireturn f26_83 r26 u26 ?_
      exact ⟨rfl, ⟨_, rfl⟩⟩
set_option maxRecDepth 100000 in
set_option maxHeartbeats 0 in
theorem lcv_X5_seek_38_11 (ro : UInt32 → Nat × (Nat → Int32)) (nv np cm : Nat) (I : Nat → Nat → Int32) (G : Nat → Nat → Int64) (A : Nat → Nat → Int32) (B : Nat → Nat → Int64) (hI : CV nv np cm I) (hcm : cm < 1000000000) : ∀ (n k : Nat) (ls : List (Nat × Value)) (I1 : Nat → Nat → Int32) (G1 : Nat → Nat → Int64) (A1 : Nat → Nat → Int32) (B1 : Nat → Nat → Int64), KP pN I G A B I1 G1 A1 B1 → CV nv np (cm + 0 * k) I1 → True → zld ls 0 = some (.ref 38) → zld ls 1 = some (.ref 22) → zld ls 2 = some (.int (nI k)) → k ≤ 151 → 151 + 1 ≤ k + n → zWp ro 25 11 ls [] (hS I1 G1 A1 B1) 0 0 (zWv pN nv np (cm + 0) I G A B zRt1) := by
  have hnv := hI.1.1.2
  have hnp := hI.1.2.1.2
  intro n
  induction n with
  | zero =>
    intro k ls I1 G1 A1 B1 K hJ _ hl0 hl1 hl2 h1 h2
    exact absurd h2 (by omega)
  | succ n ih =>
    intro k ls I1 G1 A1 B1 K hJ _ hl0 hl1 hl2 hk1 hk2
    refine zw_iload_n 12 f25_11 rfl hl2 ?_
    refine zw_sipush 151 15 f25_12 rfl (by decide +kernel) ?_
    refine zw_ic_ge 18 82 f25_15 (by decide +kernel) rfl (fun hc1 => ?_) (fun hc1 => ?_)
    · have hn_hc1 : 151 ≤ k := zn_ge (by omega) (by omega) hc1
      refine zw_aload_n 83 f25_82 rfl hl1 ?_
      refine zw_virtual_v 86 0 0 [.ref 22] [(0, .ref 22)] f25_83 rfl n25_38 k25_38_10 rfl (hb_22 _ _ _ _) (by decide +kernel) (Nat.le_of_ble_eq_true rfl) rfl rfl (by decide +kernel) (by decide +kernel) rfl (Nat.le_of_ble_eq_true rfl) rfl ?_
      refine zWp.mono (ck_X10_seekNext_22 ro nv np I1 _ _ _ hJ.1 ) ?_
      rintro r h1 ⟨I_3, G_3, A_3, B_3, rfl, K_3, hI_3, rfl⟩
      refine ⟨rfl, ?_⟩
      have hV_3 : CV nv np (cm + 0 * k) I_3 := CV.of (I := I1) hJ K_3 hI_3
      have K_3 := KP.tr K (KP.wk K_3 pWN)
      refine zw_aload_n 87 f25_86 rfl hl1 ?_
      refine zw_virtual_i 90 0 0 [.ref 22] [(0, .ref 22)] f25_87 rfl n25_41 k25_41_10 rfl (hb_22 _ _ _ _) (by decide +kernel) (Nat.le_of_ble_eq_true rfl) rfl rfl (by decide +kernel) (by decide +kernel) rfl (Nat.le_of_ble_eq_true rfl) rfl ?_
      refine zWp.mono (cp_X10_rests_22 ro nv np I_3 _ _ _ hV_3.1 ) ?_
      rintro r h1 ⟨rfl, ⟨w4, rfl, hw4⟩⟩
      refine ⟨_, rfl, ?_⟩
      refine zw_if_eq 93 97 f25_90 (by decide +kernel) rfl (fun hc5 => ?_) (fun hc5 => ?_)
      · refine zw_bipush (-2) 99 f25_97 rfl (by decide +kernel) ?_
        refine zw_ireturn f25_99 r25 u25 ?_
        exact ⟨_, _, _, _, rfl, K_3, CV.mono hV_3 (by omega), ⟨_, rfl⟩⟩
      · refine zw_iconst 0 94 f25_93 rfl (by decide +kernel) ?_
        refine zw_goto 99 f25_94 (by decide +kernel) ?_
        refine zw_ireturn f25_99 r25 u25 ?_
        exact ⟨_, _, _, _, rfl, K_3, CV.mono hV_3 (by omega), ⟨_, rfl⟩⟩
    · have hn_hc1 : k < 151 := zn_lt (by omega) (by omega) hc1
      refine zw_aload_n 19 f25_18 rfl hl1 ?_
      refine zw_virtual_v 22 0 0 [.ref 22] [(0, .ref 22)] f25_19 rfl n25_38 k25_38_10 rfl (hb_22 _ _ _ _) (by decide +kernel) (Nat.le_of_ble_eq_true rfl) rfl rfl (by decide +kernel) (by decide +kernel) rfl (Nat.le_of_ble_eq_true rfl) rfl ?_
      refine zWp.mono (ck_X10_seekNext_22 ro nv np I1 _ _ _ hJ.1 ) ?_
      rintro r h1 ⟨I_7, G_7, A_7, B_7, rfl, K_7, hI_7, rfl⟩
      refine ⟨rfl, ?_⟩
      have hV_7 : CV nv np (cm + 0 * k) I_7 := CV.of (I := I1) hJ K_7 hI_7
      have K_7 := KP.tr K (KP.wk K_7 pWN)
      refine zw_aload_n 23 f25_22 rfl hl1 ?_
      refine zw_virtual_i 26 0 0 [.ref 22] [(0, .ref 22)] f25_23 rfl n25_41 k25_41_10 rfl (hb_22 _ _ _ _) (by decide +kernel) (Nat.le_of_ble_eq_true rfl) rfl rfl (by decide +kernel) (by decide +kernel) rfl (Nat.le_of_ble_eq_true rfl) rfl ?_
      refine zWp.mono (cp_X10_rests_22 ro nv np I_7 _ _ _ hV_7.1 ) ?_
      rintro r h1 ⟨rfl, ⟨w8, rfl, hw8⟩⟩
      refine ⟨_, rfl, ?_⟩
      refine zw_if_eq 29 31 f25_26 (by decide +kernel) rfl (fun hc9 => ?_) (fun hc9 => ?_)
      · refine zw_aload_n 32 f25_31 rfl hl1 ?_
        refine zw_virtual_i 35 0 0 [.ref 22] [(0, .ref 22)] f25_32 rfl n25_45 k25_45_10 rfl (hb_22 _ _ _ _) (by decide +kernel) (Nat.le_of_ble_eq_true rfl) rfl rfl (by decide +kernel) (by decide +kernel) rfl (Nat.le_of_ble_eq_true rfl) rfl ?_
        refine zWp.mono (ck_X10_step_22 ro nv np I_7 _ _ _ hV_7.1 ) ?_
        rintro r h1 ⟨I_11, G_11, A_11, B_11, rfl, K_11, hI_11, ⟨w10, rfl, hw10⟩⟩
        refine ⟨_, rfl, ?_⟩
        have hV_11 : CV nv np (cm + 0 * k) I_11 := CV.of (I := I_7) hV_7 K_11 hI_11
        have K_11 := KP.tr K_7 (KP.wk K_11 pWN)
        refine zw_if_ne 38 41 f25_35 (by decide +kernel) rfl (fun hc12 => ?_) (fun hc12 => ?_)
        · refine zw_aload_n 42 f25_41 rfl hl0 ?_
          refine zw_aload_n 43 f25_42 rfl hl1 ?_
          refine zw_getfield 46 f25_43 rfl g25_28_10 (hb_22 _ _ _ _) rfl ?_
          refine zw_iload_n 47 f25_46 rfl hl2 ?_
          refine zw_virtual_i 50 0 0 [.ref 38, .ref 23, .int (nI k)] [(0, .ref 38), (1, .ref 23), (2, .int (nI k))] f25_47 rfl n25_48 k25_48_5 rfl (hb_38 _ _ _ _) (by decide +kernel) (Nat.le_of_ble_eq_true rfl) rfl rfl (by decide +kernel) (by decide +kernel) rfl (Nat.le_of_ble_eq_true rfl) rfl ?_
          refine zWp.mono (cq_X5_firstLike_38 ro nv np (cm + 0 * k) I_11 _ _ _ hV_11 (by omega) (nI k)) ?_
          rintro r h1 ⟨rfl, ⟨w13, rfl, hw13⟩⟩
          refine ⟨_, rfl, ?_⟩
          refine zw_istore_n _ 51 f25_50 rfl (by decide +kernel) rfl ?_
          refine zw_iload_n 52 f25_51 rfl zl1_eq ?_
          refine zw_iconst (-1) 53 f25_52 rfl (by decide +kernel) ?_
          refine zw_ic_eq 56 67 f25_53 (by decide +kernel) rfl (fun hc14 => ?_) (fun hc14 => ?_)
          · refine zw_aload_n 68 f25_67 rfl (zl1_ne rfl rfl hl0) ?_
            refine zw_iload_n 69 f25_68 rfl (zl1_ne rfl rfl hl2) ?_
            refine zw_aload_n 70 f25_69 rfl (zl1_ne rfl rfl hl1) ?_
            refine zw_getfield 73 f25_70 rfl g25_28_10 (hb_22 _ _ _ _) rfl ?_
            refine zw_virtual_v 76 0 0 [.ref 38, .int (nI k), .ref 23] [(0, .ref 38), (1, .int (nI k)), (2, .ref 23)] f25_73 rfl n25_34 k25_34_5 rfl (hb_38 _ _ _ _) (by decide +kernel) (Nat.le_of_ble_eq_true rfl) rfl rfl (by decide +kernel) (by decide +kernel) rfl (Nat.le_of_ble_eq_true rfl) rfl ?_
            refine zWp.mono (cv_X5_keep_38 ro nv np (cm + 0 * k) I_11 _ _ _ hV_11 (by omega) k (by omega)) ?_
            rintro r h1 ⟨I_16, G_16, A_16, B_16, rfl, K_16, hV_16, rfl⟩
            refine ⟨rfl, ?_⟩
            have K_16 := KP.tr K_11 K_16
            refine zw_iinc (nI (k + 1)) _ 79 f25_76 rfl (zl1_ne rfl rfl hl2) (by decide +kernel) (nI_1 _) rfl ?_
            refine zw_goto 11 f25_79 (by decide +kernel) ?_
            exact ih ((k + 1)) _ _ _ _ _ K_16 (CV.mono hV_16 (by omega))  trivial (zl1_ne rfl rfl (zl1_ne rfl rfl hl0)) (zl1_ne rfl rfl (zl1_ne rfl rfl hl1)) zl1_eq (by omega) (by omega)
          · refine zw_aload_n 57 f25_56 rfl (zl1_ne rfl rfl hl0) ?_
            refine zw_iload_n 58 f25_57 rfl zl1_eq ?_
            refine zw_aload_n 59 f25_58 rfl (zl1_ne rfl rfl hl1) ?_
            refine zw_getfield 62 f25_59 rfl g25_28_10 (hb_22 _ _ _ _) rfl ?_
            refine zw_virtual_v 65 0 0 [.ref 38, .int w13, .ref 23] [(0, .ref 38), (1, .int w13), (2, .ref 23)] f25_62 rfl n25_52 k25_52_5 rfl (hb_38 _ _ _ _) (by decide +kernel) (Nat.le_of_ble_eq_true rfl) rfl rfl (by decide +kernel) (by decide +kernel) rfl (Nat.le_of_ble_eq_true rfl) rfl ?_
            obtain ⟨w13e, w13l, rfl⟩ := Or.resolve_left hw13 hc14
            refine zWp.mono (cv_X5_tell_38 ro nv np (cm + 0 * k) I_11 _ _ _ hV_11 (by omega) w13e (by omega)) ?_
            rintro r h1 ⟨I_18, G_18, A_18, B_18, rfl, K_18, hV_18, rfl⟩
            refine ⟨rfl, ?_⟩
            have K_18 := KP.tr K_11 K_18
            refine zw_iconst 1 66 f25_65 rfl (by decide +kernel) ?_
            refine zw_ireturn f25_66 r25 u25 ?_
            exact ⟨_, _, _, _, rfl, K_18, CV.mono hV_18 (by omega), ⟨_, rfl⟩⟩
        · refine zw_bipush (-2) 40 f25_38 rfl (by decide +kernel) ?_
          refine zw_ireturn f25_40 r25 u25 ?_
          exact ⟨_, _, _, _, rfl, K_11, CV.mono hV_11 (by omega), ⟨_, rfl⟩⟩
      · refine zw_iconst 0 30 f25_29 rfl (by decide +kernel) ?_
        refine zw_ireturn f25_30 r25 u25 ?_
        exact ⟨_, _, _, _, rfl, K_7, CV.mono hV_7 (by omega), ⟨_, rfl⟩⟩
set_option maxRecDepth 100000 in
set_option maxHeartbeats 0 in
theorem cv_X5_seek_38 (ro : UInt32 → Nat × (Nat → Int32)) (nv np cm : Nat) (I : Nat → Nat → Int32) (G : Nat → Nat → Int64) (A : Nat → Nat → Int32) (B : Nat → Nat → Int64) (hI : CV nv np cm I) (hcm : cm < 1000000000) : zWp ro 25 0 [(0, .ref 38), (1, .ref 22)] [] (hS I G A B) 0 0 (zWv pN nv np (cm + 0) I G A B zRt1) := by
  have hnv := hI.1.1.2
  have hnp := hI.1.2.1.2
  refine zw_aload_n 1 f25_0 rfl rfl ?_
  refine zw_iconst 0 2 f25_1 rfl (by decide +kernel) ?_
  refine zw_aload_n 3 f25_2 rfl rfl ?_
  refine zw_getfield 6 f25_3 rfl g25_28_10 (hb_22 _ _ _ _) rfl ?_
  refine zw_virtual_v 9 0 0 [.ref 38, .int 0, .ref 23] [(0, .ref 38), (1, .int 0), (2, .ref 23)] f25_6 rfl n25_34 k25_34_5 rfl (hb_38 _ _ _ _) (by decide +kernel) (Nat.le_of_ble_eq_true rfl) rfl rfl (by decide +kernel) (by decide +kernel) rfl (Nat.le_of_ble_eq_true rfl) rfl ?_
  refine zWp.mono (cv_X5_keep_38 ro nv np cm I _ _ _ hI (by omega) 0 (by decide +kernel)) ?_
  rintro r h1 ⟨I_2, G_2, A_2, B_2, rfl, K_2, hV_2, rfl⟩
  refine ⟨rfl, ?_⟩
  have K_2 := KP.tr KP.rf K_2
  refine zw_iconst 1 10 f25_9 rfl (by decide +kernel) ?_
  refine zw_istore_n _ 11 f25_10 rfl (by decide +kernel) rfl ?_
  exact lcv_X5_seek_38_11 ro nv np cm I G A B hI hcm (151 + 1) 1 _ _ _ _ _ K_2 (CV.mono hV_2 (by omega))  trivial (zl1_ne rfl rfl rfl) (zl1_ne rfl rfl rfl) (show zld _ _ = some (.int (nI 1)) from zl1_eq) (by omega) (by omega)
set_option maxRecDepth 100000 in
set_option maxHeartbeats 0 in
theorem cv_X9_takeOver_23 (ro : UInt32 → Nat × (Nat → Int32)) (nv np cm : Nat) (I : Nat → Nat → Int32) (G : Nat → Nat → Int64) (A : Nat → Nat → Int32) (B : Nat → Nat → Int64) (hI : CV nv np cm I) (hcm : cm < 1000000000) : zWp ro 42 0 [(0, .ref 23), (1, .ref 12)] [] (hS I G A B) 0 0 (zWv pN nv np (cm + 0) I G A B zRt0) := by
  have hnv := hI.1.1.2
  have hnp := hI.1.2.1.2
  refine zw_aload_n 1 f42_0 rfl rfl ?_
  refine zw_aload_n 2 f42_1 rfl rfl ?_
  refine zx_getG 5 f42_2 rfl g42_9_9 (hb_12 _ _ _ _) rfl (fun w1 hw1 => ?_)
  refine zw_put _ 8 f42_5 rfl g42_9_9 (hb_23 _ _ _ _) rfl (Nat.le_of_ble_eq_true rfl) (by decide +kernel) (hg_23_0 _ _ _ _ _) ?_
  refine zw_aload_n 9 f42_8 rfl rfl ?_
  refine zw_aload_n 10 f42_9 rfl rfl ?_
  refine zx_getG 13 f42_10 rfl g42_26_9 (hb_12 _ _ _ _) rfl (fun w2 hw2 => ?_)
  refine zw_put _ 16 f42_13 rfl g42_26_9 (hb_23 _ _ _ _) rfl (Nat.le_of_ble_eq_true rfl) (by decide +kernel) (hg_23_1 _ _ _ _ _) ?_
  refine zw_aload_n 17 f42_16 rfl rfl ?_
  refine zw_aload_n 18 f42_17 rfl rfl ?_
  refine zx_getG 21 f42_18 rfl g42_29_9 (hb_12 _ _ _ _) rfl (fun w3 hw3 => ?_)
  refine zw_put _ 24 f42_21 rfl g42_29_9 (hb_23 _ _ _ _) rfl (Nat.le_of_ble_eq_true rfl) (by decide +kernel) (hg_23_2 _ _ _ _ _) ?_
  refine zw_aload_n 25 f42_24 rfl rfl ?_
  refine zw_aload_n 26 f42_25 rfl rfl ?_
  refine zx_getG 29 f42_26 rfl g42_32_9 (hb_12 _ _ _ _) rfl (fun w4 hw4 => ?_)
  refine zw_put _ 32 f42_29 rfl g42_32_9 (hb_23 _ _ _ _) rfl (Nat.le_of_ble_eq_true rfl) (by decide +kernel) (hg_23_3 _ _ _ _ _) ?_
  refine zw_aload_n 33 f42_32 rfl rfl ?_
  refine zw_aload_n 34 f42_33 rfl rfl ?_
  refine zx_getG 37 f42_34 rfl g42_35_9 (hb_12 _ _ _ _) rfl (fun w5 hw5 => ?_)
  refine zw_put _ 40 f42_37 rfl g42_35_9 (hb_23 _ _ _ _) rfl (Nat.le_of_ble_eq_true rfl) (by decide +kernel) (hg_23_4 _ _ _ _ _) ?_
  refine zw_aload_n 41 f42_40 rfl rfl ?_
  refine zw_aload_n 42 f42_41 rfl rfl ?_
  refine zx_getI 45 f42_42 rfl g42_38_9 (hb_12 _ _ _ _) rfl (fun w6 hw6 => ?_)
  refine zw_put _ 48 f42_45 rfl g42_38_9 (hb_23 _ _ _ _) rfl (Nat.le_of_ble_eq_true rfl) (by decide +kernel) (hi_23_5 _ _ _ _ _) ?_
  refine zw_aload_n 49 f42_48 rfl rfl ?_
  refine zw_aload_n 50 f42_49 rfl rfl ?_
  refine zx_getI 53 f42_50 rfl g42_42_9 (hb_12 _ _ _ _) rfl (fun w7 hw7 => ?_)
  refine zw_put _ 56 f42_53 rfl g42_42_9 (hb_23 _ _ _ _) rfl (Nat.le_of_ble_eq_true rfl) (by decide +kernel) (hi_23_6 _ _ _ _ _) ?_
  refine zw_aload_n 57 f42_56 rfl rfl ?_
  refine zw_getfield 60 f42_57 rfl g42_15_9 (hb_12 _ _ _ _) rfl ?_
  refine zw_iconst 0 61 f42_60 rfl (by decide +kernel) ?_
  refine zw_aload_n 62 f42_61 rfl rfl ?_
  refine zw_getfield 65 f42_62 rfl g42_15_9 (hb_23 _ _ _ _) rfl ?_
  refine zw_iconst 0 66 f42_65 rfl (by decide +kernel) ?_
  refine zw_bipush 8 68 f42_66 rfl (by decide +kernel) ?_
  refine zw_cpl _ 71 8 0 0 f42_68 rfl k42_45_99 (hb_13 _ _ _ _) (hb_24 _ _ _ _) (by decide +kernel) (by decide +kernel) (by decide +kernel) (by decide +kernel) (by decide +kernel) (by decide +kernel) (by decide +kernel) (by decide +kernel) (Nat.le_of_ble_eq_true rfl) (ha_24 _ _ _ _ _) ?_
  refine zw_aload_n 72 f42_71 rfl rfl ?_
  refine zw_getfield 75 f42_72 rfl g42_19_9 (hb_12 _ _ _ _) rfl ?_
  refine zw_iconst 0 76 f42_75 rfl (by decide +kernel) ?_
  refine zw_aload_n 77 f42_76 rfl rfl ?_
  refine zw_getfield 80 f42_77 rfl g42_19_9 (hb_23 _ _ _ _) rfl ?_
  refine zw_iconst 0 81 f42_80 rfl (by decide +kernel) ?_
  refine zw_bipush 8 83 f42_81 rfl (by decide +kernel) ?_
  refine zw_cpi _ 86 8 0 0 f42_83 rfl k42_45_99 (hb_14 _ _ _ _) (hb_25 _ _ _ _) (by decide +kernel) (by decide +kernel) (by decide +kernel) (by decide +kernel) (by decide +kernel) (by decide +kernel) (by decide +kernel) (by decide +kernel) (Nat.le_of_ble_eq_true rfl) (ha_25 _ _ _ _ _) ?_
  refine zw_aload_n 87 f42_86 rfl rfl ?_
  refine zw_getfield 90 f42_87 rfl g42_23_9 (hb_12 _ _ _ _) rfl ?_
  refine zw_iconst 0 91 f42_90 rfl (by decide +kernel) ?_
  refine zw_aload_n 92 f42_91 rfl rfl ?_
  refine zw_getfield 95 f42_92 rfl g42_23_9 (hb_23 _ _ _ _) rfl ?_
  refine zw_iconst 0 96 f42_95 rfl (by decide +kernel) ?_
  refine zw_bipush 14 98 f42_96 rfl (by decide +kernel) ?_
  refine zw_cpi _ 101 14 0 0 f42_98 rfl k42_45_99 (hb_15 _ _ _ _) (hb_26 _ _ _ _) (by decide +kernel) (by decide +kernel) (by decide +kernel) (by decide +kernel) (by decide +kernel) (by decide +kernel) (by decide +kernel) (by decide +kernel) (Nat.le_of_ble_eq_true rfl) (ha_26 _ _ _ _ _) ?_
  refine zw_vreturn f42_101 r42 u42 ?_
  exact ⟨_, _, _, _, rfl, (KP.a rfl (KP.a rfl (KP.b rfl (KP.i rfl (KP.i rfl (KP.g rfl (KP.g rfl (KP.g rfl (KP.g rfl (KP.g rfl KP.rf)))))))))), CV.mono hI (by omega), rfl⟩
set_option maxRecDepth 100000 in
set_option maxHeartbeats 0 in
theorem cv_X11_fill (ro : UInt32 → Nat × (Nat → Int32)) (nv np cm : Nat) (I : Nat → Nat → Int32) (G : Nat → Nat → Int64) (A : Nat → Nat → Int32) (B : Nat → Nat → Int64) (hI : CV nv np cm I) (hcm : cm < 1000000000) (a : Int32) (b : Int32) : zWp ro 84 0 [(0, .ref 0), (1, .int a), (2, .int b)] [] (hS I G A B) 0 0 (zWv pN nv np (cm + 8) I G A B zRt1) := by
  have hnv := hI.1.1.2
  have hnp := hI.1.2.1.2
  refine zw_aload_n 1 f84_0 rfl rfl ?_
  refine zw_getfield 4 f84_1 rfl g84_10_11 (hb_0 _ _ _ _) rfl ?_
  refine zw_iload_n 5 f84_4 rfl rfl ?_
  refine zw_virtual_i 8 0 0 [.ref 1, .int a] [(0, .ref 1), (1, .int a)] f84_5 rfl n84_89 k84_89_4 rfl (hb_1 _ _ _ _) (by decide +kernel) (Nat.le_of_ble_eq_true rfl) rfl rfl (by decide +kernel) (by decide +kernel) rfl (Nat.le_of_ble_eq_true rfl) rfl ?_
  refine zw_iload_n 1 f13_0 rfl rfl ?_
  refine zw_if_lt 4 22 f13_1 (by decide +kernel) rfl (fun hc1 => ?_) (fun hc1 => ?_)
  · refine zw_iconst 0 23 f13_22 rfl (by decide +kernel) ?_
    refine zw_zreturn f13_23 r13 u13 (by decide +kernel) ⟨_, rfl, ?_⟩
    refine zw_if_eq_t 22 f84_8 (by decide +kernel) (by decide +kernel) ?_
    refine zw_aload_n 23 f84_22 rfl rfl ?_
    refine zw_iconst 1 24 f84_23 rfl (by decide +kernel) ?_
    refine zw_virtual_i 27 0 0 [.ref 0, .int 1] [(0, .ref 0), (1, .int 1)] f84_24 rfl n84_78 k84_78_11 rfl (hb_0 _ _ _ _) (by decide +kernel) (Nat.le_of_ble_eq_true rfl) rfl rfl (by decide +kernel) (by decide +kernel) rfl (Nat.le_of_ble_eq_true rfl) rfl ?_
    refine zw_aload_n 1 f105_0 rfl rfl ?_
    refine zw_iload_n 2 f105_1 rfl rfl ?_
    refine zw_put _ 5 f105_2 rfl g105_70_11 (hb_0 _ _ _ _) rfl (Nat.le_of_ble_eq_true rfl) (by decide +kernel) (hi_0_7 _ _ _ _ _) ?_
    refine zw_iconst (-1) 6 f105_5 rfl (by decide +kernel) ?_
    refine zw_ireturn f105_6 r105 u105 ⟨_, rfl, ?_⟩
    refine zw_ireturn f84_27 r84 u84 ?_
    exact ⟨_, _, _, _, rfl, (KP.i rfl KP.rf), CV.mono hI (by omega), ⟨_, rfl⟩⟩
  · refine zw_iload_n 5 f13_4 rfl rfl ?_
    refine zw_aload_n 6 f13_5 rfl rfl ?_
    refine zw_getI (nI nv) 9 f13_6 rfl g13_39_4 (hb_1 _ _ _ _) rfl hI.1.1.1 ?_
    refine zw_ic_ge 12 22 f13_9 (by decide +kernel) rfl (fun hc2 => ?_) (fun hc2 => ?_)
    · refine zw_iconst 0 23 f13_22 rfl (by decide +kernel) ?_
      refine zw_zreturn f13_23 r13 u13 (by decide +kernel) ⟨_, rfl, ?_⟩
      refine zw_if_eq_t 22 f84_8 (by decide +kernel) (by decide +kernel) ?_
      refine zw_aload_n 23 f84_22 rfl rfl ?_
      refine zw_iconst 1 24 f84_23 rfl (by decide +kernel) ?_
      refine zw_virtual_i 27 0 0 [.ref 0, .int 1] [(0, .ref 0), (1, .int 1)] f84_24 rfl n84_78 k84_78_11 rfl (hb_0 _ _ _ _) (by decide +kernel) (Nat.le_of_ble_eq_true rfl) rfl rfl (by decide +kernel) (by decide +kernel) rfl (Nat.le_of_ble_eq_true rfl) rfl ?_
      refine zw_aload_n 1 f105_0 rfl rfl ?_
      refine zw_iload_n 2 f105_1 rfl rfl ?_
      refine zw_put _ 5 f105_2 rfl g105_70_11 (hb_0 _ _ _ _) rfl (Nat.le_of_ble_eq_true rfl) (by decide +kernel) (hi_0_7 _ _ _ _ _) ?_
      refine zw_iconst (-1) 6 f105_5 rfl (by decide +kernel) ?_
      refine zw_ireturn f105_6 r105 u105 ⟨_, rfl, ?_⟩
      refine zw_ireturn f84_27 r84 u84 ?_
      exact ⟨_, _, _, _, rfl, (KP.i rfl KP.rf), CV.mono hI (by omega), ⟨_, rfl⟩⟩
    · refine zw_iload_n 13 f13_12 rfl rfl ?_
      refine zw_bipush 8 15 f13_13 rfl (by decide +kernel) ?_
      refine zw_ic_ge 18 22 f13_15 (by decide +kernel) rfl (fun hc3 => ?_) (fun hc3 => ?_)
      · refine zw_iconst 0 23 f13_22 rfl (by decide +kernel) ?_
        refine zw_zreturn f13_23 r13 u13 (by decide +kernel) ⟨_, rfl, ?_⟩
        refine zw_if_eq_t 22 f84_8 (by decide +kernel) (by decide +kernel) ?_
        refine zw_aload_n 23 f84_22 rfl rfl ?_
        refine zw_iconst 1 24 f84_23 rfl (by decide +kernel) ?_
        refine zw_virtual_i 27 0 0 [.ref 0, .int 1] [(0, .ref 0), (1, .int 1)] f84_24 rfl n84_78 k84_78_11 rfl (hb_0 _ _ _ _) (by decide +kernel) (Nat.le_of_ble_eq_true rfl) rfl rfl (by decide +kernel) (by decide +kernel) rfl (Nat.le_of_ble_eq_true rfl) rfl ?_
        refine zw_aload_n 1 f105_0 rfl rfl ?_
        refine zw_iload_n 2 f105_1 rfl rfl ?_
        refine zw_put _ 5 f105_2 rfl g105_70_11 (hb_0 _ _ _ _) rfl (Nat.le_of_ble_eq_true rfl) (by decide +kernel) (hi_0_7 _ _ _ _ _) ?_
        refine zw_iconst (-1) 6 f105_5 rfl (by decide +kernel) ?_
        refine zw_ireturn f105_6 r105 u105 ⟨_, rfl, ?_⟩
        refine zw_ireturn f84_27 r84 u84 ?_
        exact ⟨_, _, _, _, rfl, (KP.i rfl KP.rf), CV.mono hI (by omega), ⟨_, rfl⟩⟩
      · refine zw_iconst 1 19 f13_18 rfl (by decide +kernel) ?_
        refine zw_goto 23 f13_19 (by decide +kernel) ?_
        refine zw_zreturn f13_23 r13 u13 (by decide +kernel) ⟨_, rfl, ?_⟩
        refine zw_if_eq_f 11 22 f84_8 (by decide +kernel) rfl (by decide +kernel) ?_
        refine zw_iload_n 12 f84_11 rfl rfl ?_
        refine zw_iconst 1 13 f84_12 rfl (by decide +kernel) ?_
        refine zw_sipush 1000 16 f84_13 rfl (by decide +kernel) ?_
        refine zw_static_i 19 0 0 [.int b, .int 1, .int 1000] [] [(0, .int b), (1, .int 1), (2, .int 1000)] f84_16 rfl k84_74_99 rfl (by decide +kernel) (Nat.le_of_ble_eq_true rfl) (Nat.le_of_ble_eq_true rfl) rfl rfl (by decide +kernel) (by decide +kernel) rfl (Nat.le_of_ble_eq_true rfl) rfl ?_
        refine zw_iload_n 1 f112_0 rfl rfl ?_
        refine zw_iload_n 2 f112_1 rfl rfl ?_
        refine zw_ic_lt 5 14 f112_2 (by decide +kernel) rfl (fun hc4 => ?_) (fun hc4 => ?_)
        · refine zw_iconst 0 15 f112_14 rfl (by decide +kernel) ?_
          refine zw_zreturn f112_15 r112 u112 (by decide +kernel) ⟨_, rfl, ?_⟩
          refine zw_if_ne_f 22 28 f84_19 (by decide +kernel) rfl (by decide +kernel) ?_
          refine zw_aload_n 23 f84_22 rfl rfl ?_
          refine zw_iconst 1 24 f84_23 rfl (by decide +kernel) ?_
          refine zw_virtual_i 27 0 0 [.ref 0, .int 1] [(0, .ref 0), (1, .int 1)] f84_24 rfl n84_78 k84_78_11 rfl (hb_0 _ _ _ _) (by decide +kernel) (Nat.le_of_ble_eq_true rfl) rfl rfl (by decide +kernel) (by decide +kernel) rfl (Nat.le_of_ble_eq_true rfl) rfl ?_
          refine zw_aload_n 1 f105_0 rfl rfl ?_
          refine zw_iload_n 2 f105_1 rfl rfl ?_
          refine zw_put _ 5 f105_2 rfl g105_70_11 (hb_0 _ _ _ _) rfl (Nat.le_of_ble_eq_true rfl) (by decide +kernel) (hi_0_7 _ _ _ _ _) ?_
          refine zw_iconst (-1) 6 f105_5 rfl (by decide +kernel) ?_
          refine zw_ireturn f105_6 r105 u105 ⟨_, rfl, ?_⟩
          refine zw_ireturn f84_27 r84 u84 ?_
          exact ⟨_, _, _, _, rfl, (KP.i rfl KP.rf), CV.mono hI (by omega), ⟨_, rfl⟩⟩
        · refine zw_iload_n 6 f112_5 rfl rfl ?_
          refine zw_iload_n 7 f112_6 rfl rfl ?_
          refine zw_ic_gt 10 14 f112_7 (by decide +kernel) rfl (fun hc5 => ?_) (fun hc5 => ?_)
          · refine zw_iconst 0 15 f112_14 rfl (by decide +kernel) ?_
            refine zw_zreturn f112_15 r112 u112 (by decide +kernel) ⟨_, rfl, ?_⟩
            refine zw_if_ne_f 22 28 f84_19 (by decide +kernel) rfl (by decide +kernel) ?_
            refine zw_aload_n 23 f84_22 rfl rfl ?_
            refine zw_iconst 1 24 f84_23 rfl (by decide +kernel) ?_
            refine zw_virtual_i 27 0 0 [.ref 0, .int 1] [(0, .ref 0), (1, .int 1)] f84_24 rfl n84_78 k84_78_11 rfl (hb_0 _ _ _ _) (by decide +kernel) (Nat.le_of_ble_eq_true rfl) rfl rfl (by decide +kernel) (by decide +kernel) rfl (Nat.le_of_ble_eq_true rfl) rfl ?_
            refine zw_aload_n 1 f105_0 rfl rfl ?_
            refine zw_iload_n 2 f105_1 rfl rfl ?_
            refine zw_put _ 5 f105_2 rfl g105_70_11 (hb_0 _ _ _ _) rfl (Nat.le_of_ble_eq_true rfl) (by decide +kernel) (hi_0_7 _ _ _ _ _) ?_
            refine zw_iconst (-1) 6 f105_5 rfl (by decide +kernel) ?_
            refine zw_ireturn f105_6 r105 u105 ⟨_, rfl, ?_⟩
            refine zw_ireturn f84_27 r84 u84 ?_
            exact ⟨_, _, _, _, rfl, (KP.i rfl KP.rf), CV.mono hI (by omega), ⟨_, rfl⟩⟩
          · refine zw_iconst 1 11 f112_10 rfl (by decide +kernel) ?_
            refine zw_goto 15 f112_11 (by decide +kernel) ?_
            refine zw_zreturn f112_15 r112 u112 (by decide +kernel) ⟨_, rfl, ?_⟩
            refine zw_if_ne_t 28 f84_19 (by decide +kernel) (by decide +kernel) ?_
            refine zw_aload_n 29 f84_28 rfl rfl ?_
            refine zw_getfield 32 f84_29 rfl g84_21_11 (hb_0 _ _ _ _) rfl ?_
            refine zw_getfield 35 f84_32 rfl g84_134_10 (hb_11 _ _ _ _) rfl ?_
            refine zw_dup 36 f84_35 rfl rfl ?_
            refine zx_getG 39 f84_36 rfl g84_147_9 (hb_12 _ _ _ _) rfl (fun w6 hw6 => ?_)
            refine zw_iload_n 40 f84_39 rfl rfl ?_
            refine zx_i2l 41 f84_40 rfl (fun w7 hw7 => ?_)
            refine zx_ladd 42 f84_41 rfl (fun w8 hw8 => ?_)
            refine zw_put _ 45 f84_42 rfl g84_147_9 (hb_12 _ _ _ _) rfl (Nat.le_of_ble_eq_true rfl) (by decide +kernel) (hg_12_4 _ _ _ _ _) ?_
            refine zw_aload_n 46 f84_45 rfl rfl ?_
            refine zw_getfield 49 f84_46 rfl g84_21_11 (hb_0 _ _ _ _) rfl ?_
            refine zw_iload_n 50 f84_49 rfl rfl ?_
            refine zw_iload_n 51 f84_50 rfl rfl ?_
            refine zx_i2l 52 f84_51 rfl (fun w9 hw9 => ?_)
            refine zw_aload_n 53 f84_52 rfl rfl ?_
            refine zw_getfield 56 f84_53 rfl g84_21_11 (hb_0 _ _ _ _) rfl ?_
            refine zw_getfield 59 f84_56 rfl g84_134_10 (hb_11 _ _ _ _) rfl ?_
            refine zx_getG 62 f84_59 rfl g84_151_9 (hb_12 _ _ _ _) rfl (fun w10 hw10 => ?_)
            refine zx_lmul 63 f84_62 rfl (fun w11 hw11 => ?_)
            refine zw_virtual_v 66 0 0 [.ref 11, .int a, .long w11] [(0, .ref 11), (1, .int a), (2, .long w11)] f84_63 rfl n84_154 k84_154_10 rfl (hb_11 _ _ _ _) (by decide +kernel) (Nat.le_of_ble_eq_true rfl) rfl rfl (by decide +kernel) (by decide +kernel) rfl (Nat.le_of_ble_eq_true rfl) rfl ?_
            refine zWp.mono (ck_X10_pourTo_11 ro nv np I _ _ _ hI.1 a w11) ?_
            rintro r h1 ⟨I_13, G_13, A_13, B_13, rfl, K_13, hI_13, rfl⟩
            refine ⟨rfl, ?_⟩
            have hV_13 : CV nv np cm I_13 := CV.of (I := I) hI K_13 hI_13
            have K_13 := KP.tr (KP.g rfl KP.rf) (KP.wk K_13 pWN)
            refine zw_aload_n 67 f84_66 rfl rfl ?_
            refine zw_iconst 1 68 f84_67 rfl (by decide +kernel) ?_
            refine zw_virtual_i 71 0 0 [.ref 0, .int 1] [(0, .ref 0), (1, .int 1)] f84_68 rfl n84_86 k84_86_11 rfl (hb_0 _ _ _ _) (by decide +kernel) (Nat.le_of_ble_eq_true rfl) rfl rfl (by decide +kernel) (by decide +kernel) rfl (Nat.le_of_ble_eq_true rfl) rfl ?_
            refine zw_aload_n 1 f107_0 rfl rfl ?_
            refine zw_getfield 4 f107_1 rfl g107_21_11 (hb_0 _ _ _ _) rfl ?_
            refine zw_virtual_v 7 0 0 [.ref 11] [(0, .ref 11)] f107_4 rfl n107_318 k107_318_10 rfl (hb_11 _ _ _ _) (by decide +kernel) (Nat.le_of_ble_eq_true rfl) rfl rfl (by decide +kernel) (by decide +kernel) rfl (Nat.le_of_ble_eq_true rfl) rfl ?_
            refine zWp.mono (ck_X10_settle_11 ro nv np I_13 _ _ _ hV_13.1 ) ?_
            rintro r h1 ⟨I_15, G_15, A_15, B_15, rfl, K_15, hI_15, rfl⟩
            refine ⟨rfl, ?_⟩
            have hV_15 : CV nv np cm I_15 := CV.of (I := I_13) hV_13 K_15 hI_15
            have K_15 := KP.tr K_13 (KP.wk K_15 pWN)
            refine zw_aload_n 8 f107_7 rfl rfl ?_
            refine zw_getfield 11 f107_8 rfl g107_31_11 (hb_0 _ _ _ _) rfl ?_
            refine zw_aload_n 12 f107_11 rfl rfl ?_
            refine zw_getfield 15 f107_12 rfl g107_21_11 (hb_0 _ _ _ _) rfl ?_
            refine zw_virtual_v 18 0 0 [.ref 33, .ref 11] [(0, .ref 33), (1, .ref 11)] f107_15 rfl n107_187 k107_187_3 rfl (hb_33 _ _ _ _) (by decide +kernel) (Nat.le_of_ble_eq_true rfl) rfl rfl (by decide +kernel) (by decide +kernel) rfl (Nat.le_of_ble_eq_true rfl) rfl ?_
            refine zWp.mono (cv_X3_take_33 ro nv np cm I_15 _ _ _ hV_15 (by omega) ) ?_
            rintro r h1 ⟨I_17, G_17, A_17, B_17, rfl, K_17, hV_17, rfl⟩
            refine ⟨rfl, ?_⟩
            have K_17 := KP.tr K_15 K_17
            refine zw_aload_n 19 f107_18 rfl rfl ?_
            refine zw_iload_n 20 f107_19 rfl rfl ?_
            refine zw_virtual_i 23 0 0 [.ref 0, .int 1] [(0, .ref 0), (1, .int 1)] f107_20 rfl n107_181 k107_181_11 rfl (hb_0 _ _ _ _) (by decide +kernel) (Nat.le_of_ble_eq_true rfl) rfl rfl (by decide +kernel) (by decide +kernel) rfl (Nat.le_of_ble_eq_true rfl) rfl ?_
            refine zw_aload_n 1 f106_0 rfl rfl ?_
            refine zw_iconst 0 2 f106_1 rfl (by decide +kernel) ?_
            refine zw_put _ 5 f106_2 rfl g106_70_11 (hb_0 _ _ _ _) rfl (Nat.le_of_ble_eq_true rfl) (by decide +kernel) (hi_0_7 _ _ _ _ _) ?_
            refine zw_iload_n 6 f106_5 rfl rfl ?_
            refine zw_ireturn f106_6 r106 u106 ⟨_, rfl, ?_⟩
            refine zw_ireturn f107_23 r107 u107 ⟨_, rfl, ?_⟩
            refine zw_ireturn f84_71 r84 u84 ?_
            exact ⟨_, _, _, _, rfl, (KP.i rfl K_17), CV.mono hV_17 (by omega), ⟨_, rfl⟩⟩
set_option maxRecDepth 100000 in
set_option maxHeartbeats 0 in
theorem cv_X11_level (ro : UInt32 → Nat × (Nat → Int32)) (nv np cm : Nat) (I : Nat → Nat → Int32) (G : Nat → Nat → Int64) (A : Nat → Nat → Int32) (B : Nat → Nat → Int64) (hI : CV nv np cm I) (hcm : cm < 1000000000) (a : Int32) (b : Int32) : zWp ro 90 0 [(0, .ref 0), (1, .int a), (2, .int b)] [] (hS I G A B) 0 0 (zWv pN nv np (cm + 0) I G A B zRt1) := by
  have hnv := hI.1.1.2
  have hnp := hI.1.2.1.2
  refine zw_aload_n 1 f90_0 rfl rfl ?_
  refine zw_getfield 4 f90_1 rfl g90_10_11 (hb_0 _ _ _ _) rfl ?_
  refine zw_iload_n 5 f90_4 rfl rfl ?_
  refine zw_virtual_i 8 0 0 [.ref 1, .int a] [(0, .ref 1), (1, .int a)] f90_5 rfl n90_89 k90_89_4 rfl (hb_1 _ _ _ _) (by decide +kernel) (Nat.le_of_ble_eq_true rfl) rfl rfl (by decide +kernel) (by decide +kernel) rfl (Nat.le_of_ble_eq_true rfl) rfl ?_
  refine zw_iload_n 1 f13_0 rfl rfl ?_
  refine zw_if_lt 4 22 f13_1 (by decide +kernel) rfl (fun hc1 => ?_) (fun hc1 => ?_)
  · refine zw_iconst 0 23 f13_22 rfl (by decide +kernel) ?_
    refine zw_zreturn f13_23 r13 u13 (by decide +kernel) ⟨_, rfl, ?_⟩
    refine zw_if_eq_t 20 f90_8 (by decide +kernel) (by decide +kernel) ?_
    refine zw_iconst (-1) 21 f90_20 rfl (by decide +kernel) ?_
    refine zw_ireturn f90_21 r90 u90 ?_
    exact ⟨_, _, _, _, rfl, KP.rf, CV.mono hI (by omega), ⟨_, rfl⟩⟩
  · refine zw_iload_n 5 f13_4 rfl rfl ?_
    refine zw_aload_n 6 f13_5 rfl rfl ?_
    refine zw_getI (nI nv) 9 f13_6 rfl g13_39_4 (hb_1 _ _ _ _) rfl hI.1.1.1 ?_
    refine zw_ic_ge 12 22 f13_9 (by decide +kernel) rfl (fun hc2 => ?_) (fun hc2 => ?_)
    · refine zw_iconst 0 23 f13_22 rfl (by decide +kernel) ?_
      refine zw_zreturn f13_23 r13 u13 (by decide +kernel) ⟨_, rfl, ?_⟩
      refine zw_if_eq_t 20 f90_8 (by decide +kernel) (by decide +kernel) ?_
      refine zw_iconst (-1) 21 f90_20 rfl (by decide +kernel) ?_
      refine zw_ireturn f90_21 r90 u90 ?_
      exact ⟨_, _, _, _, rfl, KP.rf, CV.mono hI (by omega), ⟨_, rfl⟩⟩
    · refine zw_iload_n 13 f13_12 rfl rfl ?_
      refine zw_bipush 8 15 f13_13 rfl (by decide +kernel) ?_
      refine zw_ic_ge 18 22 f13_15 (by decide +kernel) rfl (fun hc3 => ?_) (fun hc3 => ?_)
      · refine zw_iconst 0 23 f13_22 rfl (by decide +kernel) ?_
        refine zw_zreturn f13_23 r13 u13 (by decide +kernel) ⟨_, rfl, ?_⟩
        refine zw_if_eq_t 20 f90_8 (by decide +kernel) (by decide +kernel) ?_
        refine zw_iconst (-1) 21 f90_20 rfl (by decide +kernel) ?_
        refine zw_ireturn f90_21 r90 u90 ?_
        exact ⟨_, _, _, _, rfl, KP.rf, CV.mono hI (by omega), ⟨_, rfl⟩⟩
      · refine zw_iconst 1 19 f13_18 rfl (by decide +kernel) ?_
        refine zw_goto 23 f13_19 (by decide +kernel) ?_
        refine zw_zreturn f13_23 r13 u13 (by decide +kernel) ⟨_, rfl, ?_⟩
        refine zw_if_eq_f 11 20 f90_8 (by decide +kernel) rfl (by decide +kernel) ?_
        refine zw_iload_n 12 f90_11 rfl rfl ?_
        refine zw_iconst 0 13 f90_12 rfl (by decide +kernel) ?_
        refine zw_iconst 1 14 f90_13 rfl (by decide +kernel) ?_
        refine zw_static_i 17 0 0 [.int b, .int 0, .int 1] [] [(0, .int b), (1, .int 0), (2, .int 1)] f90_14 rfl k90_74_99 rfl (by decide +kernel) (Nat.le_of_ble_eq_true rfl) (Nat.le_of_ble_eq_true rfl) rfl rfl (by decide +kernel) (by decide +kernel) rfl (Nat.le_of_ble_eq_true rfl) rfl ?_
        refine zw_iload_n 1 f112_0 rfl rfl ?_
        refine zw_iload_n 2 f112_1 rfl rfl ?_
        refine zw_ic_lt 5 14 f112_2 (by decide +kernel) rfl (fun hc4 => ?_) (fun hc4 => ?_)
        · refine zw_iconst 0 15 f112_14 rfl (by decide +kernel) ?_
          refine zw_zreturn f112_15 r112 u112 (by decide +kernel) ⟨_, rfl, ?_⟩
          refine zw_if_ne_f 20 22 f90_17 (by decide +kernel) rfl (by decide +kernel) ?_
          refine zw_iconst (-1) 21 f90_20 rfl (by decide +kernel) ?_
          refine zw_ireturn f90_21 r90 u90 ?_
          exact ⟨_, _, _, _, rfl, KP.rf, CV.mono hI (by omega), ⟨_, rfl⟩⟩
        · refine zw_iload_n 6 f112_5 rfl rfl ?_
          refine zw_iload_n 7 f112_6 rfl rfl ?_
          refine zw_ic_gt 10 14 f112_7 (by decide +kernel) rfl (fun hc5 => ?_) (fun hc5 => ?_)
          · refine zw_iconst 0 15 f112_14 rfl (by decide +kernel) ?_
            refine zw_zreturn f112_15 r112 u112 (by decide +kernel) ⟨_, rfl, ?_⟩
            refine zw_if_ne_f 20 22 f90_17 (by decide +kernel) rfl (by decide +kernel) ?_
            refine zw_iconst (-1) 21 f90_20 rfl (by decide +kernel) ?_
            refine zw_ireturn f90_21 r90 u90 ?_
            exact ⟨_, _, _, _, rfl, KP.rf, CV.mono hI (by omega), ⟨_, rfl⟩⟩
          · refine zw_iconst 1 11 f112_10 rfl (by decide +kernel) ?_
            refine zw_goto 15 f112_11 (by decide +kernel) ?_
            refine zw_zreturn f112_15 r112 u112 (by decide +kernel) ⟨_, rfl, ?_⟩
            refine zw_if_ne_t 22 f90_17 (by decide +kernel) (by decide +kernel) ?_
            refine zw_aload_n 23 f90_22 rfl rfl ?_
            refine zw_getfield 26 f90_23 rfl g90_21_11 (hb_0 _ _ _ _) rfl ?_
            refine zw_getfield 29 f90_26 rfl g90_134_10 (hb_11 _ _ _ _) rfl ?_
            refine zw_getfield 32 f90_29 rfl g90_214_9 (hb_12 _ _ _ _) rfl ?_
            refine zw_iload_n 33 f90_32 rfl rfl ?_
            refine zx_laload a.toNatClampNeg 34 f90_33 rfl (hb_13 _ _ _ _) rfl hc1 (zix (by decide) hc1 hc3) (fun w6 hw6 => ?_)
            refine zw_aload_n 35 f90_34 rfl rfl ?_
            refine zw_getfield 38 f90_35 rfl g90_21_11 (hb_0 _ _ _ _) rfl ?_
            refine zw_getfield 41 f90_38 rfl g90_134_10 (hb_11 _ _ _ _) rfl ?_
            refine zx_getG 44 f90_41 rfl g90_151_9 (hb_12 _ _ _ _) rfl (fun w7 hw7 => ?_)
            refine zw_iload_n 45 f90_44 rfl rfl ?_
            refine zw_static_l 48 0 0 [.long w6, .long w7, .int b] [] [(0, .long w6), (2, .long w7), (4, .int b)] f90_45 rfl k90_210_99 rfl (by decide +kernel) (Nat.le_of_ble_eq_true rfl) (Nat.le_of_ble_eq_true rfl) rfl rfl (by decide +kernel) (by decide +kernel) rfl (Nat.le_of_ble_eq_true rfl) rfl ?_
            refine zWp.mono (cp_X11_part ro nv np I _ _ _ hI.1 w6 w7 b) ?_
            rintro r h1 ⟨rfl, ⟨w8, rfl⟩⟩
            refine ⟨_, rfl, ?_⟩
            refine zx_l2i 49 f90_48 rfl (fun w9 hw9 => ?_)
            refine zw_ireturn f90_49 r90 u90 ?_
            exact ⟨_, _, _, _, rfl, KP.rf, CV.mono hI (by omega), ⟨_, rfl⟩⟩
set_option maxRecDepth 100000 in
set_option maxHeartbeats 0 in
theorem cv_X11_rate (ro : UInt32 → Nat × (Nat → Int32)) (nv np cm : Nat) (I : Nat → Nat → Int32) (G : Nat → Nat → Int64) (A : Nat → Nat → Int32) (B : Nat → Nat → Int64) (hI : CV nv np cm I) (hcm : cm < 1000000000) (a : Int32) : zWp ro 91 0 [(0, .ref 0), (1, .int a)] [] (hS I G A B) 0 0 (zWv pN nv np (cm + 0) I G A B zRt1) := by
  have hnv := hI.1.1.2
  have hnp := hI.1.2.1.2
  refine zw_aload_n 1 f91_0 rfl rfl ?_
  refine zw_getfield 4 f91_1 rfl g91_10_11 (hb_0 _ _ _ _) rfl ?_
  refine zw_iload_n 5 f91_4 rfl rfl ?_
  refine zw_virtual_i 8 0 0 [.ref 1, .int a] [(0, .ref 1), (1, .int a)] f91_5 rfl n91_89 k91_89_4 rfl (hb_1 _ _ _ _) (by decide +kernel) (Nat.le_of_ble_eq_true rfl) rfl rfl (by decide +kernel) (by decide +kernel) rfl (Nat.le_of_ble_eq_true rfl) rfl ?_
  refine zw_iload_n 1 f13_0 rfl rfl ?_
  refine zw_if_lt 4 22 f13_1 (by decide +kernel) rfl (fun hc1 => ?_) (fun hc1 => ?_)
  · refine zw_iconst 0 23 f13_22 rfl (by decide +kernel) ?_
    refine zw_zreturn f13_23 r13 u13 (by decide +kernel) ⟨_, rfl, ?_⟩
    refine zw_if_ne_f 11 14 f91_8 (by decide +kernel) rfl (by decide +kernel) ?_
    refine zw_ldc (-1000000) 13 f91_11 rfl (by decide +kernel) ?_
    refine zw_ireturn f91_13 r91 u91 ?_
    exact ⟨_, _, _, _, rfl, KP.rf, CV.mono hI (by omega), ⟨_, rfl⟩⟩
  · refine zw_iload_n 5 f13_4 rfl rfl ?_
    refine zw_aload_n 6 f13_5 rfl rfl ?_
    refine zw_getI (nI nv) 9 f13_6 rfl g13_39_4 (hb_1 _ _ _ _) rfl hI.1.1.1 ?_
    refine zw_ic_ge 12 22 f13_9 (by decide +kernel) rfl (fun hc2 => ?_) (fun hc2 => ?_)
    · refine zw_iconst 0 23 f13_22 rfl (by decide +kernel) ?_
      refine zw_zreturn f13_23 r13 u13 (by decide +kernel) ⟨_, rfl, ?_⟩
      refine zw_if_ne_f 11 14 f91_8 (by decide +kernel) rfl (by decide +kernel) ?_
      refine zw_ldc (-1000000) 13 f91_11 rfl (by decide +kernel) ?_
      refine zw_ireturn f91_13 r91 u91 ?_
      exact ⟨_, _, _, _, rfl, KP.rf, CV.mono hI (by omega), ⟨_, rfl⟩⟩
    · refine zw_iload_n 13 f13_12 rfl rfl ?_
      refine zw_bipush 8 15 f13_13 rfl (by decide +kernel) ?_
      refine zw_ic_ge 18 22 f13_15 (by decide +kernel) rfl (fun hc3 => ?_) (fun hc3 => ?_)
      · refine zw_iconst 0 23 f13_22 rfl (by decide +kernel) ?_
        refine zw_zreturn f13_23 r13 u13 (by decide +kernel) ⟨_, rfl, ?_⟩
        refine zw_if_ne_f 11 14 f91_8 (by decide +kernel) rfl (by decide +kernel) ?_
        refine zw_ldc (-1000000) 13 f91_11 rfl (by decide +kernel) ?_
        refine zw_ireturn f91_13 r91 u91 ?_
        exact ⟨_, _, _, _, rfl, KP.rf, CV.mono hI (by omega), ⟨_, rfl⟩⟩
      · refine zw_iconst 1 19 f13_18 rfl (by decide +kernel) ?_
        refine zw_goto 23 f13_19 (by decide +kernel) ?_
        refine zw_zreturn f13_23 r13 u13 (by decide +kernel) ⟨_, rfl, ?_⟩
        refine zw_if_ne_t 14 f91_8 (by decide +kernel) (by decide +kernel) ?_
        refine zw_aload_n 15 f91_14 rfl rfl ?_
        refine zw_getfield 18 f91_15 rfl g91_21_11 (hb_0 _ _ _ _) rfl ?_
        refine zw_virtual_v 21 0 0 [.ref 11] [(0, .ref 11)] f91_18 rfl n91_219 k91_219_10 rfl (hb_11 _ _ _ _) (by decide +kernel) (Nat.le_of_ble_eq_true rfl) rfl rfl (by decide +kernel) (by decide +kernel) rfl (Nat.le_of_ble_eq_true rfl) rfl ?_
        refine zWp.mono (ck_X10_reckonRates_11 ro nv np I _ _ _ hI.1 ) ?_
        rintro r h1 ⟨I_5, G_5, A_5, B_5, rfl, K_5, hI_5, rfl⟩
        refine ⟨rfl, ?_⟩
        have hV_5 : CV nv np cm I_5 := CV.of (I := I) hI K_5 hI_5
        have K_5 := KP.tr KP.rf (KP.wk K_5 pWN)
        refine zw_aload_n 22 f91_21 rfl rfl ?_
        refine zw_getfield 25 f91_22 rfl g91_21_11 (hb_0 _ _ _ _) rfl ?_
        refine zw_getfield 28 f91_25 rfl g91_222_10 (hb_11 _ _ _ _) rfl ?_
        refine zw_iload_n 29 f91_28 rfl rfl ?_
        refine zx_iaload a.toNatClampNeg 30 f91_29 rfl (hb_17 _ _ _ _) rfl hc1 (zix (by decide) hc1 hc3) (fun w6 hw6 => ?_)
        refine zw_ireturn f91_30 r91 u91 ?_
        exact ⟨_, _, _, _, rfl, K_5, CV.mono hV_5 (by omega), ⟨_, rfl⟩⟩
set_option maxRecDepth 100000 in
set_option maxHeartbeats 0 in
theorem cv_X11_flood (ro : UInt32 → Nat × (Nat → Int32)) (nv np cm : Nat) (I : Nat → Nat → Int32) (G : Nat → Nat → Int64) (A : Nat → Nat → Int32) (B : Nat → Nat → Int64) (hI : CV nv np cm I) (hcm : cm < 1000000000) (a : Int32) : zWp ro 93 0 [(0, .ref 0), (1, .int a)] [] (hS I G A B) 0 0 (zWv pN nv np (cm + 0) I G A B zRt1) := by
  have hnv := hI.1.1.2
  have hnp := hI.1.2.1.2
  refine zw_aload_n 1 f93_0 rfl rfl ?_
  refine zw_getfield 4 f93_1 rfl g93_10_11 (hb_0 _ _ _ _) rfl ?_
  refine zw_iload_n 5 f93_4 rfl rfl ?_
  refine zw_virtual_i 8 0 0 [.ref 1, .int a] [(0, .ref 1), (1, .int a)] f93_5 rfl n93_89 k93_89_4 rfl (hb_1 _ _ _ _) (by decide +kernel) (Nat.le_of_ble_eq_true rfl) rfl rfl (by decide +kernel) (by decide +kernel) rfl (Nat.le_of_ble_eq_true rfl) rfl ?_
  refine zw_iload_n 1 f13_0 rfl rfl ?_
  refine zw_if_lt 4 22 f13_1 (by decide +kernel) rfl (fun hc1 => ?_) (fun hc1 => ?_)
  · refine zw_iconst 0 23 f13_22 rfl (by decide +kernel) ?_
    refine zw_zreturn f13_23 r13 u13 (by decide +kernel) ⟨_, rfl, ?_⟩
    refine zw_if_ne_f 11 13 f93_8 (by decide +kernel) rfl (by decide +kernel) ?_
    refine zw_iconst (-1) 12 f93_11 rfl (by decide +kernel) ?_
    refine zw_ireturn f93_12 r93 u93 ?_
    exact ⟨_, _, _, _, rfl, KP.rf, CV.mono hI (by omega), ⟨_, rfl⟩⟩
  · refine zw_iload_n 5 f13_4 rfl rfl ?_
    refine zw_aload_n 6 f13_5 rfl rfl ?_
    refine zw_getI (nI nv) 9 f13_6 rfl g13_39_4 (hb_1 _ _ _ _) rfl hI.1.1.1 ?_
    refine zw_ic_ge 12 22 f13_9 (by decide +kernel) rfl (fun hc2 => ?_) (fun hc2 => ?_)
    · refine zw_iconst 0 23 f13_22 rfl (by decide +kernel) ?_
      refine zw_zreturn f13_23 r13 u13 (by decide +kernel) ⟨_, rfl, ?_⟩
      refine zw_if_ne_f 11 13 f93_8 (by decide +kernel) rfl (by decide +kernel) ?_
      refine zw_iconst (-1) 12 f93_11 rfl (by decide +kernel) ?_
      refine zw_ireturn f93_12 r93 u93 ?_
      exact ⟨_, _, _, _, rfl, KP.rf, CV.mono hI (by omega), ⟨_, rfl⟩⟩
    · refine zw_iload_n 13 f13_12 rfl rfl ?_
      refine zw_bipush 8 15 f13_13 rfl (by decide +kernel) ?_
      refine zw_ic_ge 18 22 f13_15 (by decide +kernel) rfl (fun hc3 => ?_) (fun hc3 => ?_)
      · refine zw_iconst 0 23 f13_22 rfl (by decide +kernel) ?_
        refine zw_zreturn f13_23 r13 u13 (by decide +kernel) ⟨_, rfl, ?_⟩
        refine zw_if_ne_f 11 13 f93_8 (by decide +kernel) rfl (by decide +kernel) ?_
        refine zw_iconst (-1) 12 f93_11 rfl (by decide +kernel) ?_
        refine zw_ireturn f93_12 r93 u93 ?_
        exact ⟨_, _, _, _, rfl, KP.rf, CV.mono hI (by omega), ⟨_, rfl⟩⟩
      · refine zw_iconst 1 19 f13_18 rfl (by decide +kernel) ?_
        refine zw_goto 23 f13_19 (by decide +kernel) ?_
        refine zw_zreturn f13_23 r13 u13 (by decide +kernel) ⟨_, rfl, ?_⟩
        refine zw_if_ne_t 13 f93_8 (by decide +kernel) (by decide +kernel) ?_
        refine zw_aload_n 14 f93_13 rfl rfl ?_
        refine zw_getfield 17 f93_14 rfl g93_21_11 (hb_0 _ _ _ _) rfl ?_
        refine zw_virtual_v 20 0 0 [.ref 11] [(0, .ref 11)] f93_17 rfl n93_219 k93_219_10 rfl (hb_11 _ _ _ _) (by decide +kernel) (Nat.le_of_ble_eq_true rfl) rfl rfl (by decide +kernel) (by decide +kernel) rfl (Nat.le_of_ble_eq_true rfl) rfl ?_
        refine zWp.mono (ck_X10_reckonRates_11 ro nv np I _ _ _ hI.1 ) ?_
        rintro r h1 ⟨I_5, G_5, A_5, B_5, rfl, K_5, hI_5, rfl⟩
        refine ⟨rfl, ?_⟩
        have hV_5 : CV nv np cm I_5 := CV.of (I := I) hI K_5 hI_5
        have K_5 := KP.tr KP.rf (KP.wk K_5 pWN)
        refine zw_aload_n 21 f93_20 rfl rfl ?_
        refine zw_getfield 24 f93_21 rfl g93_21_11 (hb_0 _ _ _ _) rfl ?_
        refine zw_getfield 27 f93_24 rfl g93_228_10 (hb_11 _ _ _ _) rfl ?_
        refine zw_iload_n 28 f93_27 rfl rfl ?_
        refine zx_iaload a.toNatClampNeg 29 f93_28 rfl (hb_18 _ _ _ _) rfl hc1 (zix (by decide) hc1 hc3) (fun w6 hw6 => ?_)
        refine zw_ireturn f93_29 r93 u93 ?_
        exact ⟨_, _, _, _, rfl, K_5, CV.mono hV_5 (by omega), ⟨_, rfl⟩⟩
set_option maxRecDepth 100000 in
set_option maxHeartbeats 0 in
theorem cv_X11_told (ro : UInt32 → Nat × (Nat → Int32)) (nv np cm : Nat) (I : Nat → Nat → Int32) (G : Nat → Nat → Int64) (A : Nat → Nat → Int32) (B : Nat → Nat → Int64) (hI : CV nv np cm I) (hcm : cm < 1000000000) (a : Int32) (b : Int32) : zWp ro 94 0 [(0, .ref 0), (1, .int a), (2, .int b)] [] (hS I G A B) 0 0 (zWv pN nv np (cm + 0) I G A B zRt1) := by
  have hnv := hI.1.1.2
  have hnp := hI.1.2.1.2
  refine zw_aload_n 1 f94_0 rfl rfl ?_
  refine zw_getfield 4 f94_1 rfl g94_10_11 (hb_0 _ _ _ _) rfl ?_
  refine zw_iload_n 5 f94_4 rfl rfl ?_
  refine zw_virtual_i 8 0 0 [.ref 1, .int a] [(0, .ref 1), (1, .int a)] f94_5 rfl n94_89 k94_89_4 rfl (hb_1 _ _ _ _) (by decide +kernel) (Nat.le_of_ble_eq_true rfl) rfl rfl (by decide +kernel) (by decide +kernel) rfl (Nat.le_of_ble_eq_true rfl) rfl ?_
  refine zw_iload_n 1 f13_0 rfl rfl ?_
  refine zw_if_lt 4 22 f13_1 (by decide +kernel) rfl (fun hc1 => ?_) (fun hc1 => ?_)
  · refine zw_iconst 0 23 f13_22 rfl (by decide +kernel) ?_
    refine zw_zreturn f13_23 r13 u13 (by decide +kernel) ⟨_, rfl, ?_⟩
    refine zw_if_ne_f 11 13 f94_8 (by decide +kernel) rfl (by decide +kernel) ?_
    refine zw_iconst (-1) 12 f94_11 rfl (by decide +kernel) ?_
    refine zw_ireturn f94_12 r94 u94 ?_
    exact ⟨_, _, _, _, rfl, KP.rf, CV.mono hI (by omega), ⟨_, rfl⟩⟩
  · refine zw_iload_n 5 f13_4 rfl rfl ?_
    refine zw_aload_n 6 f13_5 rfl rfl ?_
    refine zw_getI (nI nv) 9 f13_6 rfl g13_39_4 (hb_1 _ _ _ _) rfl hI.1.1.1 ?_
    refine zw_ic_ge 12 22 f13_9 (by decide +kernel) rfl (fun hc2 => ?_) (fun hc2 => ?_)
    · refine zw_iconst 0 23 f13_22 rfl (by decide +kernel) ?_
      refine zw_zreturn f13_23 r13 u13 (by decide +kernel) ⟨_, rfl, ?_⟩
      refine zw_if_ne_f 11 13 f94_8 (by decide +kernel) rfl (by decide +kernel) ?_
      refine zw_iconst (-1) 12 f94_11 rfl (by decide +kernel) ?_
      refine zw_ireturn f94_12 r94 u94 ?_
      exact ⟨_, _, _, _, rfl, KP.rf, CV.mono hI (by omega), ⟨_, rfl⟩⟩
    · refine zw_iload_n 13 f13_12 rfl rfl ?_
      refine zw_bipush 8 15 f13_13 rfl (by decide +kernel) ?_
      refine zw_ic_ge 18 22 f13_15 (by decide +kernel) rfl (fun hc3 => ?_) (fun hc3 => ?_)
      · refine zw_iconst 0 23 f13_22 rfl (by decide +kernel) ?_
        refine zw_zreturn f13_23 r13 u13 (by decide +kernel) ⟨_, rfl, ?_⟩
        refine zw_if_ne_f 11 13 f94_8 (by decide +kernel) rfl (by decide +kernel) ?_
        refine zw_iconst (-1) 12 f94_11 rfl (by decide +kernel) ?_
        refine zw_ireturn f94_12 r94 u94 ?_
        exact ⟨_, _, _, _, rfl, KP.rf, CV.mono hI (by omega), ⟨_, rfl⟩⟩
      · refine zw_iconst 1 19 f13_18 rfl (by decide +kernel) ?_
        refine zw_goto 23 f13_19 (by decide +kernel) ?_
        refine zw_zreturn f13_23 r13 u13 (by decide +kernel) ⟨_, rfl, ?_⟩
        refine zw_if_ne_t 13 f94_8 (by decide +kernel) (by decide +kernel) ?_
        refine zw_iload_n 14 f94_13 rfl rfl ?_
        by_cases hs4 : b = 7
        · refine zw_lookup_k (off := 26) 40 f94_14 hs4 (by decide +kernel) (by decide +kernel) (by decide +kernel) ?_
          refine zw_aload_n 41 f94_40 rfl rfl ?_
          refine zw_getfield 44 f94_41 rfl g94_10_11 (hb_0 _ _ _ _) rfl ?_
          refine zw_iload_n 45 f94_44 rfl rfl ?_
          refine zw_virtual_i 48 0 0 [.ref 1, .int a] [(0, .ref 1), (1, .int a)] f94_45 rfl n94_112 k94_112_4 rfl (hb_1 _ _ _ _) (by decide +kernel) (Nat.le_of_ble_eq_true rfl) rfl rfl (by decide +kernel) (by decide +kernel) rfl (Nat.le_of_ble_eq_true rfl) rfl ?_
          refine zWp.mono (cp_X4_kindOf ro nv np I _ _ _ hI.1 a) ?_
          rintro r h1 ⟨rfl, ⟨w5, rfl⟩⟩
          refine ⟨_, rfl, ?_⟩
          refine zw_iconst 1 49 f94_48 rfl (by decide +kernel) ?_
          refine zw_ic_ne 52 69 f94_49 (by decide +kernel) rfl (fun hc6 => ?_) (fun hc6 => ?_)
          · refine zw_iconst (-1) 70 f94_69 rfl (by decide +kernel) ?_
            refine zw_ireturn f94_70 r94 u94 ?_
            exact ⟨_, _, _, _, rfl, KP.rf, CV.mono hI (by omega), ⟨_, rfl⟩⟩
          · refine zw_aload_n 53 f94_52 rfl rfl ?_
            refine zw_getfield 56 f94_53 rfl g94_21_11 (hb_0 _ _ _ _) rfl ?_
            refine zw_getfield 59 f94_56 rfl g94_134_10 (hb_11 _ _ _ _) rfl ?_
            refine zw_iload_n 60 f94_59 rfl rfl ?_
            refine zw_virtual_i 63 0 0 [.ref 12, .int a] [(0, .ref 12), (1, .int a)] f94_60 rfl n94_231 k94_231_9 rfl (hb_12 _ _ _ _) (by decide +kernel) (Nat.le_of_ble_eq_true rfl) rfl rfl (by decide +kernel) (by decide +kernel) rfl (Nat.le_of_ble_eq_true rfl) rfl ?_
            refine zWp.mono (cp_X9_isSiphoning_12 ro nv np I _ _ _ hI.1 a) ?_
            rintro r h1 ⟨rfl, ⟨w7, rfl, hw7⟩⟩
            refine ⟨_, rfl, ?_⟩
            refine zw_static_i 66 0 0 [.int w7] [] [(0, .int w7)] f94_63 rfl k94_234_99 rfl (by decide +kernel) (Nat.le_of_ble_eq_true rfl) (Nat.le_of_ble_eq_true rfl) rfl rfl (by decide +kernel) (by decide +kernel) rfl (Nat.le_of_ble_eq_true rfl) rfl ?_
            refine zw_iload_n 1 f113_0 rfl rfl ?_
            refine zw_if_eq 4 8 f113_1 (by decide +kernel) rfl (fun hc8 => ?_) (fun hc8 => ?_)
            · refine zw_iconst 0 9 f113_8 rfl (by decide +kernel) ?_
              refine zw_ireturn f113_9 r113 u113 ⟨_, rfl, ?_⟩
              refine zw_goto 70 f94_66 (by decide +kernel) ?_
              refine zw_ireturn f94_70 r94 u94 ?_
              exact ⟨_, _, _, _, rfl, KP.rf, CV.mono hI (by omega), ⟨_, rfl⟩⟩
            · refine zw_iconst 1 5 f113_4 rfl (by decide +kernel) ?_
              refine zw_goto 9 f113_5 (by decide +kernel) ?_
              refine zw_ireturn f113_9 r113 u113 ⟨_, rfl, ?_⟩
              refine zw_goto 70 f94_66 (by decide +kernel) ?_
              refine zw_ireturn f94_70 r94 u94 ?_
              exact ⟨_, _, _, _, rfl, KP.rf, CV.mono hI (by omega), ⟨_, rfl⟩⟩
        by_cases hs9 : b = 8
        · refine zw_lookup_k (off := 57) 71 f94_14 hs9 (by decide +kernel) (by decide +kernel) (by decide +kernel) ?_
          refine zw_aload_n 72 f94_71 rfl rfl ?_
          refine zw_getfield 75 f94_72 rfl g94_10_11 (hb_0 _ _ _ _) rfl ?_
          refine zw_iload_n 76 f94_75 rfl rfl ?_
          refine zw_virtual_i 79 0 0 [.ref 1, .int a] [(0, .ref 1), (1, .int a)] f94_76 rfl n94_112 k94_112_4 rfl (hb_1 _ _ _ _) (by decide +kernel) (Nat.le_of_ble_eq_true rfl) rfl rfl (by decide +kernel) (by decide +kernel) rfl (Nat.le_of_ble_eq_true rfl) rfl ?_
          refine zWp.mono (cp_X4_kindOf ro nv np I _ _ _ hI.1 a) ?_
          rintro r h1 ⟨rfl, ⟨w10, rfl⟩⟩
          refine ⟨_, rfl, ?_⟩
          refine zw_iconst 4 80 f94_79 rfl (by decide +kernel) ?_
          refine zw_ic_ne 83 98 f94_80 (by decide +kernel) rfl (fun hc11 => ?_) (fun hc11 => ?_)
          · refine zw_iconst (-1) 99 f94_98 rfl (by decide +kernel) ?_
            refine zw_ireturn f94_99 r94 u94 ?_
            exact ⟨_, _, _, _, rfl, KP.rf, CV.mono hI (by omega), ⟨_, rfl⟩⟩
          · refine zw_aload_n 84 f94_83 rfl rfl ?_
            refine zw_getfield 87 f94_84 rfl g94_21_11 (hb_0 _ _ _ _) rfl ?_
            refine zw_getfield 90 f94_87 rfl g94_134_10 (hb_11 _ _ _ _) rfl ?_
            refine zw_getfield 93 f94_90 rfl g94_238_9 (hb_12 _ _ _ _) rfl ?_
            refine zw_iload_n 94 f94_93 rfl rfl ?_
            refine zx_iaload a.toNatClampNeg 95 f94_94 rfl (hb_14 _ _ _ _) rfl hc1 (zix (by decide) hc1 hc3) (fun w12 hw12 => ?_)
            refine zw_goto 99 f94_95 (by decide +kernel) ?_
            refine zw_ireturn f94_99 r94 u94 ?_
            exact ⟨_, _, _, _, rfl, KP.rf, CV.mono hI (by omega), ⟨_, rfl⟩⟩
        refine zw_lookup (off := 86) 100 f94_14 (by decide +kernel) ((lv_osw hs4 (by decide)).trans ((lv_osw hs9 (by decide)).trans rfl)) (by decide +kernel) ?_
        refine zw_aload_n 101 f94_100 rfl rfl ?_
        refine zw_getfield 104 f94_101 rfl g94_10_11 (hb_0 _ _ _ _) rfl ?_
        refine zw_iload_n 105 f94_104 rfl rfl ?_
        refine zw_iload_n 106 f94_105 rfl rfl ?_
        refine zw_virtual_i 109 0 0 [.ref 1, .int a, .int b] [(0, .ref 1), (1, .int a), (2, .int b)] f94_106 rfl n94_241 k94_241_4 rfl (hb_1 _ _ _ _) (by decide +kernel) (Nat.le_of_ble_eq_true rfl) rfl rfl (by decide +kernel) (by decide +kernel) rfl (Nat.le_of_ble_eq_true rfl) rfl ?_
        refine zw_iload_n 1 f23_0 rfl rfl ?_
        rcases zl_sw 6 (by decide) b with hs13 | ⟨hs13k, hs13l, hs13e⟩
        · refine zw_table_o 117 f23_1 hs13 (by decide +kernel) ?_
          refine zw_iconst (-1) 118 f23_117 rfl (by decide +kernel) ?_
          refine zw_ireturn f23_118 r23 u23 ⟨_, rfl, ?_⟩
          refine zw_ireturn f94_109 r94 u94 ?_
          exact ⟨_, _, _, _, rfl, KP.rf, CV.mono hI (by omega), ⟨_, rfl⟩⟩
        · rcases (show hs13k = 0 ∨ hs13k = 1 ∨ hs13k = 2 ∨ hs13k = 3 ∨ hs13k = 4 ∨ hs13k = 5 ∨ hs13k = 6 by omega) with rfl | rfl | rfl | rfl | rfl | rfl | rfl
          · refine zw_table_k 43 44 f23_1 hs13e (by decide +kernel) (by decide +kernel) (by decide +kernel) ?_
            refine zw_aload_n 45 f23_44 rfl rfl ?_
            refine zw_getfield 48 f23_45 rfl g23_9_4 (hb_1 _ _ _ _) rfl ?_
            refine zw_iload_n 49 f23_48 rfl rfl ?_
            refine zx_iaload a.toNatClampNeg 50 f23_49 rfl (hb_2 _ _ _ _) rfl hc1 (zix (by decide) hc1 hc3) (fun w14 hw14 => ?_)
            refine zw_ireturn f23_50 r23 u23 ⟨_, rfl, ?_⟩
            refine zw_ireturn f94_109 r94 u94 ?_
            exact ⟨_, _, _, _, rfl, KP.rf, CV.mono hI (by omega), ⟨_, rfl⟩⟩
          · refine zw_table_k 50 51 f23_1 hs13e (by decide +kernel) (by decide +kernel) (by decide +kernel) ?_
            refine zw_aload_n 52 f23_51 rfl rfl ?_
            refine zw_getfield 55 f23_52 rfl g23_15_4 (hb_1 _ _ _ _) rfl ?_
            refine zw_iload_n 56 f23_55 rfl rfl ?_
            refine zx_iaload a.toNatClampNeg 57 f23_56 rfl (hb_3 _ _ _ _) rfl hc1 (zix (by decide) hc1 hc3) (fun w15 hw15 => ?_)
            refine zw_ireturn f23_57 r23 u23 ⟨_, rfl, ?_⟩
            refine zw_ireturn f94_109 r94 u94 ?_
            exact ⟨_, _, _, _, rfl, KP.rf, CV.mono hI (by omega), ⟨_, rfl⟩⟩
          · refine zw_table_k 57 58 f23_1 hs13e (by decide +kernel) (by decide +kernel) (by decide +kernel) ?_
            refine zw_aload_n 59 f23_58 rfl rfl ?_
            refine zw_iload_n 60 f23_59 rfl rfl ?_
            refine zw_virtual_i 63 0 0 [.ref 1, .int a] [(0, .ref 1), (1, .int a)] f23_60 rfl n23_57 k23_57_4 rfl (hb_1 _ _ _ _) (by decide +kernel) (Nat.le_of_ble_eq_true rfl) rfl rfl (by decide +kernel) (by decide +kernel) rfl (Nat.le_of_ble_eq_true rfl) rfl ?_
            refine zw_aload_n 1 f18_0 rfl rfl ?_
            refine zw_iload_n 2 f18_1 rfl rfl ?_
            refine zw_virtual_i 5 0 0 [.ref 1, .int a] [(0, .ref 1), (1, .int a)] f18_2 rfl n18_50 k18_50_4 rfl (hb_1 _ _ _ _) (by decide +kernel) (Nat.le_of_ble_eq_true rfl) rfl rfl (by decide +kernel) (by decide +kernel) rfl (Nat.le_of_ble_eq_true rfl) rfl ?_
            refine zWp.mono (cp_X4_kindOf ro nv np I _ _ _ hI.1 a) ?_
            rintro r h1 ⟨rfl, ⟨w16, rfl⟩⟩
            refine ⟨_, rfl, ?_⟩
            refine zw_iconst 1 6 f18_5 rfl (by decide +kernel) ?_
            refine zw_ic_eq 9 17 f18_6 (by decide +kernel) rfl (fun hc17 => ?_) (fun hc17 => ?_)
            · refine zw_iconst 1 18 f18_17 rfl (by decide +kernel) ?_
              refine zw_goto 22 f18_18 (by decide +kernel) ?_
              refine zw_zreturn f18_22 r18 u18 (by decide +kernel) ⟨_, rfl, ?_⟩
              refine zw_if_eq_f 66 75 f23_63 (by decide +kernel) rfl (by decide +kernel) ?_
              refine zw_aload_n 67 f23_66 rfl rfl ?_
              refine zw_getfield 70 f23_67 rfl g23_18_4 (hb_1 _ _ _ _) rfl ?_
              refine zw_iload_n 71 f23_70 rfl rfl ?_
              refine zx_iaload a.toNatClampNeg 72 f23_71 rfl (hb_4 _ _ _ _) rfl hc1 (zix (by decide) hc1 hc3) (fun w18 hw18 => ?_)
              refine zw_goto 76 f23_72 (by decide +kernel) ?_
              refine zw_ireturn f23_76 r23 u23 ⟨_, rfl, ?_⟩
              refine zw_ireturn f94_109 r94 u94 ?_
              exact ⟨_, _, _, _, rfl, KP.rf, CV.mono hI (by omega), ⟨_, rfl⟩⟩
            · refine zw_aload_n 10 f18_9 rfl rfl ?_
              refine zw_iload_n 11 f18_10 rfl rfl ?_
              refine zw_virtual_i 14 0 0 [.ref 1, .int a] [(0, .ref 1), (1, .int a)] f18_11 rfl n18_54 k18_54_4 rfl (hb_1 _ _ _ _) (by decide +kernel) (Nat.le_of_ble_eq_true rfl) rfl rfl (by decide +kernel) (by decide +kernel) rfl (Nat.le_of_ble_eq_true rfl) rfl ?_
              refine zWp.mono (cp_X4_isFloat ro nv np I _ _ _ hI.1 a) ?_
              rintro r h1 ⟨rfl, ⟨w19, rfl, hw19⟩⟩
              refine ⟨_, rfl, ?_⟩
              refine zw_if_eq 17 21 f18_14 (by decide +kernel) rfl (fun hc20 => ?_) (fun hc20 => ?_)
              · refine zw_iconst 0 22 f18_21 rfl (by decide +kernel) ?_
                refine zw_zreturn f18_22 r18 u18 (by decide +kernel) ⟨_, rfl, ?_⟩
                refine zw_if_eq_t 75 f23_63 (by decide +kernel) (by decide +kernel) ?_
                refine zw_iconst (-1) 76 f23_75 rfl (by decide +kernel) ?_
                refine zw_ireturn f23_76 r23 u23 ⟨_, rfl, ?_⟩
                refine zw_ireturn f94_109 r94 u94 ?_
                exact ⟨_, _, _, _, rfl, KP.rf, CV.mono hI (by omega), ⟨_, rfl⟩⟩
              · refine zw_iconst 1 18 f18_17 rfl (by decide +kernel) ?_
                refine zw_goto 22 f18_18 (by decide +kernel) ?_
                refine zw_zreturn f18_22 r18 u18 (by decide +kernel) ⟨_, rfl, ?_⟩
                refine zw_if_eq_f 66 75 f23_63 (by decide +kernel) rfl (by decide +kernel) ?_
                refine zw_aload_n 67 f23_66 rfl rfl ?_
                refine zw_getfield 70 f23_67 rfl g23_18_4 (hb_1 _ _ _ _) rfl ?_
                refine zw_iload_n 71 f23_70 rfl rfl ?_
                refine zx_iaload a.toNatClampNeg 72 f23_71 rfl (hb_4 _ _ _ _) rfl hc1 (zix (by decide) hc1 hc3) (fun w21 hw21 => ?_)
                refine zw_goto 76 f23_72 (by decide +kernel) ?_
                refine zw_ireturn f23_76 r23 u23 ⟨_, rfl, ?_⟩
                refine zw_ireturn f94_109 r94 u94 ?_
                exact ⟨_, _, _, _, rfl, KP.rf, CV.mono hI (by omega), ⟨_, rfl⟩⟩
          · refine zw_table_k 76 77 f23_1 hs13e (by decide +kernel) (by decide +kernel) (by decide +kernel) ?_
            refine zw_aload_n 78 f23_77 rfl rfl ?_
            refine zw_iload_n 79 f23_78 rfl rfl ?_
            refine zw_virtual_i 82 0 0 [.ref 1, .int a] [(0, .ref 1), (1, .int a)] f23_79 rfl n23_54 k23_54_4 rfl (hb_1 _ _ _ _) (by decide +kernel) (Nat.le_of_ble_eq_true rfl) rfl rfl (by decide +kernel) (by decide +kernel) rfl (Nat.le_of_ble_eq_true rfl) rfl ?_
            refine zWp.mono (cp_X4_isFloat ro nv np I _ _ _ hI.1 a) ?_
            rintro r h1 ⟨rfl, ⟨w22, rfl, hw22⟩⟩
            refine ⟨_, rfl, ?_⟩
            refine zw_if_eq 85 94 f23_82 (by decide +kernel) rfl (fun hc23 => ?_) (fun hc23 => ?_)
            · refine zw_iconst (-1) 95 f23_94 rfl (by decide +kernel) ?_
              refine zw_ireturn f23_95 r23 u23 ⟨_, rfl, ?_⟩
              refine zw_ireturn f94_109 r94 u94 ?_
              exact ⟨_, _, _, _, rfl, KP.rf, CV.mono hI (by omega), ⟨_, rfl⟩⟩
            · refine zw_aload_n 86 f23_85 rfl rfl ?_
              refine zw_getfield 89 f23_86 rfl g23_21_4 (hb_1 _ _ _ _) rfl ?_
              refine zw_iload_n 90 f23_89 rfl rfl ?_
              refine zx_iaload a.toNatClampNeg 91 f23_90 rfl (hb_5 _ _ _ _) rfl hc1 (zix (by decide) hc1 hc3) (fun w24 hw24 => ?_)
              refine zw_goto 95 f23_91 (by decide +kernel) ?_
              refine zw_ireturn f23_95 r23 u23 ⟨_, rfl, ?_⟩
              refine zw_ireturn f94_109 r94 u94 ?_
              exact ⟨_, _, _, _, rfl, KP.rf, CV.mono hI (by omega), ⟨_, rfl⟩⟩
          · refine zw_table_k 95 96 f23_1 hs13e (by decide +kernel) (by decide +kernel) (by decide +kernel) ?_
            refine zw_aload_n 97 f23_96 rfl rfl ?_
            refine zw_getfield 100 f23_97 rfl g23_24_4 (hb_1 _ _ _ _) rfl ?_
            refine zw_iload_n 101 f23_100 rfl rfl ?_
            refine zx_iaload a.toNatClampNeg 102 f23_101 rfl (hb_6 _ _ _ _) rfl hc1 (zix (by decide) hc1 hc3) (fun w25 hw25 => ?_)
            refine zw_ireturn f23_102 r23 u23 ⟨_, rfl, ?_⟩
            refine zw_ireturn f94_109 r94 u94 ?_
            exact ⟨_, _, _, _, rfl, KP.rf, CV.mono hI (by omega), ⟨_, rfl⟩⟩
          · refine zw_table_k 102 103 f23_1 hs13e (by decide +kernel) (by decide +kernel) (by decide +kernel) ?_
            refine zw_aload_n 104 f23_103 rfl rfl ?_
            refine zw_getfield 107 f23_104 rfl g23_27_4 (hb_1 _ _ _ _) rfl ?_
            refine zw_iload_n 108 f23_107 rfl rfl ?_
            refine zx_iaload a.toNatClampNeg 109 f23_108 rfl (hb_7 _ _ _ _) rfl hc1 (zix (by decide) hc1 hc3) (fun w26 hw26 => ?_)
            refine zw_ireturn f23_109 r23 u23 ⟨_, rfl, ?_⟩
            refine zw_ireturn f94_109 r94 u94 ?_
            exact ⟨_, _, _, _, rfl, KP.rf, CV.mono hI (by omega), ⟨_, rfl⟩⟩
          · refine zw_table_k 109 110 f23_1 hs13e (by decide +kernel) (by decide +kernel) (by decide +kernel) ?_
            refine zw_aload_n 111 f23_110 rfl rfl ?_
            refine zw_getfield 114 f23_111 rfl g23_30_4 (hb_1 _ _ _ _) rfl ?_
            refine zw_iload_n 115 f23_114 rfl rfl ?_
            refine zx_iaload a.toNatClampNeg 116 f23_115 rfl (hb_8 _ _ _ _) rfl hc1 (zix (by decide) hc1 hc3) (fun w27 hw27 => ?_)
            refine zw_ireturn f23_116 r23 u23 ⟨_, rfl, ?_⟩
            refine zw_ireturn f94_109 r94 u94 ?_
            exact ⟨_, _, _, _, rfl, KP.rf, CV.mono hI (by omega), ⟨_, rfl⟩⟩
set_option maxRecDepth 100000 in
set_option maxHeartbeats 0 in
theorem cv_X11_shut (ro : UInt32 → Nat × (Nat → Int32)) (nv np cm : Nat) (I : Nat → Nat → Int32) (G : Nat → Nat → Int64) (A : Nat → Nat → Int32) (B : Nat → Nat → Int64) (hI : CV nv np cm I) (hcm : cm < 1000000000) (a : Int32) (b : Int32) : zWp ro 85 0 [(0, .ref 0), (1, .int a), (2, .int b)] [] (hS I G A B) 0 0 (zWv pN nv np (cm + 8) I G A B zRt1) := by
  have hnv := hI.1.1.2
  have hnp := hI.1.2.1.2
  refine zw_aload_n 1 f85_0 rfl rfl ?_
  refine zw_getfield 4 f85_1 rfl g85_10_11 (hb_0 _ _ _ _) rfl ?_
  refine zw_iload_n 5 f85_4 rfl rfl ?_
  refine zw_virtual_i 8 0 0 [.ref 1, .int a] [(0, .ref 1), (1, .int a)] f85_5 rfl n85_109 k85_109_4 rfl (hb_1 _ _ _ _) (by decide +kernel) (Nat.le_of_ble_eq_true rfl) rfl rfl (by decide +kernel) (by decide +kernel) rfl (Nat.le_of_ble_eq_true rfl) rfl ?_
  refine zw_iload_n 1 f14_0 rfl rfl ?_
  refine zw_if_lt 4 22 f14_1 (by decide +kernel) rfl (fun hc1 => ?_) (fun hc1 => ?_)
  · refine zw_iconst 0 23 f14_22 rfl (by decide +kernel) ?_
    refine zw_zreturn f14_23 r14 u14 (by decide +kernel) ⟨_, rfl, ?_⟩
    refine zw_if_ne_f 11 17 f85_8 (by decide +kernel) rfl (by decide +kernel) ?_
    refine zw_aload_n 12 f85_11 rfl rfl ?_
    refine zw_iconst 1 13 f85_12 rfl (by decide +kernel) ?_
    refine zw_virtual_i 16 0 0 [.ref 0, .int 1] [(0, .ref 0), (1, .int 1)] f85_13 rfl n85_78 k85_78_11 rfl (hb_0 _ _ _ _) (by decide +kernel) (Nat.le_of_ble_eq_true rfl) rfl rfl (by decide +kernel) (by decide +kernel) rfl (Nat.le_of_ble_eq_true rfl) rfl ?_
    refine zw_aload_n 1 f105_0 rfl rfl ?_
    refine zw_iload_n 2 f105_1 rfl rfl ?_
    refine zw_put _ 5 f105_2 rfl g105_70_11 (hb_0 _ _ _ _) rfl (Nat.le_of_ble_eq_true rfl) (by decide +kernel) (hi_0_7 _ _ _ _ _) ?_
    refine zw_iconst (-1) 6 f105_5 rfl (by decide +kernel) ?_
    refine zw_ireturn f105_6 r105 u105 ⟨_, rfl, ?_⟩
    refine zw_ireturn f85_16 r85 u85 ?_
    exact ⟨_, _, _, _, rfl, (KP.i rfl KP.rf), CV.mono hI (by omega), ⟨_, rfl⟩⟩
  · refine zw_iload_n 5 f14_4 rfl rfl ?_
    refine zw_aload_n 6 f14_5 rfl rfl ?_
    refine zw_getI (nI np) 9 f14_6 rfl g14_43_4 (hb_1 _ _ _ _) rfl hI.1.2.1.1 ?_
    refine zw_ic_ge 12 22 f14_9 (by decide +kernel) rfl (fun hc2 => ?_) (fun hc2 => ?_)
    · refine zw_iconst 0 23 f14_22 rfl (by decide +kernel) ?_
      refine zw_zreturn f14_23 r14 u14 (by decide +kernel) ⟨_, rfl, ?_⟩
      refine zw_if_ne_f 11 17 f85_8 (by decide +kernel) rfl (by decide +kernel) ?_
      refine zw_aload_n 12 f85_11 rfl rfl ?_
      refine zw_iconst 1 13 f85_12 rfl (by decide +kernel) ?_
      refine zw_virtual_i 16 0 0 [.ref 0, .int 1] [(0, .ref 0), (1, .int 1)] f85_13 rfl n85_78 k85_78_11 rfl (hb_0 _ _ _ _) (by decide +kernel) (Nat.le_of_ble_eq_true rfl) rfl rfl (by decide +kernel) (by decide +kernel) rfl (Nat.le_of_ble_eq_true rfl) rfl ?_
      refine zw_aload_n 1 f105_0 rfl rfl ?_
      refine zw_iload_n 2 f105_1 rfl rfl ?_
      refine zw_put _ 5 f105_2 rfl g105_70_11 (hb_0 _ _ _ _) rfl (Nat.le_of_ble_eq_true rfl) (by decide +kernel) (hi_0_7 _ _ _ _ _) ?_
      refine zw_iconst (-1) 6 f105_5 rfl (by decide +kernel) ?_
      refine zw_ireturn f105_6 r105 u105 ⟨_, rfl, ?_⟩
      refine zw_ireturn f85_16 r85 u85 ?_
      exact ⟨_, _, _, _, rfl, (KP.i rfl KP.rf), CV.mono hI (by omega), ⟨_, rfl⟩⟩
    · refine zw_iload_n 13 f14_12 rfl rfl ?_
      refine zw_bipush 14 15 f14_13 rfl (by decide +kernel) ?_
      refine zw_ic_ge 18 22 f14_15 (by decide +kernel) rfl (fun hc3 => ?_) (fun hc3 => ?_)
      · refine zw_iconst 0 23 f14_22 rfl (by decide +kernel) ?_
        refine zw_zreturn f14_23 r14 u14 (by decide +kernel) ⟨_, rfl, ?_⟩
        refine zw_if_ne_f 11 17 f85_8 (by decide +kernel) rfl (by decide +kernel) ?_
        refine zw_aload_n 12 f85_11 rfl rfl ?_
        refine zw_iconst 1 13 f85_12 rfl (by decide +kernel) ?_
        refine zw_virtual_i 16 0 0 [.ref 0, .int 1] [(0, .ref 0), (1, .int 1)] f85_13 rfl n85_78 k85_78_11 rfl (hb_0 _ _ _ _) (by decide +kernel) (Nat.le_of_ble_eq_true rfl) rfl rfl (by decide +kernel) (by decide +kernel) rfl (Nat.le_of_ble_eq_true rfl) rfl ?_
        refine zw_aload_n 1 f105_0 rfl rfl ?_
        refine zw_iload_n 2 f105_1 rfl rfl ?_
        refine zw_put _ 5 f105_2 rfl g105_70_11 (hb_0 _ _ _ _) rfl (Nat.le_of_ble_eq_true rfl) (by decide +kernel) (hi_0_7 _ _ _ _ _) ?_
        refine zw_iconst (-1) 6 f105_5 rfl (by decide +kernel) ?_
        refine zw_ireturn f105_6 r105 u105 ⟨_, rfl, ?_⟩
        refine zw_ireturn f85_16 r85 u85 ?_
        exact ⟨_, _, _, _, rfl, (KP.i rfl KP.rf), CV.mono hI (by omega), ⟨_, rfl⟩⟩
      · refine zw_iconst 1 19 f14_18 rfl (by decide +kernel) ?_
        refine zw_goto 23 f14_19 (by decide +kernel) ?_
        refine zw_zreturn f14_23 r14 u14 (by decide +kernel) ⟨_, rfl, ?_⟩
        refine zw_if_ne_t 17 f85_8 (by decide +kernel) (by decide +kernel) ?_
        refine zw_aload_n 18 f85_17 rfl rfl ?_
        refine zw_getfield 21 f85_18 rfl g85_21_11 (hb_0 _ _ _ _) rfl ?_
        refine zw_getfield 24 f85_21 rfl g85_134_10 (hb_11 _ _ _ _) rfl ?_
        refine zw_iload_n 25 f85_24 rfl rfl ?_
        refine zw_virtual_i 28 0 0 [.ref 12, .int a] [(0, .ref 12), (1, .int a)] f85_25 rfl n85_158 k85_158_9 rfl (hb_12 _ _ _ _) (by decide +kernel) (Nat.le_of_ble_eq_true rfl) rfl rfl (by decide +kernel) (by decide +kernel) rfl (Nat.le_of_ble_eq_true rfl) rfl ?_
        refine zWp.mono (cp_X9_isOpen_12 ro nv np I _ _ _ hI.1 a) ?_
        rintro r h1 ⟨rfl, ⟨w4, rfl, hw4⟩⟩
        refine ⟨_, rfl, ?_⟩
        refine zw_if_ne 31 35 f85_28 (by decide +kernel) rfl (fun hc5 => ?_) (fun hc5 => ?_)
        · refine zw_iconst 0 36 f85_35 rfl (by decide +kernel) ?_
          refine zw_istore_n _ 37 f85_36 rfl (by decide +kernel) rfl ?_
          refine zw_aload_n 38 f85_37 rfl (zl1_ne rfl rfl rfl) ?_
          refine zw_getfield 41 f85_38 rfl g85_21_11 (hb_0 _ _ _ _) rfl ?_
          refine zw_getfield 44 f85_41 rfl g85_134_10 (hb_11 _ _ _ _) rfl ?_
          refine zw_iload_n 45 f85_44 rfl (zl1_ne rfl rfl rfl) ?_
          refine zw_iload_n 46 f85_45 rfl (zl1_ne rfl rfl rfl) ?_
          refine zw_if_ne 49 53 f85_46 (by decide +kernel) rfl (fun hc6 => ?_) (fun hc6 => ?_)
          · refine zw_iconst 0 54 f85_53 rfl (by decide +kernel) ?_
            refine zw_virtual_v 57 0 0 [.ref 12, .int a, .int 0] [(0, .ref 12), (1, .int a), (2, .int 0)] f85_54 rfl n85_143 k85_143_9 rfl (hb_12 _ _ _ _) (by decide +kernel) (Nat.le_of_ble_eq_true rfl) rfl rfl (by decide +kernel) (by decide +kernel) rfl (Nat.le_of_ble_eq_true rfl) rfl ?_
            refine zWp.mono (ck_X9_setOpen_12 ro nv np I _ _ _ hI.1 a 0) ?_
            rintro r h1 ⟨I_8, G_8, A_8, B_8, rfl, K_8, hI_8, rfl⟩
            refine ⟨rfl, ?_⟩
            have hV_8 : CV nv np cm I_8 := CV.of (I := I) hI K_8 hI_8
            have K_8 := KP.tr KP.rf (KP.wk K_8 pWN)
            refine zw_aload_n 58 f85_57 rfl (zl1_ne rfl rfl rfl) ?_
            refine zw_iload_n 59 f85_58 rfl zl1_eq ?_
            refine zw_iload_n 60 f85_59 rfl (zl1_ne rfl rfl rfl) ?_
            refine zw_ic_eq 63 67 f85_60 (by decide +kernel) rfl (fun hc9 => ?_) (fun hc9 => ?_)
            · refine zw_iconst 0 68 f85_67 rfl (by decide +kernel) ?_
              refine zw_virtual_i 71 0 0 [.ref 0, .int 0] [(0, .ref 0), (1, .int 0)] f85_68 rfl n85_86 k85_86_11 rfl (hb_0 _ _ _ _) (by decide +kernel) (Nat.le_of_ble_eq_true rfl) rfl rfl (by decide +kernel) (by decide +kernel) rfl (Nat.le_of_ble_eq_true rfl) rfl ?_
              refine zw_aload_n 1 f107_0 rfl rfl ?_
              refine zw_getfield 4 f107_1 rfl g107_21_11 (hb_0 _ _ _ _) rfl ?_
              refine zw_virtual_v 7 0 0 [.ref 11] [(0, .ref 11)] f107_4 rfl n107_318 k107_318_10 rfl (hb_11 _ _ _ _) (by decide +kernel) (Nat.le_of_ble_eq_true rfl) rfl rfl (by decide +kernel) (by decide +kernel) rfl (Nat.le_of_ble_eq_true rfl) rfl ?_
              refine zWp.mono (ck_X10_settle_11 ro nv np I_8 _ _ _ hV_8.1 ) ?_
              rintro r h1 ⟨I_11, G_11, A_11, B_11, rfl, K_11, hI_11, rfl⟩
              refine ⟨rfl, ?_⟩
              have hV_11 : CV nv np cm I_11 := CV.of (I := I_8) hV_8 K_11 hI_11
              have K_11 := KP.tr K_8 (KP.wk K_11 pWN)
              refine zw_aload_n 8 f107_7 rfl rfl ?_
              refine zw_getfield 11 f107_8 rfl g107_31_11 (hb_0 _ _ _ _) rfl ?_
              refine zw_aload_n 12 f107_11 rfl rfl ?_
              refine zw_getfield 15 f107_12 rfl g107_21_11 (hb_0 _ _ _ _) rfl ?_
              refine zw_virtual_v 18 0 0 [.ref 33, .ref 11] [(0, .ref 33), (1, .ref 11)] f107_15 rfl n107_187 k107_187_3 rfl (hb_33 _ _ _ _) (by decide +kernel) (Nat.le_of_ble_eq_true rfl) rfl rfl (by decide +kernel) (by decide +kernel) rfl (Nat.le_of_ble_eq_true rfl) rfl ?_
              refine zWp.mono (cv_X3_take_33 ro nv np cm I_11 _ _ _ hV_11 (by omega) ) ?_
              rintro r h1 ⟨I_13, G_13, A_13, B_13, rfl, K_13, hV_13, rfl⟩
              refine ⟨rfl, ?_⟩
              have K_13 := KP.tr K_11 K_13
              refine zw_aload_n 19 f107_18 rfl rfl ?_
              refine zw_iload_n 20 f107_19 rfl rfl ?_
              refine zw_virtual_i 23 0 0 [.ref 0, .int 0] [(0, .ref 0), (1, .int 0)] f107_20 rfl n107_181 k107_181_11 rfl (hb_0 _ _ _ _) (by decide +kernel) (Nat.le_of_ble_eq_true rfl) rfl rfl (by decide +kernel) (by decide +kernel) rfl (Nat.le_of_ble_eq_true rfl) rfl ?_
              refine zw_aload_n 1 f106_0 rfl rfl ?_
              refine zw_iconst 0 2 f106_1 rfl (by decide +kernel) ?_
              refine zw_put _ 5 f106_2 rfl g106_70_11 (hb_0 _ _ _ _) rfl (Nat.le_of_ble_eq_true rfl) (by decide +kernel) (hi_0_7 _ _ _ _ _) ?_
              refine zw_iload_n 6 f106_5 rfl rfl ?_
              refine zw_ireturn f106_6 r106 u106 ⟨_, rfl, ?_⟩
              refine zw_ireturn f107_23 r107 u107 ⟨_, rfl, ?_⟩
              refine zw_ireturn f85_71 r85 u85 ?_
              exact ⟨_, _, _, _, rfl, (KP.i rfl K_13), CV.mono hV_13 (by omega), ⟨_, rfl⟩⟩
            · refine zw_iconst 1 64 f85_63 rfl (by decide +kernel) ?_
              refine zw_goto 68 f85_64 (by decide +kernel) ?_
              refine zw_virtual_i 71 0 0 [.ref 0, .int 1] [(0, .ref 0), (1, .int 1)] f85_68 rfl n85_86 k85_86_11 rfl (hb_0 _ _ _ _) (by decide +kernel) (Nat.le_of_ble_eq_true rfl) rfl rfl (by decide +kernel) (by decide +kernel) rfl (Nat.le_of_ble_eq_true rfl) rfl ?_
              refine zw_aload_n 1 f107_0 rfl rfl ?_
              refine zw_getfield 4 f107_1 rfl g107_21_11 (hb_0 _ _ _ _) rfl ?_
              refine zw_virtual_v 7 0 0 [.ref 11] [(0, .ref 11)] f107_4 rfl n107_318 k107_318_10 rfl (hb_11 _ _ _ _) (by decide +kernel) (Nat.le_of_ble_eq_true rfl) rfl rfl (by decide +kernel) (by decide +kernel) rfl (Nat.le_of_ble_eq_true rfl) rfl ?_
              refine zWp.mono (ck_X10_settle_11 ro nv np I_8 _ _ _ hV_8.1 ) ?_
              rintro r h1 ⟨I_15, G_15, A_15, B_15, rfl, K_15, hI_15, rfl⟩
              refine ⟨rfl, ?_⟩
              have hV_15 : CV nv np cm I_15 := CV.of (I := I_8) hV_8 K_15 hI_15
              have K_15 := KP.tr K_8 (KP.wk K_15 pWN)
              refine zw_aload_n 8 f107_7 rfl rfl ?_
              refine zw_getfield 11 f107_8 rfl g107_31_11 (hb_0 _ _ _ _) rfl ?_
              refine zw_aload_n 12 f107_11 rfl rfl ?_
              refine zw_getfield 15 f107_12 rfl g107_21_11 (hb_0 _ _ _ _) rfl ?_
              refine zw_virtual_v 18 0 0 [.ref 33, .ref 11] [(0, .ref 33), (1, .ref 11)] f107_15 rfl n107_187 k107_187_3 rfl (hb_33 _ _ _ _) (by decide +kernel) (Nat.le_of_ble_eq_true rfl) rfl rfl (by decide +kernel) (by decide +kernel) rfl (Nat.le_of_ble_eq_true rfl) rfl ?_
              refine zWp.mono (cv_X3_take_33 ro nv np cm I_15 _ _ _ hV_15 (by omega) ) ?_
              rintro r h1 ⟨I_17, G_17, A_17, B_17, rfl, K_17, hV_17, rfl⟩
              refine ⟨rfl, ?_⟩
              have K_17 := KP.tr K_15 K_17
              refine zw_aload_n 19 f107_18 rfl rfl ?_
              refine zw_iload_n 20 f107_19 rfl rfl ?_
              refine zw_virtual_i 23 0 0 [.ref 0, .int 1] [(0, .ref 0), (1, .int 1)] f107_20 rfl n107_181 k107_181_11 rfl (hb_0 _ _ _ _) (by decide +kernel) (Nat.le_of_ble_eq_true rfl) rfl rfl (by decide +kernel) (by decide +kernel) rfl (Nat.le_of_ble_eq_true rfl) rfl ?_
              refine zw_aload_n 1 f106_0 rfl rfl ?_
              refine zw_iconst 0 2 f106_1 rfl (by decide +kernel) ?_
              refine zw_put _ 5 f106_2 rfl g106_70_11 (hb_0 _ _ _ _) rfl (Nat.le_of_ble_eq_true rfl) (by decide +kernel) (hi_0_7 _ _ _ _ _) ?_
              refine zw_iload_n 6 f106_5 rfl rfl ?_
              refine zw_ireturn f106_6 r106 u106 ⟨_, rfl, ?_⟩
              refine zw_ireturn f107_23 r107 u107 ⟨_, rfl, ?_⟩
              refine zw_ireturn f85_71 r85 u85 ?_
              exact ⟨_, _, _, _, rfl, (KP.i rfl K_17), CV.mono hV_17 (by omega), ⟨_, rfl⟩⟩
          · refine zw_iconst 1 50 f85_49 rfl (by decide +kernel) ?_
            refine zw_goto 54 f85_50 (by decide +kernel) ?_
            refine zw_virtual_v 57 0 0 [.ref 12, .int a, .int 1] [(0, .ref 12), (1, .int a), (2, .int 1)] f85_54 rfl n85_143 k85_143_9 rfl (hb_12 _ _ _ _) (by decide +kernel) (Nat.le_of_ble_eq_true rfl) rfl rfl (by decide +kernel) (by decide +kernel) rfl (Nat.le_of_ble_eq_true rfl) rfl ?_
            refine zWp.mono (ck_X9_setOpen_12 ro nv np I _ _ _ hI.1 a 1) ?_
            rintro r h1 ⟨I_19, G_19, A_19, B_19, rfl, K_19, hI_19, rfl⟩
            refine ⟨rfl, ?_⟩
            have hV_19 : CV nv np cm I_19 := CV.of (I := I) hI K_19 hI_19
            have K_19 := KP.tr KP.rf (KP.wk K_19 pWN)
            refine zw_aload_n 58 f85_57 rfl (zl1_ne rfl rfl rfl) ?_
            refine zw_iload_n 59 f85_58 rfl zl1_eq ?_
            refine zw_iload_n 60 f85_59 rfl (zl1_ne rfl rfl rfl) ?_
            refine zw_ic_eq 63 67 f85_60 (by decide +kernel) rfl (fun hc20 => ?_) (fun hc20 => ?_)
            · refine zw_iconst 0 68 f85_67 rfl (by decide +kernel) ?_
              refine zw_virtual_i 71 0 0 [.ref 0, .int 0] [(0, .ref 0), (1, .int 0)] f85_68 rfl n85_86 k85_86_11 rfl (hb_0 _ _ _ _) (by decide +kernel) (Nat.le_of_ble_eq_true rfl) rfl rfl (by decide +kernel) (by decide +kernel) rfl (Nat.le_of_ble_eq_true rfl) rfl ?_
              refine zw_aload_n 1 f107_0 rfl rfl ?_
              refine zw_getfield 4 f107_1 rfl g107_21_11 (hb_0 _ _ _ _) rfl ?_
              refine zw_virtual_v 7 0 0 [.ref 11] [(0, .ref 11)] f107_4 rfl n107_318 k107_318_10 rfl (hb_11 _ _ _ _) (by decide +kernel) (Nat.le_of_ble_eq_true rfl) rfl rfl (by decide +kernel) (by decide +kernel) rfl (Nat.le_of_ble_eq_true rfl) rfl ?_
              refine zWp.mono (ck_X10_settle_11 ro nv np I_19 _ _ _ hV_19.1 ) ?_
              rintro r h1 ⟨I_22, G_22, A_22, B_22, rfl, K_22, hI_22, rfl⟩
              refine ⟨rfl, ?_⟩
              have hV_22 : CV nv np cm I_22 := CV.of (I := I_19) hV_19 K_22 hI_22
              have K_22 := KP.tr K_19 (KP.wk K_22 pWN)
              refine zw_aload_n 8 f107_7 rfl rfl ?_
              refine zw_getfield 11 f107_8 rfl g107_31_11 (hb_0 _ _ _ _) rfl ?_
              refine zw_aload_n 12 f107_11 rfl rfl ?_
              refine zw_getfield 15 f107_12 rfl g107_21_11 (hb_0 _ _ _ _) rfl ?_
              refine zw_virtual_v 18 0 0 [.ref 33, .ref 11] [(0, .ref 33), (1, .ref 11)] f107_15 rfl n107_187 k107_187_3 rfl (hb_33 _ _ _ _) (by decide +kernel) (Nat.le_of_ble_eq_true rfl) rfl rfl (by decide +kernel) (by decide +kernel) rfl (Nat.le_of_ble_eq_true rfl) rfl ?_
              refine zWp.mono (cv_X3_take_33 ro nv np cm I_22 _ _ _ hV_22 (by omega) ) ?_
              rintro r h1 ⟨I_24, G_24, A_24, B_24, rfl, K_24, hV_24, rfl⟩
              refine ⟨rfl, ?_⟩
              have K_24 := KP.tr K_22 K_24
              refine zw_aload_n 19 f107_18 rfl rfl ?_
              refine zw_iload_n 20 f107_19 rfl rfl ?_
              refine zw_virtual_i 23 0 0 [.ref 0, .int 0] [(0, .ref 0), (1, .int 0)] f107_20 rfl n107_181 k107_181_11 rfl (hb_0 _ _ _ _) (by decide +kernel) (Nat.le_of_ble_eq_true rfl) rfl rfl (by decide +kernel) (by decide +kernel) rfl (Nat.le_of_ble_eq_true rfl) rfl ?_
              refine zw_aload_n 1 f106_0 rfl rfl ?_
              refine zw_iconst 0 2 f106_1 rfl (by decide +kernel) ?_
              refine zw_put _ 5 f106_2 rfl g106_70_11 (hb_0 _ _ _ _) rfl (Nat.le_of_ble_eq_true rfl) (by decide +kernel) (hi_0_7 _ _ _ _ _) ?_
              refine zw_iload_n 6 f106_5 rfl rfl ?_
              refine zw_ireturn f106_6 r106 u106 ⟨_, rfl, ?_⟩
              refine zw_ireturn f107_23 r107 u107 ⟨_, rfl, ?_⟩
              refine zw_ireturn f85_71 r85 u85 ?_
              exact ⟨_, _, _, _, rfl, (KP.i rfl K_24), CV.mono hV_24 (by omega), ⟨_, rfl⟩⟩
            · refine zw_iconst 1 64 f85_63 rfl (by decide +kernel) ?_
              refine zw_goto 68 f85_64 (by decide +kernel) ?_
              refine zw_virtual_i 71 0 0 [.ref 0, .int 1] [(0, .ref 0), (1, .int 1)] f85_68 rfl n85_86 k85_86_11 rfl (hb_0 _ _ _ _) (by decide +kernel) (Nat.le_of_ble_eq_true rfl) rfl rfl (by decide +kernel) (by decide +kernel) rfl (Nat.le_of_ble_eq_true rfl) rfl ?_
              refine zw_aload_n 1 f107_0 rfl rfl ?_
              refine zw_getfield 4 f107_1 rfl g107_21_11 (hb_0 _ _ _ _) rfl ?_
              refine zw_virtual_v 7 0 0 [.ref 11] [(0, .ref 11)] f107_4 rfl n107_318 k107_318_10 rfl (hb_11 _ _ _ _) (by decide +kernel) (Nat.le_of_ble_eq_true rfl) rfl rfl (by decide +kernel) (by decide +kernel) rfl (Nat.le_of_ble_eq_true rfl) rfl ?_
              refine zWp.mono (ck_X10_settle_11 ro nv np I_19 _ _ _ hV_19.1 ) ?_
              rintro r h1 ⟨I_26, G_26, A_26, B_26, rfl, K_26, hI_26, rfl⟩
              refine ⟨rfl, ?_⟩
              have hV_26 : CV nv np cm I_26 := CV.of (I := I_19) hV_19 K_26 hI_26
              have K_26 := KP.tr K_19 (KP.wk K_26 pWN)
              refine zw_aload_n 8 f107_7 rfl rfl ?_
              refine zw_getfield 11 f107_8 rfl g107_31_11 (hb_0 _ _ _ _) rfl ?_
              refine zw_aload_n 12 f107_11 rfl rfl ?_
              refine zw_getfield 15 f107_12 rfl g107_21_11 (hb_0 _ _ _ _) rfl ?_
              refine zw_virtual_v 18 0 0 [.ref 33, .ref 11] [(0, .ref 33), (1, .ref 11)] f107_15 rfl n107_187 k107_187_3 rfl (hb_33 _ _ _ _) (by decide +kernel) (Nat.le_of_ble_eq_true rfl) rfl rfl (by decide +kernel) (by decide +kernel) rfl (Nat.le_of_ble_eq_true rfl) rfl ?_
              refine zWp.mono (cv_X3_take_33 ro nv np cm I_26 _ _ _ hV_26 (by omega) ) ?_
              rintro r h1 ⟨I_28, G_28, A_28, B_28, rfl, K_28, hV_28, rfl⟩
              refine ⟨rfl, ?_⟩
              have K_28 := KP.tr K_26 K_28
              refine zw_aload_n 19 f107_18 rfl rfl ?_
              refine zw_iload_n 20 f107_19 rfl rfl ?_
              refine zw_virtual_i 23 0 0 [.ref 0, .int 1] [(0, .ref 0), (1, .int 1)] f107_20 rfl n107_181 k107_181_11 rfl (hb_0 _ _ _ _) (by decide +kernel) (Nat.le_of_ble_eq_true rfl) rfl rfl (by decide +kernel) (by decide +kernel) rfl (Nat.le_of_ble_eq_true rfl) rfl ?_
              refine zw_aload_n 1 f106_0 rfl rfl ?_
              refine zw_iconst 0 2 f106_1 rfl (by decide +kernel) ?_
              refine zw_put _ 5 f106_2 rfl g106_70_11 (hb_0 _ _ _ _) rfl (Nat.le_of_ble_eq_true rfl) (by decide +kernel) (hi_0_7 _ _ _ _ _) ?_
              refine zw_iload_n 6 f106_5 rfl rfl ?_
              refine zw_ireturn f106_6 r106 u106 ⟨_, rfl, ?_⟩
              refine zw_ireturn f107_23 r107 u107 ⟨_, rfl, ?_⟩
              refine zw_ireturn f85_71 r85 u85 ?_
              exact ⟨_, _, _, _, rfl, (KP.i rfl K_28), CV.mono hV_28 (by omega), ⟨_, rfl⟩⟩
        · refine zw_iconst 1 32 f85_31 rfl (by decide +kernel) ?_
          refine zw_goto 36 f85_32 (by decide +kernel) ?_
          refine zw_istore_n _ 37 f85_36 rfl (by decide +kernel) rfl ?_
          refine zw_aload_n 38 f85_37 rfl (zl1_ne rfl rfl rfl) ?_
          refine zw_getfield 41 f85_38 rfl g85_21_11 (hb_0 _ _ _ _) rfl ?_
          refine zw_getfield 44 f85_41 rfl g85_134_10 (hb_11 _ _ _ _) rfl ?_
          refine zw_iload_n 45 f85_44 rfl (zl1_ne rfl rfl rfl) ?_
          refine zw_iload_n 46 f85_45 rfl (zl1_ne rfl rfl rfl) ?_
          refine zw_if_ne 49 53 f85_46 (by decide +kernel) rfl (fun hc29 => ?_) (fun hc29 => ?_)
          · refine zw_iconst 0 54 f85_53 rfl (by decide +kernel) ?_
            refine zw_virtual_v 57 0 0 [.ref 12, .int a, .int 0] [(0, .ref 12), (1, .int a), (2, .int 0)] f85_54 rfl n85_143 k85_143_9 rfl (hb_12 _ _ _ _) (by decide +kernel) (Nat.le_of_ble_eq_true rfl) rfl rfl (by decide +kernel) (by decide +kernel) rfl (Nat.le_of_ble_eq_true rfl) rfl ?_
            refine zWp.mono (ck_X9_setOpen_12 ro nv np I _ _ _ hI.1 a 0) ?_
            rintro r h1 ⟨I_31, G_31, A_31, B_31, rfl, K_31, hI_31, rfl⟩
            refine ⟨rfl, ?_⟩
            have hV_31 : CV nv np cm I_31 := CV.of (I := I) hI K_31 hI_31
            have K_31 := KP.tr KP.rf (KP.wk K_31 pWN)
            refine zw_aload_n 58 f85_57 rfl (zl1_ne rfl rfl rfl) ?_
            refine zw_iload_n 59 f85_58 rfl zl1_eq ?_
            refine zw_iload_n 60 f85_59 rfl (zl1_ne rfl rfl rfl) ?_
            refine zw_ic_eq 63 67 f85_60 (by decide +kernel) rfl (fun hc32 => ?_) (fun hc32 => ?_)
            · refine zw_iconst 0 68 f85_67 rfl (by decide +kernel) ?_
              refine zw_virtual_i 71 0 0 [.ref 0, .int 0] [(0, .ref 0), (1, .int 0)] f85_68 rfl n85_86 k85_86_11 rfl (hb_0 _ _ _ _) (by decide +kernel) (Nat.le_of_ble_eq_true rfl) rfl rfl (by decide +kernel) (by decide +kernel) rfl (Nat.le_of_ble_eq_true rfl) rfl ?_
              refine zw_aload_n 1 f107_0 rfl rfl ?_
              refine zw_getfield 4 f107_1 rfl g107_21_11 (hb_0 _ _ _ _) rfl ?_
              refine zw_virtual_v 7 0 0 [.ref 11] [(0, .ref 11)] f107_4 rfl n107_318 k107_318_10 rfl (hb_11 _ _ _ _) (by decide +kernel) (Nat.le_of_ble_eq_true rfl) rfl rfl (by decide +kernel) (by decide +kernel) rfl (Nat.le_of_ble_eq_true rfl) rfl ?_
              refine zWp.mono (ck_X10_settle_11 ro nv np I_31 _ _ _ hV_31.1 ) ?_
              rintro r h1 ⟨I_34, G_34, A_34, B_34, rfl, K_34, hI_34, rfl⟩
              refine ⟨rfl, ?_⟩
              have hV_34 : CV nv np cm I_34 := CV.of (I := I_31) hV_31 K_34 hI_34
              have K_34 := KP.tr K_31 (KP.wk K_34 pWN)
              refine zw_aload_n 8 f107_7 rfl rfl ?_
              refine zw_getfield 11 f107_8 rfl g107_31_11 (hb_0 _ _ _ _) rfl ?_
              refine zw_aload_n 12 f107_11 rfl rfl ?_
              refine zw_getfield 15 f107_12 rfl g107_21_11 (hb_0 _ _ _ _) rfl ?_
              refine zw_virtual_v 18 0 0 [.ref 33, .ref 11] [(0, .ref 33), (1, .ref 11)] f107_15 rfl n107_187 k107_187_3 rfl (hb_33 _ _ _ _) (by decide +kernel) (Nat.le_of_ble_eq_true rfl) rfl rfl (by decide +kernel) (by decide +kernel) rfl (Nat.le_of_ble_eq_true rfl) rfl ?_
              refine zWp.mono (cv_X3_take_33 ro nv np cm I_34 _ _ _ hV_34 (by omega) ) ?_
              rintro r h1 ⟨I_36, G_36, A_36, B_36, rfl, K_36, hV_36, rfl⟩
              refine ⟨rfl, ?_⟩
              have K_36 := KP.tr K_34 K_36
              refine zw_aload_n 19 f107_18 rfl rfl ?_
              refine zw_iload_n 20 f107_19 rfl rfl ?_
              refine zw_virtual_i 23 0 0 [.ref 0, .int 0] [(0, .ref 0), (1, .int 0)] f107_20 rfl n107_181 k107_181_11 rfl (hb_0 _ _ _ _) (by decide +kernel) (Nat.le_of_ble_eq_true rfl) rfl rfl (by decide +kernel) (by decide +kernel) rfl (Nat.le_of_ble_eq_true rfl) rfl ?_
              refine zw_aload_n 1 f106_0 rfl rfl ?_
              refine zw_iconst 0 2 f106_1 rfl (by decide +kernel) ?_
              refine zw_put _ 5 f106_2 rfl g106_70_11 (hb_0 _ _ _ _) rfl (Nat.le_of_ble_eq_true rfl) (by decide +kernel) (hi_0_7 _ _ _ _ _) ?_
              refine zw_iload_n 6 f106_5 rfl rfl ?_
              refine zw_ireturn f106_6 r106 u106 ⟨_, rfl, ?_⟩
              refine zw_ireturn f107_23 r107 u107 ⟨_, rfl, ?_⟩
              refine zw_ireturn f85_71 r85 u85 ?_
              exact ⟨_, _, _, _, rfl, (KP.i rfl K_36), CV.mono hV_36 (by omega), ⟨_, rfl⟩⟩
            · refine zw_iconst 1 64 f85_63 rfl (by decide +kernel) ?_
              refine zw_goto 68 f85_64 (by decide +kernel) ?_
              refine zw_virtual_i 71 0 0 [.ref 0, .int 1] [(0, .ref 0), (1, .int 1)] f85_68 rfl n85_86 k85_86_11 rfl (hb_0 _ _ _ _) (by decide +kernel) (Nat.le_of_ble_eq_true rfl) rfl rfl (by decide +kernel) (by decide +kernel) rfl (Nat.le_of_ble_eq_true rfl) rfl ?_
              refine zw_aload_n 1 f107_0 rfl rfl ?_
              refine zw_getfield 4 f107_1 rfl g107_21_11 (hb_0 _ _ _ _) rfl ?_
              refine zw_virtual_v 7 0 0 [.ref 11] [(0, .ref 11)] f107_4 rfl n107_318 k107_318_10 rfl (hb_11 _ _ _ _) (by decide +kernel) (Nat.le_of_ble_eq_true rfl) rfl rfl (by decide +kernel) (by decide +kernel) rfl (Nat.le_of_ble_eq_true rfl) rfl ?_
              refine zWp.mono (ck_X10_settle_11 ro nv np I_31 _ _ _ hV_31.1 ) ?_
              rintro r h1 ⟨I_38, G_38, A_38, B_38, rfl, K_38, hI_38, rfl⟩
              refine ⟨rfl, ?_⟩
              have hV_38 : CV nv np cm I_38 := CV.of (I := I_31) hV_31 K_38 hI_38
              have K_38 := KP.tr K_31 (KP.wk K_38 pWN)
              refine zw_aload_n 8 f107_7 rfl rfl ?_
              refine zw_getfield 11 f107_8 rfl g107_31_11 (hb_0 _ _ _ _) rfl ?_
              refine zw_aload_n 12 f107_11 rfl rfl ?_
              refine zw_getfield 15 f107_12 rfl g107_21_11 (hb_0 _ _ _ _) rfl ?_
              refine zw_virtual_v 18 0 0 [.ref 33, .ref 11] [(0, .ref 33), (1, .ref 11)] f107_15 rfl n107_187 k107_187_3 rfl (hb_33 _ _ _ _) (by decide +kernel) (Nat.le_of_ble_eq_true rfl) rfl rfl (by decide +kernel) (by decide +kernel) rfl (Nat.le_of_ble_eq_true rfl) rfl ?_
              refine zWp.mono (cv_X3_take_33 ro nv np cm I_38 _ _ _ hV_38 (by omega) ) ?_
              rintro r h1 ⟨I_40, G_40, A_40, B_40, rfl, K_40, hV_40, rfl⟩
              refine ⟨rfl, ?_⟩
              have K_40 := KP.tr K_38 K_40
              refine zw_aload_n 19 f107_18 rfl rfl ?_
              refine zw_iload_n 20 f107_19 rfl rfl ?_
              refine zw_virtual_i 23 0 0 [.ref 0, .int 1] [(0, .ref 0), (1, .int 1)] f107_20 rfl n107_181 k107_181_11 rfl (hb_0 _ _ _ _) (by decide +kernel) (Nat.le_of_ble_eq_true rfl) rfl rfl (by decide +kernel) (by decide +kernel) rfl (Nat.le_of_ble_eq_true rfl) rfl ?_
              refine zw_aload_n 1 f106_0 rfl rfl ?_
              refine zw_iconst 0 2 f106_1 rfl (by decide +kernel) ?_
              refine zw_put _ 5 f106_2 rfl g106_70_11 (hb_0 _ _ _ _) rfl (Nat.le_of_ble_eq_true rfl) (by decide +kernel) (hi_0_7 _ _ _ _ _) ?_
              refine zw_iload_n 6 f106_5 rfl rfl ?_
              refine zw_ireturn f106_6 r106 u106 ⟨_, rfl, ?_⟩
              refine zw_ireturn f107_23 r107 u107 ⟨_, rfl, ?_⟩
              refine zw_ireturn f85_71 r85 u85 ?_
              exact ⟨_, _, _, _, rfl, (KP.i rfl K_40), CV.mono hV_40 (by omega), ⟨_, rfl⟩⟩
          · refine zw_iconst 1 50 f85_49 rfl (by decide +kernel) ?_
            refine zw_goto 54 f85_50 (by decide +kernel) ?_
            refine zw_virtual_v 57 0 0 [.ref 12, .int a, .int 1] [(0, .ref 12), (1, .int a), (2, .int 1)] f85_54 rfl n85_143 k85_143_9 rfl (hb_12 _ _ _ _) (by decide +kernel) (Nat.le_of_ble_eq_true rfl) rfl rfl (by decide +kernel) (by decide +kernel) rfl (Nat.le_of_ble_eq_true rfl) rfl ?_
            refine zWp.mono (ck_X9_setOpen_12 ro nv np I _ _ _ hI.1 a 1) ?_
            rintro r h1 ⟨I_42, G_42, A_42, B_42, rfl, K_42, hI_42, rfl⟩
            refine ⟨rfl, ?_⟩
            have hV_42 : CV nv np cm I_42 := CV.of (I := I) hI K_42 hI_42
            have K_42 := KP.tr KP.rf (KP.wk K_42 pWN)
            refine zw_aload_n 58 f85_57 rfl (zl1_ne rfl rfl rfl) ?_
            refine zw_iload_n 59 f85_58 rfl zl1_eq ?_
            refine zw_iload_n 60 f85_59 rfl (zl1_ne rfl rfl rfl) ?_
            refine zw_ic_eq 63 67 f85_60 (by decide +kernel) rfl (fun hc43 => ?_) (fun hc43 => ?_)
            · refine zw_iconst 0 68 f85_67 rfl (by decide +kernel) ?_
              refine zw_virtual_i 71 0 0 [.ref 0, .int 0] [(0, .ref 0), (1, .int 0)] f85_68 rfl n85_86 k85_86_11 rfl (hb_0 _ _ _ _) (by decide +kernel) (Nat.le_of_ble_eq_true rfl) rfl rfl (by decide +kernel) (by decide +kernel) rfl (Nat.le_of_ble_eq_true rfl) rfl ?_
              refine zw_aload_n 1 f107_0 rfl rfl ?_
              refine zw_getfield 4 f107_1 rfl g107_21_11 (hb_0 _ _ _ _) rfl ?_
              refine zw_virtual_v 7 0 0 [.ref 11] [(0, .ref 11)] f107_4 rfl n107_318 k107_318_10 rfl (hb_11 _ _ _ _) (by decide +kernel) (Nat.le_of_ble_eq_true rfl) rfl rfl (by decide +kernel) (by decide +kernel) rfl (Nat.le_of_ble_eq_true rfl) rfl ?_
              refine zWp.mono (ck_X10_settle_11 ro nv np I_42 _ _ _ hV_42.1 ) ?_
              rintro r h1 ⟨I_45, G_45, A_45, B_45, rfl, K_45, hI_45, rfl⟩
              refine ⟨rfl, ?_⟩
              have hV_45 : CV nv np cm I_45 := CV.of (I := I_42) hV_42 K_45 hI_45
              have K_45 := KP.tr K_42 (KP.wk K_45 pWN)
              refine zw_aload_n 8 f107_7 rfl rfl ?_
              refine zw_getfield 11 f107_8 rfl g107_31_11 (hb_0 _ _ _ _) rfl ?_
              refine zw_aload_n 12 f107_11 rfl rfl ?_
              refine zw_getfield 15 f107_12 rfl g107_21_11 (hb_0 _ _ _ _) rfl ?_
              refine zw_virtual_v 18 0 0 [.ref 33, .ref 11] [(0, .ref 33), (1, .ref 11)] f107_15 rfl n107_187 k107_187_3 rfl (hb_33 _ _ _ _) (by decide +kernel) (Nat.le_of_ble_eq_true rfl) rfl rfl (by decide +kernel) (by decide +kernel) rfl (Nat.le_of_ble_eq_true rfl) rfl ?_
              refine zWp.mono (cv_X3_take_33 ro nv np cm I_45 _ _ _ hV_45 (by omega) ) ?_
              rintro r h1 ⟨I_47, G_47, A_47, B_47, rfl, K_47, hV_47, rfl⟩
              refine ⟨rfl, ?_⟩
              have K_47 := KP.tr K_45 K_47
              refine zw_aload_n 19 f107_18 rfl rfl ?_
              refine zw_iload_n 20 f107_19 rfl rfl ?_
              refine zw_virtual_i 23 0 0 [.ref 0, .int 0] [(0, .ref 0), (1, .int 0)] f107_20 rfl n107_181 k107_181_11 rfl (hb_0 _ _ _ _) (by decide +kernel) (Nat.le_of_ble_eq_true rfl) rfl rfl (by decide +kernel) (by decide +kernel) rfl (Nat.le_of_ble_eq_true rfl) rfl ?_
              refine zw_aload_n 1 f106_0 rfl rfl ?_
              refine zw_iconst 0 2 f106_1 rfl (by decide +kernel) ?_
              refine zw_put _ 5 f106_2 rfl g106_70_11 (hb_0 _ _ _ _) rfl (Nat.le_of_ble_eq_true rfl) (by decide +kernel) (hi_0_7 _ _ _ _ _) ?_
              refine zw_iload_n 6 f106_5 rfl rfl ?_
              refine zw_ireturn f106_6 r106 u106 ⟨_, rfl, ?_⟩
              refine zw_ireturn f107_23 r107 u107 ⟨_, rfl, ?_⟩
              refine zw_ireturn f85_71 r85 u85 ?_
              exact ⟨_, _, _, _, rfl, (KP.i rfl K_47), CV.mono hV_47 (by omega), ⟨_, rfl⟩⟩
            · refine zw_iconst 1 64 f85_63 rfl (by decide +kernel) ?_
              refine zw_goto 68 f85_64 (by decide +kernel) ?_
              refine zw_virtual_i 71 0 0 [.ref 0, .int 1] [(0, .ref 0), (1, .int 1)] f85_68 rfl n85_86 k85_86_11 rfl (hb_0 _ _ _ _) (by decide +kernel) (Nat.le_of_ble_eq_true rfl) rfl rfl (by decide +kernel) (by decide +kernel) rfl (Nat.le_of_ble_eq_true rfl) rfl ?_
              refine zw_aload_n 1 f107_0 rfl rfl ?_
              refine zw_getfield 4 f107_1 rfl g107_21_11 (hb_0 _ _ _ _) rfl ?_
              refine zw_virtual_v 7 0 0 [.ref 11] [(0, .ref 11)] f107_4 rfl n107_318 k107_318_10 rfl (hb_11 _ _ _ _) (by decide +kernel) (Nat.le_of_ble_eq_true rfl) rfl rfl (by decide +kernel) (by decide +kernel) rfl (Nat.le_of_ble_eq_true rfl) rfl ?_
              refine zWp.mono (ck_X10_settle_11 ro nv np I_42 _ _ _ hV_42.1 ) ?_
              rintro r h1 ⟨I_49, G_49, A_49, B_49, rfl, K_49, hI_49, rfl⟩
              refine ⟨rfl, ?_⟩
              have hV_49 : CV nv np cm I_49 := CV.of (I := I_42) hV_42 K_49 hI_49
              have K_49 := KP.tr K_42 (KP.wk K_49 pWN)
              refine zw_aload_n 8 f107_7 rfl rfl ?_
              refine zw_getfield 11 f107_8 rfl g107_31_11 (hb_0 _ _ _ _) rfl ?_
              refine zw_aload_n 12 f107_11 rfl rfl ?_
              refine zw_getfield 15 f107_12 rfl g107_21_11 (hb_0 _ _ _ _) rfl ?_
              refine zw_virtual_v 18 0 0 [.ref 33, .ref 11] [(0, .ref 33), (1, .ref 11)] f107_15 rfl n107_187 k107_187_3 rfl (hb_33 _ _ _ _) (by decide +kernel) (Nat.le_of_ble_eq_true rfl) rfl rfl (by decide +kernel) (by decide +kernel) rfl (Nat.le_of_ble_eq_true rfl) rfl ?_
              refine zWp.mono (cv_X3_take_33 ro nv np cm I_49 _ _ _ hV_49 (by omega) ) ?_
              rintro r h1 ⟨I_51, G_51, A_51, B_51, rfl, K_51, hV_51, rfl⟩
              refine ⟨rfl, ?_⟩
              have K_51 := KP.tr K_49 K_51
              refine zw_aload_n 19 f107_18 rfl rfl ?_
              refine zw_iload_n 20 f107_19 rfl rfl ?_
              refine zw_virtual_i 23 0 0 [.ref 0, .int 1] [(0, .ref 0), (1, .int 1)] f107_20 rfl n107_181 k107_181_11 rfl (hb_0 _ _ _ _) (by decide +kernel) (Nat.le_of_ble_eq_true rfl) rfl rfl (by decide +kernel) (by decide +kernel) rfl (Nat.le_of_ble_eq_true rfl) rfl ?_
              refine zw_aload_n 1 f106_0 rfl rfl ?_
              refine zw_iconst 0 2 f106_1 rfl (by decide +kernel) ?_
              refine zw_put _ 5 f106_2 rfl g106_70_11 (hb_0 _ _ _ _) rfl (Nat.le_of_ble_eq_true rfl) (by decide +kernel) (hi_0_7 _ _ _ _ _) ?_
              refine zw_iload_n 6 f106_5 rfl rfl ?_
              refine zw_ireturn f106_6 r106 u106 ⟨_, rfl, ?_⟩
              refine zw_ireturn f107_23 r107 u107 ⟨_, rfl, ?_⟩
              refine zw_ireturn f85_71 r85 u85 ?_
              exact ⟨_, _, _, _, rfl, (KP.i rfl K_51), CV.mono hV_51 (by omega), ⟨_, rfl⟩⟩
set_option maxRecDepth 100000 in
set_option maxHeartbeats 0 in
theorem lcv_X11_go_34 (ro : UInt32 → Nat × (Nat → Int32)) (nv np cm : Nat) (I : Nat → Nat → Int32) (G : Nat → Nat → Int64) (A : Nat → Nat → Int32) (B : Nat → Nat → Int64) (hI : CV nv np cm I) (hcm : cm < 1000000000) (a : Int32) : ∀ (n k : Nat) (ls : List (Nat × Value)) (I1 : Nat → Nat → Int32) (G1 : Nat → Nat → Int64) (A1 : Nat → Nat → Int32) (B1 : Nat → Nat → Int64), KP pN I G A B I1 G1 A1 B1 → CV nv np (cm + 8 * k) I1 → ∀ (y2 : Int32), True → zld ls 0 = some (.ref 0) → zld ls 1 = some (.int a) → zld ls 2 = some (.int y2) → zld ls 3 = some (.int (nI k)) → k ≤ 151 → 151 + 1 ≤ k + n → zWp ro 87 34 ls [] (hS I1 G1 A1 B1) 0 0 (zWv pN nv np (cm + 1216) I G A B zRt1) := by
  have hnv := hI.1.1.2
  have hnp := hI.1.2.1.2
  intro n
  induction n with
  | zero =>
    intro k ls I1 G1 A1 B1 K hJ y2 _ hl0 hl1 hl2 hl3 h1 h2
    exact absurd h2 (by omega)
  | succ n ih =>
    intro k ls I1 G1 A1 B1 K hJ y2 _ hl0 hl1 hl2 hl3 hk1 hk2
    refine zw_iload_n 35 f87_34 rfl hl3 ?_
    refine zw_sipush 150 38 f87_35 rfl (by decide +kernel) ?_
    refine zw_ic_gt 41 131 f87_38 (by decide +kernel) rfl (fun hc1 => ?_) (fun hc1 => ?_)
    · have hn_hc1 : 150 < k := zn_lt (by omega) (by omega) (Int32.not_le.mpr hc1)
      refine zw_aload_n 132 f87_131 rfl hl0 ?_
      refine zw_iconst 4 133 f87_132 rfl (by decide +kernel) ?_
      refine zw_virtual_i 136 0 0 [.ref 0, .int 4] [(0, .ref 0), (1, .int 4)] f87_133 rfl n87_78 k87_78_11 rfl (hb_0 _ _ _ _) (by decide +kernel) (Nat.le_of_ble_eq_true rfl) rfl rfl (by decide +kernel) (by decide +kernel) rfl (Nat.le_of_ble_eq_true rfl) rfl ?_
      refine zw_aload_n 1 f105_0 rfl rfl ?_
      refine zw_iload_n 2 f105_1 rfl rfl ?_
      refine zw_put _ 5 f105_2 rfl g105_70_11 (hb_0 _ _ _ _) rfl (Nat.le_of_ble_eq_true rfl) (by decide +kernel) (hi_0_7 _ _ _ _ _) ?_
      refine zw_iconst (-1) 6 f105_5 rfl (by decide +kernel) ?_
      refine zw_ireturn f105_6 r105 u105 ⟨_, rfl, ?_⟩
      refine zw_ireturn f87_136 r87 u87 ?_
      exact ⟨_, _, _, _, rfl, (KP.i rfl K), CV.mono hJ (by omega), ⟨_, rfl⟩⟩
    · have hn_hc1 : k ≤ 150 := zn_ge (by omega) (by omega) (Int32.not_lt.mp hc1)
      refine zw_aload_n 42 f87_41 rfl hl0 ?_
      refine zw_getfield 45 f87_42 rfl g87_21_11 (hb_0 _ _ _ _) rfl ?_
      refine zw_virtual_v 48 0 0 [.ref 11] [(0, .ref 11)] f87_45 rfl n87_167 k87_167_10 rfl (hb_11 _ _ _ _) (by decide +kernel) (Nat.le_of_ble_eq_true rfl) rfl rfl (by decide +kernel) (by decide +kernel) rfl (Nat.le_of_ble_eq_true rfl) rfl ?_
      refine zWp.mono (ck_X10_seekNext_11 ro nv np I1 _ _ _ hJ.1 ) ?_
      rintro r h1 ⟨I_3, G_3, A_3, B_3, rfl, K_3, hI_3, rfl⟩
      refine ⟨rfl, ?_⟩
      have hV_3 : CV nv np (cm + 8 * k) I_3 := CV.of (I := I1) hJ K_3 hI_3
      have K_3 := KP.tr K (KP.wk K_3 pWN)
      refine zw_aload_n 49 f87_48 rfl hl0 ?_
      refine zw_getfield 52 f87_49 rfl g87_21_11 (hb_0 _ _ _ _) rfl ?_
      refine zw_virtual_i 55 0 0 [.ref 11] [(0, .ref 11)] f87_52 rfl n87_170 k87_170_10 rfl (hb_11 _ _ _ _) (by decide +kernel) (Nat.le_of_ble_eq_true rfl) rfl rfl (by decide +kernel) (by decide +kernel) rfl (Nat.le_of_ble_eq_true rfl) rfl ?_
      refine zWp.mono (cp_X10_rests_11 ro nv np I_3 _ _ _ hV_3.1 ) ?_
      rintro r h1 ⟨rfl, ⟨w4, rfl, hw4⟩⟩
      refine ⟨_, rfl, ?_⟩
      refine zw_if_ne 58 69 f87_55 (by decide +kernel) rfl (fun hc5 => ?_) (fun hc5 => ?_)
      · refine zw_aload_n 70 f87_69 rfl hl0 ?_
        refine zw_getfield 73 f87_70 rfl g87_21_11 (hb_0 _ _ _ _) rfl ?_
        refine zw_iload_n 74 f87_73 rfl hl1 ?_
        refine zw_virtual_v 77 0 0 [.ref 11, .int a] [(0, .ref 11), (1, .int a)] f87_74 rfl n87_177 k87_177_10 rfl (hb_11 _ _ _ _) (by decide +kernel) (Nat.le_of_ble_eq_true rfl) rfl rfl (by decide +kernel) (by decide +kernel) rfl (Nat.le_of_ble_eq_true rfl) rfl ?_
        refine zWp.mono (ck_X10_passTo_11 ro nv np I_3 _ _ _ hV_3.1 a) ?_
        rintro r h1 ⟨I_7, G_7, A_7, B_7, rfl, K_7, hI_7, rfl⟩
        refine ⟨rfl, ?_⟩
        have hV_7 : CV nv np (cm + 8 * k) I_7 := CV.of (I := I_3) hV_3 K_7 hI_7
        have K_7 := KP.tr K_3 (KP.wk K_7 pWN)
        refine zw_aload_n 78 f87_77 rfl hl0 ?_
        refine zw_aload_n 79 f87_78 rfl hl0 ?_
        refine zw_getfield 82 f87_79 rfl g87_31_11 (hb_0 _ _ _ _) rfl ?_
        obtain ⟨x8p, x8q, x8e⟩ := hV_7.2.1
        refine zw_getI (nI x8p) 85 f87_82 rfl g87_164_3 (hb_33 _ _ _ _) rfl x8e ?_
        refine zw_iload_n 86 f87_85 rfl hl2 ?_
        refine zx_isub 87 f87_86 rfl (fun w9 hw9 => ?_)
        refine zw_virtual_i 90 0 0 [.ref 0, .int w9] [(0, .ref 0), (1, .int w9)] f87_87 rfl n87_181 k87_181_11 rfl (hb_0 _ _ _ _) (by decide +kernel) (Nat.le_of_ble_eq_true rfl) rfl rfl (by decide +kernel) (by decide +kernel) rfl (Nat.le_of_ble_eq_true rfl) rfl ?_
        refine zw_aload_n 1 f106_0 rfl rfl ?_
        refine zw_iconst 0 2 f106_1 rfl (by decide +kernel) ?_
        refine zw_put _ 5 f106_2 rfl g106_70_11 (hb_0 _ _ _ _) rfl (Nat.le_of_ble_eq_true rfl) (by decide +kernel) (hi_0_7 _ _ _ _ _) ?_
        refine zw_iload_n 6 f106_5 rfl rfl ?_
        refine zw_ireturn f106_6 r106 u106 ⟨_, rfl, ?_⟩
        refine zw_ireturn f87_90 r87 u87 ?_
        exact ⟨_, _, _, _, rfl, (KP.i rfl K_7), CV.mono hV_7 (by omega), ⟨_, rfl⟩⟩
      · refine zw_aload_n 59 f87_58 rfl hl0 ?_
        refine zw_getfield 62 f87_59 rfl g87_21_11 (hb_0 _ _ _ _) rfl ?_
        refine zw_iload_n 63 f87_62 rfl hl1 ?_
        refine zw_virtual_i 66 0 0 [.ref 11, .int a] [(0, .ref 11), (1, .int a)] f87_63 rfl n87_174 k87_174_10 rfl (hb_11 _ _ _ _) (by decide +kernel) (Nat.le_of_ble_eq_true rfl) rfl rfl (by decide +kernel) (by decide +kernel) rfl (Nat.le_of_ble_eq_true rfl) rfl ?_
        refine zWp.mono (cp_X10_nextIsBehind_11 ro nv np I_3 _ _ _ hV_3.1 a) ?_
        rintro r h1 ⟨rfl, ⟨w10, rfl, hw10⟩⟩
        refine ⟨_, rfl, ?_⟩
        refine zw_if_eq 69 91 f87_66 (by decide +kernel) rfl (fun hc11 => ?_) (fun hc11 => ?_)
        · refine zw_iload_n 92 f87_91 rfl hl3 ?_
          refine zw_sipush 150 95 f87_92 rfl (by decide +kernel) ?_
          refine zw_ic_eq 98 108 f87_95 (by decide +kernel) rfl (fun hc12 => ?_) (fun hc12 => ?_)
          · refine zw_aload_n 109 f87_108 rfl hl0 ?_
            refine zw_iconst 4 110 f87_109 rfl (by decide +kernel) ?_
            refine zw_virtual_i 113 0 0 [.ref 0, .int 4] [(0, .ref 0), (1, .int 4)] f87_110 rfl n87_78 k87_78_11 rfl (hb_0 _ _ _ _) (by decide +kernel) (Nat.le_of_ble_eq_true rfl) rfl rfl (by decide +kernel) (by decide +kernel) rfl (Nat.le_of_ble_eq_true rfl) rfl ?_
            refine zw_aload_n 1 f105_0 rfl rfl ?_
            refine zw_iload_n 2 f105_1 rfl rfl ?_
            refine zw_put _ 5 f105_2 rfl g105_70_11 (hb_0 _ _ _ _) rfl (Nat.le_of_ble_eq_true rfl) (by decide +kernel) (hi_0_7 _ _ _ _ _) ?_
            refine zw_iconst (-1) 6 f105_5 rfl (by decide +kernel) ?_
            refine zw_ireturn f105_6 r105 u105 ⟨_, rfl, ?_⟩
            refine zw_ireturn f87_113 r87 u87 ?_
            exact ⟨_, _, _, _, rfl, (KP.i rfl K_3), CV.mono hV_3 (by omega), ⟨_, rfl⟩⟩
          · refine zw_aload_n 99 f87_98 rfl hl0 ?_
            refine zw_getfield 102 f87_99 rfl g87_21_11 (hb_0 _ _ _ _) rfl ?_
            refine zw_virtual_i 105 0 0 [.ref 11] [(0, .ref 11)] f87_102 rfl n87_184 k87_184_10 rfl (hb_11 _ _ _ _) (by decide +kernel) (Nat.le_of_ble_eq_true rfl) rfl rfl (by decide +kernel) (by decide +kernel) rfl (Nat.le_of_ble_eq_true rfl) rfl ?_
            refine zWp.mono (ck_X10_step_11 ro nv np I_3 _ _ _ hV_3.1 ) ?_
            rintro r h1 ⟨I_14, G_14, A_14, B_14, rfl, K_14, hI_14, ⟨w13, rfl, hw13⟩⟩
            refine ⟨_, rfl, ?_⟩
            have hV_14 : CV nv np (cm + 8 * k) I_14 := CV.of (I := I_3) hV_3 K_14 hI_14
            have K_14 := KP.tr K_3 (KP.wk K_14 pWN)
            refine zw_if_ne 108 114 f87_105 (by decide +kernel) rfl (fun hc15 => ?_) (fun hc15 => ?_)
            · refine zw_aload_n 115 f87_114 rfl hl0 ?_
              refine zw_getfield 118 f87_115 rfl g87_31_11 (hb_0 _ _ _ _) rfl ?_
              refine zw_aload_n 119 f87_118 rfl hl0 ?_
              refine zw_getfield 122 f87_119 rfl g87_21_11 (hb_0 _ _ _ _) rfl ?_
              refine zw_virtual_v 125 0 0 [.ref 33, .ref 11] [(0, .ref 33), (1, .ref 11)] f87_122 rfl n87_187 k87_187_3 rfl (hb_33 _ _ _ _) (by decide +kernel) (Nat.le_of_ble_eq_true rfl) rfl rfl (by decide +kernel) (by decide +kernel) rfl (Nat.le_of_ble_eq_true rfl) rfl ?_
              refine zWp.mono (cv_X3_take_33 ro nv np (cm + 8 * k) I_14 _ _ _ hV_14 (by omega) ) ?_
              rintro r h1 ⟨I_17, G_17, A_17, B_17, rfl, K_17, hV_17, rfl⟩
              refine ⟨rfl, ?_⟩
              have K_17 := KP.tr K_14 K_17
              refine zw_iinc (nI (k + 1)) _ 128 f87_125 rfl hl3 (by decide +kernel) (nI_1 _) rfl ?_
              refine zw_goto 34 f87_128 (by decide +kernel) ?_
              exact ih ((k + 1)) _ _ _ _ _ K_17 (CV.mono hV_17 (by omega)) y2 trivial (zl1_ne rfl rfl hl0) (zl1_ne rfl rfl hl1) (zl1_ne rfl rfl hl2) zl1_eq (by omega) (by omega)
            · refine zw_aload_n 109 f87_108 rfl hl0 ?_
              refine zw_iconst 4 110 f87_109 rfl (by decide +kernel) ?_
              refine zw_virtual_i 113 0 0 [.ref 0, .int 4] [(0, .ref 0), (1, .int 4)] f87_110 rfl n87_78 k87_78_11 rfl (hb_0 _ _ _ _) (by decide +kernel) (Nat.le_of_ble_eq_true rfl) rfl rfl (by decide +kernel) (by decide +kernel) rfl (Nat.le_of_ble_eq_true rfl) rfl ?_
              refine zw_aload_n 1 f105_0 rfl rfl ?_
              refine zw_iload_n 2 f105_1 rfl rfl ?_
              refine zw_put _ 5 f105_2 rfl g105_70_11 (hb_0 _ _ _ _) rfl (Nat.le_of_ble_eq_true rfl) (by decide +kernel) (hi_0_7 _ _ _ _ _) ?_
              refine zw_iconst (-1) 6 f105_5 rfl (by decide +kernel) ?_
              refine zw_ireturn f105_6 r105 u105 ⟨_, rfl, ?_⟩
              refine zw_ireturn f87_113 r87 u87 ?_
              exact ⟨_, _, _, _, rfl, (KP.i rfl K_14), CV.mono hV_14 (by omega), ⟨_, rfl⟩⟩
        · refine zw_aload_n 70 f87_69 rfl hl0 ?_
          refine zw_getfield 73 f87_70 rfl g87_21_11 (hb_0 _ _ _ _) rfl ?_
          refine zw_iload_n 74 f87_73 rfl hl1 ?_
          refine zw_virtual_v 77 0 0 [.ref 11, .int a] [(0, .ref 11), (1, .int a)] f87_74 rfl n87_177 k87_177_10 rfl (hb_11 _ _ _ _) (by decide +kernel) (Nat.le_of_ble_eq_true rfl) rfl rfl (by decide +kernel) (by decide +kernel) rfl (Nat.le_of_ble_eq_true rfl) rfl ?_
          refine zWp.mono (ck_X10_passTo_11 ro nv np I_3 _ _ _ hV_3.1 a) ?_
          rintro r h1 ⟨I_19, G_19, A_19, B_19, rfl, K_19, hI_19, rfl⟩
          refine ⟨rfl, ?_⟩
          have hV_19 : CV nv np (cm + 8 * k) I_19 := CV.of (I := I_3) hV_3 K_19 hI_19
          have K_19 := KP.tr K_3 (KP.wk K_19 pWN)
          refine zw_aload_n 78 f87_77 rfl hl0 ?_
          refine zw_aload_n 79 f87_78 rfl hl0 ?_
          refine zw_getfield 82 f87_79 rfl g87_31_11 (hb_0 _ _ _ _) rfl ?_
          obtain ⟨x20p, x20q, x20e⟩ := hV_19.2.1
          refine zw_getI (nI x20p) 85 f87_82 rfl g87_164_3 (hb_33 _ _ _ _) rfl x20e ?_
          refine zw_iload_n 86 f87_85 rfl hl2 ?_
          refine zx_isub 87 f87_86 rfl (fun w21 hw21 => ?_)
          refine zw_virtual_i 90 0 0 [.ref 0, .int w21] [(0, .ref 0), (1, .int w21)] f87_87 rfl n87_181 k87_181_11 rfl (hb_0 _ _ _ _) (by decide +kernel) (Nat.le_of_ble_eq_true rfl) rfl rfl (by decide +kernel) (by decide +kernel) rfl (Nat.le_of_ble_eq_true rfl) rfl ?_
          refine zw_aload_n 1 f106_0 rfl rfl ?_
          refine zw_iconst 0 2 f106_1 rfl (by decide +kernel) ?_
          refine zw_put _ 5 f106_2 rfl g106_70_11 (hb_0 _ _ _ _) rfl (Nat.le_of_ble_eq_true rfl) (by decide +kernel) (hi_0_7 _ _ _ _ _) ?_
          refine zw_iload_n 6 f106_5 rfl rfl ?_
          refine zw_ireturn f106_6 r106 u106 ⟨_, rfl, ?_⟩
          refine zw_ireturn f87_90 r87 u87 ?_
          exact ⟨_, _, _, _, rfl, (KP.i rfl K_19), CV.mono hV_19 (by omega), ⟨_, rfl⟩⟩
set_option maxRecDepth 100000 in
set_option maxHeartbeats 0 in
theorem cv_X11_go (ro : UInt32 → Nat × (Nat → Int32)) (nv np cm : Nat) (I : Nat → Nat → Int32) (G : Nat → Nat → Int64) (A : Nat → Nat → Int32) (B : Nat → Nat → Int64) (hI : CV nv np cm I) (hcm : cm < 1000000000) (a : Int32) : zWp ro 87 0 [(0, .ref 0), (1, .int a)] [] (hS I G A B) 0 0 (zWv pN nv np (cm + 1216) I G A B zRt1) := by
  have hnv := hI.1.1.2
  have hnp := hI.1.2.1.2
  refine zw_iload_n 1 f87_0 rfl rfl ?_
  refine zw_sipush 10000 4 f87_1 rfl (by decide +kernel) ?_
  refine zw_ic_gt 7 18 f87_4 (by decide +kernel) rfl (fun hc1 => ?_) (fun hc1 => ?_)
  · refine zw_aload_n 19 f87_18 rfl rfl ?_
    refine zw_iconst 1 20 f87_19 rfl (by decide +kernel) ?_
    refine zw_virtual_i 23 0 0 [.ref 0, .int 1] [(0, .ref 0), (1, .int 1)] f87_20 rfl n87_78 k87_78_11 rfl (hb_0 _ _ _ _) (by decide +kernel) (Nat.le_of_ble_eq_true rfl) rfl rfl (by decide +kernel) (by decide +kernel) rfl (Nat.le_of_ble_eq_true rfl) rfl ?_
    refine zw_aload_n 1 f105_0 rfl rfl ?_
    refine zw_iload_n 2 f105_1 rfl rfl ?_
    refine zw_put _ 5 f105_2 rfl g105_70_11 (hb_0 _ _ _ _) rfl (Nat.le_of_ble_eq_true rfl) (by decide +kernel) (hi_0_7 _ _ _ _ _) ?_
    refine zw_iconst (-1) 6 f105_5 rfl (by decide +kernel) ?_
    refine zw_ireturn f105_6 r105 u105 ⟨_, rfl, ?_⟩
    refine zw_ireturn f87_23 r87 u87 ?_
    exact ⟨_, _, _, _, rfl, (KP.i rfl KP.rf), CV.mono hI (by omega), ⟨_, rfl⟩⟩
  · refine zw_aload_n 8 f87_7 rfl rfl ?_
    refine zw_getfield 11 f87_8 rfl g87_21_11 (hb_0 _ _ _ _) rfl ?_
    refine zw_iload_n 12 f87_11 rfl rfl ?_
    refine zw_virtual_i 15 0 0 [.ref 11, .int a] [(0, .ref 11), (1, .int a)] f87_12 rfl n87_161 k87_161_10 rfl (hb_11 _ _ _ _) (by decide +kernel) (Nat.le_of_ble_eq_true rfl) rfl rfl (by decide +kernel) (by decide +kernel) rfl (Nat.le_of_ble_eq_true rfl) rfl ?_
    refine zWp.mono (cp_X10_isBehind_11 ro nv np I _ _ _ hI.1 a) ?_
    rintro r h1 ⟨rfl, ⟨w2, rfl, hw2⟩⟩
    refine ⟨_, rfl, ?_⟩
    refine zw_if_eq 18 24 f87_15 (by decide +kernel) rfl (fun hc3 => ?_) (fun hc3 => ?_)
    · refine zw_aload_n 25 f87_24 rfl rfl ?_
      refine zw_getfield 28 f87_25 rfl g87_31_11 (hb_0 _ _ _ _) rfl ?_
      obtain ⟨x4p, x4q, x4e⟩ := hI.2.1
      refine zw_getI (nI x4p) 31 f87_28 rfl g87_164_3 (hb_33 _ _ _ _) rfl x4e ?_
      refine zw_istore_n _ 32 f87_31 rfl (by decide +kernel) rfl ?_
      refine zw_iconst 0 33 f87_32 rfl (by decide +kernel) ?_
      refine zw_istore_n _ 34 f87_33 rfl (by decide +kernel) rfl ?_
      exact lcv_X11_go_34 ro nv np cm I G A B hI hcm a (151 + 1) 0 _ _ _ _ _ KP.rf (CV.mono hI (by omega)) (nI x4p) trivial (zl1_ne rfl rfl (zl1_ne rfl rfl rfl)) (zl1_ne rfl rfl (zl1_ne rfl rfl rfl)) (zl1_ne rfl rfl zl1_eq) (show zld _ _ = some (.int (nI 0)) from zl1_eq) (by omega) (by omega)
    · refine zw_aload_n 19 f87_18 rfl rfl ?_
      refine zw_iconst 1 20 f87_19 rfl (by decide +kernel) ?_
      refine zw_virtual_i 23 0 0 [.ref 0, .int 1] [(0, .ref 0), (1, .int 1)] f87_20 rfl n87_78 k87_78_11 rfl (hb_0 _ _ _ _) (by decide +kernel) (Nat.le_of_ble_eq_true rfl) rfl rfl (by decide +kernel) (by decide +kernel) rfl (Nat.le_of_ble_eq_true rfl) rfl ?_
      refine zw_aload_n 1 f105_0 rfl rfl ?_
      refine zw_iload_n 2 f105_1 rfl rfl ?_
      refine zw_put _ 5 f105_2 rfl g105_70_11 (hb_0 _ _ _ _) rfl (Nat.le_of_ble_eq_true rfl) (by decide +kernel) (hi_0_7 _ _ _ _ _) ?_
      refine zw_iconst (-1) 6 f105_5 rfl (by decide +kernel) ?_
      refine zw_ireturn f105_6 r105 u105 ⟨_, rfl, ?_⟩
      refine zw_ireturn f87_23 r87 u87 ?_
      exact ⟨_, _, _, _, rfl, (KP.i rfl KP.rf), CV.mono hI (by omega), ⟨_, rfl⟩⟩
set_option maxRecDepth 100000 in
set_option maxHeartbeats 0 in
theorem cv_X11_now (ro : UInt32 → Nat × (Nat → Int32)) (nv np cm : Nat) (I : Nat → Nat → Int32) (G : Nat → Nat → Int64) (A : Nat → Nat → Int32) (B : Nat → Nat → Int64) (hI : CV nv np cm I) (hcm : cm < 1000000000) (a : Int32) : zWp ro 88 0 [(0, .ref 0), (1, .int a)] [] (hS I G A B) 0 0 (zWv pN nv np (cm + 0) I G A B zRt1) := by
  have hnv := hI.1.1.2
  have hnp := hI.1.2.1.2
  refine zw_iload_n 1 f88_0 rfl rfl ?_
  rcases zl_sw 2 (by decide) a with hs1 | ⟨hs1k, hs1l, hs1e⟩
  · refine zw_table_o 90 f88_1 hs1 (by decide +kernel) ?_
    refine zw_iconst (-1) 91 f88_90 rfl (by decide +kernel) ?_
    refine zw_ireturn f88_91 r88 u88 ?_
    exact ⟨_, _, _, _, rfl, KP.rf, CV.mono hI (by omega), ⟨_, rfl⟩⟩
  · rcases (show hs1k = 0 ∨ hs1k = 1 ∨ hs1k = 2 by omega) with rfl | rfl | rfl
    · refine zw_table_k 27 28 f88_1 hs1e (by decide +kernel) (by decide +kernel) (by decide +kernel) ?_
      refine zw_aload_n 29 f88_28 rfl rfl ?_
      refine zw_getfield 32 f88_29 rfl g88_21_11 (hb_0 _ _ _ _) rfl ?_
      refine zw_getfield 35 f88_32 rfl g88_134_10 (hb_11 _ _ _ _) rfl ?_
      refine zx_getG 38 f88_35 rfl g88_191_9 (hb_12 _ _ _ _) rfl (fun w2 hw2 => ?_)
      refine zw_aload_n 39 f88_38 rfl rfl ?_
      refine zw_getfield 42 f88_39 rfl g88_21_11 (hb_0 _ _ _ _) rfl ?_
      refine zw_getfield 45 f88_42 rfl g88_134_10 (hb_11 _ _ _ _) rfl ?_
      refine zx_getG 48 f88_45 rfl g88_151_9 (hb_12 _ _ _ _) rfl (fun w3 hw3 => ?_)
      refine zw_static_l 51 0 0 [.long w2, .long w3] [] [(0, .long w2), (2, .long w3)] f88_48 rfl k88_194_99 rfl (by decide +kernel) (Nat.le_of_ble_eq_true rfl) (Nat.le_of_ble_eq_true rfl) rfl rfl (by decide +kernel) (by decide +kernel) rfl (Nat.le_of_ble_eq_true rfl) rfl ?_
      refine zWp.mono (cp_X11_above ro nv np I _ _ _ hI.1 w2 w3) ?_
      rintro r h1 ⟨rfl, ⟨w4, rfl⟩⟩
      refine ⟨_, rfl, ?_⟩
      refine zx_l2i 52 f88_51 rfl (fun w5 hw5 => ?_)
      refine zw_ireturn f88_52 r88 u88 ?_
      exact ⟨_, _, _, _, rfl, KP.rf, CV.mono hI (by omega), ⟨_, rfl⟩⟩
    · refine zw_table_k 52 53 f88_1 hs1e (by decide +kernel) (by decide +kernel) (by decide +kernel) ?_
      refine zw_aload_n 54 f88_53 rfl rfl ?_
      refine zw_getfield 57 f88_54 rfl g88_21_11 (hb_0 _ _ _ _) rfl ?_
      refine zw_getfield 60 f88_57 rfl g88_134_10 (hb_11 _ _ _ _) rfl ?_
      refine zx_getG 63 f88_60 rfl g88_191_9 (hb_12 _ _ _ _) rfl (fun w6 hw6 => ?_)
      refine zw_aload_n 64 f88_63 rfl rfl ?_
      refine zw_getfield 67 f88_64 rfl g88_21_11 (hb_0 _ _ _ _) rfl ?_
      refine zw_getfield 70 f88_67 rfl g88_134_10 (hb_11 _ _ _ _) rfl ?_
      refine zx_getG 73 f88_70 rfl g88_151_9 (hb_12 _ _ _ _) rfl (fun w7 hw7 => ?_)
      refine zw_static_l 76 0 0 [.long w6, .long w7] [] [(0, .long w6), (2, .long w7)] f88_73 rfl k88_198_99 rfl (by decide +kernel) (Nat.le_of_ble_eq_true rfl) (Nat.le_of_ble_eq_true rfl) rfl rfl (by decide +kernel) (by decide +kernel) rfl (Nat.le_of_ble_eq_true rfl) rfl ?_
      refine zWp.mono (cp_X11_below ro nv np I _ _ _ hI.1 w6 w7) ?_
      rintro r h1 ⟨rfl, ⟨w8, rfl⟩⟩
      refine ⟨_, rfl, ?_⟩
      refine zx_l2i 77 f88_76 rfl (fun w9 hw9 => ?_)
      refine zw_ireturn f88_77 r88 u88 ?_
      exact ⟨_, _, _, _, rfl, KP.rf, CV.mono hI (by omega), ⟨_, rfl⟩⟩
    · refine zw_table_k 77 78 f88_1 hs1e (by decide +kernel) (by decide +kernel) (by decide +kernel) ?_
      refine zw_aload_n 79 f88_78 rfl rfl ?_
      refine zw_getfield 82 f88_79 rfl g88_21_11 (hb_0 _ _ _ _) rfl ?_
      refine zw_getfield 85 f88_82 rfl g88_134_10 (hb_11 _ _ _ _) rfl ?_
      refine zx_getG 88 f88_85 rfl g88_151_9 (hb_12 _ _ _ _) rfl (fun w10 hw10 => ?_)
      refine zx_l2i 89 f88_88 rfl (fun w11 hw11 => ?_)
      refine zw_ireturn f88_89 r88 u88 ?_
      exact ⟨_, _, _, _, rfl, KP.rf, CV.mono hI (by omega), ⟨_, rfl⟩⟩
set_option maxRecDepth 100000 in
set_option maxHeartbeats 0 in
theorem cv_X11_next (ro : UInt32 → Nat × (Nat → Int32)) (nv np cm : Nat) (I : Nat → Nat → Int32) (G : Nat → Nat → Int64) (A : Nat → Nat → Int32) (B : Nat → Nat → Int64) (hI : CV nv np cm I) (hcm : cm < 1000000000) (a : Int32) : zWp ro 89 0 [(0, .ref 0), (1, .int a)] [] (hS I G A B) 0 0 (zWv pN nv np (cm + 0) I G A B zRt3) := by
  have hnv := hI.1.1.2
  have hnp := hI.1.2.1.2
  refine zw_iload_n 1 f89_0 rfl rfl ?_
  refine zw_iconst 0 2 f89_1 rfl (by decide +kernel) ?_
  refine zw_iconst 1 3 f89_2 rfl (by decide +kernel) ?_
  refine zw_static_i 6 0 0 [.int a, .int 0, .int 1] [] [(0, .int a), (1, .int 0), (2, .int 1)] f89_3 rfl k89_74_99 rfl (by decide +kernel) (Nat.le_of_ble_eq_true rfl) (Nat.le_of_ble_eq_true rfl) rfl rfl (by decide +kernel) (by decide +kernel) rfl (Nat.le_of_ble_eq_true rfl) rfl ?_
  refine zw_iload_n 1 f112_0 rfl rfl ?_
  refine zw_iload_n 2 f112_1 rfl rfl ?_
  refine zw_ic_lt 5 14 f112_2 (by decide +kernel) rfl (fun hc1 => ?_) (fun hc1 => ?_)
  · refine zw_iconst 0 15 f112_14 rfl (by decide +kernel) ?_
    refine zw_zreturn f112_15 r112 u112 (by decide +kernel) ⟨_, rfl, ?_⟩
    refine zw_if_ne_f 9 13 f89_6 (by decide +kernel) rfl (by decide +kernel) ?_
    refine zw_ldc2_w (-1) 12 f89_9 rfl (by decide +kernel) ?_
    refine zw_lreturn f89_12 r89 u89 ?_
    exact ⟨_, _, _, _, rfl, KP.rf, CV.mono hI (by omega), ⟨_, rfl⟩⟩
  · refine zw_iload_n 6 f112_5 rfl rfl ?_
    refine zw_iload_n 7 f112_6 rfl rfl ?_
    refine zw_ic_gt 10 14 f112_7 (by decide +kernel) rfl (fun hc2 => ?_) (fun hc2 => ?_)
    · refine zw_iconst 0 15 f112_14 rfl (by decide +kernel) ?_
      refine zw_zreturn f112_15 r112 u112 (by decide +kernel) ⟨_, rfl, ?_⟩
      refine zw_if_ne_f 9 13 f89_6 (by decide +kernel) rfl (by decide +kernel) ?_
      refine zw_ldc2_w (-1) 12 f89_9 rfl (by decide +kernel) ?_
      refine zw_lreturn f89_12 r89 u89 ?_
      exact ⟨_, _, _, _, rfl, KP.rf, CV.mono hI (by omega), ⟨_, rfl⟩⟩
    · refine zw_iconst 1 11 f112_10 rfl (by decide +kernel) ?_
      refine zw_goto 15 f112_11 (by decide +kernel) ?_
      refine zw_zreturn f112_15 r112 u112 (by decide +kernel) ⟨_, rfl, ?_⟩
      refine zw_if_ne_t 13 f89_6 (by decide +kernel) (by decide +kernel) ?_
      refine zw_aload_n 14 f89_13 rfl rfl ?_
      refine zw_getfield 17 f89_14 rfl g89_21_11 (hb_0 _ _ _ _) rfl ?_
      refine zw_virtual_v 20 0 0 [.ref 11] [(0, .ref 11)] f89_17 rfl n89_167 k89_167_10 rfl (hb_11 _ _ _ _) (by decide +kernel) (Nat.le_of_ble_eq_true rfl) rfl rfl (by decide +kernel) (by decide +kernel) rfl (Nat.le_of_ble_eq_true rfl) rfl ?_
      refine zWp.mono (ck_X10_seekNext_11 ro nv np I _ _ _ hI.1 ) ?_
      rintro r h1 ⟨I_4, G_4, A_4, B_4, rfl, K_4, hI_4, rfl⟩
      refine ⟨rfl, ?_⟩
      have hV_4 : CV nv np cm I_4 := CV.of (I := I) hI K_4 hI_4
      have K_4 := KP.tr KP.rf (KP.wk K_4 pWN)
      refine zw_aload_n 21 f89_20 rfl rfl ?_
      refine zw_getfield 24 f89_21 rfl g89_21_11 (hb_0 _ _ _ _) rfl ?_
      refine zw_virtual_i 27 0 0 [.ref 11] [(0, .ref 11)] f89_24 rfl n89_170 k89_170_10 rfl (hb_11 _ _ _ _) (by decide +kernel) (Nat.le_of_ble_eq_true rfl) rfl rfl (by decide +kernel) (by decide +kernel) rfl (Nat.le_of_ble_eq_true rfl) rfl ?_
      refine zWp.mono (cp_X10_rests_11 ro nv np I_4 _ _ _ hV_4.1 ) ?_
      rintro r h1 ⟨rfl, ⟨w5, rfl, hw5⟩⟩
      refine ⟨_, rfl, ?_⟩
      refine zw_if_eq 30 34 f89_27 (by decide +kernel) rfl (fun hc6 => ?_) (fun hc6 => ?_)
      · refine zw_aload_n 35 f89_34 rfl rfl ?_
        refine zw_getfield 38 f89_35 rfl g89_21_11 (hb_0 _ _ _ _) rfl ?_
        refine zw_virtual_l 41 0 0 [.ref 11] [(0, .ref 11)] f89_38 rfl n89_203 k89_203_10 rfl (hb_11 _ _ _ _) (by decide +kernel) (Nat.le_of_ble_eq_true rfl) rfl rfl (by decide +kernel) (by decide +kernel) rfl (Nat.le_of_ble_eq_true rfl) rfl ?_
        refine zWp.mono (cp_X10_nextMomentAbove_11 ro nv np I_4 _ _ _ hV_4.1 ) ?_
        rintro r h1 ⟨rfl, ⟨w7, rfl⟩⟩
        refine ⟨_, rfl, ?_⟩
        refine zw_aload_n 42 f89_41 rfl rfl ?_
        refine zw_getfield 45 f89_42 rfl g89_21_11 (hb_0 _ _ _ _) rfl ?_
        refine zw_virtual_l 48 0 0 [.ref 11] [(0, .ref 11)] f89_45 rfl n89_207 k89_207_10 rfl (hb_11 _ _ _ _) (by decide +kernel) (Nat.le_of_ble_eq_true rfl) rfl rfl (by decide +kernel) (by decide +kernel) rfl (Nat.le_of_ble_eq_true rfl) rfl ?_
        refine zWp.mono (cp_X10_nextMomentBelow_11 ro nv np I_4 _ _ _ hV_4.1 ) ?_
        rintro r h1 ⟨rfl, ⟨w8, rfl⟩⟩
        refine ⟨_, rfl, ?_⟩
        refine zw_iload_n 49 f89_48 rfl rfl ?_
        refine zw_static_l 52 0 0 [.long w7, .long w8, .int a] [] [(0, .long w7), (2, .long w8), (4, .int a)] f89_49 rfl k89_210_99 rfl (by decide +kernel) (Nat.le_of_ble_eq_true rfl) (Nat.le_of_ble_eq_true rfl) rfl rfl (by decide +kernel) (by decide +kernel) rfl (Nat.le_of_ble_eq_true rfl) rfl ?_
        refine zWp.mono (cp_X11_part ro nv np I_4 _ _ _ hV_4.1 w7 w8 a) ?_
        rintro r h1 ⟨rfl, ⟨w9, rfl⟩⟩
        refine ⟨_, rfl, ?_⟩
        refine zw_lreturn f89_52 r89 u89 ?_
        exact ⟨_, _, _, _, rfl, K_4, CV.mono hV_4 (by omega), ⟨_, rfl⟩⟩
      · refine zw_ldc2_w (-1) 33 f89_30 rfl (by decide +kernel) ?_
        refine zw_lreturn f89_33 r89 u89 ?_
        exact ⟨_, _, _, _, rfl, K_4, CV.mono hV_4 (by omega), ⟨_, rfl⟩⟩
set_option maxRecDepth 100000 in
set_option maxHeartbeats 0 in
theorem cv_X11_flow (ro : UInt32 → Nat × (Nat → Int32)) (nv np cm : Nat) (I : Nat → Nat → Int32) (G : Nat → Nat → Int64) (A : Nat → Nat → Int32) (B : Nat → Nat → Int64) (hI : CV nv np cm I) (hcm : cm < 1000000000) (a : Int32) : zWp ro 92 0 [(0, .ref 0), (1, .int a)] [] (hS I G A B) 0 0 (zWv pN nv np (cm + 0) I G A B zRt1) := by
  have hnv := hI.1.1.2
  have hnp := hI.1.2.1.2
  refine zw_aload_n 1 f92_0 rfl rfl ?_
  refine zw_getfield 4 f92_1 rfl g92_10_11 (hb_0 _ _ _ _) rfl ?_
  refine zw_iload_n 5 f92_4 rfl rfl ?_
  refine zw_virtual_i 8 0 0 [.ref 1, .int a] [(0, .ref 1), (1, .int a)] f92_5 rfl n92_109 k92_109_4 rfl (hb_1 _ _ _ _) (by decide +kernel) (Nat.le_of_ble_eq_true rfl) rfl rfl (by decide +kernel) (by decide +kernel) rfl (Nat.le_of_ble_eq_true rfl) rfl ?_
  refine zw_iload_n 1 f14_0 rfl rfl ?_
  refine zw_if_lt 4 22 f14_1 (by decide +kernel) rfl (fun hc1 => ?_) (fun hc1 => ?_)
  · refine zw_iconst 0 23 f14_22 rfl (by decide +kernel) ?_
    refine zw_zreturn f14_23 r14 u14 (by decide +kernel) ⟨_, rfl, ?_⟩
    refine zw_if_ne_f 11 13 f92_8 (by decide +kernel) rfl (by decide +kernel) ?_
    refine zw_iconst (-1) 12 f92_11 rfl (by decide +kernel) ?_
    refine zw_ireturn f92_12 r92 u92 ?_
    exact ⟨_, _, _, _, rfl, KP.rf, CV.mono hI (by omega), ⟨_, rfl⟩⟩
  · refine zw_iload_n 5 f14_4 rfl rfl ?_
    refine zw_aload_n 6 f14_5 rfl rfl ?_
    refine zw_getI (nI np) 9 f14_6 rfl g14_43_4 (hb_1 _ _ _ _) rfl hI.1.2.1.1 ?_
    refine zw_ic_ge 12 22 f14_9 (by decide +kernel) rfl (fun hc2 => ?_) (fun hc2 => ?_)
    · refine zw_iconst 0 23 f14_22 rfl (by decide +kernel) ?_
      refine zw_zreturn f14_23 r14 u14 (by decide +kernel) ⟨_, rfl, ?_⟩
      refine zw_if_ne_f 11 13 f92_8 (by decide +kernel) rfl (by decide +kernel) ?_
      refine zw_iconst (-1) 12 f92_11 rfl (by decide +kernel) ?_
      refine zw_ireturn f92_12 r92 u92 ?_
      exact ⟨_, _, _, _, rfl, KP.rf, CV.mono hI (by omega), ⟨_, rfl⟩⟩
    · refine zw_iload_n 13 f14_12 rfl rfl ?_
      refine zw_bipush 14 15 f14_13 rfl (by decide +kernel) ?_
      refine zw_ic_ge 18 22 f14_15 (by decide +kernel) rfl (fun hc3 => ?_) (fun hc3 => ?_)
      · refine zw_iconst 0 23 f14_22 rfl (by decide +kernel) ?_
        refine zw_zreturn f14_23 r14 u14 (by decide +kernel) ⟨_, rfl, ?_⟩
        refine zw_if_ne_f 11 13 f92_8 (by decide +kernel) rfl (by decide +kernel) ?_
        refine zw_iconst (-1) 12 f92_11 rfl (by decide +kernel) ?_
        refine zw_ireturn f92_12 r92 u92 ?_
        exact ⟨_, _, _, _, rfl, KP.rf, CV.mono hI (by omega), ⟨_, rfl⟩⟩
      · refine zw_iconst 1 19 f14_18 rfl (by decide +kernel) ?_
        refine zw_goto 23 f14_19 (by decide +kernel) ?_
        refine zw_zreturn f14_23 r14 u14 (by decide +kernel) ⟨_, rfl, ?_⟩
        refine zw_if_ne_t 13 f92_8 (by decide +kernel) (by decide +kernel) ?_
        refine zw_aload_n 14 f92_13 rfl rfl ?_
        refine zw_getfield 17 f92_14 rfl g92_21_11 (hb_0 _ _ _ _) rfl ?_
        refine zw_virtual_v 20 0 0 [.ref 11] [(0, .ref 11)] f92_17 rfl n92_219 k92_219_10 rfl (hb_11 _ _ _ _) (by decide +kernel) (Nat.le_of_ble_eq_true rfl) rfl rfl (by decide +kernel) (by decide +kernel) rfl (Nat.le_of_ble_eq_true rfl) rfl ?_
        refine zWp.mono (ck_X10_reckonRates_11 ro nv np I _ _ _ hI.1 ) ?_
        rintro r h1 ⟨I_5, G_5, A_5, B_5, rfl, K_5, hI_5, rfl⟩
        refine ⟨rfl, ?_⟩
        have hV_5 : CV nv np cm I_5 := CV.of (I := I) hI K_5 hI_5
        have K_5 := KP.tr KP.rf (KP.wk K_5 pWN)
        refine zw_aload_n 21 f92_20 rfl rfl ?_
        refine zw_getfield 24 f92_21 rfl g92_21_11 (hb_0 _ _ _ _) rfl ?_
        refine zw_getfield 27 f92_24 rfl g92_225_10 (hb_11 _ _ _ _) rfl ?_
        refine zw_iload_n 28 f92_27 rfl rfl ?_
        refine zx_iaload a.toNatClampNeg 29 f92_28 rfl (hb_19 _ _ _ _) rfl hc1 (zix (by decide) hc1 hc3) (fun w6 hw6 => ?_)
        refine zw_ireturn f92_29 r92 u92 ?_
        exact ⟨_, _, _, _, rfl, K_5, CV.mono hV_5 (by omega), ⟨_, rfl⟩⟩
set_option maxRecDepth 100000 in
set_option maxHeartbeats 0 in
theorem cv_X11_pipeTold (ro : UInt32 → Nat × (Nat → Int32)) (nv np cm : Nat) (I : Nat → Nat → Int32) (G : Nat → Nat → Int64) (A : Nat → Nat → Int32) (B : Nat → Nat → Int64) (hI : CV nv np cm I) (hcm : cm < 1000000000) (a : Int32) (b : Int32) : zWp ro 95 0 [(0, .ref 0), (1, .int a), (2, .int b)] [] (hS I G A B) 0 0 (zWv pN nv np (cm + 0) I G A B zRt1) := by
  have hnv := hI.1.1.2
  have hnp := hI.1.2.1.2
  refine zw_aload_n 1 f95_0 rfl rfl ?_
  refine zw_getfield 4 f95_1 rfl g95_10_11 (hb_0 _ _ _ _) rfl ?_
  refine zw_iload_n 5 f95_4 rfl rfl ?_
  refine zw_virtual_i 8 0 0 [.ref 1, .int a] [(0, .ref 1), (1, .int a)] f95_5 rfl n95_109 k95_109_4 rfl (hb_1 _ _ _ _) (by decide +kernel) (Nat.le_of_ble_eq_true rfl) rfl rfl (by decide +kernel) (by decide +kernel) rfl (Nat.le_of_ble_eq_true rfl) rfl ?_
  refine zw_iload_n 1 f14_0 rfl rfl ?_
  refine zw_if_lt 4 22 f14_1 (by decide +kernel) rfl (fun hc1 => ?_) (fun hc1 => ?_)
  · refine zw_iconst 0 23 f14_22 rfl (by decide +kernel) ?_
    refine zw_zreturn f14_23 r14 u14 (by decide +kernel) ⟨_, rfl, ?_⟩
    refine zw_if_ne_f 11 14 f95_8 (by decide +kernel) rfl (by decide +kernel) ?_
    refine zw_bipush (-2) 13 f95_11 rfl (by decide +kernel) ?_
    refine zw_ireturn f95_13 r95 u95 ?_
    exact ⟨_, _, _, _, rfl, KP.rf, CV.mono hI (by omega), ⟨_, rfl⟩⟩
  · refine zw_iload_n 5 f14_4 rfl rfl ?_
    refine zw_aload_n 6 f14_5 rfl rfl ?_
    refine zw_getI (nI np) 9 f14_6 rfl g14_43_4 (hb_1 _ _ _ _) rfl hI.1.2.1.1 ?_
    refine zw_ic_ge 12 22 f14_9 (by decide +kernel) rfl (fun hc2 => ?_) (fun hc2 => ?_)
    · refine zw_iconst 0 23 f14_22 rfl (by decide +kernel) ?_
      refine zw_zreturn f14_23 r14 u14 (by decide +kernel) ⟨_, rfl, ?_⟩
      refine zw_if_ne_f 11 14 f95_8 (by decide +kernel) rfl (by decide +kernel) ?_
      refine zw_bipush (-2) 13 f95_11 rfl (by decide +kernel) ?_
      refine zw_ireturn f95_13 r95 u95 ?_
      exact ⟨_, _, _, _, rfl, KP.rf, CV.mono hI (by omega), ⟨_, rfl⟩⟩
    · refine zw_iload_n 13 f14_12 rfl rfl ?_
      refine zw_bipush 14 15 f14_13 rfl (by decide +kernel) ?_
      refine zw_ic_ge 18 22 f14_15 (by decide +kernel) rfl (fun hc3 => ?_) (fun hc3 => ?_)
      · refine zw_iconst 0 23 f14_22 rfl (by decide +kernel) ?_
        refine zw_zreturn f14_23 r14 u14 (by decide +kernel) ⟨_, rfl, ?_⟩
        refine zw_if_ne_f 11 14 f95_8 (by decide +kernel) rfl (by decide +kernel) ?_
        refine zw_bipush (-2) 13 f95_11 rfl (by decide +kernel) ?_
        refine zw_ireturn f95_13 r95 u95 ?_
        exact ⟨_, _, _, _, rfl, KP.rf, CV.mono hI (by omega), ⟨_, rfl⟩⟩
      · refine zw_iconst 1 19 f14_18 rfl (by decide +kernel) ?_
        refine zw_goto 23 f14_19 (by decide +kernel) ?_
        refine zw_zreturn f14_23 r14 u14 (by decide +kernel) ⟨_, rfl, ?_⟩
        refine zw_if_ne_t 14 f95_8 (by decide +kernel) (by decide +kernel) ?_
        refine zw_iload_n 15 f95_14 rfl rfl ?_
        rcases zl_sw 4 (by decide) b with hs4 | ⟨hs4k, hs4l, hs4e⟩
        · refine zw_table_o 108 f95_15 hs4 (by decide +kernel) ?_
          refine zw_bipush (-2) 110 f95_108 rfl (by decide +kernel) ?_
          refine zw_ireturn f95_110 r95 u95 ?_
          exact ⟨_, _, _, _, rfl, KP.rf, CV.mono hI (by omega), ⟨_, rfl⟩⟩
        · rcases (show hs4k = 0 ∨ hs4k = 1 ∨ hs4k = 2 ∨ hs4k = 3 ∨ hs4k = 4 by omega) with rfl | rfl | rfl | rfl | rfl
          · refine zw_table_k 33 48 f95_15 hs4e (by decide +kernel) (by decide +kernel) (by decide +kernel) ?_
            refine zw_aload_n 49 f95_48 rfl rfl ?_
            refine zw_getfield 52 f95_49 rfl g95_10_11 (hb_0 _ _ _ _) rfl ?_
            refine zw_getfield 55 f95_52 rfl g95_115_4 (hb_1 _ _ _ _) rfl ?_
            refine zw_iload_n 56 f95_55 rfl rfl ?_
            refine zx_iaload a.toNatClampNeg 57 f95_56 rfl (hb_9 _ _ _ _) rfl hc1 (zix (by decide) hc1 hc3) (fun w5 hw5 => ?_)
            refine zw_ireturn f95_57 r95 u95 ?_
            exact ⟨_, _, _, _, rfl, KP.rf, CV.mono hI (by omega), ⟨_, rfl⟩⟩
          · refine zw_table_k 43 58 f95_15 hs4e (by decide +kernel) (by decide +kernel) (by decide +kernel) ?_
            refine zw_aload_n 59 f95_58 rfl rfl ?_
            refine zw_getfield 62 f95_59 rfl g95_10_11 (hb_0 _ _ _ _) rfl ?_
            refine zw_getfield 65 f95_62 rfl g95_244_4 (hb_1 _ _ _ _) rfl ?_
            refine zw_iload_n 66 f95_65 rfl rfl ?_
            refine zx_iaload a.toNatClampNeg 67 f95_66 rfl (hb_10 _ _ _ _) rfl hc1 (zix (by decide) hc1 hc3) (fun w6 hw6 => ?_)
            refine zw_ireturn f95_67 r95 u95 ?_
            exact ⟨_, _, _, _, rfl, KP.rf, CV.mono hI (by omega), ⟨_, rfl⟩⟩
          · refine zw_table_k 53 68 f95_15 hs4e (by decide +kernel) (by decide +kernel) (by decide +kernel) ?_
            refine zw_aload_n 69 f95_68 rfl rfl ?_
            refine zw_getfield 72 f95_69 rfl g95_21_11 (hb_0 _ _ _ _) rfl ?_
            refine zw_getfield 75 f95_72 rfl g95_134_10 (hb_11 _ _ _ _) rfl ?_
            refine zw_getfield 78 f95_75 rfl g95_138_9 (hb_12 _ _ _ _) rfl ?_
            refine zw_iload_n 79 f95_78 rfl rfl ?_
            refine zx_iaload a.toNatClampNeg 80 f95_79 rfl (hb_15 _ _ _ _) rfl hc1 (zix (by decide) hc1 hc3) (fun w7 hw7 => ?_)
            refine zw_ireturn f95_80 r95 u95 ?_
            exact ⟨_, _, _, _, rfl, KP.rf, CV.mono hI (by omega), ⟨_, rfl⟩⟩
          · refine zw_table_k 66 81 f95_15 hs4e (by decide +kernel) (by decide +kernel) (by decide +kernel) ?_
            refine zw_aload_n 82 f95_81 rfl rfl ?_
            refine zw_getfield 85 f95_82 rfl g95_21_11 (hb_0 _ _ _ _) rfl ?_
            refine zw_getfield 88 f95_85 rfl g95_134_10 (hb_11 _ _ _ _) rfl ?_
            refine zw_iload_n 89 f95_88 rfl rfl ?_
            refine zw_virtual_i 92 0 0 [.ref 12, .int a] [(0, .ref 12), (1, .int a)] f95_89 rfl n95_158 k95_158_9 rfl (hb_12 _ _ _ _) (by decide +kernel) (Nat.le_of_ble_eq_true rfl) rfl rfl (by decide +kernel) (by decide +kernel) rfl (Nat.le_of_ble_eq_true rfl) rfl ?_
            refine zWp.mono (cp_X9_isOpen_12 ro nv np I _ _ _ hI.1 a) ?_
            rintro r h1 ⟨rfl, ⟨w8, rfl, hw8⟩⟩
            refine ⟨_, rfl, ?_⟩
            refine zw_static_i 95 0 0 [.int w8] [] [(0, .int w8)] f95_92 rfl k95_234_99 rfl (by decide +kernel) (Nat.le_of_ble_eq_true rfl) (Nat.le_of_ble_eq_true rfl) rfl rfl (by decide +kernel) (by decide +kernel) rfl (Nat.le_of_ble_eq_true rfl) rfl ?_
            refine zw_iload_n 1 f113_0 rfl rfl ?_
            refine zw_if_eq 4 8 f113_1 (by decide +kernel) rfl (fun hc9 => ?_) (fun hc9 => ?_)
            · refine zw_iconst 0 9 f113_8 rfl (by decide +kernel) ?_
              refine zw_ireturn f113_9 r113 u113 ⟨_, rfl, ?_⟩
              refine zw_ireturn f95_95 r95 u95 ?_
              exact ⟨_, _, _, _, rfl, KP.rf, CV.mono hI (by omega), ⟨_, rfl⟩⟩
            · refine zw_iconst 1 5 f113_4 rfl (by decide +kernel) ?_
              refine zw_goto 9 f113_5 (by decide +kernel) ?_
              refine zw_ireturn f113_9 r113 u113 ⟨_, rfl, ?_⟩
              refine zw_ireturn f95_95 r95 u95 ?_
              exact ⟨_, _, _, _, rfl, KP.rf, CV.mono hI (by omega), ⟨_, rfl⟩⟩
          · refine zw_table_k 81 96 f95_15 hs4e (by decide +kernel) (by decide +kernel) (by decide +kernel) ?_
            refine zw_aload_n 97 f95_96 rfl rfl ?_
            refine zw_getfield 100 f95_97 rfl g95_21_11 (hb_0 _ _ _ _) rfl ?_
            refine zw_iload_n 101 f95_100 rfl rfl ?_
            refine zw_virtual_i 104 0 0 [.ref 11, .int a] [(0, .ref 11), (1, .int a)] f95_101 rfl n95_247 k95_247_10 rfl (hb_11 _ _ _ _) (by decide +kernel) (Nat.le_of_ble_eq_true rfl) rfl rfl (by decide +kernel) (by decide +kernel) rfl (Nat.le_of_ble_eq_true rfl) rfl ?_
            refine zWp.mono (cp_X10_runs_11 ro nv np I _ _ _ hI.1 a) ?_
            rintro r h1 ⟨rfl, ⟨w10, rfl, hw10⟩⟩
            refine ⟨_, rfl, ?_⟩
            refine zw_static_i 107 0 0 [.int w10] [] [(0, .int w10)] f95_104 rfl k95_234_99 rfl (by decide +kernel) (Nat.le_of_ble_eq_true rfl) (Nat.le_of_ble_eq_true rfl) rfl rfl (by decide +kernel) (by decide +kernel) rfl (Nat.le_of_ble_eq_true rfl) rfl ?_
            refine zw_iload_n 1 f113_0 rfl rfl ?_
            refine zw_if_eq 4 8 f113_1 (by decide +kernel) rfl (fun hc11 => ?_) (fun hc11 => ?_)
            · refine zw_iconst 0 9 f113_8 rfl (by decide +kernel) ?_
              refine zw_ireturn f113_9 r113 u113 ⟨_, rfl, ?_⟩
              refine zw_ireturn f95_107 r95 u95 ?_
              exact ⟨_, _, _, _, rfl, KP.rf, CV.mono hI (by omega), ⟨_, rfl⟩⟩
            · refine zw_iconst 1 5 f113_4 rfl (by decide +kernel) ?_
              refine zw_goto 9 f113_5 (by decide +kernel) ?_
              refine zw_ireturn f113_9 r113 u113 ⟨_, rfl, ?_⟩
              refine zw_ireturn f95_107 r95 u95 ?_
              exact ⟨_, _, _, _, rfl, KP.rf, CV.mono hI (by omega), ⟨_, rfl⟩⟩
set_option maxRecDepth 100000 in
set_option maxHeartbeats 0 in
theorem cv_X11_count (ro : UInt32 → Nat × (Nat → Int32)) (nv np cm : Nat) (I : Nat → Nat → Int32) (G : Nat → Nat → Int64) (A : Nat → Nat → Int32) (B : Nat → Nat → Int64) (hI : CV nv np cm I) (hcm : cm < 1000000000) (a : Int32) : zWp ro 96 0 [(0, .ref 0), (1, .int a)] [] (hS I G A B) 0 0 (zWv pN nv np (cm + 0) I G A B zRt1) := by
  have hnv := hI.1.1.2
  have hnp := hI.1.2.1.2
  refine zw_iload_n 1 f96_0 rfl rfl ?_
  rcases zl_sw 3 (by decide) a with hs1 | ⟨hs1k, hs1l, hs1e⟩
  · refine zw_table_o 64 f96_1 hs1 (by decide +kernel) ?_
    refine zw_iconst (-1) 65 f96_64 rfl (by decide +kernel) ?_
    refine zw_ireturn f96_65 r96 u96 ?_
    exact ⟨_, _, _, _, rfl, KP.rf, CV.mono hI (by omega), ⟨_, rfl⟩⟩
  · rcases (show hs1k = 0 ∨ hs1k = 1 ∨ hs1k = 2 ∨ hs1k = 3 by omega) with rfl | rfl | rfl | rfl
    · refine zw_table_k 31 32 f96_1 hs1e (by decide +kernel) (by decide +kernel) (by decide +kernel) ?_
      refine zw_aload_n 33 f96_32 rfl rfl ?_
      refine zw_getfield 36 f96_33 rfl g96_10_11 (hb_0 _ _ _ _) rfl ?_
      refine zw_getI (nI nv) 39 f96_36 rfl g96_250_4 (hb_1 _ _ _ _) rfl hI.1.1.1 ?_
      refine zw_ireturn f96_39 r96 u96 ?_
      exact ⟨_, _, _, _, rfl, KP.rf, CV.mono hI (by omega), ⟨_, rfl⟩⟩
    · refine zw_table_k 39 40 f96_1 hs1e (by decide +kernel) (by decide +kernel) (by decide +kernel) ?_
      refine zw_aload_n 41 f96_40 rfl rfl ?_
      refine zw_getfield 44 f96_41 rfl g96_10_11 (hb_0 _ _ _ _) rfl ?_
      refine zw_getI (nI np) 47 f96_44 rfl g96_253_4 (hb_1 _ _ _ _) rfl hI.1.2.1.1 ?_
      refine zw_ireturn f96_47 r96 u96 ?_
      exact ⟨_, _, _, _, rfl, KP.rf, CV.mono hI (by omega), ⟨_, rfl⟩⟩
    · refine zw_table_k 47 48 f96_1 hs1e (by decide +kernel) (by decide +kernel) (by decide +kernel) ?_
      refine zw_aload_n 49 f96_48 rfl rfl ?_
      refine zw_getfield 52 f96_49 rfl g96_31_11 (hb_0 _ _ _ _) rfl ?_
      obtain ⟨x2p, x2q, x2e⟩ := hI.2.1
      refine zw_getI (nI x2p) 55 f96_52 rfl g96_164_3 (hb_33 _ _ _ _) rfl x2e ?_
      refine zw_ireturn f96_55 r96 u96 ?_
      exact ⟨_, _, _, _, rfl, KP.rf, CV.mono hI (by omega), ⟨_, rfl⟩⟩
    · refine zw_table_k 55 56 f96_1 hs1e (by decide +kernel) (by decide +kernel) (by decide +kernel) ?_
      refine zw_aload_n 57 f96_56 rfl rfl ?_
      refine zw_getfield 60 f96_57 rfl g96_45_11 (hb_0 _ _ _ _) rfl ?_
      obtain ⟨x3p, x3q, x3e⟩ := hI.2.2
      refine zw_getI (nI x3p) 63 f96_60 rfl g96_256_0 (hb_44 _ _ _ _) rfl x3e ?_
      refine zw_ireturn f96_63 r96 u96 ?_
      exact ⟨_, _, _, _, rfl, KP.rf, CV.mono hI (by omega), ⟨_, rfl⟩⟩
set_option maxRecDepth 100000 in
set_option maxHeartbeats 0 in
theorem cv_X11_event (ro : UInt32 → Nat × (Nat → Int32)) (nv np cm : Nat) (I : Nat → Nat → Int32) (G : Nat → Nat → Int64) (A : Nat → Nat → Int32) (B : Nat → Nat → Int64) (hI : CV nv np cm I) (hcm : cm < 1000000000) (a : Int32) (b : Int32) : zWp ro 97 0 [(0, .ref 0), (1, .int a), (2, .int b)] [] (hS I G A B) 0 0 (zWv pN nv np (cm + 0) I G A B zRt1) := by
  have hnv := hI.1.1.2
  have hnp := hI.1.2.1.2
  refine zw_aload_n 1 f97_0 rfl rfl ?_
  refine zw_getfield 4 f97_1 rfl g97_31_11 (hb_0 _ _ _ _) rfl ?_
  refine zw_iload_n 5 f97_4 rfl rfl ?_
  refine zw_iload_n 6 f97_5 rfl rfl ?_
  refine zw_virtual_i 9 0 0 [.ref 33, .int a, .int b] [(0, .ref 33), (1, .int a), (2, .int b)] f97_6 rfl n97_259 k97_259_3 rfl (hb_33 _ _ _ _) (by decide +kernel) (Nat.le_of_ble_eq_true rfl) rfl rfl (by decide +kernel) (by decide +kernel) rfl (Nat.le_of_ble_eq_true rfl) rfl ?_
  refine zWp.mono (cq_X3_toldOf_33 ro nv np cm I _ _ _ hI (by omega) a b) ?_
  rintro r h1 ⟨rfl, ⟨w1, rfl⟩⟩
  refine ⟨_, rfl, ?_⟩
  refine zw_ireturn f97_9 r97 u97 ?_
  exact ⟨_, _, _, _, rfl, KP.rf, CV.mono hI (by omega), ⟨_, rfl⟩⟩
set_option maxRecDepth 100000 in
set_option maxHeartbeats 0 in
theorem cv_X11_sum (ro : UInt32 → Nat × (Nat → Int32)) (nv np cm : Nat) (I : Nat → Nat → Int32) (G : Nat → Nat → Int64) (A : Nat → Nat → Int32) (B : Nat → Nat → Int64) (hI : CV nv np cm I) (hcm : cm < 1000000000) (a : Int32) : zWp ro 98 0 [(0, .ref 0), (1, .int a)] [] (hS I G A B) 0 0 (zWv pN nv np (cm + 0) I G A B zRt3) := by
  have hnv := hI.1.1.2
  have hnp := hI.1.2.1.2
  refine zw_aload_n 1 f98_0 rfl rfl ?_
  refine zw_getfield 4 f98_1 rfl g98_21_11 (hb_0 _ _ _ _) rfl ?_
  refine zw_getfield 7 f98_4 rfl g98_134_10 (hb_11 _ _ _ _) rfl ?_
  refine zw_astore_n _ 8 f98_7 rfl (by decide +kernel) rfl ?_
  refine zw_iload_n 9 f98_8 rfl (zl1_ne rfl rfl rfl) ?_
  rcases zl_sw 6 (by decide) a with hs1 | ⟨hs1k, hs1l, hs1e⟩
  · refine zw_table_o 103 f98_9 hs1 (by decide +kernel) ?_
    refine zw_ldc2_w (-1) 106 f98_103 rfl (by decide +kernel) ?_
    refine zw_lreturn f98_106 r98 u98 ?_
    exact ⟨_, _, _, _, rfl, KP.rf, CV.mono hI (by omega), ⟨_, rfl⟩⟩
  · rcases (show hs1k = 0 ∨ hs1k = 1 ∨ hs1k = 2 ∨ hs1k = 3 ∨ hs1k = 4 ∨ hs1k = 5 ∨ hs1k = 6 by omega) with rfl | rfl | rfl | rfl | rfl | rfl | rfl
    · refine zw_table_k 43 52 f98_9 hs1e (by decide +kernel) (by decide +kernel) (by decide +kernel) ?_
      refine zw_aload_n 53 f98_52 rfl zl1_eq ?_
      refine zx_getG 56 f98_53 rfl g98_260_9 (hb_12 _ _ _ _) rfl (fun w2 hw2 => ?_)
      refine zw_aload_n 57 f98_56 rfl zl1_eq ?_
      refine zx_getG 60 f98_57 rfl g98_151_9 (hb_12 _ _ _ _) rfl (fun w3 hw3 => ?_)
      refine zw_iload_n 61 f98_60 rfl (zl1_ne rfl rfl rfl) ?_
      refine zw_static_l 64 0 0 [.long w2, .long w3, .int a] [] [(0, .long w2), (2, .long w3), (4, .int a)] f98_61 rfl k98_210_99 rfl (by decide +kernel) (Nat.le_of_ble_eq_true rfl) (Nat.le_of_ble_eq_true rfl) rfl rfl (by decide +kernel) (by decide +kernel) rfl (Nat.le_of_ble_eq_true rfl) rfl ?_
      refine zWp.mono (cp_X11_part ro nv np I _ _ _ hI.1 w2 w3 a) ?_
      rintro r h1 ⟨rfl, ⟨w4, rfl⟩⟩
      refine ⟨_, rfl, ?_⟩
      refine zw_lreturn f98_64 r98 u98 ?_
      exact ⟨_, _, _, _, rfl, KP.rf, CV.mono hI (by omega), ⟨_, rfl⟩⟩
    · refine zw_table_k 43 52 f98_9 hs1e (by decide +kernel) (by decide +kernel) (by decide +kernel) ?_
      refine zw_aload_n 53 f98_52 rfl zl1_eq ?_
      refine zx_getG 56 f98_53 rfl g98_260_9 (hb_12 _ _ _ _) rfl (fun w5 hw5 => ?_)
      refine zw_aload_n 57 f98_56 rfl zl1_eq ?_
      refine zx_getG 60 f98_57 rfl g98_151_9 (hb_12 _ _ _ _) rfl (fun w6 hw6 => ?_)
      refine zw_iload_n 61 f98_60 rfl (zl1_ne rfl rfl rfl) ?_
      refine zw_static_l 64 0 0 [.long w5, .long w6, .int a] [] [(0, .long w5), (2, .long w6), (4, .int a)] f98_61 rfl k98_210_99 rfl (by decide +kernel) (Nat.le_of_ble_eq_true rfl) (Nat.le_of_ble_eq_true rfl) rfl rfl (by decide +kernel) (by decide +kernel) rfl (Nat.le_of_ble_eq_true rfl) rfl ?_
      refine zWp.mono (cp_X11_part ro nv np I _ _ _ hI.1 w5 w6 a) ?_
      rintro r h1 ⟨rfl, ⟨w7, rfl⟩⟩
      refine ⟨_, rfl, ?_⟩
      refine zw_lreturn f98_64 r98 u98 ?_
      exact ⟨_, _, _, _, rfl, KP.rf, CV.mono hI (by omega), ⟨_, rfl⟩⟩
    · refine zw_table_k 56 65 f98_9 hs1e (by decide +kernel) (by decide +kernel) (by decide +kernel) ?_
      refine zw_aload_n 66 f98_65 rfl zl1_eq ?_
      refine zx_getG 69 f98_66 rfl g98_147_9 (hb_12 _ _ _ _) rfl (fun w8 hw8 => ?_)
      refine zw_lreturn f98_69 r98 u98 ?_
      exact ⟨_, _, _, _, rfl, KP.rf, CV.mono hI (by omega), ⟨_, rfl⟩⟩
    · refine zw_table_k 61 70 f98_9 hs1e (by decide +kernel) (by decide +kernel) (by decide +kernel) ?_
      refine zw_aload_n 71 f98_70 rfl zl1_eq ?_
      refine zx_getG 74 f98_71 rfl g98_263_9 (hb_12 _ _ _ _) rfl (fun w9 hw9 => ?_)
      refine zw_aload_n 75 f98_74 rfl zl1_eq ?_
      refine zx_getG 78 f98_75 rfl g98_151_9 (hb_12 _ _ _ _) rfl (fun w10 hw10 => ?_)
      refine zw_iload_n 79 f98_78 rfl (zl1_ne rfl rfl rfl) ?_
      refine zw_iconst 3 80 f98_79 rfl (by decide +kernel) ?_
      refine zx_isub 81 f98_80 rfl (fun w11 hw11 => ?_)
      refine zw_static_l 84 0 0 [.long w9, .long w10, .int w11] [] [(0, .long w9), (2, .long w10), (4, .int w11)] f98_81 rfl k98_210_99 rfl (by decide +kernel) (Nat.le_of_ble_eq_true rfl) (Nat.le_of_ble_eq_true rfl) rfl rfl (by decide +kernel) (by decide +kernel) rfl (Nat.le_of_ble_eq_true rfl) rfl ?_
      refine zWp.mono (cp_X11_part ro nv np I _ _ _ hI.1 w9 w10 w11) ?_
      rintro r h1 ⟨rfl, ⟨w12, rfl⟩⟩
      refine ⟨_, rfl, ?_⟩
      refine zw_lreturn f98_84 r98 u98 ?_
      exact ⟨_, _, _, _, rfl, KP.rf, CV.mono hI (by omega), ⟨_, rfl⟩⟩
    · refine zw_table_k 61 70 f98_9 hs1e (by decide +kernel) (by decide +kernel) (by decide +kernel) ?_
      refine zw_aload_n 71 f98_70 rfl zl1_eq ?_
      refine zx_getG 74 f98_71 rfl g98_263_9 (hb_12 _ _ _ _) rfl (fun w13 hw13 => ?_)
      refine zw_aload_n 75 f98_74 rfl zl1_eq ?_
      refine zx_getG 78 f98_75 rfl g98_151_9 (hb_12 _ _ _ _) rfl (fun w14 hw14 => ?_)
      refine zw_iload_n 79 f98_78 rfl (zl1_ne rfl rfl rfl) ?_
      refine zw_iconst 3 80 f98_79 rfl (by decide +kernel) ?_
      refine zx_isub 81 f98_80 rfl (fun w15 hw15 => ?_)
      refine zw_static_l 84 0 0 [.long w13, .long w14, .int w15] [] [(0, .long w13), (2, .long w14), (4, .int w15)] f98_81 rfl k98_210_99 rfl (by decide +kernel) (Nat.le_of_ble_eq_true rfl) (Nat.le_of_ble_eq_true rfl) rfl rfl (by decide +kernel) (by decide +kernel) rfl (Nat.le_of_ble_eq_true rfl) rfl ?_
      refine zWp.mono (cp_X11_part ro nv np I _ _ _ hI.1 w13 w14 w15) ?_
      rintro r h1 ⟨rfl, ⟨w16, rfl⟩⟩
      refine ⟨_, rfl, ?_⟩
      refine zw_lreturn f98_84 r98 u98 ?_
      exact ⟨_, _, _, _, rfl, KP.rf, CV.mono hI (by omega), ⟨_, rfl⟩⟩
    · refine zw_table_k 76 85 f98_9 hs1e (by decide +kernel) (by decide +kernel) (by decide +kernel) ?_
      refine zw_aload_n 86 f98_85 rfl (zl1_ne rfl rfl rfl) ?_
      refine zw_getfield 89 f98_86 rfl g98_21_11 (hb_0 _ _ _ _) rfl ?_
      refine zw_virtual_l 92 0 0 [.ref 11] [(0, .ref 11)] f98_89 rfl n98_266 k98_266_10 rfl (hb_11 _ _ _ _) (by decide +kernel) (Nat.le_of_ble_eq_true rfl) rfl rfl (by decide +kernel) (by decide +kernel) rfl (Nat.le_of_ble_eq_true rfl) rfl ?_
      refine zWp.mono (cp_X10_inVessels_11 ro nv np I _ _ _ hI.1 ) ?_
      rintro r h1 ⟨rfl, ⟨w17, rfl⟩⟩
      refine ⟨_, rfl, ?_⟩
      refine zw_aload_n 93 f98_92 rfl zl1_eq ?_
      refine zx_getG 96 f98_93 rfl g98_151_9 (hb_12 _ _ _ _) rfl (fun w18 hw18 => ?_)
      refine zw_iload_n 97 f98_96 rfl (zl1_ne rfl rfl rfl) ?_
      refine zw_iconst 5 98 f98_97 rfl (by decide +kernel) ?_
      refine zx_isub 99 f98_98 rfl (fun w19 hw19 => ?_)
      refine zw_static_l 102 0 0 [.long w17, .long w18, .int w19] [] [(0, .long w17), (2, .long w18), (4, .int w19)] f98_99 rfl k98_210_99 rfl (by decide +kernel) (Nat.le_of_ble_eq_true rfl) (Nat.le_of_ble_eq_true rfl) rfl rfl (by decide +kernel) (by decide +kernel) rfl (Nat.le_of_ble_eq_true rfl) rfl ?_
      refine zWp.mono (cp_X11_part ro nv np I _ _ _ hI.1 w17 w18 w19) ?_
      rintro r h1 ⟨rfl, ⟨w20, rfl⟩⟩
      refine ⟨_, rfl, ?_⟩
      refine zw_lreturn f98_102 r98 u98 ?_
      exact ⟨_, _, _, _, rfl, KP.rf, CV.mono hI (by omega), ⟨_, rfl⟩⟩
    · refine zw_table_k 76 85 f98_9 hs1e (by decide +kernel) (by decide +kernel) (by decide +kernel) ?_
      refine zw_aload_n 86 f98_85 rfl (zl1_ne rfl rfl rfl) ?_
      refine zw_getfield 89 f98_86 rfl g98_21_11 (hb_0 _ _ _ _) rfl ?_
      refine zw_virtual_l 92 0 0 [.ref 11] [(0, .ref 11)] f98_89 rfl n98_266 k98_266_10 rfl (hb_11 _ _ _ _) (by decide +kernel) (Nat.le_of_ble_eq_true rfl) rfl rfl (by decide +kernel) (by decide +kernel) rfl (Nat.le_of_ble_eq_true rfl) rfl ?_
      refine zWp.mono (cp_X10_inVessels_11 ro nv np I _ _ _ hI.1 ) ?_
      rintro r h1 ⟨rfl, ⟨w21, rfl⟩⟩
      refine ⟨_, rfl, ?_⟩
      refine zw_aload_n 93 f98_92 rfl zl1_eq ?_
      refine zx_getG 96 f98_93 rfl g98_151_9 (hb_12 _ _ _ _) rfl (fun w22 hw22 => ?_)
      refine zw_iload_n 97 f98_96 rfl (zl1_ne rfl rfl rfl) ?_
      refine zw_iconst 5 98 f98_97 rfl (by decide +kernel) ?_
      refine zx_isub 99 f98_98 rfl (fun w23 hw23 => ?_)
      refine zw_static_l 102 0 0 [.long w21, .long w22, .int w23] [] [(0, .long w21), (2, .long w22), (4, .int w23)] f98_99 rfl k98_210_99 rfl (by decide +kernel) (Nat.le_of_ble_eq_true rfl) (Nat.le_of_ble_eq_true rfl) rfl rfl (by decide +kernel) (by decide +kernel) rfl (Nat.le_of_ble_eq_true rfl) rfl ?_
      refine zWp.mono (cp_X11_part ro nv np I _ _ _ hI.1 w21 w22 w23) ?_
      rintro r h1 ⟨rfl, ⟨w24, rfl⟩⟩
      refine ⟨_, rfl, ?_⟩
      refine zw_lreturn f98_102 r98 u98 ?_
      exact ⟨_, _, _, _, rfl, KP.rf, CV.mono hI (by omega), ⟨_, rfl⟩⟩
set_option maxRecDepth 100000 in
set_option maxHeartbeats 0 in
theorem cv_X11_round (ro : UInt32 → Nat × (Nat → Int32)) (nv np cm : Nat) (I : Nat → Nat → Int32) (G : Nat → Nat → Int64) (A : Nat → Nat → Int32) (B : Nat → Nat → Int64) (hI : CV nv np cm I) (hcm : cm < 1000000000) (a : Int32) : zWp ro 99 0 [(0, .ref 0), (1, .int a)] [] (hS I G A B) 0 0 (zWv pN nv np (cm + 0) I G A B zRt1) := by
  have hnv := hI.1.1.2
  have hnp := hI.1.2.1.2
  refine zw_iload_n 1 f99_0 rfl rfl ?_
  refine zw_iconst 0 2 f99_1 rfl (by decide +kernel) ?_
  refine zw_iconst 4 3 f99_2 rfl (by decide +kernel) ?_
  refine zw_static_i 6 0 0 [.int a, .int 0, .int 4] [] [(0, .int a), (1, .int 0), (2, .int 4)] f99_3 rfl k99_74_99 rfl (by decide +kernel) (Nat.le_of_ble_eq_true rfl) (Nat.le_of_ble_eq_true rfl) rfl rfl (by decide +kernel) (by decide +kernel) rfl (Nat.le_of_ble_eq_true rfl) rfl ?_
  refine zw_iload_n 1 f112_0 rfl rfl ?_
  refine zw_iload_n 2 f112_1 rfl rfl ?_
  refine zw_ic_lt 5 14 f112_2 (by decide +kernel) rfl (fun hc1 => ?_) (fun hc1 => ?_)
  · refine zw_iconst 0 15 f112_14 rfl (by decide +kernel) ?_
    refine zw_zreturn f112_15 r112 u112 (by decide +kernel) ⟨_, rfl, ?_⟩
    refine zw_if_ne_f 9 11 f99_6 (by decide +kernel) rfl (by decide +kernel) ?_
    refine zw_iconst (-1) 10 f99_9 rfl (by decide +kernel) ?_
    refine zw_ireturn f99_10 r99 u99 ?_
    exact ⟨_, _, _, _, rfl, KP.rf, CV.mono hI (by omega), ⟨_, rfl⟩⟩
  · refine zw_iload_n 6 f112_5 rfl rfl ?_
    refine zw_iload_n 7 f112_6 rfl rfl ?_
    refine zw_ic_gt 10 14 f112_7 (by decide +kernel) rfl (fun hc2 => ?_) (fun hc2 => ?_)
    · refine zw_iconst 0 15 f112_14 rfl (by decide +kernel) ?_
      refine zw_zreturn f112_15 r112 u112 (by decide +kernel) ⟨_, rfl, ?_⟩
      refine zw_if_ne_f 9 11 f99_6 (by decide +kernel) rfl (by decide +kernel) ?_
      refine zw_iconst (-1) 10 f99_9 rfl (by decide +kernel) ?_
      refine zw_ireturn f99_10 r99 u99 ?_
      exact ⟨_, _, _, _, rfl, KP.rf, CV.mono hI (by omega), ⟨_, rfl⟩⟩
    · refine zw_iconst 1 11 f112_10 rfl (by decide +kernel) ?_
      refine zw_goto 15 f112_11 (by decide +kernel) ?_
      refine zw_zreturn f112_15 r112 u112 (by decide +kernel) ⟨_, rfl, ?_⟩
      refine zw_if_ne_t 11 f99_6 (by decide +kernel) (by decide +kernel) ?_
      refine zw_aload_n 12 f99_11 rfl rfl ?_
      refine zw_getfield 15 f99_12 rfl g99_25_11 (hb_0 _ _ _ _) rfl ?_
      refine zw_getfield 18 f99_15 rfl g99_134_10 (hb_22 _ _ _ _) rfl ?_
      refine zw_aload_n 19 f99_18 rfl rfl ?_
      refine zw_getfield 22 f99_19 rfl g99_21_11 (hb_0 _ _ _ _) rfl ?_
      refine zw_getfield 25 f99_22 rfl g99_134_10 (hb_11 _ _ _ _) rfl ?_
      refine zw_virtual_v 28 0 0 [.ref 23, .ref 12] [(0, .ref 23), (1, .ref 12)] f99_25 rfl n99_269 k99_269_9 rfl (hb_23 _ _ _ _) (by decide +kernel) (Nat.le_of_ble_eq_true rfl) rfl rfl (by decide +kernel) (by decide +kernel) rfl (Nat.le_of_ble_eq_true rfl) rfl ?_
      refine zWp.mono (cv_X9_takeOver_23 ro nv np cm I _ _ _ hI (by omega) ) ?_
      rintro r h1 ⟨I_4, G_4, A_4, B_4, rfl, K_4, hV_4, rfl⟩
      refine ⟨rfl, ?_⟩
      have K_4 := KP.tr KP.rf K_4
      refine zw_aload_n 29 f99_28 rfl rfl ?_
      refine zw_getfield 32 f99_29 rfl g99_38_11 (hb_0 _ _ _ _) rfl ?_
      refine zw_aload_n 33 f99_32 rfl rfl ?_
      refine zw_getfield 36 f99_33 rfl g99_25_11 (hb_0 _ _ _ _) rfl ?_
      refine zw_virtual_i 39 0 0 [.ref 38, .ref 22] [(0, .ref 38), (1, .ref 22)] f99_36 rfl n99_273 k99_273_5 rfl (hb_38 _ _ _ _) (by decide +kernel) (Nat.le_of_ble_eq_true rfl) rfl rfl (by decide +kernel) (by decide +kernel) rfl (Nat.le_of_ble_eq_true rfl) rfl ?_
      refine zWp.mono (cv_X5_seek_38 ro nv np cm I_4 _ _ _ hV_4 (by omega) ) ?_
      rintro r h1 ⟨I_6, G_6, A_6, B_6, rfl, K_6, hV_6, ⟨w5, rfl⟩⟩
      refine ⟨_, rfl, ?_⟩
      have K_6 := KP.tr K_4 K_6
      refine zw_istore_n _ 40 f99_39 rfl (by decide +kernel) rfl ?_
      refine zw_iload_n 41 f99_40 rfl (zl1_ne rfl rfl rfl) ?_
      refine zw_if_ne 44 46 f99_41 (by decide +kernel) rfl (fun hc7 => ?_) (fun hc7 => ?_)
      · refine zw_iload_n 47 f99_46 rfl zl1_eq ?_
        refine zw_iconst 1 48 f99_47 rfl (by decide +kernel) ?_
        refine zw_ic_ne 51 62 f99_48 (by decide +kernel) rfl (fun hc8 => ?_) (fun hc8 => ?_)
        · refine zw_iconst (-1) 63 f99_62 rfl (by decide +kernel) ?_
          refine zw_ireturn f99_63 r99 u99 ?_
          exact ⟨_, _, _, _, rfl, K_6, CV.mono hV_6 (by omega), ⟨_, rfl⟩⟩
        · refine zw_aload_n 52 f99_51 rfl (zl1_ne rfl rfl rfl) ?_
          refine zw_getfield 55 f99_52 rfl g99_38_11 (hb_0 _ _ _ _) rfl ?_
          refine zw_iload_n 56 f99_55 rfl (zl1_ne rfl rfl rfl) ?_
          refine zw_virtual_i 59 0 0 [.ref 38, .int a] [(0, .ref 38), (1, .int a)] f99_56 rfl n99_277 k99_277_5 rfl (hb_38 _ _ _ _) (by decide +kernel) (Nat.le_of_ble_eq_true rfl) rfl rfl (by decide +kernel) (by decide +kernel) rfl (Nat.le_of_ble_eq_true rfl) rfl ?_
          refine zWp.mono (cq_X5_toldOf_38 ro nv np cm I_6 _ _ _ hV_6 (by omega) a) ?_
          rintro r h1 ⟨rfl, ⟨w9, rfl⟩⟩
          refine ⟨_, rfl, ?_⟩
          refine zw_goto 63 f99_59 (by decide +kernel) ?_
          refine zw_ireturn f99_63 r99 u99 ?_
          exact ⟨_, _, _, _, rfl, K_6, CV.mono hV_6 (by omega), ⟨_, rfl⟩⟩
      · refine zw_iload_n 45 f99_44 rfl zl1_eq ?_
        refine zw_ireturn f99_45 r99 u99 ?_
        exact ⟨_, _, _, _, rfl, K_6, CV.mono hV_6 (by omega), ⟨_, rfl⟩⟩
set_option maxRecDepth 100000 in
set_option maxHeartbeats 0 in
theorem cv_X11_trace (ro : UInt32 → Nat × (Nat → Int32)) (nv np cm : Nat) (I : Nat → Nat → Int32) (G : Nat → Nat → Int64) (A : Nat → Nat → Int32) (B : Nat → Nat → Int64) (hI : CV nv np cm I) (hcm : cm < 1000000000) (a : Int32) : zWp ro 102 0 [(0, .ref 0), (1, .int a)] [] (hS I G A B) 0 0 (zWv pN nv np (cm + 0) I G A B zRt1) := by
  have hnv := hI.1.1.2
  have hnp := hI.1.2.1.2
  refine zw_iload_n 1 f102_0 rfl rfl ?_
  refine zw_if_lt 4 33 f102_1 (by decide +kernel) rfl (fun hc1 => ?_) (fun hc1 => ?_)
  · refine zw_iconst (-1) 34 f102_33 rfl (by decide +kernel) ?_
    refine zw_ireturn f102_34 r102 u102 ?_
    exact ⟨_, _, _, _, rfl, KP.rf, CV.mono hI (by omega), ⟨_, rfl⟩⟩
  · refine zw_iload_n 5 f102_4 rfl rfl ?_
    refine zw_aload_n 6 f102_5 rfl rfl ?_
    refine zw_getfield 9 f102_6 rfl g102_45_11 (hb_0 _ _ _ _) rfl ?_
    obtain ⟨x2p, x2q, x2e⟩ := hI.2.2
    refine zw_getI (nI x2p) 12 f102_9 rfl g102_256_0 (hb_44 _ _ _ _) rfl x2e ?_
    refine zw_ic_ge 15 33 f102_12 (by decide +kernel) rfl (fun hc3 => ?_) (fun hc3 => ?_)
    · refine zw_iconst (-1) 34 f102_33 rfl (by decide +kernel) ?_
      refine zw_ireturn f102_34 r102 u102 ?_
      exact ⟨_, _, _, _, rfl, KP.rf, CV.mono hI (by omega), ⟨_, rfl⟩⟩
    · refine zw_iload_n 16 f102_15 rfl rfl ?_
      refine zw_bipush 50 18 f102_16 rfl (by decide +kernel) ?_
      refine zw_ic_ge 21 33 f102_18 (by decide +kernel) rfl (fun hc4 => ?_) (fun hc4 => ?_)
      · refine zw_iconst (-1) 34 f102_33 rfl (by decide +kernel) ?_
        refine zw_ireturn f102_34 r102 u102 ?_
        exact ⟨_, _, _, _, rfl, KP.rf, CV.mono hI (by omega), ⟨_, rfl⟩⟩
      · refine zw_aload_n 22 f102_21 rfl rfl ?_
        refine zw_getfield 25 f102_22 rfl g102_45_11 (hb_0 _ _ _ _) rfl ?_
        refine zw_getfield 28 f102_25 rfl g102_301_0 (hb_44 _ _ _ _) rfl ?_
        refine zw_iload_n 29 f102_28 rfl rfl ?_
        refine zx_iaload a.toNatClampNeg 30 f102_29 rfl (hb_45 _ _ _ _) rfl hc1 (zix (by decide) hc1 hc4) (fun w5 hw5 => ?_)
        refine zw_goto 34 f102_30 (by decide +kernel) ?_
        refine zw_ireturn f102_34 r102 u102 ?_
        exact ⟨_, _, _, _, rfl, KP.rf, CV.mono hI (by omega), ⟨_, rfl⟩⟩
set_option maxRecDepth 100000 in
set_option maxHeartbeats 0 in
theorem cv_X11_status (ro : UInt32 → Nat × (Nat → Int32)) (nv np cm : Nat) (I : Nat → Nat → Int32) (G : Nat → Nat → Int64) (A : Nat → Nat → Int32) (B : Nat → Nat → Int64) (hI : CV nv np cm I) (hcm : cm < 1000000000) : zWp ro 104 0 [(0, .ref 0)] [] (hS I G A B) 0 0 (zWv pN nv np (cm + 0) I G A B zRt1) := by
  have hnv := hI.1.1.2
  have hnp := hI.1.2.1.2
  refine zw_aload_n 1 f104_0 rfl rfl ?_
  refine zx_getI 4 f104_1 rfl g104_70_11 (hb_0 _ _ _ _) rfl (fun w1 hw1 => ?_)
  refine zw_ireturn f104_4 r104 u104 ?_
  exact ⟨_, _, _, _, rfl, KP.rf, CV.mono hI (by omega), ⟨_, rfl⟩⟩
set_option maxRecDepth 100000 in
set_option maxHeartbeats 0 in
theorem lcv_X11_firstShutsAt_2 (ro : UInt32 → Nat × (Nat → Int32)) (nv np cm : Nat) (I : Nat → Nat → Int32) (G : Nat → Nat → Int64) (A : Nat → Nat → Int32) (B : Nat → Nat → Int64) (hI : CV nv np cm I) (hcm : cm < 1000000000) (a : Int32) (b : Int32) : ∀ (n k : Nat) (ls : List (Nat × Value)) (I1 : Nat → Nat → Int32) (G1 : Nat → Nat → Int64) (A1 : Nat → Nat → Int32) (B1 : Nat → Nat → Int64), KP pN I G A B I1 G1 A1 B1 → CV nv np (cm + 0 * k) I1 → True → zld ls 0 = some (.ref 0) → zld ls 1 = some (.int a) → zld ls 2 = some (.int b) → zld ls 3 = some (.int (nI k)) → k ≤ 60 → 60 + 1 ≤ k + n → zWp ro 108 2 ls [] (hS I1 G1 A1 B1) 0 0 (zWv pN nv np (cm + 0) I G A B zRt2) := by
  have hnv := hI.1.1.2
  have hnp := hI.1.2.1.2
  intro n
  induction n with
  | zero =>
    intro k ls I1 G1 A1 B1 K hJ _ hl0 hl1 hl2 hl3 h1 h2
    exact absurd h2 (by omega)
  | succ n ih =>
    intro k ls I1 G1 A1 B1 K hJ _ hl0 hl1 hl2 hl3 hk1 hk2
    refine zw_iload_n 3 f108_2 rfl hl3 ?_
    refine zw_bipush 60 5 f108_3 rfl (by decide +kernel) ?_
    refine zw_ic_ge 8 75 f108_5 (by decide +kernel) rfl (fun hc1 => ?_) (fun hc1 => ?_)
    · have hn_hc1 : 60 ≤ k := zn_ge (by omega) (by omega) hc1
      refine zw_iconst 0 76 f108_75 rfl (by decide +kernel) ?_
      refine zw_zreturn f108_76 r108 u108 (by decide +kernel) ?_
      exact ⟨_, _, _, _, rfl, K, CV.mono hJ (by omega), ⟨_, rfl, (by decide +kernel)⟩⟩
    · have hn_hc1 : k < 60 := zn_lt (by omega) (by omega) hc1
      refine zw_aload_n 9 f108_8 rfl hl0 ?_
      refine zw_getfield 12 f108_9 rfl g108_25_11 (hb_0 _ _ _ _) rfl ?_
      refine zw_virtual_v 15 0 0 [.ref 22] [(0, .ref 22)] f108_12 rfl n108_167 k108_167_10 rfl (hb_22 _ _ _ _) (by decide +kernel) (Nat.le_of_ble_eq_true rfl) rfl rfl (by decide +kernel) (by decide +kernel) rfl (Nat.le_of_ble_eq_true rfl) rfl ?_
      refine zWp.mono (ck_X10_seekNext_22 ro nv np I1 _ _ _ hJ.1 ) ?_
      rintro r h1 ⟨I_3, G_3, A_3, B_3, rfl, K_3, hI_3, rfl⟩
      refine ⟨rfl, ?_⟩
      have hV_3 : CV nv np (cm + 0 * k) I_3 := CV.of (I := I1) hJ K_3 hI_3
      have K_3 := KP.tr K (KP.wk K_3 pWN)
      refine zw_aload_n 16 f108_15 rfl hl0 ?_
      refine zw_getfield 19 f108_16 rfl g108_25_11 (hb_0 _ _ _ _) rfl ?_
      refine zw_virtual_i 22 0 0 [.ref 22] [(0, .ref 22)] f108_19 rfl n108_170 k108_170_10 rfl (hb_22 _ _ _ _) (by decide +kernel) (Nat.le_of_ble_eq_true rfl) rfl rfl (by decide +kernel) (by decide +kernel) rfl (Nat.le_of_ble_eq_true rfl) rfl ?_
      refine zWp.mono (cp_X10_rests_22 ro nv np I_3 _ _ _ hV_3.1 ) ?_
      rintro r h1 ⟨rfl, ⟨w4, rfl, hw4⟩⟩
      refine ⟨_, rfl, ?_⟩
      refine zw_if_ne 25 46 f108_22 (by decide +kernel) rfl (fun hc5 => ?_) (fun hc5 => ?_)
      · refine zw_iconst 0 47 f108_46 rfl (by decide +kernel) ?_
        refine zw_zreturn f108_47 r108 u108 (by decide +kernel) ?_
        exact ⟨_, _, _, _, rfl, K_3, CV.mono hV_3 (by omega), ⟨_, rfl, (by decide +kernel)⟩⟩
      · refine zw_aload_n 26 f108_25 rfl hl0 ?_
        refine zw_getfield 29 f108_26 rfl g108_25_11 (hb_0 _ _ _ _) rfl ?_
        refine zw_iload_n 30 f108_29 rfl hl2 ?_
        refine zw_virtual_i 33 0 0 [.ref 22, .int b] [(0, .ref 22), (1, .int b)] f108_30 rfl n108_174 k108_174_10 rfl (hb_22 _ _ _ _) (by decide +kernel) (Nat.le_of_ble_eq_true rfl) rfl rfl (by decide +kernel) (by decide +kernel) rfl (Nat.le_of_ble_eq_true rfl) rfl ?_
        refine zWp.mono (cp_X10_nextIsBehind_22 ro nv np I_3 _ _ _ hV_3.1 b) ?_
        rintro r h1 ⟨rfl, ⟨w6, rfl, hw6⟩⟩
        refine ⟨_, rfl, ?_⟩
        refine zw_if_ne 36 46 f108_33 (by decide +kernel) rfl (fun hc7 => ?_) (fun hc7 => ?_)
        · refine zw_iconst 0 47 f108_46 rfl (by decide +kernel) ?_
          refine zw_zreturn f108_47 r108 u108 (by decide +kernel) ?_
          exact ⟨_, _, _, _, rfl, K_3, CV.mono hV_3 (by omega), ⟨_, rfl, (by decide +kernel)⟩⟩
        · refine zw_aload_n 37 f108_36 rfl hl0 ?_
          refine zw_getfield 40 f108_37 rfl g108_25_11 (hb_0 _ _ _ _) rfl ?_
          refine zw_virtual_i 43 0 0 [.ref 22] [(0, .ref 22)] f108_40 rfl n108_184 k108_184_10 rfl (hb_22 _ _ _ _) (by decide +kernel) (Nat.le_of_ble_eq_true rfl) rfl rfl (by decide +kernel) (by decide +kernel) rfl (Nat.le_of_ble_eq_true rfl) rfl ?_
          refine zWp.mono (ck_X10_step_22 ro nv np I_3 _ _ _ hV_3.1 ) ?_
          rintro r h1 ⟨I_9, G_9, A_9, B_9, rfl, K_9, hI_9, ⟨w8, rfl, hw8⟩⟩
          refine ⟨_, rfl, ?_⟩
          have hV_9 : CV nv np (cm + 0 * k) I_9 := CV.of (I := I_3) hV_3 K_9 hI_9
          have K_9 := KP.tr K_3 (KP.wk K_9 pWN)
          refine zw_if_ne 46 48 f108_43 (by decide +kernel) rfl (fun hc10 => ?_) (fun hc10 => ?_)
          · refine zw_aload_n 49 f108_48 rfl hl0 ?_
            refine zw_getfield 52 f108_49 rfl g108_25_11 (hb_0 _ _ _ _) rfl ?_
            refine zw_iconst 4 53 f108_52 rfl (by decide +kernel) ?_
            refine zw_iload_n 54 f108_53 rfl hl1 ?_
            refine zw_virtual_i 57 0 0 [.ref 22, .int 4, .int a] [(0, .ref 22), (1, .int 4), (2, .int a)] f108_54 rfl n108_321 k108_321_10 rfl (hb_22 _ _ _ _) (by decide +kernel) (Nat.le_of_ble_eq_true rfl) rfl rfl (by decide +kernel) (by decide +kernel) rfl (Nat.le_of_ble_eq_true rfl) rfl ?_
            refine zWp.mono (cp_X10_hasHappened_22 ro nv np I_9 _ _ _ hV_9.1 4 a) ?_
            rintro r h1 ⟨rfl, ⟨w11, rfl, hw11⟩⟩
            refine ⟨_, rfl, ?_⟩
            refine zw_if_eq 60 69 f108_57 (by decide +kernel) rfl (fun hc12 => ?_) (fun hc12 => ?_)
            · refine zw_iinc (nI (k + 1)) _ 72 f108_69 rfl hl3 (by decide +kernel) (nI_1 _) rfl ?_
              refine zw_goto 2 f108_72 (by decide +kernel) ?_
              exact ih ((k + 1)) _ _ _ _ _ K_9 (CV.mono hV_9 (by omega))  trivial (zl1_ne rfl rfl hl0) (zl1_ne rfl rfl hl1) (zl1_ne rfl rfl hl2) zl1_eq (by omega) (by omega)
            · refine zw_aload_n 61 f108_60 rfl hl0 ?_
              refine zw_getfield 64 f108_61 rfl g108_25_11 (hb_0 _ _ _ _) rfl ?_
              refine zw_iload_n 65 f108_64 rfl hl2 ?_
              refine zw_virtual_i 68 0 0 [.ref 22, .int b] [(0, .ref 22), (1, .int b)] f108_65 rfl n108_324 k108_324_10 rfl (hb_22 _ _ _ _) (by decide +kernel) (Nat.le_of_ble_eq_true rfl) rfl rfl (by decide +kernel) (by decide +kernel) rfl (Nat.le_of_ble_eq_true rfl) rfl ?_
              refine zWp.mono (cp_X10_isAt_22 ro nv np I_9 _ _ _ hV_9.1 b) ?_
              rintro r h1 ⟨rfl, ⟨w13, rfl, hw13⟩⟩
              refine ⟨_, rfl, ?_⟩
              refine zw_zreturn f108_68 r108 u108 hw13 ?_
              exact ⟨_, _, _, _, rfl, K_9, CV.mono hV_9 (by omega), ⟨_, rfl, hw13⟩⟩
          · refine zw_iconst 0 47 f108_46 rfl (by decide +kernel) ?_
            refine zw_zreturn f108_47 r108 u108 (by decide +kernel) ?_
            exact ⟨_, _, _, _, rfl, K_9, CV.mono hV_9 (by omega), ⟨_, rfl, (by decide +kernel)⟩⟩
set_option maxRecDepth 100000 in
set_option maxHeartbeats 0 in
theorem cv_X11_firstShutsAt (ro : UInt32 → Nat × (Nat → Int32)) (nv np cm : Nat) (I : Nat → Nat → Int32) (G : Nat → Nat → Int64) (A : Nat → Nat → Int32) (B : Nat → Nat → Int64) (hI : CV nv np cm I) (hcm : cm < 1000000000) (a : Int32) (b : Int32) : zWp ro 108 0 [(0, .ref 0), (1, .int a), (2, .int b)] [] (hS I G A B) 0 0 (zWv pN nv np (cm + 0) I G A B zRt2) := by
  have hnv := hI.1.1.2
  have hnp := hI.1.2.1.2
  refine zw_iconst 0 1 f108_0 rfl (by decide +kernel) ?_
  refine zw_istore_n _ 2 f108_1 rfl (by decide +kernel) rfl ?_
  exact lcv_X11_firstShutsAt_2 ro nv np cm I G A B hI hcm a b (60 + 1) 0 _ _ _ _ _ KP.rf (CV.mono hI (by omega))  trivial (zl1_ne rfl rfl rfl) (zl1_ne rfl rfl rfl) (zl1_ne rfl rfl rfl) (show zld _ _ = some (.int (nI 0)) from zl1_eq) (by omega) (by omega)
