def fAc (k j : Nat) : Bool := decide ((k = 0 ∧ j = 7) ∨ k = 44)
def pAc (k : Nat) : Bool := decide (k = 45)
theorem fAc_52 : ∀ k j, 52 ≤ k → fAc k j = false := by
  intro k j h
  simp only [fAc, decide_eq_false_iff_not]
  omega
theorem pAc_52 : ∀ k, 52 ≤ k → pAc k = false := by
  intro k h
  simp only [pAc, decide_eq_false_iff_not]
  omega
def fmr (y x : Int32) : Int32 := if (x ^^^ y) < 0 ∧ ¬ (x - x / y * y) = 0 then (x - x / y * y) + y else (x - x / y * y)
theorem rg_fin {x : Int32} (h : qRg x (-100) 100) : ∃ i : Fin 201, Int32.ofInt ((i.val : Int) - 100) = x := by
  have q := qRg.i (l := -100) (h := 100) (by decide) (by decide) h
  refine ⟨⟨(x.toInt + 100).toNat, by omega⟩, ?_⟩
  show Int32.ofInt ((((x.toInt + 100).toNat : Nat) : Int) - 100) = x
  rw [show (((x.toInt + 100).toNat : Nat) : Int) - 100 = x.toInt by omega]
  exact Int32.ofInt_toInt x
theorem fm_8 {x : Int32} (h : qRg x (-100) 100) : fmr 8 x = mMod x 8 := by
  have t : ∀ i : Fin 201, fmr 8 (Int32.ofInt ((i.val : Int) - 100)) = mMod (Int32.ofInt ((i.val : Int) - 100)) 8 := by decide +kernel
  obtain ⟨i, e⟩ := rg_fin h
  have q := t i
  rw [e] at q
  exact q
theorem fm_5 {x : Int32} (h : qRg x (-100) 100) : fmr 5 x = mMod x 5 := by
  have t : ∀ i : Fin 201, fmr 5 (Int32.ofInt ((i.val : Int) - 100)) = mMod (Int32.ofInt ((i.val : Int) - 100)) 5 := by decide +kernel
  obtain ⟨i, e⟩ := rg_fin h
  have q := t i
  rw [e] at q
  exact q
theorem fm_2 {x : Int32} (h : qRg x (-100) 100) : fmr 2 x = 0 ↔ (x &&& 1) = 0 := by
  have t : ∀ i : Fin 201, (fmr 2 (Int32.ofInt ((i.val : Int) - 100)) = 0 ↔ (Int32.ofInt ((i.val : Int) - 100) &&& 1) = 0) := by decide +kernel
  obtain ⟨i, e⟩ := rg_fin h
  have q := t i
  rw [e] at q
  exact q
theorem nI_lt_of {n i : Nat} (hn : n < 1000) (hi : i < 1000) (h : ¬ nI n ≤ nI i) : i < n := by
  rcases Nat.lt_or_ge i n with q | q
  · exact q
  · exact absurd (by rw [Int32.le_iff_toInt_le, nI_toInt (by omega), nI_toInt (by omega)]; omega) h
theorem nI_le_of {n i : Nat} (hn : n < 1000) (hi : i < 1000) (h : nI n ≤ nI i) : n ≤ i := by
  rw [Int32.le_iff_toInt_le, nI_toInt (by omega), nI_toInt (by omega)] at h
  omega
noncomputable def an_forge (nv : Nat) (P : Nat → Nat → Int32) (a b c : Int32) : Int32 := cI (qRg a 0 6 ∧ qRg b (-100) 100 ∧ qRg c (-100) 100) (cI (a = 0) (cI (qV nv (mMod c 8)) (cI ((mMod b 5) = 0 ∨ (mMod b 5) = (P 53 (mMod c 8).toNatClampNeg) ∨ ((mMod b 5) = 3 ∧ (P 53 (mMod c 8).toNatClampNeg) = 4)) (P 53 (mMod c 8).toNatClampNeg) (-1)) (-1)) (cI (a = 1) (cI (b < 0) (-1) b) (cI (a = 2) (cI (qV nv b) (P 54 b.toNatClampNeg) (-1)) (cI (a = 3) (cI (b < 0 ∨ c < 0 ∨ 6 < b ∨ nI nv < c + b) (-1) (mSm (P 54) c.toNatClampNeg b.toNatClampNeg)) (cI (a = 4) (cI (qV nv (mMod c 8)) (cI ((P 53 (mMod c 8).toNatClampNeg) = 3 ∨ (P 53 (mMod c 8).toNatClampNeg) = 4) (P 54 (mMod c 8).toNatClampNeg) (-1)) 0) (cI (a = 5) (cI (b = 0) (-1) (1000 / b)) (cI ((b &&& 1) = 0) (-1) 1))))))) (-1)
set_option maxRecDepth 100000 in
set_option maxHeartbeats 0 in
theorem cx_fm (ro : UInt32 → Nat × (Nat → Int32)) (h : List va_E) (x y : Int32) (hy : ¬ y = 0) : zWp ro 186 0 [(0, .int x), (1, .int y)] [] h 0 0 (fun r h1 => h1 = h ∧ r = some (.int (fmr y x))) := by
  refine zw_iload_n 1 f186_0 rfl rfl ?_
  refine zw_iload_n 2 f186_1 rfl rfl ?_
  refine zw_irem (x - x / y * y) 3 f186_2 rfl hy rfl ?_
  refine zw_istore_n _ 4 f186_3 rfl (by decide +kernel) rfl ?_
  refine zw_iload_n 5 f186_4 rfl (zl1_ne rfl rfl rfl) ?_
  refine zw_iload_n 6 f186_5 rfl (zl1_ne rfl rfl rfl) ?_
  refine zw_ixor (x ^^^ y) 7 f186_6 rfl rfl ?_
  refine zw_if_ge 10 18 f186_7 (by decide +kernel) rfl (fun hc1 => ?_) (fun hc1 => ?_)
  · refine zw_iload_n 19 f186_18 rfl zl1_eq ?_
    refine zw_ireturn f186_19 r186 u186 ?_
    exact ⟨rfl, by rw [show fmr y x = (x - x / y * y) from if_neg (fun q => (Int32.not_lt.mpr hc1) q.1)]⟩
  · refine zw_iload_n 11 f186_10 rfl zl1_eq ?_
    refine zw_if_eq 14 18 f186_11 (by decide +kernel) rfl (fun hc2 => ?_) (fun hc2 => ?_)
    · refine zw_iload_n 19 f186_18 rfl zl1_eq ?_
      refine zw_ireturn f186_19 r186 u186 ?_
      exact ⟨rfl, by rw [show fmr y x = (x - x / y * y) from if_neg (fun q => q.2 hc2)]⟩
    · refine zw_iload_n 15 f186_14 rfl zl1_eq ?_
      refine zw_iload_n 16 f186_15 rfl (zl1_ne rfl rfl rfl) ?_
      refine zw_iadd ((x - x / y * y) + y) 17 f186_16 rfl rfl ?_
      refine zw_ireturn f186_17 r186 u186 ?_
      exact ⟨rfl, by rw [show fmr y x = ((x - x / y * y) + y) from if_pos ⟨(Int32.not_le.mp hc1), hc2⟩]⟩
set_option maxRecDepth 100000 in
set_option maxHeartbeats 0 in
theorem cx_brimOf (ro : UInt32 → Nat × (Nat → Int32)) (nv np : Nat) (P : Nat → Nat → Int32) (W : qW) (I : Nat → Nat → Int32) (G : Nat → Nat → Int64) (A : Nat → Nat → Int32) (B : Nat → Nat → Int64) (hR : cRS 11 nv np P W I G A B) (h8 : nv ≤ 8) (p : Nat) (hpp : p < nv) : zWp ro 16 0 [(0, .ref 1), (1, .int (nI p))] [] (hS I G A B) 0 0 (fun r h1 => h1 = hS I G A B ∧ r = some (.int (P 54 p))) := by
  refine zw_aload_n 1 f16_0 rfl rfl ?_
  refine zw_iload_n 2 f16_1 rfl rfl ?_
  refine zw_virtual_i 5 0 0 [.ref 1, .int (nI p)] [(0, .ref 1), (1, .int (nI p))] f16_2 rfl n16_46 k16_46_4 rfl (hb_1 _ _ _ _) (by decide +kernel) (Nat.le_of_ble_eq_true rfl) rfl rfl (by decide +kernel) (by decide +kernel) rfl (Nat.le_of_ble_eq_true rfl) rfl ?_
  refine zw_iload_n 1 f13_0 rfl rfl ?_
  refine zw_if_lt_f 4 22 f13_1 (by decide +kernel) rfl (nI_pos (by omega)) ?_
  refine zw_iload_n 5 f13_4 rfl rfl ?_
  refine zw_aload_n 6 f13_5 rfl rfl ?_
  refine zw_getI (nI nv) 9 f13_6 rfl g13_39_4 (hb_1 _ _ _ _) rfl hR.1.1 ?_
  refine zw_ic_ge_f 12 22 f13_9 (by decide +kernel) rfl (fun q => absurd (zn_ge (a := nv) (b := p) (by omega) (by omega) q) (by omega)) ?_
  refine zw_iload_n 13 f13_12 rfl rfl ?_
  refine zw_bipush 8 15 f13_13 rfl (by decide +kernel) ?_
  refine zw_ic_ge_f 18 22 f13_15 (by decide +kernel) rfl (fun q => absurd (zn_ge (a := 8) (b := p) (by omega) (by omega) q) (by omega)) ?_
  refine zw_iconst 1 19 f13_18 rfl (by decide +kernel) ?_
  refine zw_goto 23 f13_19 (by decide +kernel) ?_
  refine zw_zreturn f13_23 r13 u13 (by decide +kernel) ⟨_, rfl, ?_⟩
  refine zw_if_eq_f 8 17 f16_5 (by decide +kernel) rfl (by decide +kernel) ?_
  refine zw_aload_n 9 f16_8 rfl rfl ?_
  refine zw_getfield 12 f16_9 rfl g16_15_4 (hb_1 _ _ _ _) rfl ?_
  refine zw_iload_n 13 f16_12 rfl rfl ?_
  refine zw_iaload p (P 54 p) 14 f16_13 rfl (hb_3 _ _ _ _) (nI_clamp (by omega)) (nI_pos (by omega)) (by omega) (congrFun ((hR.2.1 54 (by omega) (by omega))) p) ?_
  refine zw_goto 18 f16_14 (by decide +kernel) ?_
  refine zw_ireturn f16_18 r16 u16 ?_
  exact ⟨rfl, rfl⟩
set_option maxRecDepth 100000 in
set_option maxHeartbeats 0 in
theorem cq_forge (ro : UInt32 → Nat × (Nat → Int32)) (nv np : Nat) (P : Nat → Nat → Int32) (W : qW) (L : qLog) (K : Int) (I : Nat → Nat → Int32) (G : Nat → Nat → Int64) (A : Nat → Nat → Int32) (B : Nat → Nat → Int64) (hR : cRS 11 nv np P W I G A B) (hp : MPa nv np P) (hq : qOw nv np P) (hW : wInv nv 10000 K P W) (hQ : qKd nv P) (hL : cLg L I A) (hn : L.1 < 900000000) (hro : (ro 1).1 = 5 ∧ (ro 1).2 = zka) (a b c : Int32) : zWp ro 103 0 [(0, .ref 0), (1, .int a), (2, .int b), (3, .int c)] [] (hS I G A B) 0 0 (fun r h1 => ∃ I2 G2 A2 B2, h1 = hS I2 G2 A2 B2 ∧ KQ fAc pAc I G A B I2 G2 A2 B2 ∧ r = some (.int (an_forge nv P a b c))) := by
  have h8 := hp.1
  have h14 := hp.2.1
  refine zw_iload_n 1 f103_0 rfl rfl ?_
  refine zw_iconst 0 2 f103_1 rfl (by decide +kernel) ?_
  refine zw_bipush 6 4 f103_2 rfl (by decide +kernel) ?_
  refine zw_static_i 7 0 0 [.int a, .int 0, .int 6] [] [(0, .int a), (1, .int 0), (2, .int 6)] f103_4 rfl k103_74_99 rfl (by decide +kernel) (Nat.le_of_ble_eq_true rfl) (Nat.le_of_ble_eq_true rfl) rfl rfl (by decide +kernel) (by decide +kernel) rfl (Nat.le_of_ble_eq_true rfl) rfl ?_
  refine zw_iload_n 1 f112_0 rfl rfl ?_
  refine zw_iload_n 2 f112_1 rfl rfl ?_
  refine zw_ic_lt 5 14 f112_2 (by decide +kernel) rfl (fun hc1 => ?_) (fun hc1 => ?_)
  · refine zw_iconst 0 15 f112_14 rfl (by decide +kernel) ?_
    refine zw_zreturn f112_15 r112 u112 (by decide +kernel) ⟨_, rfl, ?_⟩
    refine zw_if_eq_t 32 f103_7 (by decide +kernel) (by decide +kernel) ?_
    refine zw_aload_n 33 f103_32 rfl rfl ?_
    refine zw_iconst 1 34 f103_33 rfl (by decide +kernel) ?_
    refine zw_virtual_i 37 0 0 [.ref 0, .int 1] [(0, .ref 0), (1, .int 1)] f103_34 rfl n103_78 k103_78_11 rfl (hb_0 _ _ _ _) (by decide +kernel) (Nat.le_of_ble_eq_true rfl) rfl rfl (by decide +kernel) (by decide +kernel) rfl (Nat.le_of_ble_eq_true rfl) rfl ?_
    refine zw_aload_n 1 f105_0 rfl rfl ?_
    refine zw_iload_n 2 f105_1 rfl rfl ?_
    refine zw_put _ 5 f105_2 rfl g105_70_11 (hb_0 _ _ _ _) rfl (Nat.le_of_ble_eq_true rfl) (by decide +kernel) (hi_0_7 _ _ _ _ _) ?_
    refine zw_iconst (-1) 6 f105_5 rfl (by decide +kernel) ?_
    refine zw_ireturn f105_6 r105 u105 ⟨_, rfl, ?_⟩
    refine zw_ireturn f103_37 r103 u103 ?_
    exact ⟨_, _, _, _, rfl, (KQ.i rfl KQ.rf), by rw [show an_forge nv P a b c = (-1) from (cI_n (fun q => (fun q => q.1 hc1) q.1))]⟩
  · refine zw_iload_n 6 f112_5 rfl rfl ?_
    refine zw_iload_n 7 f112_6 rfl rfl ?_
    refine zw_ic_gt 10 14 f112_7 (by decide +kernel) rfl (fun hc2 => ?_) (fun hc2 => ?_)
    · refine zw_iconst 0 15 f112_14 rfl (by decide +kernel) ?_
      refine zw_zreturn f112_15 r112 u112 (by decide +kernel) ⟨_, rfl, ?_⟩
      refine zw_if_eq_t 32 f103_7 (by decide +kernel) (by decide +kernel) ?_
      refine zw_aload_n 33 f103_32 rfl rfl ?_
      refine zw_iconst 1 34 f103_33 rfl (by decide +kernel) ?_
      refine zw_virtual_i 37 0 0 [.ref 0, .int 1] [(0, .ref 0), (1, .int 1)] f103_34 rfl n103_78 k103_78_11 rfl (hb_0 _ _ _ _) (by decide +kernel) (Nat.le_of_ble_eq_true rfl) rfl rfl (by decide +kernel) (by decide +kernel) rfl (Nat.le_of_ble_eq_true rfl) rfl ?_
      refine zw_aload_n 1 f105_0 rfl rfl ?_
      refine zw_iload_n 2 f105_1 rfl rfl ?_
      refine zw_put _ 5 f105_2 rfl g105_70_11 (hb_0 _ _ _ _) rfl (Nat.le_of_ble_eq_true rfl) (by decide +kernel) (hi_0_7 _ _ _ _ _) ?_
      refine zw_iconst (-1) 6 f105_5 rfl (by decide +kernel) ?_
      refine zw_ireturn f105_6 r105 u105 ⟨_, rfl, ?_⟩
      refine zw_ireturn f103_37 r103 u103 ?_
      exact ⟨_, _, _, _, rfl, (KQ.i rfl KQ.rf), by rw [show an_forge nv P a b c = (-1) from (cI_n (fun q => (fun q => q.2 hc2) q.1))]⟩
    · refine zw_iconst 1 11 f112_10 rfl (by decide +kernel) ?_
      refine zw_goto 15 f112_11 (by decide +kernel) ?_
      refine zw_zreturn f112_15 r112 u112 (by decide +kernel) ⟨_, rfl, ?_⟩
      refine zw_if_eq_f 10 32 f103_7 (by decide +kernel) rfl (by decide +kernel) ?_
      refine zw_iload_n 11 f103_10 rfl rfl ?_
      refine zw_bipush (-100) 13 f103_11 rfl (by decide +kernel) ?_
      refine zw_bipush 100 15 f103_13 rfl (by decide +kernel) ?_
      refine zw_static_i 18 0 0 [.int b, .int (-100), .int 100] [] [(0, .int b), (1, .int (-100)), (2, .int 100)] f103_15 rfl k103_74_99 rfl (by decide +kernel) (Nat.le_of_ble_eq_true rfl) (Nat.le_of_ble_eq_true rfl) rfl rfl (by decide +kernel) (by decide +kernel) rfl (Nat.le_of_ble_eq_true rfl) rfl ?_
      refine zw_iload_n 1 f112_0 rfl rfl ?_
      refine zw_iload_n 2 f112_1 rfl rfl ?_
      refine zw_ic_lt 5 14 f112_2 (by decide +kernel) rfl (fun hc3 => ?_) (fun hc3 => ?_)
      · refine zw_iconst 0 15 f112_14 rfl (by decide +kernel) ?_
        refine zw_zreturn f112_15 r112 u112 (by decide +kernel) ⟨_, rfl, ?_⟩
        refine zw_if_eq_t 32 f103_18 (by decide +kernel) (by decide +kernel) ?_
        refine zw_aload_n 33 f103_32 rfl rfl ?_
        refine zw_iconst 1 34 f103_33 rfl (by decide +kernel) ?_
        refine zw_virtual_i 37 0 0 [.ref 0, .int 1] [(0, .ref 0), (1, .int 1)] f103_34 rfl n103_78 k103_78_11 rfl (hb_0 _ _ _ _) (by decide +kernel) (Nat.le_of_ble_eq_true rfl) rfl rfl (by decide +kernel) (by decide +kernel) rfl (Nat.le_of_ble_eq_true rfl) rfl ?_
        refine zw_aload_n 1 f105_0 rfl rfl ?_
        refine zw_iload_n 2 f105_1 rfl rfl ?_
        refine zw_put _ 5 f105_2 rfl g105_70_11 (hb_0 _ _ _ _) rfl (Nat.le_of_ble_eq_true rfl) (by decide +kernel) (hi_0_7 _ _ _ _ _) ?_
        refine zw_iconst (-1) 6 f105_5 rfl (by decide +kernel) ?_
        refine zw_ireturn f105_6 r105 u105 ⟨_, rfl, ?_⟩
        refine zw_ireturn f103_37 r103 u103 ?_
        exact ⟨_, _, _, _, rfl, (KQ.i rfl KQ.rf), by rw [show an_forge nv P a b c = (-1) from (cI_n (fun q => (fun q => q.1 hc3) q.2.1))]⟩
      · refine zw_iload_n 6 f112_5 rfl rfl ?_
        refine zw_iload_n 7 f112_6 rfl rfl ?_
        refine zw_ic_gt 10 14 f112_7 (by decide +kernel) rfl (fun hc4 => ?_) (fun hc4 => ?_)
        · refine zw_iconst 0 15 f112_14 rfl (by decide +kernel) ?_
          refine zw_zreturn f112_15 r112 u112 (by decide +kernel) ⟨_, rfl, ?_⟩
          refine zw_if_eq_t 32 f103_18 (by decide +kernel) (by decide +kernel) ?_
          refine zw_aload_n 33 f103_32 rfl rfl ?_
          refine zw_iconst 1 34 f103_33 rfl (by decide +kernel) ?_
          refine zw_virtual_i 37 0 0 [.ref 0, .int 1] [(0, .ref 0), (1, .int 1)] f103_34 rfl n103_78 k103_78_11 rfl (hb_0 _ _ _ _) (by decide +kernel) (Nat.le_of_ble_eq_true rfl) rfl rfl (by decide +kernel) (by decide +kernel) rfl (Nat.le_of_ble_eq_true rfl) rfl ?_
          refine zw_aload_n 1 f105_0 rfl rfl ?_
          refine zw_iload_n 2 f105_1 rfl rfl ?_
          refine zw_put _ 5 f105_2 rfl g105_70_11 (hb_0 _ _ _ _) rfl (Nat.le_of_ble_eq_true rfl) (by decide +kernel) (hi_0_7 _ _ _ _ _) ?_
          refine zw_iconst (-1) 6 f105_5 rfl (by decide +kernel) ?_
          refine zw_ireturn f105_6 r105 u105 ⟨_, rfl, ?_⟩
          refine zw_ireturn f103_37 r103 u103 ?_
          exact ⟨_, _, _, _, rfl, (KQ.i rfl KQ.rf), by rw [show an_forge nv P a b c = (-1) from (cI_n (fun q => (fun q => q.2 hc4) q.2.1))]⟩
        · refine zw_iconst 1 11 f112_10 rfl (by decide +kernel) ?_
          refine zw_goto 15 f112_11 (by decide +kernel) ?_
          refine zw_zreturn f112_15 r112 u112 (by decide +kernel) ⟨_, rfl, ?_⟩
          refine zw_if_eq_f 21 32 f103_18 (by decide +kernel) rfl (by decide +kernel) ?_
          refine zw_iload_n 22 f103_21 rfl rfl ?_
          refine zw_bipush (-100) 24 f103_22 rfl (by decide +kernel) ?_
          refine zw_bipush 100 26 f103_24 rfl (by decide +kernel) ?_
          refine zw_static_i 29 0 0 [.int c, .int (-100), .int 100] [] [(0, .int c), (1, .int (-100)), (2, .int 100)] f103_26 rfl k103_74_99 rfl (by decide +kernel) (Nat.le_of_ble_eq_true rfl) (Nat.le_of_ble_eq_true rfl) rfl rfl (by decide +kernel) (by decide +kernel) rfl (Nat.le_of_ble_eq_true rfl) rfl ?_
          refine zw_iload_n 1 f112_0 rfl rfl ?_
          refine zw_iload_n 2 f112_1 rfl rfl ?_
          refine zw_ic_lt 5 14 f112_2 (by decide +kernel) rfl (fun hc5 => ?_) (fun hc5 => ?_)
          · refine zw_iconst 0 15 f112_14 rfl (by decide +kernel) ?_
            refine zw_zreturn f112_15 r112 u112 (by decide +kernel) ⟨_, rfl, ?_⟩
            refine zw_if_ne_f 32 38 f103_29 (by decide +kernel) rfl (by decide +kernel) ?_
            refine zw_aload_n 33 f103_32 rfl rfl ?_
            refine zw_iconst 1 34 f103_33 rfl (by decide +kernel) ?_
            refine zw_virtual_i 37 0 0 [.ref 0, .int 1] [(0, .ref 0), (1, .int 1)] f103_34 rfl n103_78 k103_78_11 rfl (hb_0 _ _ _ _) (by decide +kernel) (Nat.le_of_ble_eq_true rfl) rfl rfl (by decide +kernel) (by decide +kernel) rfl (Nat.le_of_ble_eq_true rfl) rfl ?_
            refine zw_aload_n 1 f105_0 rfl rfl ?_
            refine zw_iload_n 2 f105_1 rfl rfl ?_
            refine zw_put _ 5 f105_2 rfl g105_70_11 (hb_0 _ _ _ _) rfl (Nat.le_of_ble_eq_true rfl) (by decide +kernel) (hi_0_7 _ _ _ _ _) ?_
            refine zw_iconst (-1) 6 f105_5 rfl (by decide +kernel) ?_
            refine zw_ireturn f105_6 r105 u105 ⟨_, rfl, ?_⟩
            refine zw_ireturn f103_37 r103 u103 ?_
            exact ⟨_, _, _, _, rfl, (KQ.i rfl KQ.rf), by rw [show an_forge nv P a b c = (-1) from (cI_n (fun q => (fun q => q.1 hc5) q.2.2))]⟩
          · refine zw_iload_n 6 f112_5 rfl rfl ?_
            refine zw_iload_n 7 f112_6 rfl rfl ?_
            refine zw_ic_gt 10 14 f112_7 (by decide +kernel) rfl (fun hc6 => ?_) (fun hc6 => ?_)
            · refine zw_iconst 0 15 f112_14 rfl (by decide +kernel) ?_
              refine zw_zreturn f112_15 r112 u112 (by decide +kernel) ⟨_, rfl, ?_⟩
              refine zw_if_ne_f 32 38 f103_29 (by decide +kernel) rfl (by decide +kernel) ?_
              refine zw_aload_n 33 f103_32 rfl rfl ?_
              refine zw_iconst 1 34 f103_33 rfl (by decide +kernel) ?_
              refine zw_virtual_i 37 0 0 [.ref 0, .int 1] [(0, .ref 0), (1, .int 1)] f103_34 rfl n103_78 k103_78_11 rfl (hb_0 _ _ _ _) (by decide +kernel) (Nat.le_of_ble_eq_true rfl) rfl rfl (by decide +kernel) (by decide +kernel) rfl (Nat.le_of_ble_eq_true rfl) rfl ?_
              refine zw_aload_n 1 f105_0 rfl rfl ?_
              refine zw_iload_n 2 f105_1 rfl rfl ?_
              refine zw_put _ 5 f105_2 rfl g105_70_11 (hb_0 _ _ _ _) rfl (Nat.le_of_ble_eq_true rfl) (by decide +kernel) (hi_0_7 _ _ _ _ _) ?_
              refine zw_iconst (-1) 6 f105_5 rfl (by decide +kernel) ?_
              refine zw_ireturn f105_6 r105 u105 ⟨_, rfl, ?_⟩
              refine zw_ireturn f103_37 r103 u103 ?_
              exact ⟨_, _, _, _, rfl, (KQ.i rfl KQ.rf), by rw [show an_forge nv P a b c = (-1) from (cI_n (fun q => (fun q => q.2 hc6) q.2.2))]⟩
            · refine zw_iconst 1 11 f112_10 rfl (by decide +kernel) ?_
              refine zw_goto 15 f112_11 (by decide +kernel) ?_
              refine zw_zreturn f112_15 r112 u112 (by decide +kernel) ⟨_, rfl, ?_⟩
              refine zw_if_ne_t 38 f103_29 (by decide +kernel) (by decide +kernel) ?_
              refine zw_iload_n 39 f103_38 rfl rfl ?_
              rcases zl_sw 5 (by decide) a with hs7 | ⟨hs7k, hs7l, hs7e⟩
              · refine zw_table_o 186 f103_39 hs7 (by decide +kernel) ?_
                refine zw_iload_n 187 f103_186 rfl rfl ?_
                refine zw_iconst 2 188 f103_187 rfl (by decide +kernel) ?_
                refine zw_static_i 191 0 0 [.int b, .int 2] [] [(0, .int b), (1, .int 2)] f103_188 rfl k103_304_99 rfl (by decide +kernel) (Nat.le_of_ble_eq_true rfl) (Nat.le_of_ble_eq_true rfl) rfl rfl (by decide +kernel) (by decide +kernel) rfl (Nat.le_of_ble_eq_true rfl) rfl ?_
                refine zWp.mono (cx_fm ro _ b 2 (by decide)) ?_
                rintro r h1 ⟨rfl, rfl⟩
                refine ⟨_, rfl, ?_⟩
                refine zw_if_ne 194 203 f103_191 (by decide +kernel) rfl (fun hc8 => ?_) (fun hc8 => ?_)
                · refine zw_aload_n 204 f103_203 rfl rfl ?_
                  refine zw_iconst 1 205 f103_204 rfl (by decide +kernel) ?_
                  refine zw_virtual_i 208 0 0 [.ref 0, .int 1] [(0, .ref 0), (1, .int 1)] f103_205 rfl n103_181 k103_181_11 rfl (hb_0 _ _ _ _) (by decide +kernel) (Nat.le_of_ble_eq_true rfl) rfl rfl (by decide +kernel) (by decide +kernel) rfl (Nat.le_of_ble_eq_true rfl) rfl ?_
                  refine zw_aload_n 1 f106_0 rfl rfl ?_
                  refine zw_iconst 0 2 f106_1 rfl (by decide +kernel) ?_
                  refine zw_put _ 5 f106_2 rfl g106_70_11 (hb_0 _ _ _ _) rfl (Nat.le_of_ble_eq_true rfl) (by decide +kernel) (hi_0_7 _ _ _ _ _) ?_
                  refine zw_iload_n 6 f106_5 rfl rfl ?_
                  refine zw_ireturn f106_6 r106 u106 ⟨_, rfl, ?_⟩
                  refine zw_ireturn f103_208 r103 u103 ?_
                  exact ⟨_, _, _, _, rfl, (KQ.i rfl KQ.rf), by rw [show an_forge nv P a b c = 1 from ((cI_y ⟨⟨hc1, hc2⟩, ⟨hc3, hc4⟩, ⟨hc5, hc6⟩⟩).trans ((cI_n (sw_ne hs7 (by decide))).trans ((cI_n (sw_ne hs7 (by decide))).trans ((cI_n (sw_ne hs7 (by decide))).trans ((cI_n (sw_ne hs7 (by decide))).trans ((cI_n (sw_ne hs7 (by decide))).trans ((cI_n (sw_ne hs7 (by decide))).trans (cI_n (fun z => hc8 ((fm_2 ⟨hc3, hc4⟩).mpr z))))))))))]⟩
                · refine zw_aload_n 195 f103_194 rfl rfl ?_
                  refine zw_bipush 10 197 f103_195 rfl (by decide +kernel) ?_
                  refine zw_virtual_i 200 0 0 [.ref 0, .int 10] [(0, .ref 0), (1, .int 10)] f103_197 rfl n103_78 k103_78_11 rfl (hb_0 _ _ _ _) (by decide +kernel) (Nat.le_of_ble_eq_true rfl) rfl rfl (by decide +kernel) (by decide +kernel) rfl (Nat.le_of_ble_eq_true rfl) rfl ?_
                  refine zw_aload_n 1 f105_0 rfl rfl ?_
                  refine zw_iload_n 2 f105_1 rfl rfl ?_
                  refine zw_put _ 5 f105_2 rfl g105_70_11 (hb_0 _ _ _ _) rfl (Nat.le_of_ble_eq_true rfl) (by decide +kernel) (hi_0_7 _ _ _ _ _) ?_
                  refine zw_iconst (-1) 6 f105_5 rfl (by decide +kernel) ?_
                  refine zw_ireturn f105_6 r105 u105 ⟨_, rfl, ?_⟩
                  refine zw_goto 208 f103_200 (by decide +kernel) ?_
                  refine zw_ireturn f103_208 r103 u103 ?_
                  exact ⟨_, _, _, _, rfl, (KQ.i rfl KQ.rf), by rw [show an_forge nv P a b c = (-1) from ((cI_y ⟨⟨hc1, hc2⟩, ⟨hc3, hc4⟩, ⟨hc5, hc6⟩⟩).trans ((cI_n (sw_ne hs7 (by decide))).trans ((cI_n (sw_ne hs7 (by decide))).trans ((cI_n (sw_ne hs7 (by decide))).trans ((cI_n (sw_ne hs7 (by decide))).trans ((cI_n (sw_ne hs7 (by decide))).trans ((cI_n (sw_ne hs7 (by decide))).trans (cI_y ((fm_2 ⟨hc3, hc4⟩).mp (Decidable.of_not_not hc8))))))))))]⟩
              · rcases (show hs7k = 0 ∨ hs7k = 1 ∨ hs7k = 2 ∨ hs7k = 3 ∨ hs7k = 4 ∨ hs7k = 5 by omega) with rfl | rfl | rfl | rfl | rfl | rfl
                · refine zw_table_k 37 76 f103_39 hs7e (by decide +kernel) (by decide +kernel) (by decide +kernel) ?_
                  refine zw_aload_n 77 f103_76 rfl rfl ?_
                  refine zw_iload_n 78 f103_77 rfl rfl ?_
                  refine zw_bipush 8 80 f103_78 rfl (by decide +kernel) ?_
                  refine zw_static_i 83 0 0 [.int c, .int 8] [.ref 0] [(0, .int c), (1, .int 8)] f103_80 rfl k103_304_99 rfl (by decide +kernel) (Nat.le_of_ble_eq_true rfl) (Nat.le_of_ble_eq_true rfl) rfl rfl (by decide +kernel) (by decide +kernel) rfl (Nat.le_of_ble_eq_true rfl) rfl ?_
                  refine zWp.mono (cx_fm ro _ c 8 (by decide)) ?_
                  rintro r h1 ⟨rfl, rfl⟩
                  rw [fm_8 ⟨hc5, hc6⟩]
                  refine ⟨_, rfl, ?_⟩
                  refine zw_iload_n 84 f103_83 rfl rfl ?_
                  refine zw_iconst 5 85 f103_84 rfl (by decide +kernel) ?_
                  refine zw_static_i 88 0 0 [.int b, .int 5] [.int (mMod c 8), .ref 0] [(0, .int b), (1, .int 5)] f103_85 rfl k103_304_99 rfl (by decide +kernel) (Nat.le_of_ble_eq_true rfl) (Nat.le_of_ble_eq_true rfl) rfl rfl (by decide +kernel) (by decide +kernel) rfl (Nat.le_of_ble_eq_true rfl) rfl ?_
                  refine zWp.mono (cx_fm ro _ b 5 (by decide)) ?_
                  rintro r h1 ⟨rfl, rfl⟩
                  rw [fm_5 ⟨hc3, hc4⟩]
                  refine ⟨_, rfl, ?_⟩
                  refine zw_virtual_i 91 0 0 [.ref 0, .int (mMod c 8), .int (mMod b 5)] [(0, .ref 0), (1, .int (mMod c 8)), (2, .int (mMod b 5))] f103_88 rfl n103_309 k103_309_11 rfl (hb_0 _ _ _ _) (by decide +kernel) (Nat.le_of_ble_eq_true rfl) rfl rfl (by decide +kernel) (by decide +kernel) rfl (Nat.le_of_ble_eq_true rfl) rfl ?_
                  refine zw_aload_n 1 f109_0 rfl rfl ?_
                  refine zw_getfield 4 f109_1 rfl g109_10_11 (hb_0 _ _ _ _) rfl ?_
                  refine zw_iload_n 5 f109_4 rfl rfl ?_
                  refine zw_virtual_i 8 0 0 [.ref 1, .int (mMod c 8)] [(0, .ref 1), (1, .int (mMod c 8))] f109_5 rfl n109_89 k109_89_4 rfl (hb_1 _ _ _ _) (by decide +kernel) (Nat.le_of_ble_eq_true rfl) rfl rfl (by decide +kernel) (by decide +kernel) rfl (Nat.le_of_ble_eq_true rfl) rfl ?_
                  refine zw_iload_n 1 f13_0 rfl rfl ?_
                  refine zw_if_lt 4 22 f13_1 (by decide +kernel) rfl (fun hc9 => ?_) (fun hc9 => ?_)
                  · refine zw_iconst 0 23 f13_22 rfl (by decide +kernel) ?_
                    refine zw_zreturn f13_23 r13 u13 (by decide +kernel) ⟨_, rfl, ?_⟩
                    refine zw_if_ne_f 11 18 f109_8 (by decide +kernel) rfl (by decide +kernel) ?_
                    refine zw_aload_n 12 f109_11 rfl rfl ?_
                    refine zw_bipush 10 14 f109_12 rfl (by decide +kernel) ?_
                    refine zw_virtual_i 17 0 0 [.ref 0, .int 10] [(0, .ref 0), (1, .int 10)] f109_14 rfl n109_78 k109_78_11 rfl (hb_0 _ _ _ _) (by decide +kernel) (Nat.le_of_ble_eq_true rfl) rfl rfl (by decide +kernel) (by decide +kernel) rfl (Nat.le_of_ble_eq_true rfl) rfl ?_
                    refine zw_aload_n 1 f105_0 rfl rfl ?_
                    refine zw_iload_n 2 f105_1 rfl rfl ?_
                    refine zw_put _ 5 f105_2 rfl g105_70_11 (hb_0 _ _ _ _) rfl (Nat.le_of_ble_eq_true rfl) (by decide +kernel) (hi_0_7 _ _ _ _ _) ?_
                    refine zw_iconst (-1) 6 f105_5 rfl (by decide +kernel) ?_
                    refine zw_ireturn f105_6 r105 u105 ⟨_, rfl, ?_⟩
                    refine zw_ireturn f109_17 r109 u109 ⟨_, rfl, ?_⟩
                    refine zw_ireturn f103_91 r103 u103 ?_
                    exact ⟨_, _, _, _, rfl, (KQ.i rfl KQ.rf), by rw [show an_forge nv P a b c = (-1) from ((cI_y ⟨⟨hc1, hc2⟩, ⟨hc3, hc4⟩, ⟨hc5, hc6⟩⟩).trans ((cI_y (show a = 0 from hs7e)).trans (cI_n (qV.n0 (by omega) hc9))))]⟩
                  · refine zw_iload_n 5 f13_4 rfl rfl ?_
                    refine zw_aload_n 6 f13_5 rfl rfl ?_
                    refine zw_getI (nI nv) 9 f13_6 rfl g13_39_4 (hb_1 _ _ _ _) rfl hR.1.1 ?_
                    refine zw_ic_ge 12 22 f13_9 (by decide +kernel) rfl (fun hc10 => ?_) (fun hc10 => ?_)
                    · refine zw_iconst 0 23 f13_22 rfl (by decide +kernel) ?_
                      refine zw_zreturn f13_23 r13 u13 (by decide +kernel) ⟨_, rfl, ?_⟩
                      refine zw_if_ne_f 11 18 f109_8 (by decide +kernel) rfl (by decide +kernel) ?_
                      refine zw_aload_n 12 f109_11 rfl rfl ?_
                      refine zw_bipush 10 14 f109_12 rfl (by decide +kernel) ?_
                      refine zw_virtual_i 17 0 0 [.ref 0, .int 10] [(0, .ref 0), (1, .int 10)] f109_14 rfl n109_78 k109_78_11 rfl (hb_0 _ _ _ _) (by decide +kernel) (Nat.le_of_ble_eq_true rfl) rfl rfl (by decide +kernel) (by decide +kernel) rfl (Nat.le_of_ble_eq_true rfl) rfl ?_
                      refine zw_aload_n 1 f105_0 rfl rfl ?_
                      refine zw_iload_n 2 f105_1 rfl rfl ?_
                      refine zw_put _ 5 f105_2 rfl g105_70_11 (hb_0 _ _ _ _) rfl (Nat.le_of_ble_eq_true rfl) (by decide +kernel) (hi_0_7 _ _ _ _ _) ?_
                      refine zw_iconst (-1) 6 f105_5 rfl (by decide +kernel) ?_
                      refine zw_ireturn f105_6 r105 u105 ⟨_, rfl, ?_⟩
                      refine zw_ireturn f109_17 r109 u109 ⟨_, rfl, ?_⟩
                      refine zw_ireturn f103_91 r103 u103 ?_
                      exact ⟨_, _, _, _, rfl, (KQ.i rfl KQ.rf), by rw [show an_forge nv P a b c = (-1) from ((cI_y ⟨⟨hc1, hc2⟩, ⟨hc3, hc4⟩, ⟨hc5, hc6⟩⟩).trans ((cI_y (show a = 0 from hs7e)).trans (cI_n (qV.n2 (by omega) hc10))))]⟩
                    · refine zw_iload_n 13 f13_12 rfl rfl ?_
                      refine zw_bipush 8 15 f13_13 rfl (by decide +kernel) ?_
                      refine zw_ic_ge 18 22 f13_15 (by decide +kernel) rfl (fun hc11 => ?_) (fun hc11 => ?_)
                      · refine zw_iconst 0 23 f13_22 rfl (by decide +kernel) ?_
                        refine zw_zreturn f13_23 r13 u13 (by decide +kernel) ⟨_, rfl, ?_⟩
                        refine zw_if_ne_f 11 18 f109_8 (by decide +kernel) rfl (by decide +kernel) ?_
                        refine zw_aload_n 12 f109_11 rfl rfl ?_
                        refine zw_bipush 10 14 f109_12 rfl (by decide +kernel) ?_
                        refine zw_virtual_i 17 0 0 [.ref 0, .int 10] [(0, .ref 0), (1, .int 10)] f109_14 rfl n109_78 k109_78_11 rfl (hb_0 _ _ _ _) (by decide +kernel) (Nat.le_of_ble_eq_true rfl) rfl rfl (by decide +kernel) (by decide +kernel) rfl (Nat.le_of_ble_eq_true rfl) rfl ?_
                        refine zw_aload_n 1 f105_0 rfl rfl ?_
                        refine zw_iload_n 2 f105_1 rfl rfl ?_
                        refine zw_put _ 5 f105_2 rfl g105_70_11 (hb_0 _ _ _ _) rfl (Nat.le_of_ble_eq_true rfl) (by decide +kernel) (hi_0_7 _ _ _ _ _) ?_
                        refine zw_iconst (-1) 6 f105_5 rfl (by decide +kernel) ?_
                        refine zw_ireturn f105_6 r105 u105 ⟨_, rfl, ?_⟩
                        refine zw_ireturn f109_17 r109 u109 ⟨_, rfl, ?_⟩
                        refine zw_ireturn f103_91 r103 u103 ?_
                        exact ⟨_, _, _, _, rfl, (KQ.i rfl KQ.rf), by rw [show an_forge nv P a b c = (-1) from ((cI_y ⟨⟨hc1, hc2⟩, ⟨hc3, hc4⟩, ⟨hc5, hc6⟩⟩).trans ((cI_y (show a = 0 from hs7e)).trans (cI_n (qV.n3 (m := 8) (N := 8) (by omega) (by omega) (by decide) hc11))))]⟩
                      · refine zw_iconst 1 19 f13_18 rfl (by decide +kernel) ?_
                        refine zw_goto 23 f13_19 (by decide +kernel) ?_
                        refine zw_zreturn f13_23 r13 u13 (by decide +kernel) ⟨_, rfl, ?_⟩
                        refine zw_if_ne_t 18 f109_8 (by decide +kernel) (by decide +kernel) ?_
                        refine zw_aload_n 19 f109_18 rfl rfl ?_
                        refine zw_getfield 22 f109_19 rfl g109_10_11 (hb_0 _ _ _ _) rfl ?_
                        refine zw_iload_n 23 f109_22 rfl rfl ?_
                        refine zw_virtual_i 26 0 0 [.ref 1, .int (mMod c 8)] [(0, .ref 1), (1, .int (mMod c 8))] f109_23 rfl n109_112 k109_112_4 rfl (hb_1 _ _ _ _) (by decide +kernel) (Nat.le_of_ble_eq_true rfl) rfl rfl (by decide +kernel) (by decide +kernel) rfl (Nat.le_of_ble_eq_true rfl) rfl ?_
                        refine zw_iload_n 1 f15_0 rfl rfl ?_
                        refine zw_if_lt_f 4 27 f15_1 (by decide +kernel) rfl hc9 ?_
                        refine zw_iload_n 5 f15_4 rfl rfl ?_
                        refine zw_aload_n 6 f15_5 rfl rfl ?_
                        refine zw_getI (nI nv) 9 f15_6 rfl g15_39_4 (hb_1 _ _ _ _) rfl hR.1.1 ?_
                        refine zw_ic_ge_f 12 27 f15_9 (by decide +kernel) rfl hc10 ?_
                        refine zw_iload_n 13 f15_12 rfl rfl ?_
                        refine zw_bipush 8 15 f15_13 rfl (by decide +kernel) ?_
                        refine zw_ic_ge_f 18 27 f15_15 (by decide +kernel) rfl hc11 ?_
                        refine zw_aload_n 19 f15_18 rfl rfl ?_
                        refine zw_getfield 22 f15_19 rfl g15_9_4 (hb_1 _ _ _ _) rfl ?_
                        refine zw_iload_n 23 f15_22 rfl rfl ?_
                        rcases (k5 (hQ.1 (mMod c 8).toNatClampNeg ((qV.ofc (by omega) hc9 hc10)).1)) with hk | hk | hk | hk | hk
                        · refine zw_iaload (mMod c 8).toNatClampNeg 0 24 f15_23 rfl (hb_2 _ _ _ _) rfl hc9 (zix (by decide) hc9 hc11) ((congrFun (hR.2.1 53 (by omega) (by omega)) (mMod c 8).toNatClampNeg).trans hk) ?_
                          refine zw_goto 28 f15_24 (by decide +kernel) ?_
                          refine zw_ireturn f15_28 r15 u15 ⟨_, rfl, ?_⟩
                          refine zw_istore_n _ 27 f109_26 rfl (by decide +kernel) rfl ?_
                          refine zw_iload_n 28 f109_27 rfl zl1_eq ?_
                          refine zw_iload_n 29 f109_28 rfl (zl1_ne rfl rfl rfl) ?_
                          refine zw_static_i 32 0 0 [.int 0, .int (mMod b 5)] [] [(0, .int 0), (1, .int (mMod b 5))] f109_29 rfl k109_327_99 rfl (by decide +kernel) (Nat.le_of_ble_eq_true rfl) (Nat.le_of_ble_eq_true rfl) rfl rfl (by decide +kernel) (by decide +kernel) rfl (Nat.le_of_ble_eq_true rfl) rfl ?_
                          refine zw_iload_n 1 f114_0 rfl rfl ?_
                          refine zw_istore_n _ 2 f114_1 rfl (by decide +kernel) rfl ?_
                          refine zw_iconst 0 3 f114_2 rfl (by decide +kernel) ?_
                          refine zw_istore_n _ 4 f114_3 rfl (by decide +kernel) rfl ?_
                          refine zw_iload_n 5 f114_4 rfl zl1_eq ?_
                          refine zw_iconst 5 6 f114_5 rfl (by decide +kernel) ?_
                          refine zw_ic_ge_f 9 37 f114_6 (by decide +kernel) rfl (by decide +kernel) ?_
                          refine zw_iload_n 10 f114_9 rfl (zl1_ne rfl rfl zl1_eq) ?_
                          refine zw_iconst 0 11 f114_10 rfl (by decide +kernel) ?_
                          refine zw_iconst 4 12 f114_11 rfl (by decide +kernel) ?_
                          refine zw_static_i 15 0 0 [.int 0, .int 0, .int 4] [] [(0, .int 0), (1, .int 0), (2, .int 4)] f114_12 rfl k114_74_99 rfl (by decide +kernel) (Nat.le_of_ble_eq_true rfl) (Nat.le_of_ble_eq_true rfl) rfl rfl (by decide +kernel) (by decide +kernel) rfl (Nat.le_of_ble_eq_true rfl) rfl ?_
                          refine zw_iload_n 1 f112_0 rfl rfl ?_
                          refine zw_iload_n 2 f112_1 rfl rfl ?_
                          refine zw_ic_lt_f 5 14 f112_2 (by decide +kernel) rfl (by decide +kernel) ?_
                          refine zw_iload_n 6 f112_5 rfl rfl ?_
                          refine zw_iload_n 7 f112_6 rfl rfl ?_
                          refine zw_ic_gt_f 10 14 f112_7 (by decide +kernel) rfl (by decide +kernel) ?_
                          refine zw_iconst 1 11 f112_10 rfl (by decide +kernel) ?_
                          refine zw_goto 15 f112_11 (by decide +kernel) ?_
                          refine zw_zreturn f112_15 r112 u112 (by decide +kernel) ⟨_, rfl, ?_⟩
                          refine zw_if_eq_f 18 37 f114_15 (by decide +kernel) rfl (by decide +kernel) ?_
                          refine zw_iload_n 19 f114_18 rfl (zl1_ne rfl rfl zl1_eq) ?_
                          refine zw_iload_n 20 f114_19 rfl (zl1_ne rfl rfl (zl1_ne rfl rfl rfl)) ?_
                          refine zw_ic_ne 23 25 f114_20 (by decide +kernel) rfl (fun hc12 => ?_) (fun hc12 => ?_)
                          · refine zw_getstatic 28 f114_25 rfl (by decide +kernel) ?_
                            refine zw_iload_n 29 f114_28 rfl (zl1_ne rfl rfl zl1_eq) ?_
                            refine zw_iaload_f 0 5 (-1) 30 f114_29 rfl hro.1 (by decide +kernel) (by decide +kernel) (by decide +kernel) ((congrFun hro.2 _).trans (by decide)) ?_
                            refine zw_istore_n _ 31 f114_30 rfl (by decide +kernel) rfl ?_
                            refine zw_iinc 1 _ 34 f114_31 rfl (zl1_ne rfl rfl zl1_eq) (by decide +kernel) (by decide +kernel) rfl ?_
                            refine zw_goto 4 f114_34 (by decide +kernel) ?_
                            refine zw_iload_n 5 f114_4 rfl zl1_eq ?_
                            refine zw_iconst 5 6 f114_5 rfl (by decide +kernel) ?_
                            refine zw_ic_ge_f 9 37 f114_6 (by decide +kernel) rfl (by decide +kernel) ?_
                            refine zw_iload_n 10 f114_9 rfl (zl1_ne rfl rfl zl1_eq) ?_
                            refine zw_iconst 0 11 f114_10 rfl (by decide +kernel) ?_
                            refine zw_iconst 4 12 f114_11 rfl (by decide +kernel) ?_
                            refine zw_static_i 15 0 0 [.int (-1), .int 0, .int 4] [] [(0, .int (-1)), (1, .int 0), (2, .int 4)] f114_12 rfl k114_74_99 rfl (by decide +kernel) (Nat.le_of_ble_eq_true rfl) (Nat.le_of_ble_eq_true rfl) rfl rfl (by decide +kernel) (by decide +kernel) rfl (Nat.le_of_ble_eq_true rfl) rfl ?_
                            refine zw_iload_n 1 f112_0 rfl rfl ?_
                            refine zw_iload_n 2 f112_1 rfl rfl ?_
                            refine zw_ic_lt_t 14 f112_2 (by decide +kernel) (by decide +kernel) ?_
                            refine zw_iconst 0 15 f112_14 rfl (by decide +kernel) ?_
                            refine zw_zreturn f112_15 r112 u112 (by decide +kernel) ⟨_, rfl, ?_⟩
                            refine zw_if_eq_t 37 f114_15 (by decide +kernel) (by decide +kernel) ?_
                            refine zw_iconst 0 38 f114_37 rfl (by decide +kernel) ?_
                            refine zw_zreturn f114_38 r114 u114 (by decide +kernel) ⟨_, rfl, ?_⟩
                            refine zw_if_eq_t 43 f109_32 (by decide +kernel) (by decide +kernel) ?_
                            refine zw_aload_n 44 f109_43 rfl (zl1_ne rfl rfl rfl) ?_
                            refine zw_bipush 11 46 f109_44 rfl (by decide +kernel) ?_
                            refine zw_virtual_i 49 0 0 [.ref 0, .int 11] [(0, .ref 0), (1, .int 11)] f109_46 rfl n109_78 k109_78_11 rfl (hb_0 _ _ _ _) (by decide +kernel) (Nat.le_of_ble_eq_true rfl) rfl rfl (by decide +kernel) (by decide +kernel) rfl (Nat.le_of_ble_eq_true rfl) rfl ?_
                            refine zw_aload_n 1 f105_0 rfl rfl ?_
                            refine zw_iload_n 2 f105_1 rfl rfl ?_
                            refine zw_put _ 5 f105_2 rfl g105_70_11 (hb_0 _ _ _ _) rfl (Nat.le_of_ble_eq_true rfl) (by decide +kernel) (hi_0_7 _ _ _ _ _) ?_
                            refine zw_iconst (-1) 6 f105_5 rfl (by decide +kernel) ?_
                            refine zw_ireturn f105_6 r105 u105 ⟨_, rfl, ?_⟩
                            refine zw_ireturn f109_49 r109 u109 ⟨_, rfl, ?_⟩
                            refine zw_ireturn f103_91 r103 u103 ?_
                            exact ⟨_, _, _, _, rfl, (KQ.i rfl KQ.rf), by rw [show an_forge nv P a b c = (-1) from ((cI_y ⟨⟨hc1, hc2⟩, ⟨hc3, hc4⟩, ⟨hc5, hc6⟩⟩).trans ((cI_y (show a = 0 from hs7e)).trans ((cI_y (qV.ofc (by omega) hc9 hc10)).trans (cI_n (fun q => q.elim (fun q => hc12 q.symm) (fun q => q.elim (fun q => hc12 (q.trans hk).symm) (fun q => absurd (hk.symm.trans q.2) (by decide))))))))]⟩
                          · refine zw_iconst 1 24 f114_23 rfl (by decide +kernel) ?_
                            refine zw_zreturn f114_24 r114 u114 (by decide +kernel) ⟨_, rfl, ?_⟩
                            refine zw_if_eq_f 35 43 f109_32 (by decide +kernel) rfl (by decide +kernel) ?_
                            refine zw_aload_n 36 f109_35 rfl (zl1_ne rfl rfl rfl) ?_
                            refine zw_iload_n 37 f109_36 rfl zl1_eq ?_
                            refine zw_virtual_i 40 0 0 [.ref 0, .int 0] [(0, .ref 0), (1, .int 0)] f109_37 rfl n109_181 k109_181_11 rfl (hb_0 _ _ _ _) (by decide +kernel) (Nat.le_of_ble_eq_true rfl) rfl rfl (by decide +kernel) (by decide +kernel) rfl (Nat.le_of_ble_eq_true rfl) rfl ?_
                            refine zw_aload_n 1 f106_0 rfl rfl ?_
                            refine zw_iconst 0 2 f106_1 rfl (by decide +kernel) ?_
                            refine zw_put _ 5 f106_2 rfl g106_70_11 (hb_0 _ _ _ _) rfl (Nat.le_of_ble_eq_true rfl) (by decide +kernel) (hi_0_7 _ _ _ _ _) ?_
                            refine zw_iload_n 6 f106_5 rfl rfl ?_
                            refine zw_ireturn f106_6 r106 u106 ⟨_, rfl, ?_⟩
                            refine zw_goto 49 f109_40 (by decide +kernel) ?_
                            refine zw_ireturn f109_49 r109 u109 ⟨_, rfl, ?_⟩
                            refine zw_ireturn f103_91 r103 u103 ?_
                            exact ⟨_, _, _, _, rfl, (KQ.i rfl KQ.rf), by rw [show an_forge nv P a b c = 0 from ((cI_y ⟨⟨hc1, hc2⟩, ⟨hc3, hc4⟩, ⟨hc5, hc6⟩⟩).trans ((cI_y (show a = 0 from hs7e)).trans ((cI_y (qV.ofc (by omega) hc9 hc10)).trans ((cI_y (Or.inl (Decidable.of_not_not hc12).symm)).trans hk))))]⟩
                        · refine zw_iaload (mMod c 8).toNatClampNeg 1 24 f15_23 rfl (hb_2 _ _ _ _) rfl hc9 (zix (by decide) hc9 hc11) ((congrFun (hR.2.1 53 (by omega) (by omega)) (mMod c 8).toNatClampNeg).trans hk) ?_
                          refine zw_goto 28 f15_24 (by decide +kernel) ?_
                          refine zw_ireturn f15_28 r15 u15 ⟨_, rfl, ?_⟩
                          refine zw_istore_n _ 27 f109_26 rfl (by decide +kernel) rfl ?_
                          refine zw_iload_n 28 f109_27 rfl zl1_eq ?_
                          refine zw_iload_n 29 f109_28 rfl (zl1_ne rfl rfl rfl) ?_
                          refine zw_static_i 32 0 0 [.int 1, .int (mMod b 5)] [] [(0, .int 1), (1, .int (mMod b 5))] f109_29 rfl k109_327_99 rfl (by decide +kernel) (Nat.le_of_ble_eq_true rfl) (Nat.le_of_ble_eq_true rfl) rfl rfl (by decide +kernel) (by decide +kernel) rfl (Nat.le_of_ble_eq_true rfl) rfl ?_
                          refine zw_iload_n 1 f114_0 rfl rfl ?_
                          refine zw_istore_n _ 2 f114_1 rfl (by decide +kernel) rfl ?_
                          refine zw_iconst 0 3 f114_2 rfl (by decide +kernel) ?_
                          refine zw_istore_n _ 4 f114_3 rfl (by decide +kernel) rfl ?_
                          refine zw_iload_n 5 f114_4 rfl zl1_eq ?_
                          refine zw_iconst 5 6 f114_5 rfl (by decide +kernel) ?_
                          refine zw_ic_ge_f 9 37 f114_6 (by decide +kernel) rfl (by decide +kernel) ?_
                          refine zw_iload_n 10 f114_9 rfl (zl1_ne rfl rfl zl1_eq) ?_
                          refine zw_iconst 0 11 f114_10 rfl (by decide +kernel) ?_
                          refine zw_iconst 4 12 f114_11 rfl (by decide +kernel) ?_
                          refine zw_static_i 15 0 0 [.int 1, .int 0, .int 4] [] [(0, .int 1), (1, .int 0), (2, .int 4)] f114_12 rfl k114_74_99 rfl (by decide +kernel) (Nat.le_of_ble_eq_true rfl) (Nat.le_of_ble_eq_true rfl) rfl rfl (by decide +kernel) (by decide +kernel) rfl (Nat.le_of_ble_eq_true rfl) rfl ?_
                          refine zw_iload_n 1 f112_0 rfl rfl ?_
                          refine zw_iload_n 2 f112_1 rfl rfl ?_
                          refine zw_ic_lt_f 5 14 f112_2 (by decide +kernel) rfl (by decide +kernel) ?_
                          refine zw_iload_n 6 f112_5 rfl rfl ?_
                          refine zw_iload_n 7 f112_6 rfl rfl ?_
                          refine zw_ic_gt_f 10 14 f112_7 (by decide +kernel) rfl (by decide +kernel) ?_
                          refine zw_iconst 1 11 f112_10 rfl (by decide +kernel) ?_
                          refine zw_goto 15 f112_11 (by decide +kernel) ?_
                          refine zw_zreturn f112_15 r112 u112 (by decide +kernel) ⟨_, rfl, ?_⟩
                          refine zw_if_eq_f 18 37 f114_15 (by decide +kernel) rfl (by decide +kernel) ?_
                          refine zw_iload_n 19 f114_18 rfl (zl1_ne rfl rfl zl1_eq) ?_
                          refine zw_iload_n 20 f114_19 rfl (zl1_ne rfl rfl (zl1_ne rfl rfl rfl)) ?_
                          refine zw_ic_ne 23 25 f114_20 (by decide +kernel) rfl (fun hc13 => ?_) (fun hc13 => ?_)
                          · refine zw_getstatic 28 f114_25 rfl (by decide +kernel) ?_
                            refine zw_iload_n 29 f114_28 rfl (zl1_ne rfl rfl zl1_eq) ?_
                            refine zw_iaload_f 1 5 0 30 f114_29 rfl hro.1 (by decide +kernel) (by decide +kernel) (by decide +kernel) ((congrFun hro.2 _).trans (by decide)) ?_
                            refine zw_istore_n _ 31 f114_30 rfl (by decide +kernel) rfl ?_
                            refine zw_iinc 1 _ 34 f114_31 rfl (zl1_ne rfl rfl zl1_eq) (by decide +kernel) (by decide +kernel) rfl ?_
                            refine zw_goto 4 f114_34 (by decide +kernel) ?_
                            refine zw_iload_n 5 f114_4 rfl zl1_eq ?_
                            refine zw_iconst 5 6 f114_5 rfl (by decide +kernel) ?_
                            refine zw_ic_ge_f 9 37 f114_6 (by decide +kernel) rfl (by decide +kernel) ?_
                            refine zw_iload_n 10 f114_9 rfl (zl1_ne rfl rfl zl1_eq) ?_
                            refine zw_iconst 0 11 f114_10 rfl (by decide +kernel) ?_
                            refine zw_iconst 4 12 f114_11 rfl (by decide +kernel) ?_
                            refine zw_static_i 15 0 0 [.int 0, .int 0, .int 4] [] [(0, .int 0), (1, .int 0), (2, .int 4)] f114_12 rfl k114_74_99 rfl (by decide +kernel) (Nat.le_of_ble_eq_true rfl) (Nat.le_of_ble_eq_true rfl) rfl rfl (by decide +kernel) (by decide +kernel) rfl (Nat.le_of_ble_eq_true rfl) rfl ?_
                            refine zw_iload_n 1 f112_0 rfl rfl ?_
                            refine zw_iload_n 2 f112_1 rfl rfl ?_
                            refine zw_ic_lt_f 5 14 f112_2 (by decide +kernel) rfl (by decide +kernel) ?_
                            refine zw_iload_n 6 f112_5 rfl rfl ?_
                            refine zw_iload_n 7 f112_6 rfl rfl ?_
                            refine zw_ic_gt_f 10 14 f112_7 (by decide +kernel) rfl (by decide +kernel) ?_
                            refine zw_iconst 1 11 f112_10 rfl (by decide +kernel) ?_
                            refine zw_goto 15 f112_11 (by decide +kernel) ?_
                            refine zw_zreturn f112_15 r112 u112 (by decide +kernel) ⟨_, rfl, ?_⟩
                            refine zw_if_eq_f 18 37 f114_15 (by decide +kernel) rfl (by decide +kernel) ?_
                            refine zw_iload_n 19 f114_18 rfl (zl1_ne rfl rfl zl1_eq) ?_
                            refine zw_iload_n 20 f114_19 rfl (zl1_ne rfl rfl (zl1_ne rfl rfl (zl1_ne rfl rfl (zl1_ne rfl rfl rfl)))) ?_
                            refine zw_ic_ne 23 25 f114_20 (by decide +kernel) rfl (fun hc14 => ?_) (fun hc14 => ?_)
                            · refine zw_getstatic 28 f114_25 rfl (by decide +kernel) ?_
                              refine zw_iload_n 29 f114_28 rfl (zl1_ne rfl rfl zl1_eq) ?_
                              refine zw_iaload_f 0 5 (-1) 30 f114_29 rfl hro.1 (by decide +kernel) (by decide +kernel) (by decide +kernel) ((congrFun hro.2 _).trans (by decide)) ?_
                              refine zw_istore_n _ 31 f114_30 rfl (by decide +kernel) rfl ?_
                              refine zw_iinc 2 _ 34 f114_31 rfl (zl1_ne rfl rfl zl1_eq) (by decide +kernel) (by decide +kernel) rfl ?_
                              refine zw_goto 4 f114_34 (by decide +kernel) ?_
                              refine zw_iload_n 5 f114_4 rfl zl1_eq ?_
                              refine zw_iconst 5 6 f114_5 rfl (by decide +kernel) ?_
                              refine zw_ic_ge_f 9 37 f114_6 (by decide +kernel) rfl (by decide +kernel) ?_
                              refine zw_iload_n 10 f114_9 rfl (zl1_ne rfl rfl zl1_eq) ?_
                              refine zw_iconst 0 11 f114_10 rfl (by decide +kernel) ?_
                              refine zw_iconst 4 12 f114_11 rfl (by decide +kernel) ?_
                              refine zw_static_i 15 0 0 [.int (-1), .int 0, .int 4] [] [(0, .int (-1)), (1, .int 0), (2, .int 4)] f114_12 rfl k114_74_99 rfl (by decide +kernel) (Nat.le_of_ble_eq_true rfl) (Nat.le_of_ble_eq_true rfl) rfl rfl (by decide +kernel) (by decide +kernel) rfl (Nat.le_of_ble_eq_true rfl) rfl ?_
                              refine zw_iload_n 1 f112_0 rfl rfl ?_
                              refine zw_iload_n 2 f112_1 rfl rfl ?_
                              refine zw_ic_lt_t 14 f112_2 (by decide +kernel) (by decide +kernel) ?_
                              refine zw_iconst 0 15 f112_14 rfl (by decide +kernel) ?_
                              refine zw_zreturn f112_15 r112 u112 (by decide +kernel) ⟨_, rfl, ?_⟩
                              refine zw_if_eq_t 37 f114_15 (by decide +kernel) (by decide +kernel) ?_
                              refine zw_iconst 0 38 f114_37 rfl (by decide +kernel) ?_
                              refine zw_zreturn f114_38 r114 u114 (by decide +kernel) ⟨_, rfl, ?_⟩
                              refine zw_if_eq_t 43 f109_32 (by decide +kernel) (by decide +kernel) ?_
                              refine zw_aload_n 44 f109_43 rfl (zl1_ne rfl rfl rfl) ?_
                              refine zw_bipush 11 46 f109_44 rfl (by decide +kernel) ?_
                              refine zw_virtual_i 49 0 0 [.ref 0, .int 11] [(0, .ref 0), (1, .int 11)] f109_46 rfl n109_78 k109_78_11 rfl (hb_0 _ _ _ _) (by decide +kernel) (Nat.le_of_ble_eq_true rfl) rfl rfl (by decide +kernel) (by decide +kernel) rfl (Nat.le_of_ble_eq_true rfl) rfl ?_
                              refine zw_aload_n 1 f105_0 rfl rfl ?_
                              refine zw_iload_n 2 f105_1 rfl rfl ?_
                              refine zw_put _ 5 f105_2 rfl g105_70_11 (hb_0 _ _ _ _) rfl (Nat.le_of_ble_eq_true rfl) (by decide +kernel) (hi_0_7 _ _ _ _ _) ?_
                              refine zw_iconst (-1) 6 f105_5 rfl (by decide +kernel) ?_
                              refine zw_ireturn f105_6 r105 u105 ⟨_, rfl, ?_⟩
                              refine zw_ireturn f109_49 r109 u109 ⟨_, rfl, ?_⟩
                              refine zw_ireturn f103_91 r103 u103 ?_
                              exact ⟨_, _, _, _, rfl, (KQ.i rfl KQ.rf), by rw [show an_forge nv P a b c = (-1) from ((cI_y ⟨⟨hc1, hc2⟩, ⟨hc3, hc4⟩, ⟨hc5, hc6⟩⟩).trans ((cI_y (show a = 0 from hs7e)).trans ((cI_y (qV.ofc (by omega) hc9 hc10)).trans (cI_n (fun q => q.elim (fun q => hc14 q.symm) (fun q => q.elim (fun q => hc13 (q.trans hk).symm) (fun q => absurd (hk.symm.trans q.2) (by decide))))))))]⟩
                            · refine zw_iconst 1 24 f114_23 rfl (by decide +kernel) ?_
                              refine zw_zreturn f114_24 r114 u114 (by decide +kernel) ⟨_, rfl, ?_⟩
                              refine zw_if_eq_f 35 43 f109_32 (by decide +kernel) rfl (by decide +kernel) ?_
                              refine zw_aload_n 36 f109_35 rfl (zl1_ne rfl rfl rfl) ?_
                              refine zw_iload_n 37 f109_36 rfl zl1_eq ?_
                              refine zw_virtual_i 40 0 0 [.ref 0, .int 1] [(0, .ref 0), (1, .int 1)] f109_37 rfl n109_181 k109_181_11 rfl (hb_0 _ _ _ _) (by decide +kernel) (Nat.le_of_ble_eq_true rfl) rfl rfl (by decide +kernel) (by decide +kernel) rfl (Nat.le_of_ble_eq_true rfl) rfl ?_
                              refine zw_aload_n 1 f106_0 rfl rfl ?_
                              refine zw_iconst 0 2 f106_1 rfl (by decide +kernel) ?_
                              refine zw_put _ 5 f106_2 rfl g106_70_11 (hb_0 _ _ _ _) rfl (Nat.le_of_ble_eq_true rfl) (by decide +kernel) (hi_0_7 _ _ _ _ _) ?_
                              refine zw_iload_n 6 f106_5 rfl rfl ?_
                              refine zw_ireturn f106_6 r106 u106 ⟨_, rfl, ?_⟩
                              refine zw_goto 49 f109_40 (by decide +kernel) ?_
                              refine zw_ireturn f109_49 r109 u109 ⟨_, rfl, ?_⟩
                              refine zw_ireturn f103_91 r103 u103 ?_
                              exact ⟨_, _, _, _, rfl, (KQ.i rfl KQ.rf), by rw [show an_forge nv P a b c = 1 from ((cI_y ⟨⟨hc1, hc2⟩, ⟨hc3, hc4⟩, ⟨hc5, hc6⟩⟩).trans ((cI_y (show a = 0 from hs7e)).trans ((cI_y (qV.ofc (by omega) hc9 hc10)).trans ((cI_y (Or.inl (Decidable.of_not_not hc14).symm)).trans hk))))]⟩
                          · refine zw_iconst 1 24 f114_23 rfl (by decide +kernel) ?_
                            refine zw_zreturn f114_24 r114 u114 (by decide +kernel) ⟨_, rfl, ?_⟩
                            refine zw_if_eq_f 35 43 f109_32 (by decide +kernel) rfl (by decide +kernel) ?_
                            refine zw_aload_n 36 f109_35 rfl (zl1_ne rfl rfl rfl) ?_
                            refine zw_iload_n 37 f109_36 rfl zl1_eq ?_
                            refine zw_virtual_i 40 0 0 [.ref 0, .int 1] [(0, .ref 0), (1, .int 1)] f109_37 rfl n109_181 k109_181_11 rfl (hb_0 _ _ _ _) (by decide +kernel) (Nat.le_of_ble_eq_true rfl) rfl rfl (by decide +kernel) (by decide +kernel) rfl (Nat.le_of_ble_eq_true rfl) rfl ?_
                            refine zw_aload_n 1 f106_0 rfl rfl ?_
                            refine zw_iconst 0 2 f106_1 rfl (by decide +kernel) ?_
                            refine zw_put _ 5 f106_2 rfl g106_70_11 (hb_0 _ _ _ _) rfl (Nat.le_of_ble_eq_true rfl) (by decide +kernel) (hi_0_7 _ _ _ _ _) ?_
                            refine zw_iload_n 6 f106_5 rfl rfl ?_
                            refine zw_ireturn f106_6 r106 u106 ⟨_, rfl, ?_⟩
                            refine zw_goto 49 f109_40 (by decide +kernel) ?_
                            refine zw_ireturn f109_49 r109 u109 ⟨_, rfl, ?_⟩
                            refine zw_ireturn f103_91 r103 u103 ?_
                            exact ⟨_, _, _, _, rfl, (KQ.i rfl KQ.rf), by rw [show an_forge nv P a b c = 1 from ((cI_y ⟨⟨hc1, hc2⟩, ⟨hc3, hc4⟩, ⟨hc5, hc6⟩⟩).trans ((cI_y (show a = 0 from hs7e)).trans ((cI_y (qV.ofc (by omega) hc9 hc10)).trans ((cI_y (Or.inr (Or.inl ((Decidable.of_not_not hc13).symm.trans hk.symm)))).trans hk))))]⟩
                        · refine zw_iaload (mMod c 8).toNatClampNeg 2 24 f15_23 rfl (hb_2 _ _ _ _) rfl hc9 (zix (by decide) hc9 hc11) ((congrFun (hR.2.1 53 (by omega) (by omega)) (mMod c 8).toNatClampNeg).trans hk) ?_
                          refine zw_goto 28 f15_24 (by decide +kernel) ?_
                          refine zw_ireturn f15_28 r15 u15 ⟨_, rfl, ?_⟩
                          refine zw_istore_n _ 27 f109_26 rfl (by decide +kernel) rfl ?_
                          refine zw_iload_n 28 f109_27 rfl zl1_eq ?_
                          refine zw_iload_n 29 f109_28 rfl (zl1_ne rfl rfl rfl) ?_
                          refine zw_static_i 32 0 0 [.int 2, .int (mMod b 5)] [] [(0, .int 2), (1, .int (mMod b 5))] f109_29 rfl k109_327_99 rfl (by decide +kernel) (Nat.le_of_ble_eq_true rfl) (Nat.le_of_ble_eq_true rfl) rfl rfl (by decide +kernel) (by decide +kernel) rfl (Nat.le_of_ble_eq_true rfl) rfl ?_
                          refine zw_iload_n 1 f114_0 rfl rfl ?_
                          refine zw_istore_n _ 2 f114_1 rfl (by decide +kernel) rfl ?_
                          refine zw_iconst 0 3 f114_2 rfl (by decide +kernel) ?_
                          refine zw_istore_n _ 4 f114_3 rfl (by decide +kernel) rfl ?_
                          refine zw_iload_n 5 f114_4 rfl zl1_eq ?_
                          refine zw_iconst 5 6 f114_5 rfl (by decide +kernel) ?_
                          refine zw_ic_ge_f 9 37 f114_6 (by decide +kernel) rfl (by decide +kernel) ?_
                          refine zw_iload_n 10 f114_9 rfl (zl1_ne rfl rfl zl1_eq) ?_
                          refine zw_iconst 0 11 f114_10 rfl (by decide +kernel) ?_
                          refine zw_iconst 4 12 f114_11 rfl (by decide +kernel) ?_
                          refine zw_static_i 15 0 0 [.int 2, .int 0, .int 4] [] [(0, .int 2), (1, .int 0), (2, .int 4)] f114_12 rfl k114_74_99 rfl (by decide +kernel) (Nat.le_of_ble_eq_true rfl) (Nat.le_of_ble_eq_true rfl) rfl rfl (by decide +kernel) (by decide +kernel) rfl (Nat.le_of_ble_eq_true rfl) rfl ?_
                          refine zw_iload_n 1 f112_0 rfl rfl ?_
                          refine zw_iload_n 2 f112_1 rfl rfl ?_
                          refine zw_ic_lt_f 5 14 f112_2 (by decide +kernel) rfl (by decide +kernel) ?_
                          refine zw_iload_n 6 f112_5 rfl rfl ?_
                          refine zw_iload_n 7 f112_6 rfl rfl ?_
                          refine zw_ic_gt_f 10 14 f112_7 (by decide +kernel) rfl (by decide +kernel) ?_
                          refine zw_iconst 1 11 f112_10 rfl (by decide +kernel) ?_
                          refine zw_goto 15 f112_11 (by decide +kernel) ?_
                          refine zw_zreturn f112_15 r112 u112 (by decide +kernel) ⟨_, rfl, ?_⟩
                          refine zw_if_eq_f 18 37 f114_15 (by decide +kernel) rfl (by decide +kernel) ?_
                          refine zw_iload_n 19 f114_18 rfl (zl1_ne rfl rfl zl1_eq) ?_
                          refine zw_iload_n 20 f114_19 rfl (zl1_ne rfl rfl (zl1_ne rfl rfl rfl)) ?_
                          refine zw_ic_ne 23 25 f114_20 (by decide +kernel) rfl (fun hc15 => ?_) (fun hc15 => ?_)
                          · refine zw_getstatic 28 f114_25 rfl (by decide +kernel) ?_
                            refine zw_iload_n 29 f114_28 rfl (zl1_ne rfl rfl zl1_eq) ?_
                            refine zw_iaload_f 2 5 0 30 f114_29 rfl hro.1 (by decide +kernel) (by decide +kernel) (by decide +kernel) ((congrFun hro.2 _).trans (by decide)) ?_
                            refine zw_istore_n _ 31 f114_30 rfl (by decide +kernel) rfl ?_
                            refine zw_iinc 1 _ 34 f114_31 rfl (zl1_ne rfl rfl zl1_eq) (by decide +kernel) (by decide +kernel) rfl ?_
                            refine zw_goto 4 f114_34 (by decide +kernel) ?_
                            refine zw_iload_n 5 f114_4 rfl zl1_eq ?_
                            refine zw_iconst 5 6 f114_5 rfl (by decide +kernel) ?_
                            refine zw_ic_ge_f 9 37 f114_6 (by decide +kernel) rfl (by decide +kernel) ?_
                            refine zw_iload_n 10 f114_9 rfl (zl1_ne rfl rfl zl1_eq) ?_
                            refine zw_iconst 0 11 f114_10 rfl (by decide +kernel) ?_
                            refine zw_iconst 4 12 f114_11 rfl (by decide +kernel) ?_
                            refine zw_static_i 15 0 0 [.int 0, .int 0, .int 4] [] [(0, .int 0), (1, .int 0), (2, .int 4)] f114_12 rfl k114_74_99 rfl (by decide +kernel) (Nat.le_of_ble_eq_true rfl) (Nat.le_of_ble_eq_true rfl) rfl rfl (by decide +kernel) (by decide +kernel) rfl (Nat.le_of_ble_eq_true rfl) rfl ?_
                            refine zw_iload_n 1 f112_0 rfl rfl ?_
                            refine zw_iload_n 2 f112_1 rfl rfl ?_
                            refine zw_ic_lt_f 5 14 f112_2 (by decide +kernel) rfl (by decide +kernel) ?_
                            refine zw_iload_n 6 f112_5 rfl rfl ?_
                            refine zw_iload_n 7 f112_6 rfl rfl ?_
                            refine zw_ic_gt_f 10 14 f112_7 (by decide +kernel) rfl (by decide +kernel) ?_
                            refine zw_iconst 1 11 f112_10 rfl (by decide +kernel) ?_
                            refine zw_goto 15 f112_11 (by decide +kernel) ?_
                            refine zw_zreturn f112_15 r112 u112 (by decide +kernel) ⟨_, rfl, ?_⟩
                            refine zw_if_eq_f 18 37 f114_15 (by decide +kernel) rfl (by decide +kernel) ?_
                            refine zw_iload_n 19 f114_18 rfl (zl1_ne rfl rfl zl1_eq) ?_
                            refine zw_iload_n 20 f114_19 rfl (zl1_ne rfl rfl (zl1_ne rfl rfl (zl1_ne rfl rfl (zl1_ne rfl rfl rfl)))) ?_
                            refine zw_ic_ne 23 25 f114_20 (by decide +kernel) rfl (fun hc16 => ?_) (fun hc16 => ?_)
                            · refine zw_getstatic 28 f114_25 rfl (by decide +kernel) ?_
                              refine zw_iload_n 29 f114_28 rfl (zl1_ne rfl rfl zl1_eq) ?_
                              refine zw_iaload_f 0 5 (-1) 30 f114_29 rfl hro.1 (by decide +kernel) (by decide +kernel) (by decide +kernel) ((congrFun hro.2 _).trans (by decide)) ?_
                              refine zw_istore_n _ 31 f114_30 rfl (by decide +kernel) rfl ?_
                              refine zw_iinc 2 _ 34 f114_31 rfl (zl1_ne rfl rfl zl1_eq) (by decide +kernel) (by decide +kernel) rfl ?_
                              refine zw_goto 4 f114_34 (by decide +kernel) ?_
                              refine zw_iload_n 5 f114_4 rfl zl1_eq ?_
                              refine zw_iconst 5 6 f114_5 rfl (by decide +kernel) ?_
                              refine zw_ic_ge_f 9 37 f114_6 (by decide +kernel) rfl (by decide +kernel) ?_
                              refine zw_iload_n 10 f114_9 rfl (zl1_ne rfl rfl zl1_eq) ?_
                              refine zw_iconst 0 11 f114_10 rfl (by decide +kernel) ?_
                              refine zw_iconst 4 12 f114_11 rfl (by decide +kernel) ?_
                              refine zw_static_i 15 0 0 [.int (-1), .int 0, .int 4] [] [(0, .int (-1)), (1, .int 0), (2, .int 4)] f114_12 rfl k114_74_99 rfl (by decide +kernel) (Nat.le_of_ble_eq_true rfl) (Nat.le_of_ble_eq_true rfl) rfl rfl (by decide +kernel) (by decide +kernel) rfl (Nat.le_of_ble_eq_true rfl) rfl ?_
                              refine zw_iload_n 1 f112_0 rfl rfl ?_
                              refine zw_iload_n 2 f112_1 rfl rfl ?_
                              refine zw_ic_lt_t 14 f112_2 (by decide +kernel) (by decide +kernel) ?_
                              refine zw_iconst 0 15 f112_14 rfl (by decide +kernel) ?_
                              refine zw_zreturn f112_15 r112 u112 (by decide +kernel) ⟨_, rfl, ?_⟩
                              refine zw_if_eq_t 37 f114_15 (by decide +kernel) (by decide +kernel) ?_
                              refine zw_iconst 0 38 f114_37 rfl (by decide +kernel) ?_
                              refine zw_zreturn f114_38 r114 u114 (by decide +kernel) ⟨_, rfl, ?_⟩
                              refine zw_if_eq_t 43 f109_32 (by decide +kernel) (by decide +kernel) ?_
                              refine zw_aload_n 44 f109_43 rfl (zl1_ne rfl rfl rfl) ?_
                              refine zw_bipush 11 46 f109_44 rfl (by decide +kernel) ?_
                              refine zw_virtual_i 49 0 0 [.ref 0, .int 11] [(0, .ref 0), (1, .int 11)] f109_46 rfl n109_78 k109_78_11 rfl (hb_0 _ _ _ _) (by decide +kernel) (Nat.le_of_ble_eq_true rfl) rfl rfl (by decide +kernel) (by decide +kernel) rfl (Nat.le_of_ble_eq_true rfl) rfl ?_
                              refine zw_aload_n 1 f105_0 rfl rfl ?_
                              refine zw_iload_n 2 f105_1 rfl rfl ?_
                              refine zw_put _ 5 f105_2 rfl g105_70_11 (hb_0 _ _ _ _) rfl (Nat.le_of_ble_eq_true rfl) (by decide +kernel) (hi_0_7 _ _ _ _ _) ?_
                              refine zw_iconst (-1) 6 f105_5 rfl (by decide +kernel) ?_
                              refine zw_ireturn f105_6 r105 u105 ⟨_, rfl, ?_⟩
                              refine zw_ireturn f109_49 r109 u109 ⟨_, rfl, ?_⟩
                              refine zw_ireturn f103_91 r103 u103 ?_
                              exact ⟨_, _, _, _, rfl, (KQ.i rfl KQ.rf), by rw [show an_forge nv P a b c = (-1) from ((cI_y ⟨⟨hc1, hc2⟩, ⟨hc3, hc4⟩, ⟨hc5, hc6⟩⟩).trans ((cI_y (show a = 0 from hs7e)).trans ((cI_y (qV.ofc (by omega) hc9 hc10)).trans (cI_n (fun q => q.elim (fun q => hc16 q.symm) (fun q => q.elim (fun q => hc15 (q.trans hk).symm) (fun q => absurd (hk.symm.trans q.2) (by decide))))))))]⟩
                            · refine zw_iconst 1 24 f114_23 rfl (by decide +kernel) ?_
                              refine zw_zreturn f114_24 r114 u114 (by decide +kernel) ⟨_, rfl, ?_⟩
                              refine zw_if_eq_f 35 43 f109_32 (by decide +kernel) rfl (by decide +kernel) ?_
                              refine zw_aload_n 36 f109_35 rfl (zl1_ne rfl rfl rfl) ?_
                              refine zw_iload_n 37 f109_36 rfl zl1_eq ?_
                              refine zw_virtual_i 40 0 0 [.ref 0, .int 2] [(0, .ref 0), (1, .int 2)] f109_37 rfl n109_181 k109_181_11 rfl (hb_0 _ _ _ _) (by decide +kernel) (Nat.le_of_ble_eq_true rfl) rfl rfl (by decide +kernel) (by decide +kernel) rfl (Nat.le_of_ble_eq_true rfl) rfl ?_
                              refine zw_aload_n 1 f106_0 rfl rfl ?_
                              refine zw_iconst 0 2 f106_1 rfl (by decide +kernel) ?_
                              refine zw_put _ 5 f106_2 rfl g106_70_11 (hb_0 _ _ _ _) rfl (Nat.le_of_ble_eq_true rfl) (by decide +kernel) (hi_0_7 _ _ _ _ _) ?_
                              refine zw_iload_n 6 f106_5 rfl rfl ?_
                              refine zw_ireturn f106_6 r106 u106 ⟨_, rfl, ?_⟩
                              refine zw_goto 49 f109_40 (by decide +kernel) ?_
                              refine zw_ireturn f109_49 r109 u109 ⟨_, rfl, ?_⟩
                              refine zw_ireturn f103_91 r103 u103 ?_
                              exact ⟨_, _, _, _, rfl, (KQ.i rfl KQ.rf), by rw [show an_forge nv P a b c = 2 from ((cI_y ⟨⟨hc1, hc2⟩, ⟨hc3, hc4⟩, ⟨hc5, hc6⟩⟩).trans ((cI_y (show a = 0 from hs7e)).trans ((cI_y (qV.ofc (by omega) hc9 hc10)).trans ((cI_y (Or.inl (Decidable.of_not_not hc16).symm)).trans hk))))]⟩
                          · refine zw_iconst 1 24 f114_23 rfl (by decide +kernel) ?_
                            refine zw_zreturn f114_24 r114 u114 (by decide +kernel) ⟨_, rfl, ?_⟩
                            refine zw_if_eq_f 35 43 f109_32 (by decide +kernel) rfl (by decide +kernel) ?_
                            refine zw_aload_n 36 f109_35 rfl (zl1_ne rfl rfl rfl) ?_
                            refine zw_iload_n 37 f109_36 rfl zl1_eq ?_
                            refine zw_virtual_i 40 0 0 [.ref 0, .int 2] [(0, .ref 0), (1, .int 2)] f109_37 rfl n109_181 k109_181_11 rfl (hb_0 _ _ _ _) (by decide +kernel) (Nat.le_of_ble_eq_true rfl) rfl rfl (by decide +kernel) (by decide +kernel) rfl (Nat.le_of_ble_eq_true rfl) rfl ?_
                            refine zw_aload_n 1 f106_0 rfl rfl ?_
                            refine zw_iconst 0 2 f106_1 rfl (by decide +kernel) ?_
                            refine zw_put _ 5 f106_2 rfl g106_70_11 (hb_0 _ _ _ _) rfl (Nat.le_of_ble_eq_true rfl) (by decide +kernel) (hi_0_7 _ _ _ _ _) ?_
                            refine zw_iload_n 6 f106_5 rfl rfl ?_
                            refine zw_ireturn f106_6 r106 u106 ⟨_, rfl, ?_⟩
                            refine zw_goto 49 f109_40 (by decide +kernel) ?_
                            refine zw_ireturn f109_49 r109 u109 ⟨_, rfl, ?_⟩
                            refine zw_ireturn f103_91 r103 u103 ?_
                            exact ⟨_, _, _, _, rfl, (KQ.i rfl KQ.rf), by rw [show an_forge nv P a b c = 2 from ((cI_y ⟨⟨hc1, hc2⟩, ⟨hc3, hc4⟩, ⟨hc5, hc6⟩⟩).trans ((cI_y (show a = 0 from hs7e)).trans ((cI_y (qV.ofc (by omega) hc9 hc10)).trans ((cI_y (Or.inr (Or.inl ((Decidable.of_not_not hc15).symm.trans hk.symm)))).trans hk))))]⟩
                        · refine zw_iaload (mMod c 8).toNatClampNeg 3 24 f15_23 rfl (hb_2 _ _ _ _) rfl hc9 (zix (by decide) hc9 hc11) ((congrFun (hR.2.1 53 (by omega) (by omega)) (mMod c 8).toNatClampNeg).trans hk) ?_
                          refine zw_goto 28 f15_24 (by decide +kernel) ?_
                          refine zw_ireturn f15_28 r15 u15 ⟨_, rfl, ?_⟩
                          refine zw_istore_n _ 27 f109_26 rfl (by decide +kernel) rfl ?_
                          refine zw_iload_n 28 f109_27 rfl zl1_eq ?_
                          refine zw_iload_n 29 f109_28 rfl (zl1_ne rfl rfl rfl) ?_
                          refine zw_static_i 32 0 0 [.int 3, .int (mMod b 5)] [] [(0, .int 3), (1, .int (mMod b 5))] f109_29 rfl k109_327_99 rfl (by decide +kernel) (Nat.le_of_ble_eq_true rfl) (Nat.le_of_ble_eq_true rfl) rfl rfl (by decide +kernel) (by decide +kernel) rfl (Nat.le_of_ble_eq_true rfl) rfl ?_
                          refine zw_iload_n 1 f114_0 rfl rfl ?_
                          refine zw_istore_n _ 2 f114_1 rfl (by decide +kernel) rfl ?_
                          refine zw_iconst 0 3 f114_2 rfl (by decide +kernel) ?_
                          refine zw_istore_n _ 4 f114_3 rfl (by decide +kernel) rfl ?_
                          refine zw_iload_n 5 f114_4 rfl zl1_eq ?_
                          refine zw_iconst 5 6 f114_5 rfl (by decide +kernel) ?_
                          refine zw_ic_ge_f 9 37 f114_6 (by decide +kernel) rfl (by decide +kernel) ?_
                          refine zw_iload_n 10 f114_9 rfl (zl1_ne rfl rfl zl1_eq) ?_
                          refine zw_iconst 0 11 f114_10 rfl (by decide +kernel) ?_
                          refine zw_iconst 4 12 f114_11 rfl (by decide +kernel) ?_
                          refine zw_static_i 15 0 0 [.int 3, .int 0, .int 4] [] [(0, .int 3), (1, .int 0), (2, .int 4)] f114_12 rfl k114_74_99 rfl (by decide +kernel) (Nat.le_of_ble_eq_true rfl) (Nat.le_of_ble_eq_true rfl) rfl rfl (by decide +kernel) (by decide +kernel) rfl (Nat.le_of_ble_eq_true rfl) rfl ?_
                          refine zw_iload_n 1 f112_0 rfl rfl ?_
                          refine zw_iload_n 2 f112_1 rfl rfl ?_
                          refine zw_ic_lt_f 5 14 f112_2 (by decide +kernel) rfl (by decide +kernel) ?_
                          refine zw_iload_n 6 f112_5 rfl rfl ?_
                          refine zw_iload_n 7 f112_6 rfl rfl ?_
                          refine zw_ic_gt_f 10 14 f112_7 (by decide +kernel) rfl (by decide +kernel) ?_
                          refine zw_iconst 1 11 f112_10 rfl (by decide +kernel) ?_
                          refine zw_goto 15 f112_11 (by decide +kernel) ?_
                          refine zw_zreturn f112_15 r112 u112 (by decide +kernel) ⟨_, rfl, ?_⟩
                          refine zw_if_eq_f 18 37 f114_15 (by decide +kernel) rfl (by decide +kernel) ?_
                          refine zw_iload_n 19 f114_18 rfl (zl1_ne rfl rfl zl1_eq) ?_
                          refine zw_iload_n 20 f114_19 rfl (zl1_ne rfl rfl (zl1_ne rfl rfl rfl)) ?_
                          refine zw_ic_ne 23 25 f114_20 (by decide +kernel) rfl (fun hc17 => ?_) (fun hc17 => ?_)
                          · refine zw_getstatic 28 f114_25 rfl (by decide +kernel) ?_
                            refine zw_iload_n 29 f114_28 rfl (zl1_ne rfl rfl zl1_eq) ?_
                            refine zw_iaload_f 3 5 0 30 f114_29 rfl hro.1 (by decide +kernel) (by decide +kernel) (by decide +kernel) ((congrFun hro.2 _).trans (by decide)) ?_
                            refine zw_istore_n _ 31 f114_30 rfl (by decide +kernel) rfl ?_
                            refine zw_iinc 1 _ 34 f114_31 rfl (zl1_ne rfl rfl zl1_eq) (by decide +kernel) (by decide +kernel) rfl ?_
                            refine zw_goto 4 f114_34 (by decide +kernel) ?_
                            refine zw_iload_n 5 f114_4 rfl zl1_eq ?_
                            refine zw_iconst 5 6 f114_5 rfl (by decide +kernel) ?_
                            refine zw_ic_ge_f 9 37 f114_6 (by decide +kernel) rfl (by decide +kernel) ?_
                            refine zw_iload_n 10 f114_9 rfl (zl1_ne rfl rfl zl1_eq) ?_
                            refine zw_iconst 0 11 f114_10 rfl (by decide +kernel) ?_
                            refine zw_iconst 4 12 f114_11 rfl (by decide +kernel) ?_
                            refine zw_static_i 15 0 0 [.int 0, .int 0, .int 4] [] [(0, .int 0), (1, .int 0), (2, .int 4)] f114_12 rfl k114_74_99 rfl (by decide +kernel) (Nat.le_of_ble_eq_true rfl) (Nat.le_of_ble_eq_true rfl) rfl rfl (by decide +kernel) (by decide +kernel) rfl (Nat.le_of_ble_eq_true rfl) rfl ?_
                            refine zw_iload_n 1 f112_0 rfl rfl ?_
                            refine zw_iload_n 2 f112_1 rfl rfl ?_
                            refine zw_ic_lt_f 5 14 f112_2 (by decide +kernel) rfl (by decide +kernel) ?_
                            refine zw_iload_n 6 f112_5 rfl rfl ?_
                            refine zw_iload_n 7 f112_6 rfl rfl ?_
                            refine zw_ic_gt_f 10 14 f112_7 (by decide +kernel) rfl (by decide +kernel) ?_
                            refine zw_iconst 1 11 f112_10 rfl (by decide +kernel) ?_
                            refine zw_goto 15 f112_11 (by decide +kernel) ?_
                            refine zw_zreturn f112_15 r112 u112 (by decide +kernel) ⟨_, rfl, ?_⟩
                            refine zw_if_eq_f 18 37 f114_15 (by decide +kernel) rfl (by decide +kernel) ?_
                            refine zw_iload_n 19 f114_18 rfl (zl1_ne rfl rfl zl1_eq) ?_
                            refine zw_iload_n 20 f114_19 rfl (zl1_ne rfl rfl (zl1_ne rfl rfl (zl1_ne rfl rfl (zl1_ne rfl rfl rfl)))) ?_
                            refine zw_ic_ne 23 25 f114_20 (by decide +kernel) rfl (fun hc18 => ?_) (fun hc18 => ?_)
                            · refine zw_getstatic 28 f114_25 rfl (by decide +kernel) ?_
                              refine zw_iload_n 29 f114_28 rfl (zl1_ne rfl rfl zl1_eq) ?_
                              refine zw_iaload_f 0 5 (-1) 30 f114_29 rfl hro.1 (by decide +kernel) (by decide +kernel) (by decide +kernel) ((congrFun hro.2 _).trans (by decide)) ?_
                              refine zw_istore_n _ 31 f114_30 rfl (by decide +kernel) rfl ?_
                              refine zw_iinc 2 _ 34 f114_31 rfl (zl1_ne rfl rfl zl1_eq) (by decide +kernel) (by decide +kernel) rfl ?_
                              refine zw_goto 4 f114_34 (by decide +kernel) ?_
                              refine zw_iload_n 5 f114_4 rfl zl1_eq ?_
                              refine zw_iconst 5 6 f114_5 rfl (by decide +kernel) ?_
                              refine zw_ic_ge_f 9 37 f114_6 (by decide +kernel) rfl (by decide +kernel) ?_
                              refine zw_iload_n 10 f114_9 rfl (zl1_ne rfl rfl zl1_eq) ?_
                              refine zw_iconst 0 11 f114_10 rfl (by decide +kernel) ?_
                              refine zw_iconst 4 12 f114_11 rfl (by decide +kernel) ?_
                              refine zw_static_i 15 0 0 [.int (-1), .int 0, .int 4] [] [(0, .int (-1)), (1, .int 0), (2, .int 4)] f114_12 rfl k114_74_99 rfl (by decide +kernel) (Nat.le_of_ble_eq_true rfl) (Nat.le_of_ble_eq_true rfl) rfl rfl (by decide +kernel) (by decide +kernel) rfl (Nat.le_of_ble_eq_true rfl) rfl ?_
                              refine zw_iload_n 1 f112_0 rfl rfl ?_
                              refine zw_iload_n 2 f112_1 rfl rfl ?_
                              refine zw_ic_lt_t 14 f112_2 (by decide +kernel) (by decide +kernel) ?_
                              refine zw_iconst 0 15 f112_14 rfl (by decide +kernel) ?_
                              refine zw_zreturn f112_15 r112 u112 (by decide +kernel) ⟨_, rfl, ?_⟩
                              refine zw_if_eq_t 37 f114_15 (by decide +kernel) (by decide +kernel) ?_
                              refine zw_iconst 0 38 f114_37 rfl (by decide +kernel) ?_
                              refine zw_zreturn f114_38 r114 u114 (by decide +kernel) ⟨_, rfl, ?_⟩
                              refine zw_if_eq_t 43 f109_32 (by decide +kernel) (by decide +kernel) ?_
                              refine zw_aload_n 44 f109_43 rfl (zl1_ne rfl rfl rfl) ?_
                              refine zw_bipush 11 46 f109_44 rfl (by decide +kernel) ?_
                              refine zw_virtual_i 49 0 0 [.ref 0, .int 11] [(0, .ref 0), (1, .int 11)] f109_46 rfl n109_78 k109_78_11 rfl (hb_0 _ _ _ _) (by decide +kernel) (Nat.le_of_ble_eq_true rfl) rfl rfl (by decide +kernel) (by decide +kernel) rfl (Nat.le_of_ble_eq_true rfl) rfl ?_
                              refine zw_aload_n 1 f105_0 rfl rfl ?_
                              refine zw_iload_n 2 f105_1 rfl rfl ?_
                              refine zw_put _ 5 f105_2 rfl g105_70_11 (hb_0 _ _ _ _) rfl (Nat.le_of_ble_eq_true rfl) (by decide +kernel) (hi_0_7 _ _ _ _ _) ?_
                              refine zw_iconst (-1) 6 f105_5 rfl (by decide +kernel) ?_
                              refine zw_ireturn f105_6 r105 u105 ⟨_, rfl, ?_⟩
                              refine zw_ireturn f109_49 r109 u109 ⟨_, rfl, ?_⟩
                              refine zw_ireturn f103_91 r103 u103 ?_
                              exact ⟨_, _, _, _, rfl, (KQ.i rfl KQ.rf), by rw [show an_forge nv P a b c = (-1) from ((cI_y ⟨⟨hc1, hc2⟩, ⟨hc3, hc4⟩, ⟨hc5, hc6⟩⟩).trans ((cI_y (show a = 0 from hs7e)).trans ((cI_y (qV.ofc (by omega) hc9 hc10)).trans (cI_n (fun q => q.elim (fun q => hc18 q.symm) (fun q => q.elim (fun q => hc17 (q.trans hk).symm) (fun q => absurd (hk.symm.trans q.2) (by decide))))))))]⟩
                            · refine zw_iconst 1 24 f114_23 rfl (by decide +kernel) ?_
                              refine zw_zreturn f114_24 r114 u114 (by decide +kernel) ⟨_, rfl, ?_⟩
                              refine zw_if_eq_f 35 43 f109_32 (by decide +kernel) rfl (by decide +kernel) ?_
                              refine zw_aload_n 36 f109_35 rfl (zl1_ne rfl rfl rfl) ?_
                              refine zw_iload_n 37 f109_36 rfl zl1_eq ?_
                              refine zw_virtual_i 40 0 0 [.ref 0, .int 3] [(0, .ref 0), (1, .int 3)] f109_37 rfl n109_181 k109_181_11 rfl (hb_0 _ _ _ _) (by decide +kernel) (Nat.le_of_ble_eq_true rfl) rfl rfl (by decide +kernel) (by decide +kernel) rfl (Nat.le_of_ble_eq_true rfl) rfl ?_
                              refine zw_aload_n 1 f106_0 rfl rfl ?_
                              refine zw_iconst 0 2 f106_1 rfl (by decide +kernel) ?_
                              refine zw_put _ 5 f106_2 rfl g106_70_11 (hb_0 _ _ _ _) rfl (Nat.le_of_ble_eq_true rfl) (by decide +kernel) (hi_0_7 _ _ _ _ _) ?_
                              refine zw_iload_n 6 f106_5 rfl rfl ?_
                              refine zw_ireturn f106_6 r106 u106 ⟨_, rfl, ?_⟩
                              refine zw_goto 49 f109_40 (by decide +kernel) ?_
                              refine zw_ireturn f109_49 r109 u109 ⟨_, rfl, ?_⟩
                              refine zw_ireturn f103_91 r103 u103 ?_
                              exact ⟨_, _, _, _, rfl, (KQ.i rfl KQ.rf), by rw [show an_forge nv P a b c = 3 from ((cI_y ⟨⟨hc1, hc2⟩, ⟨hc3, hc4⟩, ⟨hc5, hc6⟩⟩).trans ((cI_y (show a = 0 from hs7e)).trans ((cI_y (qV.ofc (by omega) hc9 hc10)).trans ((cI_y (Or.inl (Decidable.of_not_not hc18).symm)).trans hk))))]⟩
                          · refine zw_iconst 1 24 f114_23 rfl (by decide +kernel) ?_
                            refine zw_zreturn f114_24 r114 u114 (by decide +kernel) ⟨_, rfl, ?_⟩
                            refine zw_if_eq_f 35 43 f109_32 (by decide +kernel) rfl (by decide +kernel) ?_
                            refine zw_aload_n 36 f109_35 rfl (zl1_ne rfl rfl rfl) ?_
                            refine zw_iload_n 37 f109_36 rfl zl1_eq ?_
                            refine zw_virtual_i 40 0 0 [.ref 0, .int 3] [(0, .ref 0), (1, .int 3)] f109_37 rfl n109_181 k109_181_11 rfl (hb_0 _ _ _ _) (by decide +kernel) (Nat.le_of_ble_eq_true rfl) rfl rfl (by decide +kernel) (by decide +kernel) rfl (Nat.le_of_ble_eq_true rfl) rfl ?_
                            refine zw_aload_n 1 f106_0 rfl rfl ?_
                            refine zw_iconst 0 2 f106_1 rfl (by decide +kernel) ?_
                            refine zw_put _ 5 f106_2 rfl g106_70_11 (hb_0 _ _ _ _) rfl (Nat.le_of_ble_eq_true rfl) (by decide +kernel) (hi_0_7 _ _ _ _ _) ?_
                            refine zw_iload_n 6 f106_5 rfl rfl ?_
                            refine zw_ireturn f106_6 r106 u106 ⟨_, rfl, ?_⟩
                            refine zw_goto 49 f109_40 (by decide +kernel) ?_
                            refine zw_ireturn f109_49 r109 u109 ⟨_, rfl, ?_⟩
                            refine zw_ireturn f103_91 r103 u103 ?_
                            exact ⟨_, _, _, _, rfl, (KQ.i rfl KQ.rf), by rw [show an_forge nv P a b c = 3 from ((cI_y ⟨⟨hc1, hc2⟩, ⟨hc3, hc4⟩, ⟨hc5, hc6⟩⟩).trans ((cI_y (show a = 0 from hs7e)).trans ((cI_y (qV.ofc (by omega) hc9 hc10)).trans ((cI_y (Or.inr (Or.inl ((Decidable.of_not_not hc17).symm.trans hk.symm)))).trans hk))))]⟩
                        · refine zw_iaload (mMod c 8).toNatClampNeg 4 24 f15_23 rfl (hb_2 _ _ _ _) rfl hc9 (zix (by decide) hc9 hc11) ((congrFun (hR.2.1 53 (by omega) (by omega)) (mMod c 8).toNatClampNeg).trans hk) ?_
                          refine zw_goto 28 f15_24 (by decide +kernel) ?_
                          refine zw_ireturn f15_28 r15 u15 ⟨_, rfl, ?_⟩
                          refine zw_istore_n _ 27 f109_26 rfl (by decide +kernel) rfl ?_
                          refine zw_iload_n 28 f109_27 rfl zl1_eq ?_
                          refine zw_iload_n 29 f109_28 rfl (zl1_ne rfl rfl rfl) ?_
                          refine zw_static_i 32 0 0 [.int 4, .int (mMod b 5)] [] [(0, .int 4), (1, .int (mMod b 5))] f109_29 rfl k109_327_99 rfl (by decide +kernel) (Nat.le_of_ble_eq_true rfl) (Nat.le_of_ble_eq_true rfl) rfl rfl (by decide +kernel) (by decide +kernel) rfl (Nat.le_of_ble_eq_true rfl) rfl ?_
                          refine zw_iload_n 1 f114_0 rfl rfl ?_
                          refine zw_istore_n _ 2 f114_1 rfl (by decide +kernel) rfl ?_
                          refine zw_iconst 0 3 f114_2 rfl (by decide +kernel) ?_
                          refine zw_istore_n _ 4 f114_3 rfl (by decide +kernel) rfl ?_
                          refine zw_iload_n 5 f114_4 rfl zl1_eq ?_
                          refine zw_iconst 5 6 f114_5 rfl (by decide +kernel) ?_
                          refine zw_ic_ge_f 9 37 f114_6 (by decide +kernel) rfl (by decide +kernel) ?_
                          refine zw_iload_n 10 f114_9 rfl (zl1_ne rfl rfl zl1_eq) ?_
                          refine zw_iconst 0 11 f114_10 rfl (by decide +kernel) ?_
                          refine zw_iconst 4 12 f114_11 rfl (by decide +kernel) ?_
                          refine zw_static_i 15 0 0 [.int 4, .int 0, .int 4] [] [(0, .int 4), (1, .int 0), (2, .int 4)] f114_12 rfl k114_74_99 rfl (by decide +kernel) (Nat.le_of_ble_eq_true rfl) (Nat.le_of_ble_eq_true rfl) rfl rfl (by decide +kernel) (by decide +kernel) rfl (Nat.le_of_ble_eq_true rfl) rfl ?_
                          refine zw_iload_n 1 f112_0 rfl rfl ?_
                          refine zw_iload_n 2 f112_1 rfl rfl ?_
                          refine zw_ic_lt_f 5 14 f112_2 (by decide +kernel) rfl (by decide +kernel) ?_
                          refine zw_iload_n 6 f112_5 rfl rfl ?_
                          refine zw_iload_n 7 f112_6 rfl rfl ?_
                          refine zw_ic_gt_f 10 14 f112_7 (by decide +kernel) rfl (by decide +kernel) ?_
                          refine zw_iconst 1 11 f112_10 rfl (by decide +kernel) ?_
                          refine zw_goto 15 f112_11 (by decide +kernel) ?_
                          refine zw_zreturn f112_15 r112 u112 (by decide +kernel) ⟨_, rfl, ?_⟩
                          refine zw_if_eq_f 18 37 f114_15 (by decide +kernel) rfl (by decide +kernel) ?_
                          refine zw_iload_n 19 f114_18 rfl (zl1_ne rfl rfl zl1_eq) ?_
                          refine zw_iload_n 20 f114_19 rfl (zl1_ne rfl rfl (zl1_ne rfl rfl rfl)) ?_
                          refine zw_ic_ne 23 25 f114_20 (by decide +kernel) rfl (fun hc19 => ?_) (fun hc19 => ?_)
                          · refine zw_getstatic 28 f114_25 rfl (by decide +kernel) ?_
                            refine zw_iload_n 29 f114_28 rfl (zl1_ne rfl rfl zl1_eq) ?_
                            refine zw_iaload_f 4 5 3 30 f114_29 rfl hro.1 (by decide +kernel) (by decide +kernel) (by decide +kernel) ((congrFun hro.2 _).trans (by decide)) ?_
                            refine zw_istore_n _ 31 f114_30 rfl (by decide +kernel) rfl ?_
                            refine zw_iinc 1 _ 34 f114_31 rfl (zl1_ne rfl rfl zl1_eq) (by decide +kernel) (by decide +kernel) rfl ?_
                            refine zw_goto 4 f114_34 (by decide +kernel) ?_
                            refine zw_iload_n 5 f114_4 rfl zl1_eq ?_
                            refine zw_iconst 5 6 f114_5 rfl (by decide +kernel) ?_
                            refine zw_ic_ge_f 9 37 f114_6 (by decide +kernel) rfl (by decide +kernel) ?_
                            refine zw_iload_n 10 f114_9 rfl (zl1_ne rfl rfl zl1_eq) ?_
                            refine zw_iconst 0 11 f114_10 rfl (by decide +kernel) ?_
                            refine zw_iconst 4 12 f114_11 rfl (by decide +kernel) ?_
                            refine zw_static_i 15 0 0 [.int 3, .int 0, .int 4] [] [(0, .int 3), (1, .int 0), (2, .int 4)] f114_12 rfl k114_74_99 rfl (by decide +kernel) (Nat.le_of_ble_eq_true rfl) (Nat.le_of_ble_eq_true rfl) rfl rfl (by decide +kernel) (by decide +kernel) rfl (Nat.le_of_ble_eq_true rfl) rfl ?_
                            refine zw_iload_n 1 f112_0 rfl rfl ?_
                            refine zw_iload_n 2 f112_1 rfl rfl ?_
                            refine zw_ic_lt_f 5 14 f112_2 (by decide +kernel) rfl (by decide +kernel) ?_
                            refine zw_iload_n 6 f112_5 rfl rfl ?_
                            refine zw_iload_n 7 f112_6 rfl rfl ?_
                            refine zw_ic_gt_f 10 14 f112_7 (by decide +kernel) rfl (by decide +kernel) ?_
                            refine zw_iconst 1 11 f112_10 rfl (by decide +kernel) ?_
                            refine zw_goto 15 f112_11 (by decide +kernel) ?_
                            refine zw_zreturn f112_15 r112 u112 (by decide +kernel) ⟨_, rfl, ?_⟩
                            refine zw_if_eq_f 18 37 f114_15 (by decide +kernel) rfl (by decide +kernel) ?_
                            refine zw_iload_n 19 f114_18 rfl (zl1_ne rfl rfl zl1_eq) ?_
                            refine zw_iload_n 20 f114_19 rfl (zl1_ne rfl rfl (zl1_ne rfl rfl (zl1_ne rfl rfl (zl1_ne rfl rfl rfl)))) ?_
                            refine zw_ic_ne 23 25 f114_20 (by decide +kernel) rfl (fun hc20 => ?_) (fun hc20 => ?_)
                            · refine zw_getstatic 28 f114_25 rfl (by decide +kernel) ?_
                              refine zw_iload_n 29 f114_28 rfl (zl1_ne rfl rfl zl1_eq) ?_
                              refine zw_iaload_f 3 5 0 30 f114_29 rfl hro.1 (by decide +kernel) (by decide +kernel) (by decide +kernel) ((congrFun hro.2 _).trans (by decide)) ?_
                              refine zw_istore_n _ 31 f114_30 rfl (by decide +kernel) rfl ?_
                              refine zw_iinc 2 _ 34 f114_31 rfl (zl1_ne rfl rfl zl1_eq) (by decide +kernel) (by decide +kernel) rfl ?_
                              refine zw_goto 4 f114_34 (by decide +kernel) ?_
                              refine zw_iload_n 5 f114_4 rfl zl1_eq ?_
                              refine zw_iconst 5 6 f114_5 rfl (by decide +kernel) ?_
                              refine zw_ic_ge_f 9 37 f114_6 (by decide +kernel) rfl (by decide +kernel) ?_
                              refine zw_iload_n 10 f114_9 rfl (zl1_ne rfl rfl zl1_eq) ?_
                              refine zw_iconst 0 11 f114_10 rfl (by decide +kernel) ?_
                              refine zw_iconst 4 12 f114_11 rfl (by decide +kernel) ?_
                              refine zw_static_i 15 0 0 [.int 0, .int 0, .int 4] [] [(0, .int 0), (1, .int 0), (2, .int 4)] f114_12 rfl k114_74_99 rfl (by decide +kernel) (Nat.le_of_ble_eq_true rfl) (Nat.le_of_ble_eq_true rfl) rfl rfl (by decide +kernel) (by decide +kernel) rfl (Nat.le_of_ble_eq_true rfl) rfl ?_
                              refine zw_iload_n 1 f112_0 rfl rfl ?_
                              refine zw_iload_n 2 f112_1 rfl rfl ?_
                              refine zw_ic_lt_f 5 14 f112_2 (by decide +kernel) rfl (by decide +kernel) ?_
                              refine zw_iload_n 6 f112_5 rfl rfl ?_
                              refine zw_iload_n 7 f112_6 rfl rfl ?_
                              refine zw_ic_gt_f 10 14 f112_7 (by decide +kernel) rfl (by decide +kernel) ?_
                              refine zw_iconst 1 11 f112_10 rfl (by decide +kernel) ?_
                              refine zw_goto 15 f112_11 (by decide +kernel) ?_
                              refine zw_zreturn f112_15 r112 u112 (by decide +kernel) ⟨_, rfl, ?_⟩
                              refine zw_if_eq_f 18 37 f114_15 (by decide +kernel) rfl (by decide +kernel) ?_
                              refine zw_iload_n 19 f114_18 rfl (zl1_ne rfl rfl zl1_eq) ?_
                              refine zw_iload_n 20 f114_19 rfl (zl1_ne rfl rfl (zl1_ne rfl rfl (zl1_ne rfl rfl (zl1_ne rfl rfl (zl1_ne rfl rfl (zl1_ne rfl rfl rfl)))))) ?_
                              refine zw_ic_ne 23 25 f114_20 (by decide +kernel) rfl (fun hc21 => ?_) (fun hc21 => ?_)
                              · refine zw_getstatic 28 f114_25 rfl (by decide +kernel) ?_
                                refine zw_iload_n 29 f114_28 rfl (zl1_ne rfl rfl zl1_eq) ?_
                                refine zw_iaload_f 0 5 (-1) 30 f114_29 rfl hro.1 (by decide +kernel) (by decide +kernel) (by decide +kernel) ((congrFun hro.2 _).trans (by decide)) ?_
                                refine zw_istore_n _ 31 f114_30 rfl (by decide +kernel) rfl ?_
                                refine zw_iinc 3 _ 34 f114_31 rfl (zl1_ne rfl rfl zl1_eq) (by decide +kernel) (by decide +kernel) rfl ?_
                                refine zw_goto 4 f114_34 (by decide +kernel) ?_
                                refine zw_iload_n 5 f114_4 rfl zl1_eq ?_
                                refine zw_iconst 5 6 f114_5 rfl (by decide +kernel) ?_
                                refine zw_ic_ge_f 9 37 f114_6 (by decide +kernel) rfl (by decide +kernel) ?_
                                refine zw_iload_n 10 f114_9 rfl (zl1_ne rfl rfl zl1_eq) ?_
                                refine zw_iconst 0 11 f114_10 rfl (by decide +kernel) ?_
                                refine zw_iconst 4 12 f114_11 rfl (by decide +kernel) ?_
                                refine zw_static_i 15 0 0 [.int (-1), .int 0, .int 4] [] [(0, .int (-1)), (1, .int 0), (2, .int 4)] f114_12 rfl k114_74_99 rfl (by decide +kernel) (Nat.le_of_ble_eq_true rfl) (Nat.le_of_ble_eq_true rfl) rfl rfl (by decide +kernel) (by decide +kernel) rfl (Nat.le_of_ble_eq_true rfl) rfl ?_
                                refine zw_iload_n 1 f112_0 rfl rfl ?_
                                refine zw_iload_n 2 f112_1 rfl rfl ?_
                                refine zw_ic_lt_t 14 f112_2 (by decide +kernel) (by decide +kernel) ?_
                                refine zw_iconst 0 15 f112_14 rfl (by decide +kernel) ?_
                                refine zw_zreturn f112_15 r112 u112 (by decide +kernel) ⟨_, rfl, ?_⟩
                                refine zw_if_eq_t 37 f114_15 (by decide +kernel) (by decide +kernel) ?_
                                refine zw_iconst 0 38 f114_37 rfl (by decide +kernel) ?_
                                refine zw_zreturn f114_38 r114 u114 (by decide +kernel) ⟨_, rfl, ?_⟩
                                refine zw_if_eq_t 43 f109_32 (by decide +kernel) (by decide +kernel) ?_
                                refine zw_aload_n 44 f109_43 rfl (zl1_ne rfl rfl rfl) ?_
                                refine zw_bipush 11 46 f109_44 rfl (by decide +kernel) ?_
                                refine zw_virtual_i 49 0 0 [.ref 0, .int 11] [(0, .ref 0), (1, .int 11)] f109_46 rfl n109_78 k109_78_11 rfl (hb_0 _ _ _ _) (by decide +kernel) (Nat.le_of_ble_eq_true rfl) rfl rfl (by decide +kernel) (by decide +kernel) rfl (Nat.le_of_ble_eq_true rfl) rfl ?_
                                refine zw_aload_n 1 f105_0 rfl rfl ?_
                                refine zw_iload_n 2 f105_1 rfl rfl ?_
                                refine zw_put _ 5 f105_2 rfl g105_70_11 (hb_0 _ _ _ _) rfl (Nat.le_of_ble_eq_true rfl) (by decide +kernel) (hi_0_7 _ _ _ _ _) ?_
                                refine zw_iconst (-1) 6 f105_5 rfl (by decide +kernel) ?_
                                refine zw_ireturn f105_6 r105 u105 ⟨_, rfl, ?_⟩
                                refine zw_ireturn f109_49 r109 u109 ⟨_, rfl, ?_⟩
                                refine zw_ireturn f103_91 r103 u103 ?_
                                exact ⟨_, _, _, _, rfl, (KQ.i rfl KQ.rf), by rw [show an_forge nv P a b c = (-1) from ((cI_y ⟨⟨hc1, hc2⟩, ⟨hc3, hc4⟩, ⟨hc5, hc6⟩⟩).trans ((cI_y (show a = 0 from hs7e)).trans ((cI_y (qV.ofc (by omega) hc9 hc10)).trans (cI_n (fun q => q.elim (fun q => hc21 q.symm) (fun q => q.elim (fun q => hc19 (q.trans hk).symm) (fun q => hc20 q.1.symm)))))))]⟩
                              · refine zw_iconst 1 24 f114_23 rfl (by decide +kernel) ?_
                                refine zw_zreturn f114_24 r114 u114 (by decide +kernel) ⟨_, rfl, ?_⟩
                                refine zw_if_eq_f 35 43 f109_32 (by decide +kernel) rfl (by decide +kernel) ?_
                                refine zw_aload_n 36 f109_35 rfl (zl1_ne rfl rfl rfl) ?_
                                refine zw_iload_n 37 f109_36 rfl zl1_eq ?_
                                refine zw_virtual_i 40 0 0 [.ref 0, .int 4] [(0, .ref 0), (1, .int 4)] f109_37 rfl n109_181 k109_181_11 rfl (hb_0 _ _ _ _) (by decide +kernel) (Nat.le_of_ble_eq_true rfl) rfl rfl (by decide +kernel) (by decide +kernel) rfl (Nat.le_of_ble_eq_true rfl) rfl ?_
                                refine zw_aload_n 1 f106_0 rfl rfl ?_
                                refine zw_iconst 0 2 f106_1 rfl (by decide +kernel) ?_
                                refine zw_put _ 5 f106_2 rfl g106_70_11 (hb_0 _ _ _ _) rfl (Nat.le_of_ble_eq_true rfl) (by decide +kernel) (hi_0_7 _ _ _ _ _) ?_
                                refine zw_iload_n 6 f106_5 rfl rfl ?_
                                refine zw_ireturn f106_6 r106 u106 ⟨_, rfl, ?_⟩
                                refine zw_goto 49 f109_40 (by decide +kernel) ?_
                                refine zw_ireturn f109_49 r109 u109 ⟨_, rfl, ?_⟩
                                refine zw_ireturn f103_91 r103 u103 ?_
                                exact ⟨_, _, _, _, rfl, (KQ.i rfl KQ.rf), by rw [show an_forge nv P a b c = 4 from ((cI_y ⟨⟨hc1, hc2⟩, ⟨hc3, hc4⟩, ⟨hc5, hc6⟩⟩).trans ((cI_y (show a = 0 from hs7e)).trans ((cI_y (qV.ofc (by omega) hc9 hc10)).trans ((cI_y (Or.inl (Decidable.of_not_not hc21).symm)).trans hk))))]⟩
                            · refine zw_iconst 1 24 f114_23 rfl (by decide +kernel) ?_
                              refine zw_zreturn f114_24 r114 u114 (by decide +kernel) ⟨_, rfl, ?_⟩
                              refine zw_if_eq_f 35 43 f109_32 (by decide +kernel) rfl (by decide +kernel) ?_
                              refine zw_aload_n 36 f109_35 rfl (zl1_ne rfl rfl rfl) ?_
                              refine zw_iload_n 37 f109_36 rfl zl1_eq ?_
                              refine zw_virtual_i 40 0 0 [.ref 0, .int 4] [(0, .ref 0), (1, .int 4)] f109_37 rfl n109_181 k109_181_11 rfl (hb_0 _ _ _ _) (by decide +kernel) (Nat.le_of_ble_eq_true rfl) rfl rfl (by decide +kernel) (by decide +kernel) rfl (Nat.le_of_ble_eq_true rfl) rfl ?_
                              refine zw_aload_n 1 f106_0 rfl rfl ?_
                              refine zw_iconst 0 2 f106_1 rfl (by decide +kernel) ?_
                              refine zw_put _ 5 f106_2 rfl g106_70_11 (hb_0 _ _ _ _) rfl (Nat.le_of_ble_eq_true rfl) (by decide +kernel) (hi_0_7 _ _ _ _ _) ?_
                              refine zw_iload_n 6 f106_5 rfl rfl ?_
                              refine zw_ireturn f106_6 r106 u106 ⟨_, rfl, ?_⟩
                              refine zw_goto 49 f109_40 (by decide +kernel) ?_
                              refine zw_ireturn f109_49 r109 u109 ⟨_, rfl, ?_⟩
                              refine zw_ireturn f103_91 r103 u103 ?_
                              exact ⟨_, _, _, _, rfl, (KQ.i rfl KQ.rf), by rw [show an_forge nv P a b c = 4 from ((cI_y ⟨⟨hc1, hc2⟩, ⟨hc3, hc4⟩, ⟨hc5, hc6⟩⟩).trans ((cI_y (show a = 0 from hs7e)).trans ((cI_y (qV.ofc (by omega) hc9 hc10)).trans ((cI_y (Or.inr (Or.inr ⟨(Decidable.of_not_not hc20).symm, hk⟩))).trans hk))))]⟩
                          · refine zw_iconst 1 24 f114_23 rfl (by decide +kernel) ?_
                            refine zw_zreturn f114_24 r114 u114 (by decide +kernel) ⟨_, rfl, ?_⟩
                            refine zw_if_eq_f 35 43 f109_32 (by decide +kernel) rfl (by decide +kernel) ?_
                            refine zw_aload_n 36 f109_35 rfl (zl1_ne rfl rfl rfl) ?_
                            refine zw_iload_n 37 f109_36 rfl zl1_eq ?_
                            refine zw_virtual_i 40 0 0 [.ref 0, .int 4] [(0, .ref 0), (1, .int 4)] f109_37 rfl n109_181 k109_181_11 rfl (hb_0 _ _ _ _) (by decide +kernel) (Nat.le_of_ble_eq_true rfl) rfl rfl (by decide +kernel) (by decide +kernel) rfl (Nat.le_of_ble_eq_true rfl) rfl ?_
                            refine zw_aload_n 1 f106_0 rfl rfl ?_
                            refine zw_iconst 0 2 f106_1 rfl (by decide +kernel) ?_
                            refine zw_put _ 5 f106_2 rfl g106_70_11 (hb_0 _ _ _ _) rfl (Nat.le_of_ble_eq_true rfl) (by decide +kernel) (hi_0_7 _ _ _ _ _) ?_
                            refine zw_iload_n 6 f106_5 rfl rfl ?_
                            refine zw_ireturn f106_6 r106 u106 ⟨_, rfl, ?_⟩
                            refine zw_goto 49 f109_40 (by decide +kernel) ?_
                            refine zw_ireturn f109_49 r109 u109 ⟨_, rfl, ?_⟩
                            refine zw_ireturn f103_91 r103 u103 ?_
                            exact ⟨_, _, _, _, rfl, (KQ.i rfl KQ.rf), by rw [show an_forge nv P a b c = 4 from ((cI_y ⟨⟨hc1, hc2⟩, ⟨hc3, hc4⟩, ⟨hc5, hc6⟩⟩).trans ((cI_y (show a = 0 from hs7e)).trans ((cI_y (qV.ofc (by omega) hc9 hc10)).trans ((cI_y (Or.inr (Or.inl ((Decidable.of_not_not hc19).symm.trans hk.symm)))).trans hk))))]⟩
                · refine zw_table_k 53 92 f103_39 hs7e (by decide +kernel) (by decide +kernel) (by decide +kernel) ?_
                  refine zw_iload_n 93 f103_92 rfl rfl ?_
                  refine zw_if_ge 96 105 f103_93 (by decide +kernel) rfl (fun hc22 => ?_) (fun hc22 => ?_)
                  · refine zw_aload_n 106 f103_105 rfl rfl ?_
                    refine zw_iload_n 107 f103_106 rfl rfl ?_
                    refine zw_virtual_i 110 0 0 [.ref 0, .int b] [(0, .ref 0), (1, .int b)] f103_107 rfl n103_181 k103_181_11 rfl (hb_0 _ _ _ _) (by decide +kernel) (Nat.le_of_ble_eq_true rfl) rfl rfl (by decide +kernel) (by decide +kernel) rfl (Nat.le_of_ble_eq_true rfl) rfl ?_
                    refine zw_aload_n 1 f106_0 rfl rfl ?_
                    refine zw_iconst 0 2 f106_1 rfl (by decide +kernel) ?_
                    refine zw_put _ 5 f106_2 rfl g106_70_11 (hb_0 _ _ _ _) rfl (Nat.le_of_ble_eq_true rfl) (by decide +kernel) (hi_0_7 _ _ _ _ _) ?_
                    refine zw_iload_n 6 f106_5 rfl rfl ?_
                    refine zw_ireturn f106_6 r106 u106 ⟨_, rfl, ?_⟩
                    refine zw_ireturn f103_110 r103 u103 ?_
                    exact ⟨_, _, _, _, rfl, (KQ.i rfl KQ.rf), by rw [show an_forge nv P a b c = b from ((cI_y ⟨⟨hc1, hc2⟩, ⟨hc3, hc4⟩, ⟨hc5, hc6⟩⟩).trans ((cI_n (kne (show a = 1 from hs7e) (by decide))).trans ((cI_y (show a = 1 from hs7e)).trans (cI_n (Int32.not_lt.mpr hc22)))))]⟩
                  · refine zw_aload_n 97 f103_96 rfl rfl ?_
                    refine zw_bipush 13 99 f103_97 rfl (by decide +kernel) ?_
                    refine zw_virtual_i 102 0 0 [.ref 0, .int 13] [(0, .ref 0), (1, .int 13)] f103_99 rfl n103_78 k103_78_11 rfl (hb_0 _ _ _ _) (by decide +kernel) (Nat.le_of_ble_eq_true rfl) rfl rfl (by decide +kernel) (by decide +kernel) rfl (Nat.le_of_ble_eq_true rfl) rfl ?_
                    refine zw_aload_n 1 f105_0 rfl rfl ?_
                    refine zw_iload_n 2 f105_1 rfl rfl ?_
                    refine zw_put _ 5 f105_2 rfl g105_70_11 (hb_0 _ _ _ _) rfl (Nat.le_of_ble_eq_true rfl) (by decide +kernel) (hi_0_7 _ _ _ _ _) ?_
                    refine zw_iconst (-1) 6 f105_5 rfl (by decide +kernel) ?_
                    refine zw_ireturn f105_6 r105 u105 ⟨_, rfl, ?_⟩
                    refine zw_goto 110 f103_102 (by decide +kernel) ?_
                    refine zw_ireturn f103_110 r103 u103 ?_
                    exact ⟨_, _, _, _, rfl, (KQ.i rfl KQ.rf), by rw [show an_forge nv P a b c = (-1) from ((cI_y ⟨⟨hc1, hc2⟩, ⟨hc3, hc4⟩, ⟨hc5, hc6⟩⟩).trans ((cI_n (kne (show a = 1 from hs7e) (by decide))).trans ((cI_y (show a = 1 from hs7e)).trans (cI_y (Int32.not_le.mp hc22)))))]⟩
                · refine zw_table_k 72 111 f103_39 hs7e (by decide +kernel) (by decide +kernel) (by decide +kernel) ?_
                  refine zw_aload_n 112 f103_111 rfl rfl ?_
                  refine zw_getfield 115 f103_112 rfl g103_10_11 (hb_0 _ _ _ _) rfl ?_
                  refine zw_iload_n 116 f103_115 rfl rfl ?_
                  refine zw_virtual_i 119 0 0 [.ref 1, .int b] [(0, .ref 1), (1, .int b)] f103_116 rfl n103_89 k103_89_4 rfl (hb_1 _ _ _ _) (by decide +kernel) (Nat.le_of_ble_eq_true rfl) rfl rfl (by decide +kernel) (by decide +kernel) rfl (Nat.le_of_ble_eq_true rfl) rfl ?_
                  refine zw_iload_n 1 f13_0 rfl rfl ?_
                  refine zw_if_lt 4 22 f13_1 (by decide +kernel) rfl (fun hc23 => ?_) (fun hc23 => ?_)
                  · refine zw_iconst 0 23 f13_22 rfl (by decide +kernel) ?_
                    refine zw_zreturn f13_23 r13 u13 (by decide +kernel) ⟨_, rfl, ?_⟩
                    refine zw_if_eq_t 138 f103_119 (by decide +kernel) (by decide +kernel) ?_
                    refine zw_aload_n 139 f103_138 rfl rfl ?_
                    refine zw_bipush 12 141 f103_139 rfl (by decide +kernel) ?_
                    refine zw_virtual_i 144 0 0 [.ref 0, .int 12] [(0, .ref 0), (1, .int 12)] f103_141 rfl n103_78 k103_78_11 rfl (hb_0 _ _ _ _) (by decide +kernel) (Nat.le_of_ble_eq_true rfl) rfl rfl (by decide +kernel) (by decide +kernel) rfl (Nat.le_of_ble_eq_true rfl) rfl ?_
                    refine zw_aload_n 1 f105_0 rfl rfl ?_
                    refine zw_iload_n 2 f105_1 rfl rfl ?_
                    refine zw_put _ 5 f105_2 rfl g105_70_11 (hb_0 _ _ _ _) rfl (Nat.le_of_ble_eq_true rfl) (by decide +kernel) (hi_0_7 _ _ _ _ _) ?_
                    refine zw_iconst (-1) 6 f105_5 rfl (by decide +kernel) ?_
                    refine zw_ireturn f105_6 r105 u105 ⟨_, rfl, ?_⟩
                    refine zw_ireturn f103_144 r103 u103 ?_
                    exact ⟨_, _, _, _, rfl, (KQ.i rfl KQ.rf), by rw [show an_forge nv P a b c = (-1) from ((cI_y ⟨⟨hc1, hc2⟩, ⟨hc3, hc4⟩, ⟨hc5, hc6⟩⟩).trans ((cI_n (kne (show a = 2 from hs7e) (by decide))).trans ((cI_n (kne (show a = 2 from hs7e) (by decide))).trans ((cI_y (show a = 2 from hs7e)).trans (cI_n (qV.n0 (by omega) hc23))))))]⟩
                  · refine zw_iload_n 5 f13_4 rfl rfl ?_
                    refine zw_aload_n 6 f13_5 rfl rfl ?_
                    refine zw_getI (nI nv) 9 f13_6 rfl g13_39_4 (hb_1 _ _ _ _) rfl hR.1.1 ?_
                    refine zw_ic_ge 12 22 f13_9 (by decide +kernel) rfl (fun hc24 => ?_) (fun hc24 => ?_)
                    · refine zw_iconst 0 23 f13_22 rfl (by decide +kernel) ?_
                      refine zw_zreturn f13_23 r13 u13 (by decide +kernel) ⟨_, rfl, ?_⟩
                      refine zw_if_eq_t 138 f103_119 (by decide +kernel) (by decide +kernel) ?_
                      refine zw_aload_n 139 f103_138 rfl rfl ?_
                      refine zw_bipush 12 141 f103_139 rfl (by decide +kernel) ?_
                      refine zw_virtual_i 144 0 0 [.ref 0, .int 12] [(0, .ref 0), (1, .int 12)] f103_141 rfl n103_78 k103_78_11 rfl (hb_0 _ _ _ _) (by decide +kernel) (Nat.le_of_ble_eq_true rfl) rfl rfl (by decide +kernel) (by decide +kernel) rfl (Nat.le_of_ble_eq_true rfl) rfl ?_
                      refine zw_aload_n 1 f105_0 rfl rfl ?_
                      refine zw_iload_n 2 f105_1 rfl rfl ?_
                      refine zw_put _ 5 f105_2 rfl g105_70_11 (hb_0 _ _ _ _) rfl (Nat.le_of_ble_eq_true rfl) (by decide +kernel) (hi_0_7 _ _ _ _ _) ?_
                      refine zw_iconst (-1) 6 f105_5 rfl (by decide +kernel) ?_
                      refine zw_ireturn f105_6 r105 u105 ⟨_, rfl, ?_⟩
                      refine zw_ireturn f103_144 r103 u103 ?_
                      exact ⟨_, _, _, _, rfl, (KQ.i rfl KQ.rf), by rw [show an_forge nv P a b c = (-1) from ((cI_y ⟨⟨hc1, hc2⟩, ⟨hc3, hc4⟩, ⟨hc5, hc6⟩⟩).trans ((cI_n (kne (show a = 2 from hs7e) (by decide))).trans ((cI_n (kne (show a = 2 from hs7e) (by decide))).trans ((cI_y (show a = 2 from hs7e)).trans (cI_n (qV.n2 (by omega) hc24))))))]⟩
                    · refine zw_iload_n 13 f13_12 rfl rfl ?_
                      refine zw_bipush 8 15 f13_13 rfl (by decide +kernel) ?_
                      refine zw_ic_ge 18 22 f13_15 (by decide +kernel) rfl (fun hc25 => ?_) (fun hc25 => ?_)
                      · refine zw_iconst 0 23 f13_22 rfl (by decide +kernel) ?_
                        refine zw_zreturn f13_23 r13 u13 (by decide +kernel) ⟨_, rfl, ?_⟩
                        refine zw_if_eq_t 138 f103_119 (by decide +kernel) (by decide +kernel) ?_
                        refine zw_aload_n 139 f103_138 rfl rfl ?_
                        refine zw_bipush 12 141 f103_139 rfl (by decide +kernel) ?_
                        refine zw_virtual_i 144 0 0 [.ref 0, .int 12] [(0, .ref 0), (1, .int 12)] f103_141 rfl n103_78 k103_78_11 rfl (hb_0 _ _ _ _) (by decide +kernel) (Nat.le_of_ble_eq_true rfl) rfl rfl (by decide +kernel) (by decide +kernel) rfl (Nat.le_of_ble_eq_true rfl) rfl ?_
                        refine zw_aload_n 1 f105_0 rfl rfl ?_
                        refine zw_iload_n 2 f105_1 rfl rfl ?_
                        refine zw_put _ 5 f105_2 rfl g105_70_11 (hb_0 _ _ _ _) rfl (Nat.le_of_ble_eq_true rfl) (by decide +kernel) (hi_0_7 _ _ _ _ _) ?_
                        refine zw_iconst (-1) 6 f105_5 rfl (by decide +kernel) ?_
                        refine zw_ireturn f105_6 r105 u105 ⟨_, rfl, ?_⟩
                        refine zw_ireturn f103_144 r103 u103 ?_
                        exact ⟨_, _, _, _, rfl, (KQ.i rfl KQ.rf), by rw [show an_forge nv P a b c = (-1) from ((cI_y ⟨⟨hc1, hc2⟩, ⟨hc3, hc4⟩, ⟨hc5, hc6⟩⟩).trans ((cI_n (kne (show a = 2 from hs7e) (by decide))).trans ((cI_n (kne (show a = 2 from hs7e) (by decide))).trans ((cI_y (show a = 2 from hs7e)).trans (cI_n (qV.n3 (m := 8) (N := 8) (by omega) (by omega) (by decide) hc25))))))]⟩
                      · refine zw_iconst 1 19 f13_18 rfl (by decide +kernel) ?_
                        refine zw_goto 23 f13_19 (by decide +kernel) ?_
                        refine zw_zreturn f13_23 r13 u13 (by decide +kernel) ⟨_, rfl, ?_⟩
                        refine zw_if_eq_f 122 138 f103_119 (by decide +kernel) rfl (by decide +kernel) ?_
                        refine zw_aload_n 123 f103_122 rfl rfl ?_
                        refine zw_aload_n 124 f103_123 rfl rfl ?_
                        refine zw_getfield 127 f103_124 rfl g103_10_11 (hb_0 _ _ _ _) rfl ?_
                        refine zw_getfield 130 f103_127 rfl g103_96_4 (hb_1 _ _ _ _) rfl ?_
                        refine zw_iload_n 131 f103_130 rfl rfl ?_
                        refine zw_iaload b.toNatClampNeg (P 54 b.toNatClampNeg) 132 f103_131 rfl (hb_3 _ _ _ _) rfl hc23 (zix (by decide) hc23 hc25) (congrFun ((hR.2.1 54 (by omega) (by omega))) b.toNatClampNeg) ?_
                        refine zw_virtual_i 135 0 0 [.ref 0, .int (P 54 b.toNatClampNeg)] [(0, .ref 0), (1, .int (P 54 b.toNatClampNeg))] f103_132 rfl n103_181 k103_181_11 rfl (hb_0 _ _ _ _) (by decide +kernel) (Nat.le_of_ble_eq_true rfl) rfl rfl (by decide +kernel) (by decide +kernel) rfl (Nat.le_of_ble_eq_true rfl) rfl ?_
                        refine zw_aload_n 1 f106_0 rfl rfl ?_
                        refine zw_iconst 0 2 f106_1 rfl (by decide +kernel) ?_
                        refine zw_put _ 5 f106_2 rfl g106_70_11 (hb_0 _ _ _ _) rfl (Nat.le_of_ble_eq_true rfl) (by decide +kernel) (hi_0_7 _ _ _ _ _) ?_
                        refine zw_iload_n 6 f106_5 rfl rfl ?_
                        refine zw_ireturn f106_6 r106 u106 ⟨_, rfl, ?_⟩
                        refine zw_goto 144 f103_135 (by decide +kernel) ?_
                        refine zw_ireturn f103_144 r103 u103 ?_
                        exact ⟨_, _, _, _, rfl, (KQ.i rfl KQ.rf), by rw [show an_forge nv P a b c = (P 54 b.toNatClampNeg) from ((cI_y ⟨⟨hc1, hc2⟩, ⟨hc3, hc4⟩, ⟨hc5, hc6⟩⟩).trans ((cI_n (kne (show a = 2 from hs7e) (by decide))).trans ((cI_n (kne (show a = 2 from hs7e) (by decide))).trans ((cI_y (show a = 2 from hs7e)).trans (cI_y (qV.ofc (by omega) hc23 hc24))))))]⟩
                · refine zw_table_k 106 145 f103_39 hs7e (by decide +kernel) (by decide +kernel) (by decide +kernel) ?_
                  refine zw_aload_n 146 f103_145 rfl rfl ?_
                  refine zw_iload_n 147 f103_146 rfl rfl ?_
                  refine zw_iload_n 148 f103_147 rfl rfl ?_
                  refine zw_virtual_i 151 0 0 [.ref 0, .int b, .int c] [(0, .ref 0), (1, .int b), (2, .int c)] f103_148 rfl n103_312 k103_312_11 rfl (hb_0 _ _ _ _) (by decide +kernel) (Nat.le_of_ble_eq_true rfl) rfl rfl (by decide +kernel) (by decide +kernel) rfl (Nat.le_of_ble_eq_true rfl) rfl ?_
                  refine zw_iload_n 1 f110_0 rfl rfl ?_
                  refine zw_if_lt 4 27 f110_1 (by decide +kernel) rfl (fun hc26 => ?_) (fun hc26 => ?_)
                  · refine zw_aload_n 28 f110_27 rfl rfl ?_
                    refine zw_bipush 12 30 f110_28 rfl (by decide +kernel) ?_
                    refine zw_virtual_i 33 0 0 [.ref 0, .int 12] [(0, .ref 0), (1, .int 12)] f110_30 rfl n110_78 k110_78_11 rfl (hb_0 _ _ _ _) (by decide +kernel) (Nat.le_of_ble_eq_true rfl) rfl rfl (by decide +kernel) (by decide +kernel) rfl (Nat.le_of_ble_eq_true rfl) rfl ?_
                    refine zw_aload_n 1 f105_0 rfl rfl ?_
                    refine zw_iload_n 2 f105_1 rfl rfl ?_
                    refine zw_put _ 5 f105_2 rfl g105_70_11 (hb_0 _ _ _ _) rfl (Nat.le_of_ble_eq_true rfl) (by decide +kernel) (hi_0_7 _ _ _ _ _) ?_
                    refine zw_iconst (-1) 6 f105_5 rfl (by decide +kernel) ?_
                    refine zw_ireturn f105_6 r105 u105 ⟨_, rfl, ?_⟩
                    refine zw_ireturn f110_33 r110 u110 ⟨_, rfl, ?_⟩
                    refine zw_ireturn f103_151 r103 u103 ?_
                    exact ⟨_, _, _, _, rfl, (KQ.i rfl KQ.rf), by rw [show an_forge nv P a b c = (-1) from ((cI_y ⟨⟨hc1, hc2⟩, ⟨hc3, hc4⟩, ⟨hc5, hc6⟩⟩).trans ((cI_n (kne (show a = 3 from hs7e) (by decide))).trans ((cI_n (kne (show a = 3 from hs7e) (by decide))).trans ((cI_n (kne (show a = 3 from hs7e) (by decide))).trans ((cI_y (show a = 3 from hs7e)).trans (cI_y (Or.inl hc26)))))))]⟩
                  · refine zw_iload_n 5 f110_4 rfl rfl ?_
                    refine zw_if_lt 8 27 f110_5 (by decide +kernel) rfl (fun hc27 => ?_) (fun hc27 => ?_)
                    · refine zw_aload_n 28 f110_27 rfl rfl ?_
                      refine zw_bipush 12 30 f110_28 rfl (by decide +kernel) ?_
                      refine zw_virtual_i 33 0 0 [.ref 0, .int 12] [(0, .ref 0), (1, .int 12)] f110_30 rfl n110_78 k110_78_11 rfl (hb_0 _ _ _ _) (by decide +kernel) (Nat.le_of_ble_eq_true rfl) rfl rfl (by decide +kernel) (by decide +kernel) rfl (Nat.le_of_ble_eq_true rfl) rfl ?_
                      refine zw_aload_n 1 f105_0 rfl rfl ?_
                      refine zw_iload_n 2 f105_1 rfl rfl ?_
                      refine zw_put _ 5 f105_2 rfl g105_70_11 (hb_0 _ _ _ _) rfl (Nat.le_of_ble_eq_true rfl) (by decide +kernel) (hi_0_7 _ _ _ _ _) ?_
                      refine zw_iconst (-1) 6 f105_5 rfl (by decide +kernel) ?_
                      refine zw_ireturn f105_6 r105 u105 ⟨_, rfl, ?_⟩
                      refine zw_ireturn f110_33 r110 u110 ⟨_, rfl, ?_⟩
                      refine zw_ireturn f103_151 r103 u103 ?_
                      exact ⟨_, _, _, _, rfl, (KQ.i rfl KQ.rf), by rw [show an_forge nv P a b c = (-1) from ((cI_y ⟨⟨hc1, hc2⟩, ⟨hc3, hc4⟩, ⟨hc5, hc6⟩⟩).trans ((cI_n (kne (show a = 3 from hs7e) (by decide))).trans ((cI_n (kne (show a = 3 from hs7e) (by decide))).trans ((cI_n (kne (show a = 3 from hs7e) (by decide))).trans ((cI_y (show a = 3 from hs7e)).trans (cI_y (Or.inr (Or.inl hc27))))))))]⟩
                    · refine zw_iload_n 9 f110_8 rfl rfl ?_
                      refine zw_bipush 6 11 f110_9 rfl (by decide +kernel) ?_
                      refine zw_ic_gt 14 27 f110_11 (by decide +kernel) rfl (fun hc28 => ?_) (fun hc28 => ?_)
                      · refine zw_aload_n 28 f110_27 rfl rfl ?_
                        refine zw_bipush 12 30 f110_28 rfl (by decide +kernel) ?_
                        refine zw_virtual_i 33 0 0 [.ref 0, .int 12] [(0, .ref 0), (1, .int 12)] f110_30 rfl n110_78 k110_78_11 rfl (hb_0 _ _ _ _) (by decide +kernel) (Nat.le_of_ble_eq_true rfl) rfl rfl (by decide +kernel) (by decide +kernel) rfl (Nat.le_of_ble_eq_true rfl) rfl ?_
                        refine zw_aload_n 1 f105_0 rfl rfl ?_
                        refine zw_iload_n 2 f105_1 rfl rfl ?_
                        refine zw_put _ 5 f105_2 rfl g105_70_11 (hb_0 _ _ _ _) rfl (Nat.le_of_ble_eq_true rfl) (by decide +kernel) (hi_0_7 _ _ _ _ _) ?_
                        refine zw_iconst (-1) 6 f105_5 rfl (by decide +kernel) ?_
                        refine zw_ireturn f105_6 r105 u105 ⟨_, rfl, ?_⟩
                        refine zw_ireturn f110_33 r110 u110 ⟨_, rfl, ?_⟩
                        refine zw_ireturn f103_151 r103 u103 ?_
                        exact ⟨_, _, _, _, rfl, (KQ.i rfl KQ.rf), by rw [show an_forge nv P a b c = (-1) from ((cI_y ⟨⟨hc1, hc2⟩, ⟨hc3, hc4⟩, ⟨hc5, hc6⟩⟩).trans ((cI_n (kne (show a = 3 from hs7e) (by decide))).trans ((cI_n (kne (show a = 3 from hs7e) (by decide))).trans ((cI_n (kne (show a = 3 from hs7e) (by decide))).trans ((cI_y (show a = 3 from hs7e)).trans (cI_y (Or.inr (Or.inr (Or.inl hc28)))))))))]⟩
                      · refine zw_iload_n 15 f110_14 rfl rfl ?_
                        refine zw_iload_n 16 f110_15 rfl rfl ?_
                        refine zw_iadd (c + b) 17 f110_16 rfl rfl ?_
                        refine zw_aload_n 18 f110_17 rfl rfl ?_
                        refine zw_getfield 21 f110_18 rfl g110_10_11 (hb_0 _ _ _ _) rfl ?_
                        refine zw_getI (nI nv) 24 f110_21 rfl g110_250_4 (hb_1 _ _ _ _) rfl hR.1.1 ?_
                        refine zw_ic_le 27 34 f110_24 (by decide +kernel) rfl (fun hc29 => ?_) (fun hc29 => ?_)
                        · refine zw_iconst 0 35 f110_34 rfl (by decide +kernel) ?_
                          refine zw_istore_n _ 36 f110_35 rfl (by decide +kernel) rfl ?_
                          refine zw_iconst 0 37 f110_36 rfl (by decide +kernel) ?_
                          refine zw_istore _ 39 f110_37 rfl (by decide +kernel) rfl ?_
                          refine zw_iload 41 f110_39 rfl zl1_eq ?_
                          refine zw_iload_n 42 f110_41 rfl (zl1_ne rfl rfl (zl1_ne rfl rfl rfl)) ?_
                          refine zw_ic_ge 45 65 f110_42 (by decide +kernel) rfl (fun hc30 => ?_) (fun hc30 => ?_)
                          · refine zw_aload_n 66 f110_65 rfl (zl1_ne rfl rfl (zl1_ne rfl rfl rfl)) ?_
                            refine zw_iload_n 67 f110_66 rfl (zl1_ne rfl rfl zl1_eq) ?_
                            refine zw_virtual_i 70 0 0 [.ref 0, .int 0] [(0, .ref 0), (1, .int 0)] f110_67 rfl n110_181 k110_181_11 rfl (hb_0 _ _ _ _) (by decide +kernel) (Nat.le_of_ble_eq_true rfl) rfl rfl (by decide +kernel) (by decide +kernel) rfl (Nat.le_of_ble_eq_true rfl) rfl ?_
                            refine zw_aload_n 1 f106_0 rfl rfl ?_
                            refine zw_iconst 0 2 f106_1 rfl (by decide +kernel) ?_
                            refine zw_put _ 5 f106_2 rfl g106_70_11 (hb_0 _ _ _ _) rfl (Nat.le_of_ble_eq_true rfl) (by decide +kernel) (hi_0_7 _ _ _ _ _) ?_
                            refine zw_iload_n 6 f106_5 rfl rfl ?_
                            refine zw_ireturn f106_6 r106 u106 ⟨_, rfl, ?_⟩
                            refine zw_ireturn f110_70 r110 u110 ⟨_, rfl, ?_⟩
                            refine zw_ireturn f103_151 r103 u103 ?_
                            have sr := sm_rng (k := c) (n := b) h8 hc27 hc6 hc26 hc4 (Int32.not_lt.mpr hc29)
                            have hb1 : b.toNatClampNeg ≤ 0 := nI_le_of (by omega) (by omega) (by rw [← sr.2.1]; exact hc30)
                            exact ⟨_, _, _, _, rfl, (KQ.i rfl KQ.rf), by rw [show an_forge nv P a b c = 0 from ((cI_y ⟨⟨hc1, hc2⟩, ⟨hc3, hc4⟩, ⟨hc5, hc6⟩⟩).trans ((cI_n (kne (show a = 3 from hs7e) (by decide))).trans ((cI_n (kne (show a = 3 from hs7e) (by decide))).trans ((cI_n (kne (show a = 3 from hs7e) (by decide))).trans ((cI_y (show a = 3 from hs7e)).trans ((cI_n (fun q => q.elim hc26 (fun q => q.elim hc27 (fun q => q.elim hc28 (Int32.not_lt.mpr hc29))))).trans (by rw [show b.toNatClampNeg = 0 from (by omega)]; rfl)))))))]⟩
                          · refine zw_iload_n 46 f110_45 rfl (zl1_ne rfl rfl zl1_eq) ?_
                            refine zw_aload_n 47 f110_46 rfl (zl1_ne rfl rfl (zl1_ne rfl rfl rfl)) ?_
                            refine zw_getfield 50 f110_47 rfl g110_10_11 (hb_0 _ _ _ _) rfl ?_
                            refine zw_iload_n 51 f110_50 rfl (zl1_ne rfl rfl (zl1_ne rfl rfl rfl)) ?_
                            refine zw_iload 53 f110_51 rfl zl1_eq ?_
                            refine zw_iadd (c + 0) 54 f110_53 rfl rfl ?_
                            refine zw_virtual_i 57 0 0 [.ref 1, .int (c + 0)] [(0, .ref 1), (1, .int (c + 0))] f110_54 rfl n110_330 k110_330_4 rfl (hb_1 _ _ _ _) (by decide +kernel) (Nat.le_of_ble_eq_true rfl) rfl rfl (by decide +kernel) (by decide +kernel) rfl (Nat.le_of_ble_eq_true rfl) rfl ?_
                            have sr := sm_rng (k := c) (n := b) h8 hc27 hc6 hc26 hc4 (Int32.not_lt.mpr hc29)
                            have lib31 : 0 < b.toNatClampNeg := nI_lt_of (by omega) (by omega) (by rw [← sr.2.1]; exact hc30)
                            have eib31 : (c + 0 : Int32) = nI (c.toNatClampNeg + 0) := (congrArg (fun z => z + (0 : Int32)) sr.1).trans (nI_add _ 0)
                            have ib := cx_brimOf ro nv np P W I G A B hR h8 (c.toNatClampNeg + 0) (by omega)
                            rw [← eib31] at ib
                            refine zWp.mono ib ?_
                            rintro r h1 ⟨rfl, rfl⟩
                            refine ⟨_, rfl, ?_⟩
                            refine zw_iadd (0 + (P 54 (c.toNatClampNeg + 0))) 58 f110_57 rfl rfl ?_
                            refine zw_istore_n _ 59 f110_58 rfl (by decide +kernel) rfl ?_
                            refine zw_iinc 1 _ 62 f110_59 rfl (zl1_ne rfl rfl zl1_eq) (by decide +kernel) (by decide +kernel) rfl ?_
                            refine zw_goto 39 f110_62 (by decide +kernel) ?_
                            refine zw_iload 41 f110_39 rfl zl1_eq ?_
                            refine zw_iload_n 42 f110_41 rfl (zl1_ne rfl rfl (zl1_ne rfl rfl (zl1_ne rfl rfl (zl1_ne rfl rfl rfl)))) ?_
                            refine zw_ic_ge 45 65 f110_42 (by decide +kernel) rfl (fun hc32 => ?_) (fun hc32 => ?_)
                            · refine zw_aload_n 66 f110_65 rfl (zl1_ne rfl rfl (zl1_ne rfl rfl (zl1_ne rfl rfl (zl1_ne rfl rfl rfl)))) ?_
                              refine zw_iload_n 67 f110_66 rfl (zl1_ne rfl rfl zl1_eq) ?_
                              refine zw_virtual_i 70 0 0 [.ref 0, .int (0 + (P 54 (c.toNatClampNeg + 0)))] [(0, .ref 0), (1, .int (0 + (P 54 (c.toNatClampNeg + 0))))] f110_67 rfl n110_181 k110_181_11 rfl (hb_0 _ _ _ _) (by decide +kernel) (Nat.le_of_ble_eq_true rfl) rfl rfl (by decide +kernel) (by decide +kernel) rfl (Nat.le_of_ble_eq_true rfl) rfl ?_
                              refine zw_aload_n 1 f106_0 rfl rfl ?_
                              refine zw_iconst 0 2 f106_1 rfl (by decide +kernel) ?_
                              refine zw_put _ 5 f106_2 rfl g106_70_11 (hb_0 _ _ _ _) rfl (Nat.le_of_ble_eq_true rfl) (by decide +kernel) (hi_0_7 _ _ _ _ _) ?_
                              refine zw_iload_n 6 f106_5 rfl rfl ?_
                              refine zw_ireturn f106_6 r106 u106 ⟨_, rfl, ?_⟩
                              refine zw_ireturn f110_70 r110 u110 ⟨_, rfl, ?_⟩
                              refine zw_ireturn f103_151 r103 u103 ?_
                              have hb1 : b.toNatClampNeg ≤ 1 := nI_le_of (by omega) (by omega) (by rw [← sr.2.1]; exact hc32)
                              exact ⟨_, _, _, _, rfl, (KQ.i rfl KQ.rf), by rw [show an_forge nv P a b c = (0 + (P 54 (c.toNatClampNeg + 0))) from ((cI_y ⟨⟨hc1, hc2⟩, ⟨hc3, hc4⟩, ⟨hc5, hc6⟩⟩).trans ((cI_n (kne (show a = 3 from hs7e) (by decide))).trans ((cI_n (kne (show a = 3 from hs7e) (by decide))).trans ((cI_n (kne (show a = 3 from hs7e) (by decide))).trans ((cI_y (show a = 3 from hs7e)).trans ((cI_n (fun q => q.elim hc26 (fun q => q.elim hc27 (fun q => q.elim hc28 (Int32.not_lt.mpr hc29))))).trans (by rw [show b.toNatClampNeg = 1 from (by omega)]; rfl)))))))]⟩
                            · refine zw_iload_n 46 f110_45 rfl (zl1_ne rfl rfl zl1_eq) ?_
                              refine zw_aload_n 47 f110_46 rfl (zl1_ne rfl rfl (zl1_ne rfl rfl (zl1_ne rfl rfl (zl1_ne rfl rfl rfl)))) ?_
                              refine zw_getfield 50 f110_47 rfl g110_10_11 (hb_0 _ _ _ _) rfl ?_
                              refine zw_iload_n 51 f110_50 rfl (zl1_ne rfl rfl (zl1_ne rfl rfl (zl1_ne rfl rfl (zl1_ne rfl rfl rfl)))) ?_
                              refine zw_iload 53 f110_51 rfl zl1_eq ?_
                              refine zw_iadd (c + 1) 54 f110_53 rfl rfl ?_
                              refine zw_virtual_i 57 0 0 [.ref 1, .int (c + 1)] [(0, .ref 1), (1, .int (c + 1))] f110_54 rfl n110_330 k110_330_4 rfl (hb_1 _ _ _ _) (by decide +kernel) (Nat.le_of_ble_eq_true rfl) rfl rfl (by decide +kernel) (by decide +kernel) rfl (Nat.le_of_ble_eq_true rfl) rfl ?_
                              have lib33 : 1 < b.toNatClampNeg := nI_lt_of (by omega) (by omega) (by rw [← sr.2.1]; exact hc32)
                              have eib33 : (c + 1 : Int32) = nI (c.toNatClampNeg + 1) := (congrArg (fun z => z + (1 : Int32)) sr.1).trans (nI_add _ 1)
                              have ib := cx_brimOf ro nv np P W I G A B hR h8 (c.toNatClampNeg + 1) (by omega)
                              rw [← eib33] at ib
                              refine zWp.mono ib ?_
                              rintro r h1 ⟨rfl, rfl⟩
                              refine ⟨_, rfl, ?_⟩
                              refine zw_iadd ((0 + (P 54 (c.toNatClampNeg + 0))) + (P 54 (c.toNatClampNeg + 1))) 58 f110_57 rfl rfl ?_
                              refine zw_istore_n _ 59 f110_58 rfl (by decide +kernel) rfl ?_
                              refine zw_iinc 2 _ 62 f110_59 rfl (zl1_ne rfl rfl zl1_eq) (by decide +kernel) (by decide +kernel) rfl ?_
                              refine zw_goto 39 f110_62 (by decide +kernel) ?_
                              refine zw_iload 41 f110_39 rfl zl1_eq ?_
                              refine zw_iload_n 42 f110_41 rfl (zl1_ne rfl rfl (zl1_ne rfl rfl (zl1_ne rfl rfl (zl1_ne rfl rfl (zl1_ne rfl rfl (zl1_ne rfl rfl rfl)))))) ?_
                              refine zw_ic_ge 45 65 f110_42 (by decide +kernel) rfl (fun hc34 => ?_) (fun hc34 => ?_)
                              · refine zw_aload_n 66 f110_65 rfl (zl1_ne rfl rfl (zl1_ne rfl rfl (zl1_ne rfl rfl (zl1_ne rfl rfl (zl1_ne rfl rfl (zl1_ne rfl rfl rfl)))))) ?_
                                refine zw_iload_n 67 f110_66 rfl (zl1_ne rfl rfl zl1_eq) ?_
                                refine zw_virtual_i 70 0 0 [.ref 0, .int ((0 + (P 54 (c.toNatClampNeg + 0))) + (P 54 (c.toNatClampNeg + 1)))] [(0, .ref 0), (1, .int ((0 + (P 54 (c.toNatClampNeg + 0))) + (P 54 (c.toNatClampNeg + 1))))] f110_67 rfl n110_181 k110_181_11 rfl (hb_0 _ _ _ _) (by decide +kernel) (Nat.le_of_ble_eq_true rfl) rfl rfl (by decide +kernel) (by decide +kernel) rfl (Nat.le_of_ble_eq_true rfl) rfl ?_
                                refine zw_aload_n 1 f106_0 rfl rfl ?_
                                refine zw_iconst 0 2 f106_1 rfl (by decide +kernel) ?_
                                refine zw_put _ 5 f106_2 rfl g106_70_11 (hb_0 _ _ _ _) rfl (Nat.le_of_ble_eq_true rfl) (by decide +kernel) (hi_0_7 _ _ _ _ _) ?_
                                refine zw_iload_n 6 f106_5 rfl rfl ?_
                                refine zw_ireturn f106_6 r106 u106 ⟨_, rfl, ?_⟩
                                refine zw_ireturn f110_70 r110 u110 ⟨_, rfl, ?_⟩
                                refine zw_ireturn f103_151 r103 u103 ?_
                                have hb1 : b.toNatClampNeg ≤ 2 := nI_le_of (by omega) (by omega) (by rw [← sr.2.1]; exact hc34)
                                exact ⟨_, _, _, _, rfl, (KQ.i rfl KQ.rf), by rw [show an_forge nv P a b c = ((0 + (P 54 (c.toNatClampNeg + 0))) + (P 54 (c.toNatClampNeg + 1))) from ((cI_y ⟨⟨hc1, hc2⟩, ⟨hc3, hc4⟩, ⟨hc5, hc6⟩⟩).trans ((cI_n (kne (show a = 3 from hs7e) (by decide))).trans ((cI_n (kne (show a = 3 from hs7e) (by decide))).trans ((cI_n (kne (show a = 3 from hs7e) (by decide))).trans ((cI_y (show a = 3 from hs7e)).trans ((cI_n (fun q => q.elim hc26 (fun q => q.elim hc27 (fun q => q.elim hc28 (Int32.not_lt.mpr hc29))))).trans (by rw [show b.toNatClampNeg = 2 from (by omega)]; rfl)))))))]⟩
                              · refine zw_iload_n 46 f110_45 rfl (zl1_ne rfl rfl zl1_eq) ?_
                                refine zw_aload_n 47 f110_46 rfl (zl1_ne rfl rfl (zl1_ne rfl rfl (zl1_ne rfl rfl (zl1_ne rfl rfl (zl1_ne rfl rfl (zl1_ne rfl rfl rfl)))))) ?_
                                refine zw_getfield 50 f110_47 rfl g110_10_11 (hb_0 _ _ _ _) rfl ?_
                                refine zw_iload_n 51 f110_50 rfl (zl1_ne rfl rfl (zl1_ne rfl rfl (zl1_ne rfl rfl (zl1_ne rfl rfl (zl1_ne rfl rfl (zl1_ne rfl rfl rfl)))))) ?_
                                refine zw_iload 53 f110_51 rfl zl1_eq ?_
                                refine zw_iadd (c + 2) 54 f110_53 rfl rfl ?_
                                refine zw_virtual_i 57 0 0 [.ref 1, .int (c + 2)] [(0, .ref 1), (1, .int (c + 2))] f110_54 rfl n110_330 k110_330_4 rfl (hb_1 _ _ _ _) (by decide +kernel) (Nat.le_of_ble_eq_true rfl) rfl rfl (by decide +kernel) (by decide +kernel) rfl (Nat.le_of_ble_eq_true rfl) rfl ?_
                                have lib35 : 2 < b.toNatClampNeg := nI_lt_of (by omega) (by omega) (by rw [← sr.2.1]; exact hc34)
                                have eib35 : (c + 2 : Int32) = nI (c.toNatClampNeg + 2) := (congrArg (fun z => z + (2 : Int32)) sr.1).trans (nI_add _ 2)
                                have ib := cx_brimOf ro nv np P W I G A B hR h8 (c.toNatClampNeg + 2) (by omega)
                                rw [← eib35] at ib
                                refine zWp.mono ib ?_
                                rintro r h1 ⟨rfl, rfl⟩
                                refine ⟨_, rfl, ?_⟩
                                refine zw_iadd (((0 + (P 54 (c.toNatClampNeg + 0))) + (P 54 (c.toNatClampNeg + 1))) + (P 54 (c.toNatClampNeg + 2))) 58 f110_57 rfl rfl ?_
                                refine zw_istore_n _ 59 f110_58 rfl (by decide +kernel) rfl ?_
                                refine zw_iinc 3 _ 62 f110_59 rfl (zl1_ne rfl rfl zl1_eq) (by decide +kernel) (by decide +kernel) rfl ?_
                                refine zw_goto 39 f110_62 (by decide +kernel) ?_
                                refine zw_iload 41 f110_39 rfl zl1_eq ?_
                                refine zw_iload_n 42 f110_41 rfl (zl1_ne rfl rfl (zl1_ne rfl rfl (zl1_ne rfl rfl (zl1_ne rfl rfl (zl1_ne rfl rfl (zl1_ne rfl rfl (zl1_ne rfl rfl (zl1_ne rfl rfl rfl)))))))) ?_
                                refine zw_ic_ge 45 65 f110_42 (by decide +kernel) rfl (fun hc36 => ?_) (fun hc36 => ?_)
                                · refine zw_aload_n 66 f110_65 rfl (zl1_ne rfl rfl (zl1_ne rfl rfl (zl1_ne rfl rfl (zl1_ne rfl rfl (zl1_ne rfl rfl (zl1_ne rfl rfl (zl1_ne rfl rfl (zl1_ne rfl rfl rfl)))))))) ?_
                                  refine zw_iload_n 67 f110_66 rfl (zl1_ne rfl rfl zl1_eq) ?_
                                  refine zw_virtual_i 70 0 0 [.ref 0, .int (((0 + (P 54 (c.toNatClampNeg + 0))) + (P 54 (c.toNatClampNeg + 1))) + (P 54 (c.toNatClampNeg + 2)))] [(0, .ref 0), (1, .int (((0 + (P 54 (c.toNatClampNeg + 0))) + (P 54 (c.toNatClampNeg + 1))) + (P 54 (c.toNatClampNeg + 2))))] f110_67 rfl n110_181 k110_181_11 rfl (hb_0 _ _ _ _) (by decide +kernel) (Nat.le_of_ble_eq_true rfl) rfl rfl (by decide +kernel) (by decide +kernel) rfl (Nat.le_of_ble_eq_true rfl) rfl ?_
                                  refine zw_aload_n 1 f106_0 rfl rfl ?_
                                  refine zw_iconst 0 2 f106_1 rfl (by decide +kernel) ?_
                                  refine zw_put _ 5 f106_2 rfl g106_70_11 (hb_0 _ _ _ _) rfl (Nat.le_of_ble_eq_true rfl) (by decide +kernel) (hi_0_7 _ _ _ _ _) ?_
                                  refine zw_iload_n 6 f106_5 rfl rfl ?_
                                  refine zw_ireturn f106_6 r106 u106 ⟨_, rfl, ?_⟩
                                  refine zw_ireturn f110_70 r110 u110 ⟨_, rfl, ?_⟩
                                  refine zw_ireturn f103_151 r103 u103 ?_
                                  have hb1 : b.toNatClampNeg ≤ 3 := nI_le_of (by omega) (by omega) (by rw [← sr.2.1]; exact hc36)
                                  exact ⟨_, _, _, _, rfl, (KQ.i rfl KQ.rf), by rw [show an_forge nv P a b c = (((0 + (P 54 (c.toNatClampNeg + 0))) + (P 54 (c.toNatClampNeg + 1))) + (P 54 (c.toNatClampNeg + 2))) from ((cI_y ⟨⟨hc1, hc2⟩, ⟨hc3, hc4⟩, ⟨hc5, hc6⟩⟩).trans ((cI_n (kne (show a = 3 from hs7e) (by decide))).trans ((cI_n (kne (show a = 3 from hs7e) (by decide))).trans ((cI_n (kne (show a = 3 from hs7e) (by decide))).trans ((cI_y (show a = 3 from hs7e)).trans ((cI_n (fun q => q.elim hc26 (fun q => q.elim hc27 (fun q => q.elim hc28 (Int32.not_lt.mpr hc29))))).trans (by rw [show b.toNatClampNeg = 3 from (by omega)]; rfl)))))))]⟩
                                · refine zw_iload_n 46 f110_45 rfl (zl1_ne rfl rfl zl1_eq) ?_
                                  refine zw_aload_n 47 f110_46 rfl (zl1_ne rfl rfl (zl1_ne rfl rfl (zl1_ne rfl rfl (zl1_ne rfl rfl (zl1_ne rfl rfl (zl1_ne rfl rfl (zl1_ne rfl rfl (zl1_ne rfl rfl rfl)))))))) ?_
                                  refine zw_getfield 50 f110_47 rfl g110_10_11 (hb_0 _ _ _ _) rfl ?_
                                  refine zw_iload_n 51 f110_50 rfl (zl1_ne rfl rfl (zl1_ne rfl rfl (zl1_ne rfl rfl (zl1_ne rfl rfl (zl1_ne rfl rfl (zl1_ne rfl rfl (zl1_ne rfl rfl (zl1_ne rfl rfl rfl)))))))) ?_
                                  refine zw_iload 53 f110_51 rfl zl1_eq ?_
                                  refine zw_iadd (c + 3) 54 f110_53 rfl rfl ?_
                                  refine zw_virtual_i 57 0 0 [.ref 1, .int (c + 3)] [(0, .ref 1), (1, .int (c + 3))] f110_54 rfl n110_330 k110_330_4 rfl (hb_1 _ _ _ _) (by decide +kernel) (Nat.le_of_ble_eq_true rfl) rfl rfl (by decide +kernel) (by decide +kernel) rfl (Nat.le_of_ble_eq_true rfl) rfl ?_
                                  have lib37 : 3 < b.toNatClampNeg := nI_lt_of (by omega) (by omega) (by rw [← sr.2.1]; exact hc36)
                                  have eib37 : (c + 3 : Int32) = nI (c.toNatClampNeg + 3) := (congrArg (fun z => z + (3 : Int32)) sr.1).trans (nI_add _ 3)
                                  have ib := cx_brimOf ro nv np P W I G A B hR h8 (c.toNatClampNeg + 3) (by omega)
                                  rw [← eib37] at ib
                                  refine zWp.mono ib ?_
                                  rintro r h1 ⟨rfl, rfl⟩
                                  refine ⟨_, rfl, ?_⟩
                                  refine zw_iadd ((((0 + (P 54 (c.toNatClampNeg + 0))) + (P 54 (c.toNatClampNeg + 1))) + (P 54 (c.toNatClampNeg + 2))) + (P 54 (c.toNatClampNeg + 3))) 58 f110_57 rfl rfl ?_
                                  refine zw_istore_n _ 59 f110_58 rfl (by decide +kernel) rfl ?_
                                  refine zw_iinc 4 _ 62 f110_59 rfl (zl1_ne rfl rfl zl1_eq) (by decide +kernel) (by decide +kernel) rfl ?_
                                  refine zw_goto 39 f110_62 (by decide +kernel) ?_
                                  refine zw_iload 41 f110_39 rfl zl1_eq ?_
                                  refine zw_iload_n 42 f110_41 rfl (zl1_ne rfl rfl (zl1_ne rfl rfl (zl1_ne rfl rfl (zl1_ne rfl rfl (zl1_ne rfl rfl (zl1_ne rfl rfl (zl1_ne rfl rfl (zl1_ne rfl rfl (zl1_ne rfl rfl (zl1_ne rfl rfl rfl)))))))))) ?_
                                  refine zw_ic_ge 45 65 f110_42 (by decide +kernel) rfl (fun hc38 => ?_) (fun hc38 => ?_)
                                  · refine zw_aload_n 66 f110_65 rfl (zl1_ne rfl rfl (zl1_ne rfl rfl (zl1_ne rfl rfl (zl1_ne rfl rfl (zl1_ne rfl rfl (zl1_ne rfl rfl (zl1_ne rfl rfl (zl1_ne rfl rfl (zl1_ne rfl rfl (zl1_ne rfl rfl rfl)))))))))) ?_
                                    refine zw_iload_n 67 f110_66 rfl (zl1_ne rfl rfl zl1_eq) ?_
                                    refine zw_virtual_i 70 0 0 [.ref 0, .int ((((0 + (P 54 (c.toNatClampNeg + 0))) + (P 54 (c.toNatClampNeg + 1))) + (P 54 (c.toNatClampNeg + 2))) + (P 54 (c.toNatClampNeg + 3)))] [(0, .ref 0), (1, .int ((((0 + (P 54 (c.toNatClampNeg + 0))) + (P 54 (c.toNatClampNeg + 1))) + (P 54 (c.toNatClampNeg + 2))) + (P 54 (c.toNatClampNeg + 3))))] f110_67 rfl n110_181 k110_181_11 rfl (hb_0 _ _ _ _) (by decide +kernel) (Nat.le_of_ble_eq_true rfl) rfl rfl (by decide +kernel) (by decide +kernel) rfl (Nat.le_of_ble_eq_true rfl) rfl ?_
                                    refine zw_aload_n 1 f106_0 rfl rfl ?_
                                    refine zw_iconst 0 2 f106_1 rfl (by decide +kernel) ?_
                                    refine zw_put _ 5 f106_2 rfl g106_70_11 (hb_0 _ _ _ _) rfl (Nat.le_of_ble_eq_true rfl) (by decide +kernel) (hi_0_7 _ _ _ _ _) ?_
                                    refine zw_iload_n 6 f106_5 rfl rfl ?_
                                    refine zw_ireturn f106_6 r106 u106 ⟨_, rfl, ?_⟩
                                    refine zw_ireturn f110_70 r110 u110 ⟨_, rfl, ?_⟩
                                    refine zw_ireturn f103_151 r103 u103 ?_
                                    have hb1 : b.toNatClampNeg ≤ 4 := nI_le_of (by omega) (by omega) (by rw [← sr.2.1]; exact hc38)
                                    exact ⟨_, _, _, _, rfl, (KQ.i rfl KQ.rf), by rw [show an_forge nv P a b c = ((((0 + (P 54 (c.toNatClampNeg + 0))) + (P 54 (c.toNatClampNeg + 1))) + (P 54 (c.toNatClampNeg + 2))) + (P 54 (c.toNatClampNeg + 3))) from ((cI_y ⟨⟨hc1, hc2⟩, ⟨hc3, hc4⟩, ⟨hc5, hc6⟩⟩).trans ((cI_n (kne (show a = 3 from hs7e) (by decide))).trans ((cI_n (kne (show a = 3 from hs7e) (by decide))).trans ((cI_n (kne (show a = 3 from hs7e) (by decide))).trans ((cI_y (show a = 3 from hs7e)).trans ((cI_n (fun q => q.elim hc26 (fun q => q.elim hc27 (fun q => q.elim hc28 (Int32.not_lt.mpr hc29))))).trans (by rw [show b.toNatClampNeg = 4 from (by omega)]; rfl)))))))]⟩
                                  · refine zw_iload_n 46 f110_45 rfl (zl1_ne rfl rfl zl1_eq) ?_
                                    refine zw_aload_n 47 f110_46 rfl (zl1_ne rfl rfl (zl1_ne rfl rfl (zl1_ne rfl rfl (zl1_ne rfl rfl (zl1_ne rfl rfl (zl1_ne rfl rfl (zl1_ne rfl rfl (zl1_ne rfl rfl (zl1_ne rfl rfl (zl1_ne rfl rfl rfl)))))))))) ?_
                                    refine zw_getfield 50 f110_47 rfl g110_10_11 (hb_0 _ _ _ _) rfl ?_
                                    refine zw_iload_n 51 f110_50 rfl (zl1_ne rfl rfl (zl1_ne rfl rfl (zl1_ne rfl rfl (zl1_ne rfl rfl (zl1_ne rfl rfl (zl1_ne rfl rfl (zl1_ne rfl rfl (zl1_ne rfl rfl (zl1_ne rfl rfl (zl1_ne rfl rfl rfl)))))))))) ?_
                                    refine zw_iload 53 f110_51 rfl zl1_eq ?_
                                    refine zw_iadd (c + 4) 54 f110_53 rfl rfl ?_
                                    refine zw_virtual_i 57 0 0 [.ref 1, .int (c + 4)] [(0, .ref 1), (1, .int (c + 4))] f110_54 rfl n110_330 k110_330_4 rfl (hb_1 _ _ _ _) (by decide +kernel) (Nat.le_of_ble_eq_true rfl) rfl rfl (by decide +kernel) (by decide +kernel) rfl (Nat.le_of_ble_eq_true rfl) rfl ?_
                                    have lib39 : 4 < b.toNatClampNeg := nI_lt_of (by omega) (by omega) (by rw [← sr.2.1]; exact hc38)
                                    have eib39 : (c + 4 : Int32) = nI (c.toNatClampNeg + 4) := (congrArg (fun z => z + (4 : Int32)) sr.1).trans (nI_add _ 4)
                                    have ib := cx_brimOf ro nv np P W I G A B hR h8 (c.toNatClampNeg + 4) (by omega)
                                    rw [← eib39] at ib
                                    refine zWp.mono ib ?_
                                    rintro r h1 ⟨rfl, rfl⟩
                                    refine ⟨_, rfl, ?_⟩
                                    refine zw_iadd (((((0 + (P 54 (c.toNatClampNeg + 0))) + (P 54 (c.toNatClampNeg + 1))) + (P 54 (c.toNatClampNeg + 2))) + (P 54 (c.toNatClampNeg + 3))) + (P 54 (c.toNatClampNeg + 4))) 58 f110_57 rfl rfl ?_
                                    refine zw_istore_n _ 59 f110_58 rfl (by decide +kernel) rfl ?_
                                    refine zw_iinc 5 _ 62 f110_59 rfl (zl1_ne rfl rfl zl1_eq) (by decide +kernel) (by decide +kernel) rfl ?_
                                    refine zw_goto 39 f110_62 (by decide +kernel) ?_
                                    refine zw_iload 41 f110_39 rfl zl1_eq ?_
                                    refine zw_iload_n 42 f110_41 rfl (zl1_ne rfl rfl (zl1_ne rfl rfl (zl1_ne rfl rfl (zl1_ne rfl rfl (zl1_ne rfl rfl (zl1_ne rfl rfl (zl1_ne rfl rfl (zl1_ne rfl rfl (zl1_ne rfl rfl (zl1_ne rfl rfl (zl1_ne rfl rfl (zl1_ne rfl rfl rfl)))))))))))) ?_
                                    refine zw_ic_ge 45 65 f110_42 (by decide +kernel) rfl (fun hc40 => ?_) (fun hc40 => ?_)
                                    · refine zw_aload_n 66 f110_65 rfl (zl1_ne rfl rfl (zl1_ne rfl rfl (zl1_ne rfl rfl (zl1_ne rfl rfl (zl1_ne rfl rfl (zl1_ne rfl rfl (zl1_ne rfl rfl (zl1_ne rfl rfl (zl1_ne rfl rfl (zl1_ne rfl rfl (zl1_ne rfl rfl (zl1_ne rfl rfl rfl)))))))))))) ?_
                                      refine zw_iload_n 67 f110_66 rfl (zl1_ne rfl rfl zl1_eq) ?_
                                      refine zw_virtual_i 70 0 0 [.ref 0, .int (((((0 + (P 54 (c.toNatClampNeg + 0))) + (P 54 (c.toNatClampNeg + 1))) + (P 54 (c.toNatClampNeg + 2))) + (P 54 (c.toNatClampNeg + 3))) + (P 54 (c.toNatClampNeg + 4)))] [(0, .ref 0), (1, .int (((((0 + (P 54 (c.toNatClampNeg + 0))) + (P 54 (c.toNatClampNeg + 1))) + (P 54 (c.toNatClampNeg + 2))) + (P 54 (c.toNatClampNeg + 3))) + (P 54 (c.toNatClampNeg + 4))))] f110_67 rfl n110_181 k110_181_11 rfl (hb_0 _ _ _ _) (by decide +kernel) (Nat.le_of_ble_eq_true rfl) rfl rfl (by decide +kernel) (by decide +kernel) rfl (Nat.le_of_ble_eq_true rfl) rfl ?_
                                      refine zw_aload_n 1 f106_0 rfl rfl ?_
                                      refine zw_iconst 0 2 f106_1 rfl (by decide +kernel) ?_
                                      refine zw_put _ 5 f106_2 rfl g106_70_11 (hb_0 _ _ _ _) rfl (Nat.le_of_ble_eq_true rfl) (by decide +kernel) (hi_0_7 _ _ _ _ _) ?_
                                      refine zw_iload_n 6 f106_5 rfl rfl ?_
                                      refine zw_ireturn f106_6 r106 u106 ⟨_, rfl, ?_⟩
                                      refine zw_ireturn f110_70 r110 u110 ⟨_, rfl, ?_⟩
                                      refine zw_ireturn f103_151 r103 u103 ?_
                                      have hb1 : b.toNatClampNeg ≤ 5 := nI_le_of (by omega) (by omega) (by rw [← sr.2.1]; exact hc40)
                                      exact ⟨_, _, _, _, rfl, (KQ.i rfl KQ.rf), by rw [show an_forge nv P a b c = (((((0 + (P 54 (c.toNatClampNeg + 0))) + (P 54 (c.toNatClampNeg + 1))) + (P 54 (c.toNatClampNeg + 2))) + (P 54 (c.toNatClampNeg + 3))) + (P 54 (c.toNatClampNeg + 4))) from ((cI_y ⟨⟨hc1, hc2⟩, ⟨hc3, hc4⟩, ⟨hc5, hc6⟩⟩).trans ((cI_n (kne (show a = 3 from hs7e) (by decide))).trans ((cI_n (kne (show a = 3 from hs7e) (by decide))).trans ((cI_n (kne (show a = 3 from hs7e) (by decide))).trans ((cI_y (show a = 3 from hs7e)).trans ((cI_n (fun q => q.elim hc26 (fun q => q.elim hc27 (fun q => q.elim hc28 (Int32.not_lt.mpr hc29))))).trans (by rw [show b.toNatClampNeg = 5 from (by omega)]; rfl)))))))]⟩
                                    · refine zw_iload_n 46 f110_45 rfl (zl1_ne rfl rfl zl1_eq) ?_
                                      refine zw_aload_n 47 f110_46 rfl (zl1_ne rfl rfl (zl1_ne rfl rfl (zl1_ne rfl rfl (zl1_ne rfl rfl (zl1_ne rfl rfl (zl1_ne rfl rfl (zl1_ne rfl rfl (zl1_ne rfl rfl (zl1_ne rfl rfl (zl1_ne rfl rfl (zl1_ne rfl rfl (zl1_ne rfl rfl rfl)))))))))))) ?_
                                      refine zw_getfield 50 f110_47 rfl g110_10_11 (hb_0 _ _ _ _) rfl ?_
                                      refine zw_iload_n 51 f110_50 rfl (zl1_ne rfl rfl (zl1_ne rfl rfl (zl1_ne rfl rfl (zl1_ne rfl rfl (zl1_ne rfl rfl (zl1_ne rfl rfl (zl1_ne rfl rfl (zl1_ne rfl rfl (zl1_ne rfl rfl (zl1_ne rfl rfl (zl1_ne rfl rfl (zl1_ne rfl rfl rfl)))))))))))) ?_
                                      refine zw_iload 53 f110_51 rfl zl1_eq ?_
                                      refine zw_iadd (c + 5) 54 f110_53 rfl rfl ?_
                                      refine zw_virtual_i 57 0 0 [.ref 1, .int (c + 5)] [(0, .ref 1), (1, .int (c + 5))] f110_54 rfl n110_330 k110_330_4 rfl (hb_1 _ _ _ _) (by decide +kernel) (Nat.le_of_ble_eq_true rfl) rfl rfl (by decide +kernel) (by decide +kernel) rfl (Nat.le_of_ble_eq_true rfl) rfl ?_
                                      have lib41 : 5 < b.toNatClampNeg := nI_lt_of (by omega) (by omega) (by rw [← sr.2.1]; exact hc40)
                                      have eib41 : (c + 5 : Int32) = nI (c.toNatClampNeg + 5) := (congrArg (fun z => z + (5 : Int32)) sr.1).trans (nI_add _ 5)
                                      have ib := cx_brimOf ro nv np P W I G A B hR h8 (c.toNatClampNeg + 5) (by omega)
                                      rw [← eib41] at ib
                                      refine zWp.mono ib ?_
                                      rintro r h1 ⟨rfl, rfl⟩
                                      refine ⟨_, rfl, ?_⟩
                                      refine zw_iadd ((((((0 + (P 54 (c.toNatClampNeg + 0))) + (P 54 (c.toNatClampNeg + 1))) + (P 54 (c.toNatClampNeg + 2))) + (P 54 (c.toNatClampNeg + 3))) + (P 54 (c.toNatClampNeg + 4))) + (P 54 (c.toNatClampNeg + 5))) 58 f110_57 rfl rfl ?_
                                      refine zw_istore_n _ 59 f110_58 rfl (by decide +kernel) rfl ?_
                                      refine zw_iinc 6 _ 62 f110_59 rfl (zl1_ne rfl rfl zl1_eq) (by decide +kernel) (by decide +kernel) rfl ?_
                                      refine zw_goto 39 f110_62 (by decide +kernel) ?_
                                      refine zw_iload 41 f110_39 rfl zl1_eq ?_
                                      refine zw_iload_n 42 f110_41 rfl (zl1_ne rfl rfl (zl1_ne rfl rfl (zl1_ne rfl rfl (zl1_ne rfl rfl (zl1_ne rfl rfl (zl1_ne rfl rfl (zl1_ne rfl rfl (zl1_ne rfl rfl (zl1_ne rfl rfl (zl1_ne rfl rfl (zl1_ne rfl rfl (zl1_ne rfl rfl (zl1_ne rfl rfl (zl1_ne rfl rfl rfl)))))))))))))) ?_
                                      refine zw_ic_ge_t 65 f110_42 (by decide +kernel) (Int32.not_lt.mp hc28) ?_
                                      refine zw_aload_n 66 f110_65 rfl (zl1_ne rfl rfl (zl1_ne rfl rfl (zl1_ne rfl rfl (zl1_ne rfl rfl (zl1_ne rfl rfl (zl1_ne rfl rfl (zl1_ne rfl rfl (zl1_ne rfl rfl (zl1_ne rfl rfl (zl1_ne rfl rfl (zl1_ne rfl rfl (zl1_ne rfl rfl (zl1_ne rfl rfl (zl1_ne rfl rfl rfl)))))))))))))) ?_
                                      refine zw_iload_n 67 f110_66 rfl (zl1_ne rfl rfl zl1_eq) ?_
                                      refine zw_virtual_i 70 0 0 [.ref 0, .int ((((((0 + (P 54 (c.toNatClampNeg + 0))) + (P 54 (c.toNatClampNeg + 1))) + (P 54 (c.toNatClampNeg + 2))) + (P 54 (c.toNatClampNeg + 3))) + (P 54 (c.toNatClampNeg + 4))) + (P 54 (c.toNatClampNeg + 5)))] [(0, .ref 0), (1, .int ((((((0 + (P 54 (c.toNatClampNeg + 0))) + (P 54 (c.toNatClampNeg + 1))) + (P 54 (c.toNatClampNeg + 2))) + (P 54 (c.toNatClampNeg + 3))) + (P 54 (c.toNatClampNeg + 4))) + (P 54 (c.toNatClampNeg + 5))))] f110_67 rfl n110_181 k110_181_11 rfl (hb_0 _ _ _ _) (by decide +kernel) (Nat.le_of_ble_eq_true rfl) rfl rfl (by decide +kernel) (by decide +kernel) rfl (Nat.le_of_ble_eq_true rfl) rfl ?_
                                      refine zw_aload_n 1 f106_0 rfl rfl ?_
                                      refine zw_iconst 0 2 f106_1 rfl (by decide +kernel) ?_
                                      refine zw_put _ 5 f106_2 rfl g106_70_11 (hb_0 _ _ _ _) rfl (Nat.le_of_ble_eq_true rfl) (by decide +kernel) (hi_0_7 _ _ _ _ _) ?_
                                      refine zw_iload_n 6 f106_5 rfl rfl ?_
                                      refine zw_ireturn f106_6 r106 u106 ⟨_, rfl, ?_⟩
                                      refine zw_ireturn f110_70 r110 u110 ⟨_, rfl, ?_⟩
                                      refine zw_ireturn f103_151 r103 u103 ?_
                                      have hb1 : b.toNatClampNeg ≤ 6 := nI_le_of (by omega) (by omega) (by rw [← sr.2.1]; exact (Int32.not_lt.mp hc28))
                                      exact ⟨_, _, _, _, rfl, (KQ.i rfl KQ.rf), by rw [show an_forge nv P a b c = ((((((0 + (P 54 (c.toNatClampNeg + 0))) + (P 54 (c.toNatClampNeg + 1))) + (P 54 (c.toNatClampNeg + 2))) + (P 54 (c.toNatClampNeg + 3))) + (P 54 (c.toNatClampNeg + 4))) + (P 54 (c.toNatClampNeg + 5))) from ((cI_y ⟨⟨hc1, hc2⟩, ⟨hc3, hc4⟩, ⟨hc5, hc6⟩⟩).trans ((cI_n (kne (show a = 3 from hs7e) (by decide))).trans ((cI_n (kne (show a = 3 from hs7e) (by decide))).trans ((cI_n (kne (show a = 3 from hs7e) (by decide))).trans ((cI_y (show a = 3 from hs7e)).trans ((cI_n (fun q => q.elim hc26 (fun q => q.elim hc27 (fun q => q.elim hc28 (Int32.not_lt.mpr hc29))))).trans (by rw [show b.toNatClampNeg = 6 from (by omega)]; rfl)))))))]⟩
                        · refine zw_aload_n 28 f110_27 rfl rfl ?_
                          refine zw_bipush 12 30 f110_28 rfl (by decide +kernel) ?_
                          refine zw_virtual_i 33 0 0 [.ref 0, .int 12] [(0, .ref 0), (1, .int 12)] f110_30 rfl n110_78 k110_78_11 rfl (hb_0 _ _ _ _) (by decide +kernel) (Nat.le_of_ble_eq_true rfl) rfl rfl (by decide +kernel) (by decide +kernel) rfl (Nat.le_of_ble_eq_true rfl) rfl ?_
                          refine zw_aload_n 1 f105_0 rfl rfl ?_
                          refine zw_iload_n 2 f105_1 rfl rfl ?_
                          refine zw_put _ 5 f105_2 rfl g105_70_11 (hb_0 _ _ _ _) rfl (Nat.le_of_ble_eq_true rfl) (by decide +kernel) (hi_0_7 _ _ _ _ _) ?_
                          refine zw_iconst (-1) 6 f105_5 rfl (by decide +kernel) ?_
                          refine zw_ireturn f105_6 r105 u105 ⟨_, rfl, ?_⟩
                          refine zw_ireturn f110_33 r110 u110 ⟨_, rfl, ?_⟩
                          refine zw_ireturn f103_151 r103 u103 ?_
                          exact ⟨_, _, _, _, rfl, (KQ.i rfl KQ.rf), by rw [show an_forge nv P a b c = (-1) from ((cI_y ⟨⟨hc1, hc2⟩, ⟨hc3, hc4⟩, ⟨hc5, hc6⟩⟩).trans ((cI_n (kne (show a = 3 from hs7e) (by decide))).trans ((cI_n (kne (show a = 3 from hs7e) (by decide))).trans ((cI_n (kne (show a = 3 from hs7e) (by decide))).trans ((cI_y (show a = 3 from hs7e)).trans (cI_y (Or.inr (Or.inr (Or.inr (Int32.not_le.mp hc29))))))))))]⟩
                · refine zw_table_k 113 152 f103_39 hs7e (by decide +kernel) (by decide +kernel) (by decide +kernel) ?_
                  refine zw_aload_n 153 f103_152 rfl rfl ?_
                  refine zw_iload_n 154 f103_153 rfl rfl ?_
                  refine zw_bipush 8 156 f103_154 rfl (by decide +kernel) ?_
                  refine zw_static_i 159 0 0 [.int c, .int 8] [.ref 0] [(0, .int c), (1, .int 8)] f103_156 rfl k103_304_99 rfl (by decide +kernel) (Nat.le_of_ble_eq_true rfl) (Nat.le_of_ble_eq_true rfl) rfl rfl (by decide +kernel) (by decide +kernel) rfl (Nat.le_of_ble_eq_true rfl) rfl ?_
                  refine zWp.mono (cx_fm ro _ c 8 (by decide)) ?_
                  rintro r h1 ⟨rfl, rfl⟩
                  rw [fm_8 ⟨hc5, hc6⟩]
                  refine ⟨_, rfl, ?_⟩
                  refine zw_virtual_i 162 0 0 [.ref 0, .int (mMod c 8)] [(0, .ref 0), (1, .int (mMod c 8))] f103_159 rfl n103_315 k103_315_11 rfl (hb_0 _ _ _ _) (by decide +kernel) (Nat.le_of_ble_eq_true rfl) rfl rfl (by decide +kernel) (by decide +kernel) rfl (Nat.le_of_ble_eq_true rfl) rfl ?_
                  refine zw_aload_n 1 f111_0 rfl rfl ?_
                  refine zw_getfield 4 f111_1 rfl g111_10_11 (hb_0 _ _ _ _) rfl ?_
                  refine zw_iload_n 5 f111_4 rfl rfl ?_
                  refine zw_virtual_i 8 0 0 [.ref 1, .int (mMod c 8)] [(0, .ref 1), (1, .int (mMod c 8))] f111_5 rfl n111_89 k111_89_4 rfl (hb_1 _ _ _ _) (by decide +kernel) (Nat.le_of_ble_eq_true rfl) rfl rfl (by decide +kernel) (by decide +kernel) rfl (Nat.le_of_ble_eq_true rfl) rfl ?_
                  refine zw_iload_n 1 f13_0 rfl rfl ?_
                  refine zw_if_lt 4 22 f13_1 (by decide +kernel) rfl (fun hc42 => ?_) (fun hc42 => ?_)
                  · refine zw_iconst 0 23 f13_22 rfl (by decide +kernel) ?_
                    refine zw_zreturn f13_23 r13 u13 (by decide +kernel) ⟨_, rfl, ?_⟩
                    refine zw_if_ne_f 11 17 f111_8 (by decide +kernel) rfl (by decide +kernel) ?_
                    refine zw_aload_n 12 f111_11 rfl rfl ?_
                    refine zw_iconst 0 13 f111_12 rfl (by decide +kernel) ?_
                    refine zw_virtual_i 16 0 0 [.ref 0, .int 0] [(0, .ref 0), (1, .int 0)] f111_13 rfl n111_181 k111_181_11 rfl (hb_0 _ _ _ _) (by decide +kernel) (Nat.le_of_ble_eq_true rfl) rfl rfl (by decide +kernel) (by decide +kernel) rfl (Nat.le_of_ble_eq_true rfl) rfl ?_
                    refine zw_aload_n 1 f106_0 rfl rfl ?_
                    refine zw_iconst 0 2 f106_1 rfl (by decide +kernel) ?_
                    refine zw_put _ 5 f106_2 rfl g106_70_11 (hb_0 _ _ _ _) rfl (Nat.le_of_ble_eq_true rfl) (by decide +kernel) (hi_0_7 _ _ _ _ _) ?_
                    refine zw_iload_n 6 f106_5 rfl rfl ?_
                    refine zw_ireturn f106_6 r106 u106 ⟨_, rfl, ?_⟩
                    refine zw_ireturn f111_16 r111 u111 ⟨_, rfl, ?_⟩
                    refine zw_ireturn f103_162 r103 u103 ?_
                    exact ⟨_, _, _, _, rfl, (KQ.i rfl KQ.rf), by rw [show an_forge nv P a b c = 0 from ((cI_y ⟨⟨hc1, hc2⟩, ⟨hc3, hc4⟩, ⟨hc5, hc6⟩⟩).trans ((cI_n (kne (show a = 4 from hs7e) (by decide))).trans ((cI_n (kne (show a = 4 from hs7e) (by decide))).trans ((cI_n (kne (show a = 4 from hs7e) (by decide))).trans ((cI_n (kne (show a = 4 from hs7e) (by decide))).trans ((cI_y (show a = 4 from hs7e)).trans (cI_n (qV.n0 (by omega) hc42))))))))]⟩
                  · refine zw_iload_n 5 f13_4 rfl rfl ?_
                    refine zw_aload_n 6 f13_5 rfl rfl ?_
                    refine zw_getI (nI nv) 9 f13_6 rfl g13_39_4 (hb_1 _ _ _ _) rfl hR.1.1 ?_
                    refine zw_ic_ge 12 22 f13_9 (by decide +kernel) rfl (fun hc43 => ?_) (fun hc43 => ?_)
                    · refine zw_iconst 0 23 f13_22 rfl (by decide +kernel) ?_
                      refine zw_zreturn f13_23 r13 u13 (by decide +kernel) ⟨_, rfl, ?_⟩
                      refine zw_if_ne_f 11 17 f111_8 (by decide +kernel) rfl (by decide +kernel) ?_
                      refine zw_aload_n 12 f111_11 rfl rfl ?_
                      refine zw_iconst 0 13 f111_12 rfl (by decide +kernel) ?_
                      refine zw_virtual_i 16 0 0 [.ref 0, .int 0] [(0, .ref 0), (1, .int 0)] f111_13 rfl n111_181 k111_181_11 rfl (hb_0 _ _ _ _) (by decide +kernel) (Nat.le_of_ble_eq_true rfl) rfl rfl (by decide +kernel) (by decide +kernel) rfl (Nat.le_of_ble_eq_true rfl) rfl ?_
                      refine zw_aload_n 1 f106_0 rfl rfl ?_
                      refine zw_iconst 0 2 f106_1 rfl (by decide +kernel) ?_
                      refine zw_put _ 5 f106_2 rfl g106_70_11 (hb_0 _ _ _ _) rfl (Nat.le_of_ble_eq_true rfl) (by decide +kernel) (hi_0_7 _ _ _ _ _) ?_
                      refine zw_iload_n 6 f106_5 rfl rfl ?_
                      refine zw_ireturn f106_6 r106 u106 ⟨_, rfl, ?_⟩
                      refine zw_ireturn f111_16 r111 u111 ⟨_, rfl, ?_⟩
                      refine zw_ireturn f103_162 r103 u103 ?_
                      exact ⟨_, _, _, _, rfl, (KQ.i rfl KQ.rf), by rw [show an_forge nv P a b c = 0 from ((cI_y ⟨⟨hc1, hc2⟩, ⟨hc3, hc4⟩, ⟨hc5, hc6⟩⟩).trans ((cI_n (kne (show a = 4 from hs7e) (by decide))).trans ((cI_n (kne (show a = 4 from hs7e) (by decide))).trans ((cI_n (kne (show a = 4 from hs7e) (by decide))).trans ((cI_n (kne (show a = 4 from hs7e) (by decide))).trans ((cI_y (show a = 4 from hs7e)).trans (cI_n (qV.n2 (by omega) hc43))))))))]⟩
                    · refine zw_iload_n 13 f13_12 rfl rfl ?_
                      refine zw_bipush 8 15 f13_13 rfl (by decide +kernel) ?_
                      refine zw_ic_ge 18 22 f13_15 (by decide +kernel) rfl (fun hc44 => ?_) (fun hc44 => ?_)
                      · refine zw_iconst 0 23 f13_22 rfl (by decide +kernel) ?_
                        refine zw_zreturn f13_23 r13 u13 (by decide +kernel) ⟨_, rfl, ?_⟩
                        refine zw_if_ne_f 11 17 f111_8 (by decide +kernel) rfl (by decide +kernel) ?_
                        refine zw_aload_n 12 f111_11 rfl rfl ?_
                        refine zw_iconst 0 13 f111_12 rfl (by decide +kernel) ?_
                        refine zw_virtual_i 16 0 0 [.ref 0, .int 0] [(0, .ref 0), (1, .int 0)] f111_13 rfl n111_181 k111_181_11 rfl (hb_0 _ _ _ _) (by decide +kernel) (Nat.le_of_ble_eq_true rfl) rfl rfl (by decide +kernel) (by decide +kernel) rfl (Nat.le_of_ble_eq_true rfl) rfl ?_
                        refine zw_aload_n 1 f106_0 rfl rfl ?_
                        refine zw_iconst 0 2 f106_1 rfl (by decide +kernel) ?_
                        refine zw_put _ 5 f106_2 rfl g106_70_11 (hb_0 _ _ _ _) rfl (Nat.le_of_ble_eq_true rfl) (by decide +kernel) (hi_0_7 _ _ _ _ _) ?_
                        refine zw_iload_n 6 f106_5 rfl rfl ?_
                        refine zw_ireturn f106_6 r106 u106 ⟨_, rfl, ?_⟩
                        refine zw_ireturn f111_16 r111 u111 ⟨_, rfl, ?_⟩
                        refine zw_ireturn f103_162 r103 u103 ?_
                        exact ⟨_, _, _, _, rfl, (KQ.i rfl KQ.rf), by rw [show an_forge nv P a b c = 0 from ((cI_y ⟨⟨hc1, hc2⟩, ⟨hc3, hc4⟩, ⟨hc5, hc6⟩⟩).trans ((cI_n (kne (show a = 4 from hs7e) (by decide))).trans ((cI_n (kne (show a = 4 from hs7e) (by decide))).trans ((cI_n (kne (show a = 4 from hs7e) (by decide))).trans ((cI_n (kne (show a = 4 from hs7e) (by decide))).trans ((cI_y (show a = 4 from hs7e)).trans (cI_n (qV.n3 (m := 8) (N := 8) (by omega) (by omega) (by decide) hc44))))))))]⟩
                      · refine zw_iconst 1 19 f13_18 rfl (by decide +kernel) ?_
                        refine zw_goto 23 f13_19 (by decide +kernel) ?_
                        refine zw_zreturn f13_23 r13 u13 (by decide +kernel) ⟨_, rfl, ?_⟩
                        refine zw_if_ne_t 17 f111_8 (by decide +kernel) (by decide +kernel) ?_
                        refine zw_aload_n 18 f111_17 rfl rfl ?_
                        refine zw_getfield 21 f111_18 rfl g111_10_11 (hb_0 _ _ _ _) rfl ?_
                        refine zw_iload_n 22 f111_21 rfl rfl ?_
                        refine zw_virtual_i 25 0 0 [.ref 1, .int (mMod c 8)] [(0, .ref 1), (1, .int (mMod c 8))] f111_22 rfl n111_100 k111_100_4 rfl (hb_1 _ _ _ _) (by decide +kernel) (Nat.le_of_ble_eq_true rfl) rfl rfl (by decide +kernel) (by decide +kernel) rfl (Nat.le_of_ble_eq_true rfl) rfl ?_
                        refine zw_iload_n 1 f17_0 rfl rfl ?_
                        refine zw_if_lt_f 4 22 f17_1 (by decide +kernel) rfl hc42 ?_
                        refine zw_iload_n 5 f17_4 rfl rfl ?_
                        refine zw_aload_n 6 f17_5 rfl rfl ?_
                        refine zw_getI (nI nv) 9 f17_6 rfl g17_39_4 (hb_1 _ _ _ _) rfl hR.1.1 ?_
                        refine zw_ic_ge_f 12 22 f17_9 (by decide +kernel) rfl hc43 ?_
                        refine zw_iload_n 13 f17_12 rfl rfl ?_
                        refine zw_bipush 8 15 f17_13 rfl (by decide +kernel) ?_
                        refine zw_ic_ge_f 18 22 f17_15 (by decide +kernel) rfl hc44 ?_
                        refine zw_iconst 1 19 f17_18 rfl (by decide +kernel) ?_
                        refine zw_goto 23 f17_19 (by decide +kernel) ?_
                        refine zw_istore_n _ 24 f17_23 rfl (by decide +kernel) rfl ?_
                        refine zw_iload_n 25 f17_24 rfl zl1_eq ?_
                        refine zw_if_eq_f 28 52 f17_25 (by decide +kernel) rfl (by decide +kernel) ?_
                        refine zw_aload_n 29 f17_28 rfl (zl1_ne rfl rfl rfl) ?_
                        refine zw_getfield 32 f17_29 rfl g17_9_4 (hb_1 _ _ _ _) rfl ?_
                        refine zw_iload_n 33 f17_32 rfl (zl1_ne rfl rfl rfl) ?_
                        rcases (k5 (hQ.1 (mMod c 8).toNatClampNeg ((qV.ofc (by omega) hc42 hc43)).1)) with hk | hk | hk | hk | hk
                        · refine zw_iaload (mMod c 8).toNatClampNeg 0 34 f17_33 rfl (hb_2 _ _ _ _) rfl hc42 (zix (by decide) hc42 hc44) ((congrFun (hR.2.1 53 (by omega) (by omega)) (mMod c 8).toNatClampNeg).trans hk) ?_
                          refine zw_iconst 3 35 f17_34 rfl (by decide +kernel) ?_
                          refine zw_ic_eq_f 38 48 f17_35 (by decide +kernel) rfl (by decide +kernel) ?_
                          refine zw_aload_n 39 f17_38 rfl (zl1_ne rfl rfl rfl) ?_
                          refine zw_getfield 42 f17_39 rfl g17_9_4 (hb_1 _ _ _ _) rfl ?_
                          refine zw_iload_n 43 f17_42 rfl (zl1_ne rfl rfl rfl) ?_
                          refine zw_iaload (mMod c 8).toNatClampNeg 0 44 f17_43 rfl (hb_2 _ _ _ _) rfl hc42 (zix (by decide) hc42 hc44) ((congrFun (hR.2.1 53 (by omega) (by omega)) (mMod c 8).toNatClampNeg).trans hk) ?_
                          refine zw_iconst 4 45 f17_44 rfl (by decide +kernel) ?_
                          refine zw_ic_ne_t 52 f17_45 (by decide +kernel) (by decide +kernel) ?_
                          refine zw_iconst 0 53 f17_52 rfl (by decide +kernel) ?_
                          refine zw_zreturn f17_53 r17 u17 (by decide +kernel) ⟨_, rfl, ?_⟩
                          refine zw_if_eq_t 43 f111_25 (by decide +kernel) (by decide +kernel) ?_
                          refine zw_aload_n 44 f111_43 rfl rfl ?_
                          refine zw_bipush 14 46 f111_44 rfl (by decide +kernel) ?_
                          refine zw_virtual_i 49 0 0 [.ref 0, .int 14] [(0, .ref 0), (1, .int 14)] f111_46 rfl n111_78 k111_78_11 rfl (hb_0 _ _ _ _) (by decide +kernel) (Nat.le_of_ble_eq_true rfl) rfl rfl (by decide +kernel) (by decide +kernel) rfl (Nat.le_of_ble_eq_true rfl) rfl ?_
                          refine zw_aload_n 1 f105_0 rfl rfl ?_
                          refine zw_iload_n 2 f105_1 rfl rfl ?_
                          refine zw_put _ 5 f105_2 rfl g105_70_11 (hb_0 _ _ _ _) rfl (Nat.le_of_ble_eq_true rfl) (by decide +kernel) (hi_0_7 _ _ _ _ _) ?_
                          refine zw_iconst (-1) 6 f105_5 rfl (by decide +kernel) ?_
                          refine zw_ireturn f105_6 r105 u105 ⟨_, rfl, ?_⟩
                          refine zw_ireturn f111_49 r111 u111 ⟨_, rfl, ?_⟩
                          refine zw_ireturn f103_162 r103 u103 ?_
                          exact ⟨_, _, _, _, rfl, (KQ.i rfl KQ.rf), by rw [show an_forge nv P a b c = (-1) from ((cI_y ⟨⟨hc1, hc2⟩, ⟨hc3, hc4⟩, ⟨hc5, hc6⟩⟩).trans ((cI_n (kne (show a = 4 from hs7e) (by decide))).trans ((cI_n (kne (show a = 4 from hs7e) (by decide))).trans ((cI_n (kne (show a = 4 from hs7e) (by decide))).trans ((cI_n (kne (show a = 4 from hs7e) (by decide))).trans ((cI_y (show a = 4 from hs7e)).trans ((cI_y (qV.ofc (by omega) hc42 hc43)).trans (cI_n (fun q => q.elim (kne hk (by decide)) (kne hk (by decide)))))))))))]⟩
                        · refine zw_iaload (mMod c 8).toNatClampNeg 1 34 f17_33 rfl (hb_2 _ _ _ _) rfl hc42 (zix (by decide) hc42 hc44) ((congrFun (hR.2.1 53 (by omega) (by omega)) (mMod c 8).toNatClampNeg).trans hk) ?_
                          refine zw_iconst 3 35 f17_34 rfl (by decide +kernel) ?_
                          refine zw_ic_eq_f 38 48 f17_35 (by decide +kernel) rfl (by decide +kernel) ?_
                          refine zw_aload_n 39 f17_38 rfl (zl1_ne rfl rfl rfl) ?_
                          refine zw_getfield 42 f17_39 rfl g17_9_4 (hb_1 _ _ _ _) rfl ?_
                          refine zw_iload_n 43 f17_42 rfl (zl1_ne rfl rfl rfl) ?_
                          refine zw_iaload (mMod c 8).toNatClampNeg 1 44 f17_43 rfl (hb_2 _ _ _ _) rfl hc42 (zix (by decide) hc42 hc44) ((congrFun (hR.2.1 53 (by omega) (by omega)) (mMod c 8).toNatClampNeg).trans hk) ?_
                          refine zw_iconst 4 45 f17_44 rfl (by decide +kernel) ?_
                          refine zw_ic_ne_t 52 f17_45 (by decide +kernel) (by decide +kernel) ?_
                          refine zw_iconst 0 53 f17_52 rfl (by decide +kernel) ?_
                          refine zw_zreturn f17_53 r17 u17 (by decide +kernel) ⟨_, rfl, ?_⟩
                          refine zw_if_eq_t 43 f111_25 (by decide +kernel) (by decide +kernel) ?_
                          refine zw_aload_n 44 f111_43 rfl rfl ?_
                          refine zw_bipush 14 46 f111_44 rfl (by decide +kernel) ?_
                          refine zw_virtual_i 49 0 0 [.ref 0, .int 14] [(0, .ref 0), (1, .int 14)] f111_46 rfl n111_78 k111_78_11 rfl (hb_0 _ _ _ _) (by decide +kernel) (Nat.le_of_ble_eq_true rfl) rfl rfl (by decide +kernel) (by decide +kernel) rfl (Nat.le_of_ble_eq_true rfl) rfl ?_
                          refine zw_aload_n 1 f105_0 rfl rfl ?_
                          refine zw_iload_n 2 f105_1 rfl rfl ?_
                          refine zw_put _ 5 f105_2 rfl g105_70_11 (hb_0 _ _ _ _) rfl (Nat.le_of_ble_eq_true rfl) (by decide +kernel) (hi_0_7 _ _ _ _ _) ?_
                          refine zw_iconst (-1) 6 f105_5 rfl (by decide +kernel) ?_
                          refine zw_ireturn f105_6 r105 u105 ⟨_, rfl, ?_⟩
                          refine zw_ireturn f111_49 r111 u111 ⟨_, rfl, ?_⟩
                          refine zw_ireturn f103_162 r103 u103 ?_
                          exact ⟨_, _, _, _, rfl, (KQ.i rfl KQ.rf), by rw [show an_forge nv P a b c = (-1) from ((cI_y ⟨⟨hc1, hc2⟩, ⟨hc3, hc4⟩, ⟨hc5, hc6⟩⟩).trans ((cI_n (kne (show a = 4 from hs7e) (by decide))).trans ((cI_n (kne (show a = 4 from hs7e) (by decide))).trans ((cI_n (kne (show a = 4 from hs7e) (by decide))).trans ((cI_n (kne (show a = 4 from hs7e) (by decide))).trans ((cI_y (show a = 4 from hs7e)).trans ((cI_y (qV.ofc (by omega) hc42 hc43)).trans (cI_n (fun q => q.elim (kne hk (by decide)) (kne hk (by decide)))))))))))]⟩
                        · refine zw_iaload (mMod c 8).toNatClampNeg 2 34 f17_33 rfl (hb_2 _ _ _ _) rfl hc42 (zix (by decide) hc42 hc44) ((congrFun (hR.2.1 53 (by omega) (by omega)) (mMod c 8).toNatClampNeg).trans hk) ?_
                          refine zw_iconst 3 35 f17_34 rfl (by decide +kernel) ?_
                          refine zw_ic_eq_f 38 48 f17_35 (by decide +kernel) rfl (by decide +kernel) ?_
                          refine zw_aload_n 39 f17_38 rfl (zl1_ne rfl rfl rfl) ?_
                          refine zw_getfield 42 f17_39 rfl g17_9_4 (hb_1 _ _ _ _) rfl ?_
                          refine zw_iload_n 43 f17_42 rfl (zl1_ne rfl rfl rfl) ?_
                          refine zw_iaload (mMod c 8).toNatClampNeg 2 44 f17_43 rfl (hb_2 _ _ _ _) rfl hc42 (zix (by decide) hc42 hc44) ((congrFun (hR.2.1 53 (by omega) (by omega)) (mMod c 8).toNatClampNeg).trans hk) ?_
                          refine zw_iconst 4 45 f17_44 rfl (by decide +kernel) ?_
                          refine zw_ic_ne_t 52 f17_45 (by decide +kernel) (by decide +kernel) ?_
                          refine zw_iconst 0 53 f17_52 rfl (by decide +kernel) ?_
                          refine zw_zreturn f17_53 r17 u17 (by decide +kernel) ⟨_, rfl, ?_⟩
                          refine zw_if_eq_t 43 f111_25 (by decide +kernel) (by decide +kernel) ?_
                          refine zw_aload_n 44 f111_43 rfl rfl ?_
                          refine zw_bipush 14 46 f111_44 rfl (by decide +kernel) ?_
                          refine zw_virtual_i 49 0 0 [.ref 0, .int 14] [(0, .ref 0), (1, .int 14)] f111_46 rfl n111_78 k111_78_11 rfl (hb_0 _ _ _ _) (by decide +kernel) (Nat.le_of_ble_eq_true rfl) rfl rfl (by decide +kernel) (by decide +kernel) rfl (Nat.le_of_ble_eq_true rfl) rfl ?_
                          refine zw_aload_n 1 f105_0 rfl rfl ?_
                          refine zw_iload_n 2 f105_1 rfl rfl ?_
                          refine zw_put _ 5 f105_2 rfl g105_70_11 (hb_0 _ _ _ _) rfl (Nat.le_of_ble_eq_true rfl) (by decide +kernel) (hi_0_7 _ _ _ _ _) ?_
                          refine zw_iconst (-1) 6 f105_5 rfl (by decide +kernel) ?_
                          refine zw_ireturn f105_6 r105 u105 ⟨_, rfl, ?_⟩
                          refine zw_ireturn f111_49 r111 u111 ⟨_, rfl, ?_⟩
                          refine zw_ireturn f103_162 r103 u103 ?_
                          exact ⟨_, _, _, _, rfl, (KQ.i rfl KQ.rf), by rw [show an_forge nv P a b c = (-1) from ((cI_y ⟨⟨hc1, hc2⟩, ⟨hc3, hc4⟩, ⟨hc5, hc6⟩⟩).trans ((cI_n (kne (show a = 4 from hs7e) (by decide))).trans ((cI_n (kne (show a = 4 from hs7e) (by decide))).trans ((cI_n (kne (show a = 4 from hs7e) (by decide))).trans ((cI_n (kne (show a = 4 from hs7e) (by decide))).trans ((cI_y (show a = 4 from hs7e)).trans ((cI_y (qV.ofc (by omega) hc42 hc43)).trans (cI_n (fun q => q.elim (kne hk (by decide)) (kne hk (by decide)))))))))))]⟩
                        · refine zw_iaload (mMod c 8).toNatClampNeg 3 34 f17_33 rfl (hb_2 _ _ _ _) rfl hc42 (zix (by decide) hc42 hc44) ((congrFun (hR.2.1 53 (by omega) (by omega)) (mMod c 8).toNatClampNeg).trans hk) ?_
                          refine zw_iconst 3 35 f17_34 rfl (by decide +kernel) ?_
                          refine zw_ic_eq_t 48 f17_35 (by decide +kernel) (by decide +kernel) ?_
                          refine zw_iconst 1 49 f17_48 rfl (by decide +kernel) ?_
                          refine zw_goto 53 f17_49 (by decide +kernel) ?_
                          refine zw_zreturn f17_53 r17 u17 (by decide +kernel) ⟨_, rfl, ?_⟩
                          refine zw_if_eq_f 28 43 f111_25 (by decide +kernel) rfl (by decide +kernel) ?_
                          refine zw_aload_n 29 f111_28 rfl rfl ?_
                          refine zw_aload_n 30 f111_29 rfl rfl ?_
                          refine zw_getfield 33 f111_30 rfl g111_10_11 (hb_0 _ _ _ _) rfl ?_
                          refine zw_iload_n 34 f111_33 rfl rfl ?_
                          refine zw_virtual_i 37 0 0 [.ref 1, .int (mMod c 8)] [(0, .ref 1), (1, .int (mMod c 8))] f111_34 rfl n111_330 k111_330_4 rfl (hb_1 _ _ _ _) (by decide +kernel) (Nat.le_of_ble_eq_true rfl) rfl rfl (by decide +kernel) (by decide +kernel) rfl (Nat.le_of_ble_eq_true rfl) rfl ?_
                          have vb := (qV.ofc (by omega) hc42 hc43)
                          have ib := cx_brimOf ro nv np P W I G A B hR h8 (mMod c 8).toNatClampNeg vb.1
                          rw [← vb.2] at ib
                          refine zWp.mono ib ?_
                          rintro r h1 ⟨rfl, rfl⟩
                          refine ⟨_, rfl, ?_⟩
                          refine zw_virtual_i 40 0 0 [.ref 0, .int (P 54 (mMod c 8).toNatClampNeg)] [(0, .ref 0), (1, .int (P 54 (mMod c 8).toNatClampNeg))] f111_37 rfl n111_181 k111_181_11 rfl (hb_0 _ _ _ _) (by decide +kernel) (Nat.le_of_ble_eq_true rfl) rfl rfl (by decide +kernel) (by decide +kernel) rfl (Nat.le_of_ble_eq_true rfl) rfl ?_
                          refine zw_aload_n 1 f106_0 rfl rfl ?_
                          refine zw_iconst 0 2 f106_1 rfl (by decide +kernel) ?_
                          refine zw_put _ 5 f106_2 rfl g106_70_11 (hb_0 _ _ _ _) rfl (Nat.le_of_ble_eq_true rfl) (by decide +kernel) (hi_0_7 _ _ _ _ _) ?_
                          refine zw_iload_n 6 f106_5 rfl rfl ?_
                          refine zw_ireturn f106_6 r106 u106 ⟨_, rfl, ?_⟩
                          refine zw_goto 49 f111_40 (by decide +kernel) ?_
                          refine zw_ireturn f111_49 r111 u111 ⟨_, rfl, ?_⟩
                          refine zw_ireturn f103_162 r103 u103 ?_
                          exact ⟨_, _, _, _, rfl, (KQ.i rfl KQ.rf), by rw [show an_forge nv P a b c = (P 54 (mMod c 8).toNatClampNeg) from ((cI_y ⟨⟨hc1, hc2⟩, ⟨hc3, hc4⟩, ⟨hc5, hc6⟩⟩).trans ((cI_n (kne (show a = 4 from hs7e) (by decide))).trans ((cI_n (kne (show a = 4 from hs7e) (by decide))).trans ((cI_n (kne (show a = 4 from hs7e) (by decide))).trans ((cI_n (kne (show a = 4 from hs7e) (by decide))).trans ((cI_y (show a = 4 from hs7e)).trans ((cI_y (qV.ofc (by omega) hc42 hc43)).trans (cI_y (Or.inl hk)))))))))]⟩
                        · refine zw_iaload (mMod c 8).toNatClampNeg 4 34 f17_33 rfl (hb_2 _ _ _ _) rfl hc42 (zix (by decide) hc42 hc44) ((congrFun (hR.2.1 53 (by omega) (by omega)) (mMod c 8).toNatClampNeg).trans hk) ?_
                          refine zw_iconst 3 35 f17_34 rfl (by decide +kernel) ?_
                          refine zw_ic_eq_f 38 48 f17_35 (by decide +kernel) rfl (by decide +kernel) ?_
                          refine zw_aload_n 39 f17_38 rfl (zl1_ne rfl rfl rfl) ?_
                          refine zw_getfield 42 f17_39 rfl g17_9_4 (hb_1 _ _ _ _) rfl ?_
                          refine zw_iload_n 43 f17_42 rfl (zl1_ne rfl rfl rfl) ?_
                          refine zw_iaload (mMod c 8).toNatClampNeg 4 44 f17_43 rfl (hb_2 _ _ _ _) rfl hc42 (zix (by decide) hc42 hc44) ((congrFun (hR.2.1 53 (by omega) (by omega)) (mMod c 8).toNatClampNeg).trans hk) ?_
                          refine zw_iconst 4 45 f17_44 rfl (by decide +kernel) ?_
                          refine zw_ic_ne_f 48 52 f17_45 (by decide +kernel) rfl (by decide +kernel) ?_
                          refine zw_iconst 1 49 f17_48 rfl (by decide +kernel) ?_
                          refine zw_goto 53 f17_49 (by decide +kernel) ?_
                          refine zw_zreturn f17_53 r17 u17 (by decide +kernel) ⟨_, rfl, ?_⟩
                          refine zw_if_eq_f 28 43 f111_25 (by decide +kernel) rfl (by decide +kernel) ?_
                          refine zw_aload_n 29 f111_28 rfl rfl ?_
                          refine zw_aload_n 30 f111_29 rfl rfl ?_
                          refine zw_getfield 33 f111_30 rfl g111_10_11 (hb_0 _ _ _ _) rfl ?_
                          refine zw_iload_n 34 f111_33 rfl rfl ?_
                          refine zw_virtual_i 37 0 0 [.ref 1, .int (mMod c 8)] [(0, .ref 1), (1, .int (mMod c 8))] f111_34 rfl n111_330 k111_330_4 rfl (hb_1 _ _ _ _) (by decide +kernel) (Nat.le_of_ble_eq_true rfl) rfl rfl (by decide +kernel) (by decide +kernel) rfl (Nat.le_of_ble_eq_true rfl) rfl ?_
                          have vb := (qV.ofc (by omega) hc42 hc43)
                          have ib := cx_brimOf ro nv np P W I G A B hR h8 (mMod c 8).toNatClampNeg vb.1
                          rw [← vb.2] at ib
                          refine zWp.mono ib ?_
                          rintro r h1 ⟨rfl, rfl⟩
                          refine ⟨_, rfl, ?_⟩
                          refine zw_virtual_i 40 0 0 [.ref 0, .int (P 54 (mMod c 8).toNatClampNeg)] [(0, .ref 0), (1, .int (P 54 (mMod c 8).toNatClampNeg))] f111_37 rfl n111_181 k111_181_11 rfl (hb_0 _ _ _ _) (by decide +kernel) (Nat.le_of_ble_eq_true rfl) rfl rfl (by decide +kernel) (by decide +kernel) rfl (Nat.le_of_ble_eq_true rfl) rfl ?_
                          refine zw_aload_n 1 f106_0 rfl rfl ?_
                          refine zw_iconst 0 2 f106_1 rfl (by decide +kernel) ?_
                          refine zw_put _ 5 f106_2 rfl g106_70_11 (hb_0 _ _ _ _) rfl (Nat.le_of_ble_eq_true rfl) (by decide +kernel) (hi_0_7 _ _ _ _ _) ?_
                          refine zw_iload_n 6 f106_5 rfl rfl ?_
                          refine zw_ireturn f106_6 r106 u106 ⟨_, rfl, ?_⟩
                          refine zw_goto 49 f111_40 (by decide +kernel) ?_
                          refine zw_ireturn f111_49 r111 u111 ⟨_, rfl, ?_⟩
                          refine zw_ireturn f103_162 r103 u103 ?_
                          exact ⟨_, _, _, _, rfl, (KQ.i rfl KQ.rf), by rw [show an_forge nv P a b c = (P 54 (mMod c 8).toNatClampNeg) from ((cI_y ⟨⟨hc1, hc2⟩, ⟨hc3, hc4⟩, ⟨hc5, hc6⟩⟩).trans ((cI_n (kne (show a = 4 from hs7e) (by decide))).trans ((cI_n (kne (show a = 4 from hs7e) (by decide))).trans ((cI_n (kne (show a = 4 from hs7e) (by decide))).trans ((cI_n (kne (show a = 4 from hs7e) (by decide))).trans ((cI_y (show a = 4 from hs7e)).trans ((cI_y (qV.ofc (by omega) hc42 hc43)).trans (cI_y (Or.inr hk)))))))))]⟩
                · refine zw_table_k 124 163 f103_39 hs7e (by decide +kernel) (by decide +kernel) (by decide +kernel) ?_
                  refine zw_iload_n 164 f103_163 rfl rfl ?_
                  refine zw_if_ne 167 176 f103_164 (by decide +kernel) rfl (fun hc45 => ?_) (fun hc45 => ?_)
                  · refine zw_aload_n 177 f103_176 rfl rfl ?_
                    refine zw_sipush 1000 180 f103_177 rfl (by decide +kernel) ?_
                    refine zw_iload_n 181 f103_180 rfl rfl ?_
                    refine zw_idiv (1000 / b) 182 f103_181 rfl hc45 rfl ?_
                    refine zw_virtual_i 185 0 0 [.ref 0, .int (1000 / b)] [(0, .ref 0), (1, .int (1000 / b))] f103_182 rfl n103_181 k103_181_11 rfl (hb_0 _ _ _ _) (by decide +kernel) (Nat.le_of_ble_eq_true rfl) rfl rfl (by decide +kernel) (by decide +kernel) rfl (Nat.le_of_ble_eq_true rfl) rfl ?_
                    refine zw_aload_n 1 f106_0 rfl rfl ?_
                    refine zw_iconst 0 2 f106_1 rfl (by decide +kernel) ?_
                    refine zw_put _ 5 f106_2 rfl g106_70_11 (hb_0 _ _ _ _) rfl (Nat.le_of_ble_eq_true rfl) (by decide +kernel) (hi_0_7 _ _ _ _ _) ?_
                    refine zw_iload_n 6 f106_5 rfl rfl ?_
                    refine zw_ireturn f106_6 r106 u106 ⟨_, rfl, ?_⟩
                    refine zw_ireturn f103_185 r103 u103 ?_
                    exact ⟨_, _, _, _, rfl, (KQ.i rfl KQ.rf), by rw [show an_forge nv P a b c = (1000 / b) from ((cI_y ⟨⟨hc1, hc2⟩, ⟨hc3, hc4⟩, ⟨hc5, hc6⟩⟩).trans ((cI_n (kne (show a = 5 from hs7e) (by decide))).trans ((cI_n (kne (show a = 5 from hs7e) (by decide))).trans ((cI_n (kne (show a = 5 from hs7e) (by decide))).trans ((cI_n (kne (show a = 5 from hs7e) (by decide))).trans ((cI_n (kne (show a = 5 from hs7e) (by decide))).trans ((cI_y (show a = 5 from hs7e)).trans (cI_n hc45))))))))]⟩
                  · refine zw_aload_n 168 f103_167 rfl rfl ?_
                    refine zw_bipush 15 170 f103_168 rfl (by decide +kernel) ?_
                    refine zw_virtual_i 173 0 0 [.ref 0, .int 15] [(0, .ref 0), (1, .int 15)] f103_170 rfl n103_78 k103_78_11 rfl (hb_0 _ _ _ _) (by decide +kernel) (Nat.le_of_ble_eq_true rfl) rfl rfl (by decide +kernel) (by decide +kernel) rfl (Nat.le_of_ble_eq_true rfl) rfl ?_
                    refine zw_aload_n 1 f105_0 rfl rfl ?_
                    refine zw_iload_n 2 f105_1 rfl rfl ?_
                    refine zw_put _ 5 f105_2 rfl g105_70_11 (hb_0 _ _ _ _) rfl (Nat.le_of_ble_eq_true rfl) (by decide +kernel) (hi_0_7 _ _ _ _ _) ?_
                    refine zw_iconst (-1) 6 f105_5 rfl (by decide +kernel) ?_
                    refine zw_ireturn f105_6 r105 u105 ⟨_, rfl, ?_⟩
                    refine zw_goto 185 f103_173 (by decide +kernel) ?_
                    refine zw_ireturn f103_185 r103 u103 ?_
                    exact ⟨_, _, _, _, rfl, (KQ.i rfl KQ.rf), by rw [show an_forge nv P a b c = (-1) from ((cI_y ⟨⟨hc1, hc2⟩, ⟨hc3, hc4⟩, ⟨hc5, hc6⟩⟩).trans ((cI_n (kne (show a = 5 from hs7e) (by decide))).trans ((cI_n (kne (show a = 5 from hs7e) (by decide))).trans ((cI_n (kne (show a = 5 from hs7e) (by decide))).trans ((cI_n (kne (show a = 5 from hs7e) (by decide))).trans ((cI_n (kne (show a = 5 from hs7e) (by decide))).trans ((cI_y (show a = 5 from hs7e)).trans (cI_y (Decidable.of_not_not hc45)))))))))]⟩
set_option maxRecDepth 100000 in
set_option maxHeartbeats 0 in
theorem mx_forge (ro : UInt32 → Nat × (Nat → Int32)) (nv np : Nat) (P : Nat → Nat → Int32) (W : qW) (L : qLog) (I : Nat → Nat → Int32) (G : Nat → Nat → Int64) (A : Nat → Nat → Int32) (B : Nat → Nat → Int64) (K : Int) (hR : mRS nv np P W L I G A B) (hp : MPa nv np P) (hW : wInv nv 10000 K P W) (hn : L.1 < 900000000) (hg : qLG L) (hi : mId I) (a b c : Int32) : zWp ro 184 0 [(0, .ref 52), (1, .int a), (2, .int b), (3, .int c)] [] (hS I G A B) 0 0 (fun r h1 => ∃ I2 G2 A2 B2, h1 = hS I2 G2 A2 B2 ∧ KQ fQu pQu I G A B I2 G2 A2 B2 ∧ mId I2 ∧ r = some (.int (an_forge nv P a b c))) := by
  have h8 := hp.1
  have h14 := hp.2.1
  obtain ⟨t, ht, et⟩ := hi.2.2
  refine zw_iload_n 1 f184_0 rfl rfl ?_
  refine zw_iconst 0 2 f184_1 rfl (by decide +kernel) ?_
  refine zw_bipush 6 4 f184_2 rfl (by decide +kernel) ?_
  refine zw_static_i 7 0 0 [.int a, .int 0, .int 6] [] [(0, .int a), (1, .int 0), (2, .int 6)] f184_4 rfl k184_117_99 rfl (by decide +kernel) (Nat.le_of_ble_eq_true rfl) (Nat.le_of_ble_eq_true rfl) rfl rfl (by decide +kernel) (by decide +kernel) rfl (Nat.le_of_ble_eq_true rfl) rfl ?_
  refine zw_iload_n 1 f120_0 rfl rfl ?_
  refine zw_iload_n 2 f120_1 rfl rfl ?_
  refine zw_ic_lt 5 14 f120_2 (by decide +kernel) rfl (fun hc1 => ?_) (fun hc1 => ?_)
  · refine zw_iconst 0 15 f120_14 rfl (by decide +kernel) ?_
    refine zw_zreturn f120_15 r120 u120 (by decide +kernel) ⟨_, rfl, ?_⟩
    refine zw_if_eq_t 32 f184_7 (by decide +kernel) (by decide +kernel) ?_
    refine zw_aload_n 33 f184_32 rfl rfl ?_
    refine zw_iconst 1 34 f184_33 rfl (by decide +kernel) ?_
    refine zw_virtual_i 37 0 0 [.ref 52, .int 1] [(0, .ref 52), (1, .int 1)] f184_34 rfl n184_209 k184_209_12 rfl (hb_52 _ _ _ _) (by decide +kernel) (Nat.le_of_ble_eq_true rfl) rfl rfl (by decide +kernel) (by decide +kernel) rfl (Nat.le_of_ble_eq_true rfl) rfl ?_
    refine zw_aload_n 1 f121_0 rfl rfl ?_
    refine zw_iload_n 2 f121_1 rfl rfl ?_
    refine zw_put _ 5 f121_2 rfl g121_111_12 (hb_52 _ _ _ _) rfl (Nat.le_of_ble_eq_true rfl) (by decide +kernel) (hi_52_27 _ _ _ _ _) ?_
    refine zw_iconst (-1) 6 f121_5 rfl (by decide +kernel) ?_
    refine zw_ireturn f121_6 r121 u121 ⟨_, rfl, ?_⟩
    refine zw_ireturn f184_37 r184 u184 ?_
    exact ⟨_, _, _, _, rfl, (KQ.i rfl KQ.rf), ⟨hi.1, hi.2.1, t, by omega, et⟩, by rw [show an_forge nv P a b c = (-1) from (cI_n (fun q => (fun q => q.1 hc1) q.1))]⟩
  · refine zw_iload_n 6 f120_5 rfl rfl ?_
    refine zw_iload_n 7 f120_6 rfl rfl ?_
    refine zw_ic_gt 10 14 f120_7 (by decide +kernel) rfl (fun hc2 => ?_) (fun hc2 => ?_)
    · refine zw_iconst 0 15 f120_14 rfl (by decide +kernel) ?_
      refine zw_zreturn f120_15 r120 u120 (by decide +kernel) ⟨_, rfl, ?_⟩
      refine zw_if_eq_t 32 f184_7 (by decide +kernel) (by decide +kernel) ?_
      refine zw_aload_n 33 f184_32 rfl rfl ?_
      refine zw_iconst 1 34 f184_33 rfl (by decide +kernel) ?_
      refine zw_virtual_i 37 0 0 [.ref 52, .int 1] [(0, .ref 52), (1, .int 1)] f184_34 rfl n184_209 k184_209_12 rfl (hb_52 _ _ _ _) (by decide +kernel) (Nat.le_of_ble_eq_true rfl) rfl rfl (by decide +kernel) (by decide +kernel) rfl (Nat.le_of_ble_eq_true rfl) rfl ?_
      refine zw_aload_n 1 f121_0 rfl rfl ?_
      refine zw_iload_n 2 f121_1 rfl rfl ?_
      refine zw_put _ 5 f121_2 rfl g121_111_12 (hb_52 _ _ _ _) rfl (Nat.le_of_ble_eq_true rfl) (by decide +kernel) (hi_52_27 _ _ _ _ _) ?_
      refine zw_iconst (-1) 6 f121_5 rfl (by decide +kernel) ?_
      refine zw_ireturn f121_6 r121 u121 ⟨_, rfl, ?_⟩
      refine zw_ireturn f184_37 r184 u184 ?_
      exact ⟨_, _, _, _, rfl, (KQ.i rfl KQ.rf), ⟨hi.1, hi.2.1, t, by omega, et⟩, by rw [show an_forge nv P a b c = (-1) from (cI_n (fun q => (fun q => q.2 hc2) q.1))]⟩
    · refine zw_iconst 1 11 f120_10 rfl (by decide +kernel) ?_
      refine zw_goto 15 f120_11 (by decide +kernel) ?_
      refine zw_zreturn f120_15 r120 u120 (by decide +kernel) ⟨_, rfl, ?_⟩
      refine zw_if_eq_f 10 32 f184_7 (by decide +kernel) rfl (by decide +kernel) ?_
      refine zw_iload_n 11 f184_10 rfl rfl ?_
      refine zw_bipush (-100) 13 f184_11 rfl (by decide +kernel) ?_
      refine zw_bipush 100 15 f184_13 rfl (by decide +kernel) ?_
      refine zw_static_i 18 0 0 [.int b, .int (-100), .int 100] [] [(0, .int b), (1, .int (-100)), (2, .int 100)] f184_15 rfl k184_117_99 rfl (by decide +kernel) (Nat.le_of_ble_eq_true rfl) (Nat.le_of_ble_eq_true rfl) rfl rfl (by decide +kernel) (by decide +kernel) rfl (Nat.le_of_ble_eq_true rfl) rfl ?_
      refine zw_iload_n 1 f120_0 rfl rfl ?_
      refine zw_iload_n 2 f120_1 rfl rfl ?_
      refine zw_ic_lt 5 14 f120_2 (by decide +kernel) rfl (fun hc3 => ?_) (fun hc3 => ?_)
      · refine zw_iconst 0 15 f120_14 rfl (by decide +kernel) ?_
        refine zw_zreturn f120_15 r120 u120 (by decide +kernel) ⟨_, rfl, ?_⟩
        refine zw_if_eq_t 32 f184_18 (by decide +kernel) (by decide +kernel) ?_
        refine zw_aload_n 33 f184_32 rfl rfl ?_
        refine zw_iconst 1 34 f184_33 rfl (by decide +kernel) ?_
        refine zw_virtual_i 37 0 0 [.ref 52, .int 1] [(0, .ref 52), (1, .int 1)] f184_34 rfl n184_209 k184_209_12 rfl (hb_52 _ _ _ _) (by decide +kernel) (Nat.le_of_ble_eq_true rfl) rfl rfl (by decide +kernel) (by decide +kernel) rfl (Nat.le_of_ble_eq_true rfl) rfl ?_
        refine zw_aload_n 1 f121_0 rfl rfl ?_
        refine zw_iload_n 2 f121_1 rfl rfl ?_
        refine zw_put _ 5 f121_2 rfl g121_111_12 (hb_52 _ _ _ _) rfl (Nat.le_of_ble_eq_true rfl) (by decide +kernel) (hi_52_27 _ _ _ _ _) ?_
        refine zw_iconst (-1) 6 f121_5 rfl (by decide +kernel) ?_
        refine zw_ireturn f121_6 r121 u121 ⟨_, rfl, ?_⟩
        refine zw_ireturn f184_37 r184 u184 ?_
        exact ⟨_, _, _, _, rfl, (KQ.i rfl KQ.rf), ⟨hi.1, hi.2.1, t, by omega, et⟩, by rw [show an_forge nv P a b c = (-1) from (cI_n (fun q => (fun q => q.1 hc3) q.2.1))]⟩
      · refine zw_iload_n 6 f120_5 rfl rfl ?_
        refine zw_iload_n 7 f120_6 rfl rfl ?_
        refine zw_ic_gt 10 14 f120_7 (by decide +kernel) rfl (fun hc4 => ?_) (fun hc4 => ?_)
        · refine zw_iconst 0 15 f120_14 rfl (by decide +kernel) ?_
          refine zw_zreturn f120_15 r120 u120 (by decide +kernel) ⟨_, rfl, ?_⟩
          refine zw_if_eq_t 32 f184_18 (by decide +kernel) (by decide +kernel) ?_
          refine zw_aload_n 33 f184_32 rfl rfl ?_
          refine zw_iconst 1 34 f184_33 rfl (by decide +kernel) ?_
          refine zw_virtual_i 37 0 0 [.ref 52, .int 1] [(0, .ref 52), (1, .int 1)] f184_34 rfl n184_209 k184_209_12 rfl (hb_52 _ _ _ _) (by decide +kernel) (Nat.le_of_ble_eq_true rfl) rfl rfl (by decide +kernel) (by decide +kernel) rfl (Nat.le_of_ble_eq_true rfl) rfl ?_
          refine zw_aload_n 1 f121_0 rfl rfl ?_
          refine zw_iload_n 2 f121_1 rfl rfl ?_
          refine zw_put _ 5 f121_2 rfl g121_111_12 (hb_52 _ _ _ _) rfl (Nat.le_of_ble_eq_true rfl) (by decide +kernel) (hi_52_27 _ _ _ _ _) ?_
          refine zw_iconst (-1) 6 f121_5 rfl (by decide +kernel) ?_
          refine zw_ireturn f121_6 r121 u121 ⟨_, rfl, ?_⟩
          refine zw_ireturn f184_37 r184 u184 ?_
          exact ⟨_, _, _, _, rfl, (KQ.i rfl KQ.rf), ⟨hi.1, hi.2.1, t, by omega, et⟩, by rw [show an_forge nv P a b c = (-1) from (cI_n (fun q => (fun q => q.2 hc4) q.2.1))]⟩
        · refine zw_iconst 1 11 f120_10 rfl (by decide +kernel) ?_
          refine zw_goto 15 f120_11 (by decide +kernel) ?_
          refine zw_zreturn f120_15 r120 u120 (by decide +kernel) ⟨_, rfl, ?_⟩
          refine zw_if_eq_f 21 32 f184_18 (by decide +kernel) rfl (by decide +kernel) ?_
          refine zw_iload_n 22 f184_21 rfl rfl ?_
          refine zw_bipush (-100) 24 f184_22 rfl (by decide +kernel) ?_
          refine zw_bipush 100 26 f184_24 rfl (by decide +kernel) ?_
          refine zw_static_i 29 0 0 [.int c, .int (-100), .int 100] [] [(0, .int c), (1, .int (-100)), (2, .int 100)] f184_26 rfl k184_117_99 rfl (by decide +kernel) (Nat.le_of_ble_eq_true rfl) (Nat.le_of_ble_eq_true rfl) rfl rfl (by decide +kernel) (by decide +kernel) rfl (Nat.le_of_ble_eq_true rfl) rfl ?_
          refine zw_iload_n 1 f120_0 rfl rfl ?_
          refine zw_iload_n 2 f120_1 rfl rfl ?_
          refine zw_ic_lt 5 14 f120_2 (by decide +kernel) rfl (fun hc5 => ?_) (fun hc5 => ?_)
          · refine zw_iconst 0 15 f120_14 rfl (by decide +kernel) ?_
            refine zw_zreturn f120_15 r120 u120 (by decide +kernel) ⟨_, rfl, ?_⟩
            refine zw_if_ne_f 32 38 f184_29 (by decide +kernel) rfl (by decide +kernel) ?_
            refine zw_aload_n 33 f184_32 rfl rfl ?_
            refine zw_iconst 1 34 f184_33 rfl (by decide +kernel) ?_
            refine zw_virtual_i 37 0 0 [.ref 52, .int 1] [(0, .ref 52), (1, .int 1)] f184_34 rfl n184_209 k184_209_12 rfl (hb_52 _ _ _ _) (by decide +kernel) (Nat.le_of_ble_eq_true rfl) rfl rfl (by decide +kernel) (by decide +kernel) rfl (Nat.le_of_ble_eq_true rfl) rfl ?_
            refine zw_aload_n 1 f121_0 rfl rfl ?_
            refine zw_iload_n 2 f121_1 rfl rfl ?_
            refine zw_put _ 5 f121_2 rfl g121_111_12 (hb_52 _ _ _ _) rfl (Nat.le_of_ble_eq_true rfl) (by decide +kernel) (hi_52_27 _ _ _ _ _) ?_
            refine zw_iconst (-1) 6 f121_5 rfl (by decide +kernel) ?_
            refine zw_ireturn f121_6 r121 u121 ⟨_, rfl, ?_⟩
            refine zw_ireturn f184_37 r184 u184 ?_
            exact ⟨_, _, _, _, rfl, (KQ.i rfl KQ.rf), ⟨hi.1, hi.2.1, t, by omega, et⟩, by rw [show an_forge nv P a b c = (-1) from (cI_n (fun q => (fun q => q.1 hc5) q.2.2))]⟩
          · refine zw_iload_n 6 f120_5 rfl rfl ?_
            refine zw_iload_n 7 f120_6 rfl rfl ?_
            refine zw_ic_gt 10 14 f120_7 (by decide +kernel) rfl (fun hc6 => ?_) (fun hc6 => ?_)
            · refine zw_iconst 0 15 f120_14 rfl (by decide +kernel) ?_
              refine zw_zreturn f120_15 r120 u120 (by decide +kernel) ⟨_, rfl, ?_⟩
              refine zw_if_ne_f 32 38 f184_29 (by decide +kernel) rfl (by decide +kernel) ?_
              refine zw_aload_n 33 f184_32 rfl rfl ?_
              refine zw_iconst 1 34 f184_33 rfl (by decide +kernel) ?_
              refine zw_virtual_i 37 0 0 [.ref 52, .int 1] [(0, .ref 52), (1, .int 1)] f184_34 rfl n184_209 k184_209_12 rfl (hb_52 _ _ _ _) (by decide +kernel) (Nat.le_of_ble_eq_true rfl) rfl rfl (by decide +kernel) (by decide +kernel) rfl (Nat.le_of_ble_eq_true rfl) rfl ?_
              refine zw_aload_n 1 f121_0 rfl rfl ?_
              refine zw_iload_n 2 f121_1 rfl rfl ?_
              refine zw_put _ 5 f121_2 rfl g121_111_12 (hb_52 _ _ _ _) rfl (Nat.le_of_ble_eq_true rfl) (by decide +kernel) (hi_52_27 _ _ _ _ _) ?_
              refine zw_iconst (-1) 6 f121_5 rfl (by decide +kernel) ?_
              refine zw_ireturn f121_6 r121 u121 ⟨_, rfl, ?_⟩
              refine zw_ireturn f184_37 r184 u184 ?_
              exact ⟨_, _, _, _, rfl, (KQ.i rfl KQ.rf), ⟨hi.1, hi.2.1, t, by omega, et⟩, by rw [show an_forge nv P a b c = (-1) from (cI_n (fun q => (fun q => q.2 hc6) q.2.2))]⟩
            · refine zw_iconst 1 11 f120_10 rfl (by decide +kernel) ?_
              refine zw_goto 15 f120_11 (by decide +kernel) ?_
              refine zw_zreturn f120_15 r120 u120 (by decide +kernel) ⟨_, rfl, ?_⟩
              refine zw_if_ne_t 38 f184_29 (by decide +kernel) (by decide +kernel) ?_
              refine zw_iload_n 39 f184_38 rfl rfl ?_
              refine zw_bipush 8 41 f184_39 rfl (by decide +kernel) ?_
              refine zw_static_i 44 0 0 [.int c, .int 8] [] [(0, .int c), (1, .int 8)] f184_41 rfl k184_313_99 rfl (by decide +kernel) (Nat.le_of_ble_eq_true rfl) (Nat.le_of_ble_eq_true rfl) rfl rfl (by decide +kernel) (by decide +kernel) rfl (Nat.le_of_ble_eq_true rfl) rfl ?_
              refine zWp.mono (mm_modulo ro _ c 8 (by decide)) ?_
              rintro r h1 ⟨rfl, rfl⟩
              refine ⟨_, rfl, ?_⟩
              refine zw_istore _ 46 f184_44 rfl (by decide +kernel) rfl ?_
              refine zw_iload_n 47 f184_46 rfl (zl1_ne rfl rfl rfl) ?_
              rcases zl_sw 5 (by decide) a with hs7 | ⟨hs7k, hs7l, hs7e⟩
              · refine zw_table_o 329 f184_47 hs7 (by decide +kernel) ?_
                refine zw_iload_n 330 f184_329 rfl (zl1_ne rfl rfl rfl) ?_
                refine zw_iconst 1 331 f184_330 rfl (by decide +kernel) ?_
                refine zw_iand (b &&& 1) 332 f184_331 rfl rfl ?_
                refine zw_if_ne 335 344 f184_332 (by decide +kernel) rfl (fun hc8 => ?_) (fun hc8 => ?_)
                · refine zw_aload_n 345 f184_344 rfl (zl1_ne rfl rfl rfl) ?_
                  refine zw_iconst 1 346 f184_345 rfl (by decide +kernel) ?_
                  refine zw_virtual_i 349 0 0 [.ref 52, .int 1] [(0, .ref 52), (1, .int 1)] f184_346 rfl n184_205 k184_205_12 rfl (hb_52 _ _ _ _) (by decide +kernel) (Nat.le_of_ble_eq_true rfl) rfl rfl (by decide +kernel) (by decide +kernel) rfl (Nat.le_of_ble_eq_true rfl) rfl ?_
                  refine zw_aload_n 1 f122_0 rfl rfl ?_
                  refine zw_iconst 0 2 f122_1 rfl (by decide +kernel) ?_
                  refine zw_put _ 5 f122_2 rfl g122_111_12 (hb_52 _ _ _ _) rfl (Nat.le_of_ble_eq_true rfl) (by decide +kernel) (hi_52_27 _ _ _ _ _) ?_
                  refine zw_iload_n 6 f122_5 rfl rfl ?_
                  refine zw_ireturn f122_6 r122 u122 ⟨_, rfl, ?_⟩
                  refine zw_ireturn f184_349 r184 u184 ?_
                  exact ⟨_, _, _, _, rfl, (KQ.i rfl KQ.rf), ⟨hi.1, hi.2.1, t, by omega, et⟩, by rw [show an_forge nv P a b c = 1 from ((cI_y ⟨⟨hc1, hc2⟩, ⟨hc3, hc4⟩, ⟨hc5, hc6⟩⟩).trans ((cI_n (sw_ne hs7 (by decide))).trans ((cI_n (sw_ne hs7 (by decide))).trans ((cI_n (sw_ne hs7 (by decide))).trans ((cI_n (sw_ne hs7 (by decide))).trans ((cI_n (sw_ne hs7 (by decide))).trans ((cI_n (sw_ne hs7 (by decide))).trans (cI_n hc8))))))))]⟩
                · refine zw_aload_n 336 f184_335 rfl (zl1_ne rfl rfl rfl) ?_
                  refine zw_bipush 10 338 f184_336 rfl (by decide +kernel) ?_
                  refine zw_virtual_i 341 0 0 [.ref 52, .int 10] [(0, .ref 52), (1, .int 10)] f184_338 rfl n184_209 k184_209_12 rfl (hb_52 _ _ _ _) (by decide +kernel) (Nat.le_of_ble_eq_true rfl) rfl rfl (by decide +kernel) (by decide +kernel) rfl (Nat.le_of_ble_eq_true rfl) rfl ?_
                  refine zw_aload_n 1 f121_0 rfl rfl ?_
                  refine zw_iload_n 2 f121_1 rfl rfl ?_
                  refine zw_put _ 5 f121_2 rfl g121_111_12 (hb_52 _ _ _ _) rfl (Nat.le_of_ble_eq_true rfl) (by decide +kernel) (hi_52_27 _ _ _ _ _) ?_
                  refine zw_iconst (-1) 6 f121_5 rfl (by decide +kernel) ?_
                  refine zw_ireturn f121_6 r121 u121 ⟨_, rfl, ?_⟩
                  refine zw_goto 349 f184_341 (by decide +kernel) ?_
                  refine zw_ireturn f184_349 r184 u184 ?_
                  exact ⟨_, _, _, _, rfl, (KQ.i rfl KQ.rf), ⟨hi.1, hi.2.1, t, by omega, et⟩, by rw [show an_forge nv P a b c = (-1) from ((cI_y ⟨⟨hc1, hc2⟩, ⟨hc3, hc4⟩, ⟨hc5, hc6⟩⟩).trans ((cI_n (sw_ne hs7 (by decide))).trans ((cI_n (sw_ne hs7 (by decide))).trans ((cI_n (sw_ne hs7 (by decide))).trans ((cI_n (sw_ne hs7 (by decide))).trans ((cI_n (sw_ne hs7 (by decide))).trans ((cI_n (sw_ne hs7 (by decide))).trans (cI_y (Decidable.of_not_not hc8)))))))))]⟩
              · rcases (show hs7k = 0 ∨ hs7k = 1 ∨ hs7k = 2 ∨ hs7k = 3 ∨ hs7k = 4 ∨ hs7k = 5 by omega) with rfl | rfl | rfl | rfl | rfl | rfl
                · refine zw_table_k 37 84 f184_47 hs7e (by decide +kernel) (by decide +kernel) (by decide +kernel) ?_
                  refine zw_iload_n 85 f184_84 rfl (zl1_ne rfl rfl rfl) ?_
                  refine zw_iconst 5 86 f184_85 rfl (by decide +kernel) ?_
                  refine zw_static_i 89 0 0 [.int b, .int 5] [] [(0, .int b), (1, .int 5)] f184_86 rfl k184_313_99 rfl (by decide +kernel) (Nat.le_of_ble_eq_true rfl) (Nat.le_of_ble_eq_true rfl) rfl rfl (by decide +kernel) (by decide +kernel) rfl (Nat.le_of_ble_eq_true rfl) rfl ?_
                  refine zWp.mono (mm_modulo ro _ b 5 (by decide)) ?_
                  rintro r h1 ⟨rfl, rfl⟩
                  refine ⟨_, rfl, ?_⟩
                  refine zw_istore _ 91 f184_89 rfl (by decide +kernel) rfl ?_
                  refine zw_aload_n 92 f184_91 rfl (zl1_ne rfl rfl (zl1_ne rfl rfl rfl)) ?_
                  refine zw_iload 94 f184_92 rfl (zl1_ne rfl rfl zl1_eq) ?_
                  refine zw_virtual_i 97 0 0 [.ref 52, .int (mMod c 8)] [(0, .ref 52), (1, .int (mMod c 8))] f184_94 rfl n184_215 k184_215_12 rfl (hb_52 _ _ _ _) (by decide +kernel) (Nat.le_of_ble_eq_true rfl) rfl rfl (by decide +kernel) (by decide +kernel) rfl (Nat.le_of_ble_eq_true rfl) rfl ?_
                  refine zw_iload_n 1 f123_0 rfl rfl ?_
                  refine zw_iconst 0 2 f123_1 rfl (by decide +kernel) ?_
                  refine zw_aload_n 3 f123_2 rfl rfl ?_
                  refine zw_getI (nI nv) 6 f123_3 rfl g123_114_12 (hb_52 _ _ _ _) rfl hR.1.1 ?_
                  refine zw_iconst 1 7 f123_6 rfl (by decide +kernel) ?_
                  refine zw_isub ((nI nv) - 1) 8 f123_7 rfl rfl ?_
                  refine zw_static_i 11 0 0 [.int (mMod c 8), .int 0, .int ((nI nv) - 1)] [] [(0, .int (mMod c 8)), (1, .int 0), (2, .int ((nI nv) - 1))] f123_8 rfl k123_117_99 rfl (by decide +kernel) (Nat.le_of_ble_eq_true rfl) (Nat.le_of_ble_eq_true rfl) rfl rfl (by decide +kernel) (by decide +kernel) rfl (Nat.le_of_ble_eq_true rfl) rfl ?_
                  refine zw_iload_n 1 f120_0 rfl rfl ?_
                  refine zw_iload_n 2 f120_1 rfl rfl ?_
                  refine zw_ic_lt 5 14 f120_2 (by decide +kernel) rfl (fun hc9 => ?_) (fun hc9 => ?_)
                  · refine zw_iconst 0 15 f120_14 rfl (by decide +kernel) ?_
                    refine zw_zreturn f120_15 r120 u120 (by decide +kernel) ⟨_, rfl, ?_⟩
                    refine zw_zreturn f123_11 r123 u123 (by decide +kernel) ⟨_, rfl, ?_⟩
                    refine zw_if_ne_f 100 107 f184_97 (by decide +kernel) rfl (by decide +kernel) ?_
                    refine zw_aload_n 101 f184_100 rfl (zl1_ne rfl rfl (zl1_ne rfl rfl rfl)) ?_
                    refine zw_bipush 10 103 f184_101 rfl (by decide +kernel) ?_
                    refine zw_virtual_i 106 0 0 [.ref 52, .int 10] [(0, .ref 52), (1, .int 10)] f184_103 rfl n184_209 k184_209_12 rfl (hb_52 _ _ _ _) (by decide +kernel) (Nat.le_of_ble_eq_true rfl) rfl rfl (by decide +kernel) (by decide +kernel) rfl (Nat.le_of_ble_eq_true rfl) rfl ?_
                    refine zw_aload_n 1 f121_0 rfl rfl ?_
                    refine zw_iload_n 2 f121_1 rfl rfl ?_
                    refine zw_put _ 5 f121_2 rfl g121_111_12 (hb_52 _ _ _ _) rfl (Nat.le_of_ble_eq_true rfl) (by decide +kernel) (hi_52_27 _ _ _ _ _) ?_
                    refine zw_iconst (-1) 6 f121_5 rfl (by decide +kernel) ?_
                    refine zw_ireturn f121_6 r121 u121 ⟨_, rfl, ?_⟩
                    refine zw_ireturn f184_106 r184 u184 ?_
                    exact ⟨_, _, _, _, rfl, (KQ.i rfl KQ.rf), ⟨hi.1, hi.2.1, t, by omega, et⟩, by rw [show an_forge nv P a b c = (-1) from ((cI_y ⟨⟨hc1, hc2⟩, ⟨hc3, hc4⟩, ⟨hc5, hc6⟩⟩).trans ((cI_y (show a = 0 from hs7e)).trans (cI_n (qV.n0 (by omega) hc9))))]⟩
                  · refine zw_iload_n 6 f120_5 rfl rfl ?_
                    refine zw_iload_n 7 f120_6 rfl rfl ?_
                    refine zw_ic_gt 10 14 f120_7 (by decide +kernel) rfl (fun hc10 => ?_) (fun hc10 => ?_)
                    · refine zw_iconst 0 15 f120_14 rfl (by decide +kernel) ?_
                      refine zw_zreturn f120_15 r120 u120 (by decide +kernel) ⟨_, rfl, ?_⟩
                      refine zw_zreturn f123_11 r123 u123 (by decide +kernel) ⟨_, rfl, ?_⟩
                      refine zw_if_ne_f 100 107 f184_97 (by decide +kernel) rfl (by decide +kernel) ?_
                      refine zw_aload_n 101 f184_100 rfl (zl1_ne rfl rfl (zl1_ne rfl rfl rfl)) ?_
                      refine zw_bipush 10 103 f184_101 rfl (by decide +kernel) ?_
                      refine zw_virtual_i 106 0 0 [.ref 52, .int 10] [(0, .ref 52), (1, .int 10)] f184_103 rfl n184_209 k184_209_12 rfl (hb_52 _ _ _ _) (by decide +kernel) (Nat.le_of_ble_eq_true rfl) rfl rfl (by decide +kernel) (by decide +kernel) rfl (Nat.le_of_ble_eq_true rfl) rfl ?_
                      refine zw_aload_n 1 f121_0 rfl rfl ?_
                      refine zw_iload_n 2 f121_1 rfl rfl ?_
                      refine zw_put _ 5 f121_2 rfl g121_111_12 (hb_52 _ _ _ _) rfl (Nat.le_of_ble_eq_true rfl) (by decide +kernel) (hi_52_27 _ _ _ _ _) ?_
                      refine zw_iconst (-1) 6 f121_5 rfl (by decide +kernel) ?_
                      refine zw_ireturn f121_6 r121 u121 ⟨_, rfl, ?_⟩
                      refine zw_ireturn f184_106 r184 u184 ?_
                      exact ⟨_, _, _, _, rfl, (KQ.i rfl KQ.rf), ⟨hi.1, hi.2.1, t, by omega, et⟩, by rw [show an_forge nv P a b c = (-1) from ((cI_y ⟨⟨hc1, hc2⟩, ⟨hc3, hc4⟩, ⟨hc5, hc6⟩⟩).trans ((cI_y (show a = 0 from hs7e)).trans (cI_n (qV.n1 (by omega) hc10))))]⟩
                    · refine zw_iconst 1 11 f120_10 rfl (by decide +kernel) ?_
                      refine zw_goto 15 f120_11 (by decide +kernel) ?_
                      refine zw_zreturn f120_15 r120 u120 (by decide +kernel) ⟨_, rfl, ?_⟩
                      refine zw_zreturn f123_11 r123 u123 (by decide +kernel) ⟨_, rfl, ?_⟩
                      refine zw_if_ne_t 107 f184_97 (by decide +kernel) (by decide +kernel) ?_
                      refine zw_iload 109 f184_107 rfl zl1_eq ?_
                      refine zw_if_eq 112 141 f184_109 (by decide +kernel) rfl (fun hc11 => ?_) (fun hc11 => ?_)
                      · refine zw_aload_n 142 f184_141 rfl (zl1_ne rfl rfl (zl1_ne rfl rfl rfl)) ?_
                        refine zw_aload_n 143 f184_142 rfl (zl1_ne rfl rfl (zl1_ne rfl rfl rfl)) ?_
                        refine zw_getfield 146 f184_143 rfl g184_7_12 (hb_52 _ _ _ _) rfl ?_
                        refine zw_iload 148 f184_146 rfl (zl1_ne rfl rfl zl1_eq) ?_
                        refine zw_iaload (mMod c 8).toNatClampNeg (P 53 (mMod c 8).toNatClampNeg) 149 f184_148 rfl (hb_53 _ _ _ _) rfl hc9 (zix (by decide) hc9 (show ¬ 8 ≤ (mMod c 8) from ix_le hp.1 (by decide) (by decide) hc9 hc10)) (congrFun ((hR.2.1 53 (by omega) (by omega))) (mMod c 8).toNatClampNeg) ?_
                        refine zw_virtual_i 152 0 0 [.ref 52, .int (P 53 (mMod c 8).toNatClampNeg)] [(0, .ref 52), (1, .int (P 53 (mMod c 8).toNatClampNeg))] f184_149 rfl n184_205 k184_205_12 rfl (hb_52 _ _ _ _) (by decide +kernel) (Nat.le_of_ble_eq_true rfl) rfl rfl (by decide +kernel) (by decide +kernel) rfl (Nat.le_of_ble_eq_true rfl) rfl ?_
                        refine zw_aload_n 1 f122_0 rfl rfl ?_
                        refine zw_iconst 0 2 f122_1 rfl (by decide +kernel) ?_
                        refine zw_put _ 5 f122_2 rfl g122_111_12 (hb_52 _ _ _ _) rfl (Nat.le_of_ble_eq_true rfl) (by decide +kernel) (hi_52_27 _ _ _ _ _) ?_
                        refine zw_iload_n 6 f122_5 rfl rfl ?_
                        refine zw_ireturn f122_6 r122 u122 ⟨_, rfl, ?_⟩
                        refine zw_goto 161 f184_152 (by decide +kernel) ?_
                        refine zw_ireturn f184_161 r184 u184 ?_
                        exact ⟨_, _, _, _, rfl, (KQ.i rfl KQ.rf), ⟨hi.1, hi.2.1, t, by omega, et⟩, by rw [show an_forge nv P a b c = (P 53 (mMod c 8).toNatClampNeg) from ((cI_y ⟨⟨hc1, hc2⟩, ⟨hc3, hc4⟩, ⟨hc5, hc6⟩⟩).trans ((cI_y (show a = 0 from hs7e)).trans ((cI_y (qV.of (by omega) hc9 hc10)).trans (cI_y (Or.inl hc11)))))]⟩
                      · refine zw_iload 114 f184_112 rfl zl1_eq ?_
                        refine zw_aload_n 115 f184_114 rfl (zl1_ne rfl rfl (zl1_ne rfl rfl rfl)) ?_
                        refine zw_getfield 118 f184_115 rfl g184_7_12 (hb_52 _ _ _ _) rfl ?_
                        refine zw_iload 120 f184_118 rfl (zl1_ne rfl rfl zl1_eq) ?_
                        refine zw_iaload (mMod c 8).toNatClampNeg (P 53 (mMod c 8).toNatClampNeg) 121 f184_120 rfl (hb_53 _ _ _ _) rfl hc9 (zix (by decide) hc9 (show ¬ 8 ≤ (mMod c 8) from ix_le hp.1 (by decide) (by decide) hc9 hc10)) (congrFun ((hR.2.1 53 (by omega) (by omega))) (mMod c 8).toNatClampNeg) ?_
                        refine zw_ic_eq 124 141 f184_121 (by decide +kernel) rfl (fun hc12 => ?_) (fun hc12 => ?_)
                        · refine zw_aload_n 142 f184_141 rfl (zl1_ne rfl rfl (zl1_ne rfl rfl rfl)) ?_
                          refine zw_aload_n 143 f184_142 rfl (zl1_ne rfl rfl (zl1_ne rfl rfl rfl)) ?_
                          refine zw_getfield 146 f184_143 rfl g184_7_12 (hb_52 _ _ _ _) rfl ?_
                          refine zw_iload 148 f184_146 rfl (zl1_ne rfl rfl zl1_eq) ?_
                          refine zw_iaload (mMod c 8).toNatClampNeg (P 53 (mMod c 8).toNatClampNeg) 149 f184_148 rfl (hb_53 _ _ _ _) rfl hc9 (zix (by decide) hc9 (show ¬ 8 ≤ (mMod c 8) from ix_le hp.1 (by decide) (by decide) hc9 hc10)) (congrFun ((hR.2.1 53 (by omega) (by omega))) (mMod c 8).toNatClampNeg) ?_
                          refine zw_virtual_i 152 0 0 [.ref 52, .int (P 53 (mMod c 8).toNatClampNeg)] [(0, .ref 52), (1, .int (P 53 (mMod c 8).toNatClampNeg))] f184_149 rfl n184_205 k184_205_12 rfl (hb_52 _ _ _ _) (by decide +kernel) (Nat.le_of_ble_eq_true rfl) rfl rfl (by decide +kernel) (by decide +kernel) rfl (Nat.le_of_ble_eq_true rfl) rfl ?_
                          refine zw_aload_n 1 f122_0 rfl rfl ?_
                          refine zw_iconst 0 2 f122_1 rfl (by decide +kernel) ?_
                          refine zw_put _ 5 f122_2 rfl g122_111_12 (hb_52 _ _ _ _) rfl (Nat.le_of_ble_eq_true rfl) (by decide +kernel) (hi_52_27 _ _ _ _ _) ?_
                          refine zw_iload_n 6 f122_5 rfl rfl ?_
                          refine zw_ireturn f122_6 r122 u122 ⟨_, rfl, ?_⟩
                          refine zw_goto 161 f184_152 (by decide +kernel) ?_
                          refine zw_ireturn f184_161 r184 u184 ?_
                          exact ⟨_, _, _, _, rfl, (KQ.i rfl KQ.rf), ⟨hi.1, hi.2.1, t, by omega, et⟩, by rw [show an_forge nv P a b c = (P 53 (mMod c 8).toNatClampNeg) from ((cI_y ⟨⟨hc1, hc2⟩, ⟨hc3, hc4⟩, ⟨hc5, hc6⟩⟩).trans ((cI_y (show a = 0 from hs7e)).trans ((cI_y (qV.of (by omega) hc9 hc10)).trans (cI_y (Or.inr (Or.inl hc12))))))]⟩
                        · refine zw_iload 126 f184_124 rfl zl1_eq ?_
                          refine zw_iconst 3 127 f184_126 rfl (by decide +kernel) ?_
                          refine zw_ic_ne 130 155 f184_127 (by decide +kernel) rfl (fun hc13 => ?_) (fun hc13 => ?_)
                          · refine zw_aload_n 156 f184_155 rfl (zl1_ne rfl rfl (zl1_ne rfl rfl rfl)) ?_
                            refine zw_bipush 11 158 f184_156 rfl (by decide +kernel) ?_
                            refine zw_virtual_i 161 0 0 [.ref 52, .int 11] [(0, .ref 52), (1, .int 11)] f184_158 rfl n184_209 k184_209_12 rfl (hb_52 _ _ _ _) (by decide +kernel) (Nat.le_of_ble_eq_true rfl) rfl rfl (by decide +kernel) (by decide +kernel) rfl (Nat.le_of_ble_eq_true rfl) rfl ?_
                            refine zw_aload_n 1 f121_0 rfl rfl ?_
                            refine zw_iload_n 2 f121_1 rfl rfl ?_
                            refine zw_put _ 5 f121_2 rfl g121_111_12 (hb_52 _ _ _ _) rfl (Nat.le_of_ble_eq_true rfl) (by decide +kernel) (hi_52_27 _ _ _ _ _) ?_
                            refine zw_iconst (-1) 6 f121_5 rfl (by decide +kernel) ?_
                            refine zw_ireturn f121_6 r121 u121 ⟨_, rfl, ?_⟩
                            refine zw_ireturn f184_161 r184 u184 ?_
                            exact ⟨_, _, _, _, rfl, (KQ.i rfl KQ.rf), ⟨hi.1, hi.2.1, t, by omega, et⟩, by rw [show an_forge nv P a b c = (-1) from ((cI_y ⟨⟨hc1, hc2⟩, ⟨hc3, hc4⟩, ⟨hc5, hc6⟩⟩).trans ((cI_y (show a = 0 from hs7e)).trans ((cI_y (qV.of (by omega) hc9 hc10)).trans (cI_n (fun q => q.elim hc11 (fun q => q.elim hc12 (fun z => hc13 z.1)))))))]⟩
                          · refine zw_aload_n 131 f184_130 rfl (zl1_ne rfl rfl (zl1_ne rfl rfl rfl)) ?_
                            refine zw_getfield 134 f184_131 rfl g184_7_12 (hb_52 _ _ _ _) rfl ?_
                            refine zw_iload 136 f184_134 rfl (zl1_ne rfl rfl zl1_eq) ?_
                            refine zw_iaload (mMod c 8).toNatClampNeg (P 53 (mMod c 8).toNatClampNeg) 137 f184_136 rfl (hb_53 _ _ _ _) rfl hc9 (zix (by decide) hc9 (show ¬ 8 ≤ (mMod c 8) from ix_le hp.1 (by decide) (by decide) hc9 hc10)) (congrFun ((hR.2.1 53 (by omega) (by omega))) (mMod c 8).toNatClampNeg) ?_
                            refine zw_iconst 4 138 f184_137 rfl (by decide +kernel) ?_
                            refine zw_ic_ne 141 155 f184_138 (by decide +kernel) rfl (fun hc14 => ?_) (fun hc14 => ?_)
                            · refine zw_aload_n 156 f184_155 rfl (zl1_ne rfl rfl (zl1_ne rfl rfl rfl)) ?_
                              refine zw_bipush 11 158 f184_156 rfl (by decide +kernel) ?_
                              refine zw_virtual_i 161 0 0 [.ref 52, .int 11] [(0, .ref 52), (1, .int 11)] f184_158 rfl n184_209 k184_209_12 rfl (hb_52 _ _ _ _) (by decide +kernel) (Nat.le_of_ble_eq_true rfl) rfl rfl (by decide +kernel) (by decide +kernel) rfl (Nat.le_of_ble_eq_true rfl) rfl ?_
                              refine zw_aload_n 1 f121_0 rfl rfl ?_
                              refine zw_iload_n 2 f121_1 rfl rfl ?_
                              refine zw_put _ 5 f121_2 rfl g121_111_12 (hb_52 _ _ _ _) rfl (Nat.le_of_ble_eq_true rfl) (by decide +kernel) (hi_52_27 _ _ _ _ _) ?_
                              refine zw_iconst (-1) 6 f121_5 rfl (by decide +kernel) ?_
                              refine zw_ireturn f121_6 r121 u121 ⟨_, rfl, ?_⟩
                              refine zw_ireturn f184_161 r184 u184 ?_
                              exact ⟨_, _, _, _, rfl, (KQ.i rfl KQ.rf), ⟨hi.1, hi.2.1, t, by omega, et⟩, by rw [show an_forge nv P a b c = (-1) from ((cI_y ⟨⟨hc1, hc2⟩, ⟨hc3, hc4⟩, ⟨hc5, hc6⟩⟩).trans ((cI_y (show a = 0 from hs7e)).trans ((cI_y (qV.of (by omega) hc9 hc10)).trans (cI_n (fun q => q.elim hc11 (fun q => q.elim hc12 (fun z => hc14 z.2)))))))]⟩
                            · refine zw_aload_n 142 f184_141 rfl (zl1_ne rfl rfl (zl1_ne rfl rfl rfl)) ?_
                              refine zw_aload_n 143 f184_142 rfl (zl1_ne rfl rfl (zl1_ne rfl rfl rfl)) ?_
                              refine zw_getfield 146 f184_143 rfl g184_7_12 (hb_52 _ _ _ _) rfl ?_
                              refine zw_iload 148 f184_146 rfl (zl1_ne rfl rfl zl1_eq) ?_
                              refine zw_iaload (mMod c 8).toNatClampNeg (P 53 (mMod c 8).toNatClampNeg) 149 f184_148 rfl (hb_53 _ _ _ _) rfl hc9 (zix (by decide) hc9 (show ¬ 8 ≤ (mMod c 8) from ix_le hp.1 (by decide) (by decide) hc9 hc10)) (congrFun ((hR.2.1 53 (by omega) (by omega))) (mMod c 8).toNatClampNeg) ?_
                              refine zw_virtual_i 152 0 0 [.ref 52, .int (P 53 (mMod c 8).toNatClampNeg)] [(0, .ref 52), (1, .int (P 53 (mMod c 8).toNatClampNeg))] f184_149 rfl n184_205 k184_205_12 rfl (hb_52 _ _ _ _) (by decide +kernel) (Nat.le_of_ble_eq_true rfl) rfl rfl (by decide +kernel) (by decide +kernel) rfl (Nat.le_of_ble_eq_true rfl) rfl ?_
                              refine zw_aload_n 1 f122_0 rfl rfl ?_
                              refine zw_iconst 0 2 f122_1 rfl (by decide +kernel) ?_
                              refine zw_put _ 5 f122_2 rfl g122_111_12 (hb_52 _ _ _ _) rfl (Nat.le_of_ble_eq_true rfl) (by decide +kernel) (hi_52_27 _ _ _ _ _) ?_
                              refine zw_iload_n 6 f122_5 rfl rfl ?_
                              refine zw_ireturn f122_6 r122 u122 ⟨_, rfl, ?_⟩
                              refine zw_goto 161 f184_152 (by decide +kernel) ?_
                              refine zw_ireturn f184_161 r184 u184 ?_
                              exact ⟨_, _, _, _, rfl, (KQ.i rfl KQ.rf), ⟨hi.1, hi.2.1, t, by omega, et⟩, by rw [show an_forge nv P a b c = (P 53 (mMod c 8).toNatClampNeg) from ((cI_y ⟨⟨hc1, hc2⟩, ⟨hc3, hc4⟩, ⟨hc5, hc6⟩⟩).trans ((cI_y (show a = 0 from hs7e)).trans ((cI_y (qV.of (by omega) hc9 hc10)).trans (cI_y (Or.inr (Or.inr ⟨(Decidable.of_not_not hc13), (Decidable.of_not_not hc14)⟩))))))]⟩
                · refine zw_table_k 115 162 f184_47 hs7e (by decide +kernel) (by decide +kernel) (by decide +kernel) ?_
                  refine zw_iload_n 163 f184_162 rfl (zl1_ne rfl rfl rfl) ?_
                  refine zw_if_ge 166 175 f184_163 (by decide +kernel) rfl (fun hc15 => ?_) (fun hc15 => ?_)
                  · refine zw_aload_n 176 f184_175 rfl (zl1_ne rfl rfl rfl) ?_
                    refine zw_iload_n 177 f184_176 rfl (zl1_ne rfl rfl rfl) ?_
                    refine zw_virtual_i 180 0 0 [.ref 52, .int b] [(0, .ref 52), (1, .int b)] f184_177 rfl n184_205 k184_205_12 rfl (hb_52 _ _ _ _) (by decide +kernel) (Nat.le_of_ble_eq_true rfl) rfl rfl (by decide +kernel) (by decide +kernel) rfl (Nat.le_of_ble_eq_true rfl) rfl ?_
                    refine zw_aload_n 1 f122_0 rfl rfl ?_
                    refine zw_iconst 0 2 f122_1 rfl (by decide +kernel) ?_
                    refine zw_put _ 5 f122_2 rfl g122_111_12 (hb_52 _ _ _ _) rfl (Nat.le_of_ble_eq_true rfl) (by decide +kernel) (hi_52_27 _ _ _ _ _) ?_
                    refine zw_iload_n 6 f122_5 rfl rfl ?_
                    refine zw_ireturn f122_6 r122 u122 ⟨_, rfl, ?_⟩
                    refine zw_ireturn f184_180 r184 u184 ?_
                    exact ⟨_, _, _, _, rfl, (KQ.i rfl KQ.rf), ⟨hi.1, hi.2.1, t, by omega, et⟩, by rw [show an_forge nv P a b c = b from ((cI_y ⟨⟨hc1, hc2⟩, ⟨hc3, hc4⟩, ⟨hc5, hc6⟩⟩).trans ((cI_n (kne (show a = 1 from hs7e) (by decide))).trans ((cI_y (show a = 1 from hs7e)).trans (cI_n (Int32.not_lt.mpr hc15)))))]⟩
                  · refine zw_aload_n 167 f184_166 rfl (zl1_ne rfl rfl rfl) ?_
                    refine zw_bipush 13 169 f184_167 rfl (by decide +kernel) ?_
                    refine zw_virtual_i 172 0 0 [.ref 52, .int 13] [(0, .ref 52), (1, .int 13)] f184_169 rfl n184_209 k184_209_12 rfl (hb_52 _ _ _ _) (by decide +kernel) (Nat.le_of_ble_eq_true rfl) rfl rfl (by decide +kernel) (by decide +kernel) rfl (Nat.le_of_ble_eq_true rfl) rfl ?_
                    refine zw_aload_n 1 f121_0 rfl rfl ?_
                    refine zw_iload_n 2 f121_1 rfl rfl ?_
                    refine zw_put _ 5 f121_2 rfl g121_111_12 (hb_52 _ _ _ _) rfl (Nat.le_of_ble_eq_true rfl) (by decide +kernel) (hi_52_27 _ _ _ _ _) ?_
                    refine zw_iconst (-1) 6 f121_5 rfl (by decide +kernel) ?_
                    refine zw_ireturn f121_6 r121 u121 ⟨_, rfl, ?_⟩
                    refine zw_goto 180 f184_172 (by decide +kernel) ?_
                    refine zw_ireturn f184_180 r184 u184 ?_
                    exact ⟨_, _, _, _, rfl, (KQ.i rfl KQ.rf), ⟨hi.1, hi.2.1, t, by omega, et⟩, by rw [show an_forge nv P a b c = (-1) from ((cI_y ⟨⟨hc1, hc2⟩, ⟨hc3, hc4⟩, ⟨hc5, hc6⟩⟩).trans ((cI_n (kne (show a = 1 from hs7e) (by decide))).trans ((cI_y (show a = 1 from hs7e)).trans (cI_y (Int32.not_le.mp hc15)))))]⟩
                · refine zw_table_k 134 181 f184_47 hs7e (by decide +kernel) (by decide +kernel) (by decide +kernel) ?_
                  refine zw_iload_n 182 f184_181 rfl (zl1_ne rfl rfl rfl) ?_
                  refine zw_iconst 0 183 f184_182 rfl (by decide +kernel) ?_
                  refine zw_aload_n 184 f184_183 rfl (zl1_ne rfl rfl rfl) ?_
                  refine zw_getI (nI nv) 187 f184_184 rfl g184_114_12 (hb_52 _ _ _ _) rfl hR.1.1 ?_
                  refine zw_iconst 1 188 f184_187 rfl (by decide +kernel) ?_
                  refine zw_isub ((nI nv) - 1) 189 f184_188 rfl rfl ?_
                  refine zw_static_i 192 0 0 [.int b, .int 0, .int ((nI nv) - 1)] [] [(0, .int b), (1, .int 0), (2, .int ((nI nv) - 1))] f184_189 rfl k184_117_99 rfl (by decide +kernel) (Nat.le_of_ble_eq_true rfl) (Nat.le_of_ble_eq_true rfl) rfl rfl (by decide +kernel) (by decide +kernel) rfl (Nat.le_of_ble_eq_true rfl) rfl ?_
                  refine zw_iload_n 1 f120_0 rfl rfl ?_
                  refine zw_iload_n 2 f120_1 rfl rfl ?_
                  refine zw_ic_lt 5 14 f120_2 (by decide +kernel) rfl (fun hc16 => ?_) (fun hc16 => ?_)
                  · refine zw_iconst 0 15 f120_14 rfl (by decide +kernel) ?_
                    refine zw_zreturn f120_15 r120 u120 (by decide +kernel) ⟨_, rfl, ?_⟩
                    refine zw_if_eq_t 208 f184_192 (by decide +kernel) (by decide +kernel) ?_
                    refine zw_aload_n 209 f184_208 rfl (zl1_ne rfl rfl rfl) ?_
                    refine zw_bipush 12 211 f184_209 rfl (by decide +kernel) ?_
                    refine zw_virtual_i 214 0 0 [.ref 52, .int 12] [(0, .ref 52), (1, .int 12)] f184_211 rfl n184_209 k184_209_12 rfl (hb_52 _ _ _ _) (by decide +kernel) (Nat.le_of_ble_eq_true rfl) rfl rfl (by decide +kernel) (by decide +kernel) rfl (Nat.le_of_ble_eq_true rfl) rfl ?_
                    refine zw_aload_n 1 f121_0 rfl rfl ?_
                    refine zw_iload_n 2 f121_1 rfl rfl ?_
                    refine zw_put _ 5 f121_2 rfl g121_111_12 (hb_52 _ _ _ _) rfl (Nat.le_of_ble_eq_true rfl) (by decide +kernel) (hi_52_27 _ _ _ _ _) ?_
                    refine zw_iconst (-1) 6 f121_5 rfl (by decide +kernel) ?_
                    refine zw_ireturn f121_6 r121 u121 ⟨_, rfl, ?_⟩
                    refine zw_ireturn f184_214 r184 u184 ?_
                    exact ⟨_, _, _, _, rfl, (KQ.i rfl KQ.rf), ⟨hi.1, hi.2.1, t, by omega, et⟩, by rw [show an_forge nv P a b c = (-1) from ((cI_y ⟨⟨hc1, hc2⟩, ⟨hc3, hc4⟩, ⟨hc5, hc6⟩⟩).trans ((cI_n (kne (show a = 2 from hs7e) (by decide))).trans ((cI_n (kne (show a = 2 from hs7e) (by decide))).trans ((cI_y (show a = 2 from hs7e)).trans (cI_n (qV.n0 (by omega) hc16))))))]⟩
                  · refine zw_iload_n 6 f120_5 rfl rfl ?_
                    refine zw_iload_n 7 f120_6 rfl rfl ?_
                    refine zw_ic_gt 10 14 f120_7 (by decide +kernel) rfl (fun hc17 => ?_) (fun hc17 => ?_)
                    · refine zw_iconst 0 15 f120_14 rfl (by decide +kernel) ?_
                      refine zw_zreturn f120_15 r120 u120 (by decide +kernel) ⟨_, rfl, ?_⟩
                      refine zw_if_eq_t 208 f184_192 (by decide +kernel) (by decide +kernel) ?_
                      refine zw_aload_n 209 f184_208 rfl (zl1_ne rfl rfl rfl) ?_
                      refine zw_bipush 12 211 f184_209 rfl (by decide +kernel) ?_
                      refine zw_virtual_i 214 0 0 [.ref 52, .int 12] [(0, .ref 52), (1, .int 12)] f184_211 rfl n184_209 k184_209_12 rfl (hb_52 _ _ _ _) (by decide +kernel) (Nat.le_of_ble_eq_true rfl) rfl rfl (by decide +kernel) (by decide +kernel) rfl (Nat.le_of_ble_eq_true rfl) rfl ?_
                      refine zw_aload_n 1 f121_0 rfl rfl ?_
                      refine zw_iload_n 2 f121_1 rfl rfl ?_
                      refine zw_put _ 5 f121_2 rfl g121_111_12 (hb_52 _ _ _ _) rfl (Nat.le_of_ble_eq_true rfl) (by decide +kernel) (hi_52_27 _ _ _ _ _) ?_
                      refine zw_iconst (-1) 6 f121_5 rfl (by decide +kernel) ?_
                      refine zw_ireturn f121_6 r121 u121 ⟨_, rfl, ?_⟩
                      refine zw_ireturn f184_214 r184 u184 ?_
                      exact ⟨_, _, _, _, rfl, (KQ.i rfl KQ.rf), ⟨hi.1, hi.2.1, t, by omega, et⟩, by rw [show an_forge nv P a b c = (-1) from ((cI_y ⟨⟨hc1, hc2⟩, ⟨hc3, hc4⟩, ⟨hc5, hc6⟩⟩).trans ((cI_n (kne (show a = 2 from hs7e) (by decide))).trans ((cI_n (kne (show a = 2 from hs7e) (by decide))).trans ((cI_y (show a = 2 from hs7e)).trans (cI_n (qV.n1 (by omega) hc17))))))]⟩
                    · refine zw_iconst 1 11 f120_10 rfl (by decide +kernel) ?_
                      refine zw_goto 15 f120_11 (by decide +kernel) ?_
                      refine zw_zreturn f120_15 r120 u120 (by decide +kernel) ⟨_, rfl, ?_⟩
                      refine zw_if_eq_f 195 208 f184_192 (by decide +kernel) rfl (by decide +kernel) ?_
                      refine zw_aload_n 196 f184_195 rfl (zl1_ne rfl rfl rfl) ?_
                      refine zw_aload_n 197 f184_196 rfl (zl1_ne rfl rfl rfl) ?_
                      refine zw_getfield 200 f184_197 rfl g184_13_12 (hb_52 _ _ _ _) rfl ?_
                      refine zw_iload_n 201 f184_200 rfl (zl1_ne rfl rfl rfl) ?_
                      refine zw_iaload b.toNatClampNeg (P 54 b.toNatClampNeg) 202 f184_201 rfl (hb_54 _ _ _ _) rfl hc16 (zix (by decide) hc16 (show ¬ 8 ≤ b from ix_le hp.1 (by decide) (by decide) hc16 hc17)) (congrFun ((hR.2.1 54 (by omega) (by omega))) b.toNatClampNeg) ?_
                      refine zw_virtual_i 205 0 0 [.ref 52, .int (P 54 b.toNatClampNeg)] [(0, .ref 52), (1, .int (P 54 b.toNatClampNeg))] f184_202 rfl n184_205 k184_205_12 rfl (hb_52 _ _ _ _) (by decide +kernel) (Nat.le_of_ble_eq_true rfl) rfl rfl (by decide +kernel) (by decide +kernel) rfl (Nat.le_of_ble_eq_true rfl) rfl ?_
                      refine zw_aload_n 1 f122_0 rfl rfl ?_
                      refine zw_iconst 0 2 f122_1 rfl (by decide +kernel) ?_
                      refine zw_put _ 5 f122_2 rfl g122_111_12 (hb_52 _ _ _ _) rfl (Nat.le_of_ble_eq_true rfl) (by decide +kernel) (hi_52_27 _ _ _ _ _) ?_
                      refine zw_iload_n 6 f122_5 rfl rfl ?_
                      refine zw_ireturn f122_6 r122 u122 ⟨_, rfl, ?_⟩
                      refine zw_goto 214 f184_205 (by decide +kernel) ?_
                      refine zw_ireturn f184_214 r184 u184 ?_
                      exact ⟨_, _, _, _, rfl, (KQ.i rfl KQ.rf), ⟨hi.1, hi.2.1, t, by omega, et⟩, by rw [show an_forge nv P a b c = (P 54 b.toNatClampNeg) from ((cI_y ⟨⟨hc1, hc2⟩, ⟨hc3, hc4⟩, ⟨hc5, hc6⟩⟩).trans ((cI_n (kne (show a = 2 from hs7e) (by decide))).trans ((cI_n (kne (show a = 2 from hs7e) (by decide))).trans ((cI_y (show a = 2 from hs7e)).trans (cI_y (qV.of (by omega) hc16 hc17))))))]⟩
                · refine zw_table_k 168 215 f184_47 hs7e (by decide +kernel) (by decide +kernel) (by decide +kernel) ?_
                  refine zw_iload_n 216 f184_215 rfl (zl1_ne rfl rfl rfl) ?_
                  refine zw_if_lt 219 239 f184_216 (by decide +kernel) rfl (fun hc18 => ?_) (fun hc18 => ?_)
                  · refine zw_aload_n 240 f184_239 rfl (zl1_ne rfl rfl rfl) ?_
                    refine zw_bipush 12 242 f184_240 rfl (by decide +kernel) ?_
                    refine zw_virtual_i 245 0 0 [.ref 52, .int 12] [(0, .ref 52), (1, .int 12)] f184_242 rfl n184_209 k184_209_12 rfl (hb_52 _ _ _ _) (by decide +kernel) (Nat.le_of_ble_eq_true rfl) rfl rfl (by decide +kernel) (by decide +kernel) rfl (Nat.le_of_ble_eq_true rfl) rfl ?_
                    refine zw_aload_n 1 f121_0 rfl rfl ?_
                    refine zw_iload_n 2 f121_1 rfl rfl ?_
                    refine zw_put _ 5 f121_2 rfl g121_111_12 (hb_52 _ _ _ _) rfl (Nat.le_of_ble_eq_true rfl) (by decide +kernel) (hi_52_27 _ _ _ _ _) ?_
                    refine zw_iconst (-1) 6 f121_5 rfl (by decide +kernel) ?_
                    refine zw_ireturn f121_6 r121 u121 ⟨_, rfl, ?_⟩
                    refine zw_goto 258 f184_245 (by decide +kernel) ?_
                    refine zw_ireturn f184_258 r184 u184 ?_
                    exact ⟨_, _, _, _, rfl, (KQ.i rfl KQ.rf), ⟨hi.1, hi.2.1, t, by omega, et⟩, by rw [show an_forge nv P a b c = (-1) from ((cI_y ⟨⟨hc1, hc2⟩, ⟨hc3, hc4⟩, ⟨hc5, hc6⟩⟩).trans ((cI_n (kne (show a = 3 from hs7e) (by decide))).trans ((cI_n (kne (show a = 3 from hs7e) (by decide))).trans ((cI_n (kne (show a = 3 from hs7e) (by decide))).trans ((cI_y (show a = 3 from hs7e)).trans (cI_y (Or.inl hc18)))))))]⟩
                  · refine zw_iload_n 220 f184_219 rfl (zl1_ne rfl rfl rfl) ?_
                    refine zw_if_lt 223 239 f184_220 (by decide +kernel) rfl (fun hc19 => ?_) (fun hc19 => ?_)
                    · refine zw_aload_n 240 f184_239 rfl (zl1_ne rfl rfl rfl) ?_
                      refine zw_bipush 12 242 f184_240 rfl (by decide +kernel) ?_
                      refine zw_virtual_i 245 0 0 [.ref 52, .int 12] [(0, .ref 52), (1, .int 12)] f184_242 rfl n184_209 k184_209_12 rfl (hb_52 _ _ _ _) (by decide +kernel) (Nat.le_of_ble_eq_true rfl) rfl rfl (by decide +kernel) (by decide +kernel) rfl (Nat.le_of_ble_eq_true rfl) rfl ?_
                      refine zw_aload_n 1 f121_0 rfl rfl ?_
                      refine zw_iload_n 2 f121_1 rfl rfl ?_
                      refine zw_put _ 5 f121_2 rfl g121_111_12 (hb_52 _ _ _ _) rfl (Nat.le_of_ble_eq_true rfl) (by decide +kernel) (hi_52_27 _ _ _ _ _) ?_
                      refine zw_iconst (-1) 6 f121_5 rfl (by decide +kernel) ?_
                      refine zw_ireturn f121_6 r121 u121 ⟨_, rfl, ?_⟩
                      refine zw_goto 258 f184_245 (by decide +kernel) ?_
                      refine zw_ireturn f184_258 r184 u184 ?_
                      exact ⟨_, _, _, _, rfl, (KQ.i rfl KQ.rf), ⟨hi.1, hi.2.1, t, by omega, et⟩, by rw [show an_forge nv P a b c = (-1) from ((cI_y ⟨⟨hc1, hc2⟩, ⟨hc3, hc4⟩, ⟨hc5, hc6⟩⟩).trans ((cI_n (kne (show a = 3 from hs7e) (by decide))).trans ((cI_n (kne (show a = 3 from hs7e) (by decide))).trans ((cI_n (kne (show a = 3 from hs7e) (by decide))).trans ((cI_y (show a = 3 from hs7e)).trans (cI_y (Or.inr (Or.inl hc19))))))))]⟩
                    · refine zw_iload_n 224 f184_223 rfl (zl1_ne rfl rfl rfl) ?_
                      refine zw_iload_n 225 f184_224 rfl (zl1_ne rfl rfl rfl) ?_
                      refine zw_iadd (c + b) 226 f184_225 rfl rfl ?_
                      refine zw_aload_n 227 f184_226 rfl (zl1_ne rfl rfl rfl) ?_
                      refine zw_getI (nI nv) 230 f184_227 rfl g184_114_12 (hb_52 _ _ _ _) rfl hR.1.1 ?_
                      refine zw_ic_gt 233 239 f184_230 (by decide +kernel) rfl (fun hc20 => ?_) (fun hc20 => ?_)
                      · refine zw_aload_n 240 f184_239 rfl (zl1_ne rfl rfl rfl) ?_
                        refine zw_bipush 12 242 f184_240 rfl (by decide +kernel) ?_
                        refine zw_virtual_i 245 0 0 [.ref 52, .int 12] [(0, .ref 52), (1, .int 12)] f184_242 rfl n184_209 k184_209_12 rfl (hb_52 _ _ _ _) (by decide +kernel) (Nat.le_of_ble_eq_true rfl) rfl rfl (by decide +kernel) (by decide +kernel) rfl (Nat.le_of_ble_eq_true rfl) rfl ?_
                        refine zw_aload_n 1 f121_0 rfl rfl ?_
                        refine zw_iload_n 2 f121_1 rfl rfl ?_
                        refine zw_put _ 5 f121_2 rfl g121_111_12 (hb_52 _ _ _ _) rfl (Nat.le_of_ble_eq_true rfl) (by decide +kernel) (hi_52_27 _ _ _ _ _) ?_
                        refine zw_iconst (-1) 6 f121_5 rfl (by decide +kernel) ?_
                        refine zw_ireturn f121_6 r121 u121 ⟨_, rfl, ?_⟩
                        refine zw_goto 258 f184_245 (by decide +kernel) ?_
                        refine zw_ireturn f184_258 r184 u184 ?_
                        exact ⟨_, _, _, _, rfl, (KQ.i rfl KQ.rf), ⟨hi.1, hi.2.1, t, by omega, et⟩, by rw [show an_forge nv P a b c = (-1) from ((cI_y ⟨⟨hc1, hc2⟩, ⟨hc3, hc4⟩, ⟨hc5, hc6⟩⟩).trans ((cI_n (kne (show a = 3 from hs7e) (by decide))).trans ((cI_n (kne (show a = 3 from hs7e) (by decide))).trans ((cI_n (kne (show a = 3 from hs7e) (by decide))).trans ((cI_y (show a = 3 from hs7e)).trans (cI_y (Or.inr (Or.inr (Or.inr hc20)))))))))]⟩
                      · refine zw_iload_n 234 f184_233 rfl (zl1_ne rfl rfl rfl) ?_
                        refine zw_bipush 6 236 f184_234 rfl (by decide +kernel) ?_
                        refine zw_ic_le 239 248 f184_236 (by decide +kernel) rfl (fun hc21 => ?_) (fun hc21 => ?_)
                        · refine zw_aload_n 249 f184_248 rfl (zl1_ne rfl rfl rfl) ?_
                          refine zw_aload_n 250 f184_249 rfl (zl1_ne rfl rfl rfl) ?_
                          refine zw_iload_n 251 f184_250 rfl (zl1_ne rfl rfl rfl) ?_
                          refine zw_iload_n 252 f184_251 rfl (zl1_ne rfl rfl rfl) ?_
                          refine zw_virtual_i 255 0 0 [.ref 52, .int c, .int b] [(0, .ref 52), (1, .int c), (2, .int b)] f184_252 rfl n184_316 k184_316_12 rfl (hb_52 _ _ _ _) (by decide +kernel) (Nat.le_of_ble_eq_true rfl) rfl rfl (by decide +kernel) (by decide +kernel) rfl (Nat.le_of_ble_eq_true rfl) rfl ?_
                          have sr := sm_rng (k := c) (n := b) h8 hc19 hc6 hc18 hc4 hc20
                          have es := mm_sumOf ro I G A B c.toNatClampNeg b.toNatClampNeg (by omega)
                          rw [← sr.1, ← sr.2.1, hR.2.1 54 (by omega) (by omega)] at es
                          refine zWp.mono es ?_
                          rintro r h1 ⟨rfl, rfl⟩
                          refine ⟨_, rfl, ?_⟩
                          refine zw_virtual_i 258 0 0 [.ref 52, .int (mSm (P 54) c.toNatClampNeg b.toNatClampNeg)] [(0, .ref 52), (1, .int (mSm (P 54) c.toNatClampNeg b.toNatClampNeg))] f184_255 rfl n184_205 k184_205_12 rfl (hb_52 _ _ _ _) (by decide +kernel) (Nat.le_of_ble_eq_true rfl) rfl rfl (by decide +kernel) (by decide +kernel) rfl (Nat.le_of_ble_eq_true rfl) rfl ?_
                          refine zw_aload_n 1 f122_0 rfl rfl ?_
                          refine zw_iconst 0 2 f122_1 rfl (by decide +kernel) ?_
                          refine zw_put _ 5 f122_2 rfl g122_111_12 (hb_52 _ _ _ _) rfl (Nat.le_of_ble_eq_true rfl) (by decide +kernel) (hi_52_27 _ _ _ _ _) ?_
                          refine zw_iload_n 6 f122_5 rfl rfl ?_
                          refine zw_ireturn f122_6 r122 u122 ⟨_, rfl, ?_⟩
                          refine zw_ireturn f184_258 r184 u184 ?_
                          exact ⟨_, _, _, _, rfl, (KQ.i rfl KQ.rf), ⟨hi.1, hi.2.1, t, by omega, et⟩, by rw [show an_forge nv P a b c = (mSm (P 54) c.toNatClampNeg b.toNatClampNeg) from ((cI_y ⟨⟨hc1, hc2⟩, ⟨hc3, hc4⟩, ⟨hc5, hc6⟩⟩).trans ((cI_n (kne (show a = 3 from hs7e) (by decide))).trans ((cI_n (kne (show a = 3 from hs7e) (by decide))).trans ((cI_n (kne (show a = 3 from hs7e) (by decide))).trans ((cI_y (show a = 3 from hs7e)).trans (cI_n (fun q => q.elim hc18 (fun q => q.elim hc19 (fun q => q.elim (Int32.not_lt.mpr hc21) hc20)))))))))]⟩
                        · refine zw_aload_n 240 f184_239 rfl (zl1_ne rfl rfl rfl) ?_
                          refine zw_bipush 12 242 f184_240 rfl (by decide +kernel) ?_
                          refine zw_virtual_i 245 0 0 [.ref 52, .int 12] [(0, .ref 52), (1, .int 12)] f184_242 rfl n184_209 k184_209_12 rfl (hb_52 _ _ _ _) (by decide +kernel) (Nat.le_of_ble_eq_true rfl) rfl rfl (by decide +kernel) (by decide +kernel) rfl (Nat.le_of_ble_eq_true rfl) rfl ?_
                          refine zw_aload_n 1 f121_0 rfl rfl ?_
                          refine zw_iload_n 2 f121_1 rfl rfl ?_
                          refine zw_put _ 5 f121_2 rfl g121_111_12 (hb_52 _ _ _ _) rfl (Nat.le_of_ble_eq_true rfl) (by decide +kernel) (hi_52_27 _ _ _ _ _) ?_
                          refine zw_iconst (-1) 6 f121_5 rfl (by decide +kernel) ?_
                          refine zw_ireturn f121_6 r121 u121 ⟨_, rfl, ?_⟩
                          refine zw_goto 258 f184_245 (by decide +kernel) ?_
                          refine zw_ireturn f184_258 r184 u184 ?_
                          exact ⟨_, _, _, _, rfl, (KQ.i rfl KQ.rf), ⟨hi.1, hi.2.1, t, by omega, et⟩, by rw [show an_forge nv P a b c = (-1) from ((cI_y ⟨⟨hc1, hc2⟩, ⟨hc3, hc4⟩, ⟨hc5, hc6⟩⟩).trans ((cI_n (kne (show a = 3 from hs7e) (by decide))).trans ((cI_n (kne (show a = 3 from hs7e) (by decide))).trans ((cI_n (kne (show a = 3 from hs7e) (by decide))).trans ((cI_y (show a = 3 from hs7e)).trans (cI_y (Or.inr (Or.inr (Or.inl (Int32.not_le.mp hc21))))))))))]⟩
                · refine zw_table_k 212 259 f184_47 hs7e (by decide +kernel) (by decide +kernel) (by decide +kernel) ?_
                  refine zw_aload_n 260 f184_259 rfl (zl1_ne rfl rfl rfl) ?_
                  refine zw_iload 262 f184_260 rfl zl1_eq ?_
                  refine zw_virtual_i 265 0 0 [.ref 52, .int (mMod c 8)] [(0, .ref 52), (1, .int (mMod c 8))] f184_262 rfl n184_215 k184_215_12 rfl (hb_52 _ _ _ _) (by decide +kernel) (Nat.le_of_ble_eq_true rfl) rfl rfl (by decide +kernel) (by decide +kernel) rfl (Nat.le_of_ble_eq_true rfl) rfl ?_
                  refine zw_iload_n 1 f123_0 rfl rfl ?_
                  refine zw_iconst 0 2 f123_1 rfl (by decide +kernel) ?_
                  refine zw_aload_n 3 f123_2 rfl rfl ?_
                  refine zw_getI (nI nv) 6 f123_3 rfl g123_114_12 (hb_52 _ _ _ _) rfl hR.1.1 ?_
                  refine zw_iconst 1 7 f123_6 rfl (by decide +kernel) ?_
                  refine zw_isub ((nI nv) - 1) 8 f123_7 rfl rfl ?_
                  refine zw_static_i 11 0 0 [.int (mMod c 8), .int 0, .int ((nI nv) - 1)] [] [(0, .int (mMod c 8)), (1, .int 0), (2, .int ((nI nv) - 1))] f123_8 rfl k123_117_99 rfl (by decide +kernel) (Nat.le_of_ble_eq_true rfl) (Nat.le_of_ble_eq_true rfl) rfl rfl (by decide +kernel) (by decide +kernel) rfl (Nat.le_of_ble_eq_true rfl) rfl ?_
                  refine zw_iload_n 1 f120_0 rfl rfl ?_
                  refine zw_iload_n 2 f120_1 rfl rfl ?_
                  refine zw_ic_lt 5 14 f120_2 (by decide +kernel) rfl (fun hc22 => ?_) (fun hc22 => ?_)
                  · refine zw_iconst 0 15 f120_14 rfl (by decide +kernel) ?_
                    refine zw_zreturn f120_15 r120 u120 (by decide +kernel) ⟨_, rfl, ?_⟩
                    refine zw_zreturn f123_11 r123 u123 (by decide +kernel) ⟨_, rfl, ?_⟩
                    refine zw_if_ne_f 268 276 f184_265 (by decide +kernel) rfl (by decide +kernel) ?_
                    refine zw_aload_n 269 f184_268 rfl (zl1_ne rfl rfl rfl) ?_
                    refine zw_iconst 0 270 f184_269 rfl (by decide +kernel) ?_
                    refine zw_virtual_i 273 0 0 [.ref 52, .int 0] [(0, .ref 52), (1, .int 0)] f184_270 rfl n184_205 k184_205_12 rfl (hb_52 _ _ _ _) (by decide +kernel) (Nat.le_of_ble_eq_true rfl) rfl rfl (by decide +kernel) (by decide +kernel) rfl (Nat.le_of_ble_eq_true rfl) rfl ?_
                    refine zw_aload_n 1 f122_0 rfl rfl ?_
                    refine zw_iconst 0 2 f122_1 rfl (by decide +kernel) ?_
                    refine zw_put _ 5 f122_2 rfl g122_111_12 (hb_52 _ _ _ _) rfl (Nat.le_of_ble_eq_true rfl) (by decide +kernel) (hi_52_27 _ _ _ _ _) ?_
                    refine zw_iload_n 6 f122_5 rfl rfl ?_
                    refine zw_ireturn f122_6 r122 u122 ⟨_, rfl, ?_⟩
                    refine zw_goto 305 f184_273 (by decide +kernel) ?_
                    refine zw_ireturn f184_305 r184 u184 ?_
                    exact ⟨_, _, _, _, rfl, (KQ.i rfl KQ.rf), ⟨hi.1, hi.2.1, t, by omega, et⟩, by rw [show an_forge nv P a b c = 0 from ((cI_y ⟨⟨hc1, hc2⟩, ⟨hc3, hc4⟩, ⟨hc5, hc6⟩⟩).trans ((cI_n (kne (show a = 4 from hs7e) (by decide))).trans ((cI_n (kne (show a = 4 from hs7e) (by decide))).trans ((cI_n (kne (show a = 4 from hs7e) (by decide))).trans ((cI_n (kne (show a = 4 from hs7e) (by decide))).trans ((cI_y (show a = 4 from hs7e)).trans (cI_n (qV.n0 (by omega) hc22))))))))]⟩
                  · refine zw_iload_n 6 f120_5 rfl rfl ?_
                    refine zw_iload_n 7 f120_6 rfl rfl ?_
                    refine zw_ic_gt 10 14 f120_7 (by decide +kernel) rfl (fun hc23 => ?_) (fun hc23 => ?_)
                    · refine zw_iconst 0 15 f120_14 rfl (by decide +kernel) ?_
                      refine zw_zreturn f120_15 r120 u120 (by decide +kernel) ⟨_, rfl, ?_⟩
                      refine zw_zreturn f123_11 r123 u123 (by decide +kernel) ⟨_, rfl, ?_⟩
                      refine zw_if_ne_f 268 276 f184_265 (by decide +kernel) rfl (by decide +kernel) ?_
                      refine zw_aload_n 269 f184_268 rfl (zl1_ne rfl rfl rfl) ?_
                      refine zw_iconst 0 270 f184_269 rfl (by decide +kernel) ?_
                      refine zw_virtual_i 273 0 0 [.ref 52, .int 0] [(0, .ref 52), (1, .int 0)] f184_270 rfl n184_205 k184_205_12 rfl (hb_52 _ _ _ _) (by decide +kernel) (Nat.le_of_ble_eq_true rfl) rfl rfl (by decide +kernel) (by decide +kernel) rfl (Nat.le_of_ble_eq_true rfl) rfl ?_
                      refine zw_aload_n 1 f122_0 rfl rfl ?_
                      refine zw_iconst 0 2 f122_1 rfl (by decide +kernel) ?_
                      refine zw_put _ 5 f122_2 rfl g122_111_12 (hb_52 _ _ _ _) rfl (Nat.le_of_ble_eq_true rfl) (by decide +kernel) (hi_52_27 _ _ _ _ _) ?_
                      refine zw_iload_n 6 f122_5 rfl rfl ?_
                      refine zw_ireturn f122_6 r122 u122 ⟨_, rfl, ?_⟩
                      refine zw_goto 305 f184_273 (by decide +kernel) ?_
                      refine zw_ireturn f184_305 r184 u184 ?_
                      exact ⟨_, _, _, _, rfl, (KQ.i rfl KQ.rf), ⟨hi.1, hi.2.1, t, by omega, et⟩, by rw [show an_forge nv P a b c = 0 from ((cI_y ⟨⟨hc1, hc2⟩, ⟨hc3, hc4⟩, ⟨hc5, hc6⟩⟩).trans ((cI_n (kne (show a = 4 from hs7e) (by decide))).trans ((cI_n (kne (show a = 4 from hs7e) (by decide))).trans ((cI_n (kne (show a = 4 from hs7e) (by decide))).trans ((cI_n (kne (show a = 4 from hs7e) (by decide))).trans ((cI_y (show a = 4 from hs7e)).trans (cI_n (qV.n1 (by omega) hc23))))))))]⟩
                    · refine zw_iconst 1 11 f120_10 rfl (by decide +kernel) ?_
                      refine zw_goto 15 f120_11 (by decide +kernel) ?_
                      refine zw_zreturn f120_15 r120 u120 (by decide +kernel) ⟨_, rfl, ?_⟩
                      refine zw_zreturn f123_11 r123 u123 (by decide +kernel) ⟨_, rfl, ?_⟩
                      refine zw_if_ne_t 276 f184_265 (by decide +kernel) (by decide +kernel) ?_
                      refine zw_aload_n 277 f184_276 rfl (zl1_ne rfl rfl rfl) ?_
                      refine zw_iload 279 f184_277 rfl zl1_eq ?_
                      refine zw_virtual_i 282 0 0 [.ref 52, .int (mMod c 8)] [(0, .ref 52), (1, .int (mMod c 8))] f184_279 rfl n184_158 k184_158_12 rfl (hb_52 _ _ _ _) (by decide +kernel) (Nat.le_of_ble_eq_true rfl) rfl rfl (by decide +kernel) (by decide +kernel) rfl (Nat.le_of_ble_eq_true rfl) rfl ?_
                      refine zw_aload_n 1 f126_0 rfl rfl ?_
                      refine zw_getfield 4 f126_1 rfl g126_7_12 (hb_52 _ _ _ _) rfl ?_
                      refine zw_iload_n 5 f126_4 rfl rfl ?_
                      refine zw_iaload (mMod c 8).toNatClampNeg (P 53 (mMod c 8).toNatClampNeg) 6 f126_5 rfl (hb_53 _ _ _ _) rfl hc22 (zix (by decide) hc22 (show ¬ 8 ≤ (mMod c 8) from ix_le hp.1 (by decide) (by decide) hc22 hc23)) (congrFun ((hR.2.1 53 (by omega) (by omega))) (mMod c 8).toNatClampNeg) ?_
                      refine zw_iconst 3 7 f126_6 rfl (by decide +kernel) ?_
                      refine zw_ic_eq 10 20 f126_7 (by decide +kernel) rfl (fun hc24 => ?_) (fun hc24 => ?_)
                      · refine zw_iconst 1 21 f126_20 rfl (by decide +kernel) ?_
                        refine zw_goto 25 f126_21 (by decide +kernel) ?_
                        refine zw_zreturn f126_25 r126 u126 (by decide +kernel) ⟨_, rfl, ?_⟩
                        refine zw_if_eq_f 285 299 f184_282 (by decide +kernel) rfl (by decide +kernel) ?_
                        refine zw_aload_n 286 f184_285 rfl (zl1_ne rfl rfl rfl) ?_
                        refine zw_aload_n 287 f184_286 rfl (zl1_ne rfl rfl rfl) ?_
                        refine zw_getfield 290 f184_287 rfl g184_13_12 (hb_52 _ _ _ _) rfl ?_
                        refine zw_iload 292 f184_290 rfl zl1_eq ?_
                        refine zw_iaload (mMod c 8).toNatClampNeg (P 54 (mMod c 8).toNatClampNeg) 293 f184_292 rfl (hb_54 _ _ _ _) rfl hc22 (zix (by decide) hc22 (show ¬ 8 ≤ (mMod c 8) from ix_le hp.1 (by decide) (by decide) hc22 hc23)) (congrFun ((hR.2.1 54 (by omega) (by omega))) (mMod c 8).toNatClampNeg) ?_
                        refine zw_virtual_i 296 0 0 [.ref 52, .int (P 54 (mMod c 8).toNatClampNeg)] [(0, .ref 52), (1, .int (P 54 (mMod c 8).toNatClampNeg))] f184_293 rfl n184_205 k184_205_12 rfl (hb_52 _ _ _ _) (by decide +kernel) (Nat.le_of_ble_eq_true rfl) rfl rfl (by decide +kernel) (by decide +kernel) rfl (Nat.le_of_ble_eq_true rfl) rfl ?_
                        refine zw_aload_n 1 f122_0 rfl rfl ?_
                        refine zw_iconst 0 2 f122_1 rfl (by decide +kernel) ?_
                        refine zw_put _ 5 f122_2 rfl g122_111_12 (hb_52 _ _ _ _) rfl (Nat.le_of_ble_eq_true rfl) (by decide +kernel) (hi_52_27 _ _ _ _ _) ?_
                        refine zw_iload_n 6 f122_5 rfl rfl ?_
                        refine zw_ireturn f122_6 r122 u122 ⟨_, rfl, ?_⟩
                        refine zw_goto 305 f184_296 (by decide +kernel) ?_
                        refine zw_ireturn f184_305 r184 u184 ?_
                        exact ⟨_, _, _, _, rfl, (KQ.i rfl KQ.rf), ⟨hi.1, hi.2.1, t, by omega, et⟩, by rw [show an_forge nv P a b c = (P 54 (mMod c 8).toNatClampNeg) from ((cI_y ⟨⟨hc1, hc2⟩, ⟨hc3, hc4⟩, ⟨hc5, hc6⟩⟩).trans ((cI_n (kne (show a = 4 from hs7e) (by decide))).trans ((cI_n (kne (show a = 4 from hs7e) (by decide))).trans ((cI_n (kne (show a = 4 from hs7e) (by decide))).trans ((cI_n (kne (show a = 4 from hs7e) (by decide))).trans ((cI_y (show a = 4 from hs7e)).trans ((cI_y (qV.of (by omega) hc22 hc23)).trans (cI_y (Or.inl hc24)))))))))]⟩
                      · refine zw_aload_n 11 f126_10 rfl rfl ?_
                        refine zw_getfield 14 f126_11 rfl g126_7_12 (hb_52 _ _ _ _) rfl ?_
                        refine zw_iload_n 15 f126_14 rfl rfl ?_
                        refine zw_iaload (mMod c 8).toNatClampNeg (P 53 (mMod c 8).toNatClampNeg) 16 f126_15 rfl (hb_53 _ _ _ _) rfl hc22 (zix (by decide) hc22 (show ¬ 8 ≤ (mMod c 8) from ix_le hp.1 (by decide) (by decide) hc22 hc23)) (congrFun ((hR.2.1 53 (by omega) (by omega))) (mMod c 8).toNatClampNeg) ?_
                        refine zw_iconst 4 17 f126_16 rfl (by decide +kernel) ?_
                        refine zw_ic_ne 20 24 f126_17 (by decide +kernel) rfl (fun hc25 => ?_) (fun hc25 => ?_)
                        · refine zw_iconst 0 25 f126_24 rfl (by decide +kernel) ?_
                          refine zw_zreturn f126_25 r126 u126 (by decide +kernel) ⟨_, rfl, ?_⟩
                          refine zw_if_eq_t 299 f184_282 (by decide +kernel) (by decide +kernel) ?_
                          refine zw_aload_n 300 f184_299 rfl (zl1_ne rfl rfl rfl) ?_
                          refine zw_bipush 14 302 f184_300 rfl (by decide +kernel) ?_
                          refine zw_virtual_i 305 0 0 [.ref 52, .int 14] [(0, .ref 52), (1, .int 14)] f184_302 rfl n184_209 k184_209_12 rfl (hb_52 _ _ _ _) (by decide +kernel) (Nat.le_of_ble_eq_true rfl) rfl rfl (by decide +kernel) (by decide +kernel) rfl (Nat.le_of_ble_eq_true rfl) rfl ?_
                          refine zw_aload_n 1 f121_0 rfl rfl ?_
                          refine zw_iload_n 2 f121_1 rfl rfl ?_
                          refine zw_put _ 5 f121_2 rfl g121_111_12 (hb_52 _ _ _ _) rfl (Nat.le_of_ble_eq_true rfl) (by decide +kernel) (hi_52_27 _ _ _ _ _) ?_
                          refine zw_iconst (-1) 6 f121_5 rfl (by decide +kernel) ?_
                          refine zw_ireturn f121_6 r121 u121 ⟨_, rfl, ?_⟩
                          refine zw_ireturn f184_305 r184 u184 ?_
                          exact ⟨_, _, _, _, rfl, (KQ.i rfl KQ.rf), ⟨hi.1, hi.2.1, t, by omega, et⟩, by rw [show an_forge nv P a b c = (-1) from ((cI_y ⟨⟨hc1, hc2⟩, ⟨hc3, hc4⟩, ⟨hc5, hc6⟩⟩).trans ((cI_n (kne (show a = 4 from hs7e) (by decide))).trans ((cI_n (kne (show a = 4 from hs7e) (by decide))).trans ((cI_n (kne (show a = 4 from hs7e) (by decide))).trans ((cI_n (kne (show a = 4 from hs7e) (by decide))).trans ((cI_y (show a = 4 from hs7e)).trans ((cI_y (qV.of (by omega) hc22 hc23)).trans (cI_n (fun q => q.elim hc24 hc25)))))))))]⟩
                        · refine zw_iconst 1 21 f126_20 rfl (by decide +kernel) ?_
                          refine zw_goto 25 f126_21 (by decide +kernel) ?_
                          refine zw_zreturn f126_25 r126 u126 (by decide +kernel) ⟨_, rfl, ?_⟩
                          refine zw_if_eq_f 285 299 f184_282 (by decide +kernel) rfl (by decide +kernel) ?_
                          refine zw_aload_n 286 f184_285 rfl (zl1_ne rfl rfl rfl) ?_
                          refine zw_aload_n 287 f184_286 rfl (zl1_ne rfl rfl rfl) ?_
                          refine zw_getfield 290 f184_287 rfl g184_13_12 (hb_52 _ _ _ _) rfl ?_
                          refine zw_iload 292 f184_290 rfl zl1_eq ?_
                          refine zw_iaload (mMod c 8).toNatClampNeg (P 54 (mMod c 8).toNatClampNeg) 293 f184_292 rfl (hb_54 _ _ _ _) rfl hc22 (zix (by decide) hc22 (show ¬ 8 ≤ (mMod c 8) from ix_le hp.1 (by decide) (by decide) hc22 hc23)) (congrFun ((hR.2.1 54 (by omega) (by omega))) (mMod c 8).toNatClampNeg) ?_
                          refine zw_virtual_i 296 0 0 [.ref 52, .int (P 54 (mMod c 8).toNatClampNeg)] [(0, .ref 52), (1, .int (P 54 (mMod c 8).toNatClampNeg))] f184_293 rfl n184_205 k184_205_12 rfl (hb_52 _ _ _ _) (by decide +kernel) (Nat.le_of_ble_eq_true rfl) rfl rfl (by decide +kernel) (by decide +kernel) rfl (Nat.le_of_ble_eq_true rfl) rfl ?_
                          refine zw_aload_n 1 f122_0 rfl rfl ?_
                          refine zw_iconst 0 2 f122_1 rfl (by decide +kernel) ?_
                          refine zw_put _ 5 f122_2 rfl g122_111_12 (hb_52 _ _ _ _) rfl (Nat.le_of_ble_eq_true rfl) (by decide +kernel) (hi_52_27 _ _ _ _ _) ?_
                          refine zw_iload_n 6 f122_5 rfl rfl ?_
                          refine zw_ireturn f122_6 r122 u122 ⟨_, rfl, ?_⟩
                          refine zw_goto 305 f184_296 (by decide +kernel) ?_
                          refine zw_ireturn f184_305 r184 u184 ?_
                          exact ⟨_, _, _, _, rfl, (KQ.i rfl KQ.rf), ⟨hi.1, hi.2.1, t, by omega, et⟩, by rw [show an_forge nv P a b c = (P 54 (mMod c 8).toNatClampNeg) from ((cI_y ⟨⟨hc1, hc2⟩, ⟨hc3, hc4⟩, ⟨hc5, hc6⟩⟩).trans ((cI_n (kne (show a = 4 from hs7e) (by decide))).trans ((cI_n (kne (show a = 4 from hs7e) (by decide))).trans ((cI_n (kne (show a = 4 from hs7e) (by decide))).trans ((cI_n (kne (show a = 4 from hs7e) (by decide))).trans ((cI_y (show a = 4 from hs7e)).trans ((cI_y (qV.of (by omega) hc22 hc23)).trans (cI_y (Or.inr (Decidable.of_not_not hc25))))))))))]⟩
                · refine zw_table_k 259 306 f184_47 hs7e (by decide +kernel) (by decide +kernel) (by decide +kernel) ?_
                  refine zw_iload_n 307 f184_306 rfl (zl1_ne rfl rfl rfl) ?_
                  refine zw_if_ne 310 319 f184_307 (by decide +kernel) rfl (fun hc26 => ?_) (fun hc26 => ?_)
                  · refine zw_aload_n 320 f184_319 rfl (zl1_ne rfl rfl rfl) ?_
                    refine zw_sipush 1000 323 f184_320 rfl (by decide +kernel) ?_
                    refine zw_iload_n 324 f184_323 rfl (zl1_ne rfl rfl rfl) ?_
                    refine zw_idiv (1000 / b) 325 f184_324 rfl hc26 rfl ?_
                    refine zw_virtual_i 328 0 0 [.ref 52, .int (1000 / b)] [(0, .ref 52), (1, .int (1000 / b))] f184_325 rfl n184_205 k184_205_12 rfl (hb_52 _ _ _ _) (by decide +kernel) (Nat.le_of_ble_eq_true rfl) rfl rfl (by decide +kernel) (by decide +kernel) rfl (Nat.le_of_ble_eq_true rfl) rfl ?_
                    refine zw_aload_n 1 f122_0 rfl rfl ?_
                    refine zw_iconst 0 2 f122_1 rfl (by decide +kernel) ?_
                    refine zw_put _ 5 f122_2 rfl g122_111_12 (hb_52 _ _ _ _) rfl (Nat.le_of_ble_eq_true rfl) (by decide +kernel) (hi_52_27 _ _ _ _ _) ?_
                    refine zw_iload_n 6 f122_5 rfl rfl ?_
                    refine zw_ireturn f122_6 r122 u122 ⟨_, rfl, ?_⟩
                    refine zw_ireturn f184_328 r184 u184 ?_
                    exact ⟨_, _, _, _, rfl, (KQ.i rfl KQ.rf), ⟨hi.1, hi.2.1, t, by omega, et⟩, by rw [show an_forge nv P a b c = (1000 / b) from ((cI_y ⟨⟨hc1, hc2⟩, ⟨hc3, hc4⟩, ⟨hc5, hc6⟩⟩).trans ((cI_n (kne (show a = 5 from hs7e) (by decide))).trans ((cI_n (kne (show a = 5 from hs7e) (by decide))).trans ((cI_n (kne (show a = 5 from hs7e) (by decide))).trans ((cI_n (kne (show a = 5 from hs7e) (by decide))).trans ((cI_n (kne (show a = 5 from hs7e) (by decide))).trans ((cI_y (show a = 5 from hs7e)).trans (cI_n hc26))))))))]⟩
                  · refine zw_aload_n 311 f184_310 rfl (zl1_ne rfl rfl rfl) ?_
                    refine zw_bipush 15 313 f184_311 rfl (by decide +kernel) ?_
                    refine zw_virtual_i 316 0 0 [.ref 52, .int 15] [(0, .ref 52), (1, .int 15)] f184_313 rfl n184_209 k184_209_12 rfl (hb_52 _ _ _ _) (by decide +kernel) (Nat.le_of_ble_eq_true rfl) rfl rfl (by decide +kernel) (by decide +kernel) rfl (Nat.le_of_ble_eq_true rfl) rfl ?_
                    refine zw_aload_n 1 f121_0 rfl rfl ?_
                    refine zw_iload_n 2 f121_1 rfl rfl ?_
                    refine zw_put _ 5 f121_2 rfl g121_111_12 (hb_52 _ _ _ _) rfl (Nat.le_of_ble_eq_true rfl) (by decide +kernel) (hi_52_27 _ _ _ _ _) ?_
                    refine zw_iconst (-1) 6 f121_5 rfl (by decide +kernel) ?_
                    refine zw_ireturn f121_6 r121 u121 ⟨_, rfl, ?_⟩
                    refine zw_goto 328 f184_316 (by decide +kernel) ?_
                    refine zw_ireturn f184_328 r184 u184 ?_
                    exact ⟨_, _, _, _, rfl, (KQ.i rfl KQ.rf), ⟨hi.1, hi.2.1, t, by omega, et⟩, by rw [show an_forge nv P a b c = (-1) from ((cI_y ⟨⟨hc1, hc2⟩, ⟨hc3, hc4⟩, ⟨hc5, hc6⟩⟩).trans ((cI_n (kne (show a = 5 from hs7e) (by decide))).trans ((cI_n (kne (show a = 5 from hs7e) (by decide))).trans ((cI_n (kne (show a = 5 from hs7e) (by decide))).trans ((cI_n (kne (show a = 5 from hs7e) (by decide))).trans ((cI_n (kne (show a = 5 from hs7e) (by decide))).trans ((cI_y (show a = 5 from hs7e)).trans (cI_y (Decidable.of_not_not hc26)))))))))]⟩
set_option maxHeartbeats 0 in
theorem pairX_forgex (ro : UInt32 → Nat × (Nat → Int32)) (k : Nat) (I : Nat → Nat → Int32) (G : Nat → Nat → Int64) (A : Nat → Nat → Int32) (B : Nat → Nat → Int64) (h : zCx k I G A B) (hk : k < 512) (hro : (ro 1).1 = 5 ∧ (ro 1).2 = zka) (a : Int32) (b : Int32) (c : Int32) : zWp ro 103 0 [(0, .ref 0), (1, .int a), (2, .int b), (3, .int c)] [] (hS I G A B) 0 0 (zPX ro 184 [(0, .ref 52), (1, .int a), (2, .int b), (3, .int c)] k (fun v w => v = w)) := by
  obtain ⟨nv, np, W, L, F, R, ow, kd, lw, lg⟩ := h
  have fn := F.2.2.2.2.2
  refine zWp.mono (cq_forge ro nv np A W L (242600 * k) I G A B R F.2.1 ow F.2.2.1 kd lg (by omega) hro a b c) ?_
  rintro r h1 ⟨I1, G1, A1, B1, rfl, K1, rfl⟩
  have F1 := F.kq K1 fAc_52 pAc_52
  have e1 : PE A A1 := fun k _ _ => (K1.2.2.1 k (pAc_52 k (by omega))).symm
  have R1 := R.k K1 ⟨rfl, rfl⟩ (fun j h1 h2 => by simp only [fAc, decide_eq_false_iff_not]; omega) (fun k h1 h2 => by simp only [pAc, decide_eq_false_iff_not]; omega)
  have g1 := lg.k K1 rfl rfl rfl rfl rfl
  refine ⟨_, rfl, zWp.mono (mx_forge ro nv np A W L I1 G1 A1 B1 (242600 * k) ⟨F1.1.1, e1.sy, F1.1.2.2⟩ F.2.1 F.2.2.1 (by omega) F1.2.2.2.1 F1.2.2.2.2.1 a b c) ?_⟩
  rintro r2 h2 ⟨I2, G2, A2, B2, rfl, K2, id2, rfl⟩
  have R2 := F1.1.k K2 fQu_R pQu_R
  refine ⟨_, rfl, ?_, rfl⟩
  exact zCx.mk (zRf.of R2 F1.2.1 F1.2.2.1 F1.2.2.2.1 id2 fn) (by omega) (by omega) R1 (e1.tr R2.2.1.sy) K2 fQu_c pQu_c ow kd lw g1
theorem pair2_forgex (ro : UInt32 → Nat × (Nat → Int32)) (k : Nat) (I : Nat → Nat → Int32) (G : Nat → Nat → Int64) (A : Nat → Nat → Int32) (B : Nat → Nat → Int64) (h : zL2 k I G A B) (hk : k < 512) (hro : (ro 1).1 = 5 ∧ (ro 1).2 = zka) (a : Int32) (b : Int32) (c : Int32) : zWp ro 103 0 [(0, .ref 0), (1, .int a), (2, .int b), (3, .int c)] [] (hS I G A B) 0 0 (zP2 ro 184 [(0, .ref 52), (1, .int a), (2, .int b), (3, .int c)] k (fun v w => v = w)) := by
  obtain ⟨h1, I3, G3, A3, B3, eh, hx⟩ := h
  have p1 := pair_forge ro k I G A B h1 hk hro a b c
  have p2 := pairX_forgex ro k I3 G3 A3 B3 hx hk hro a b c
  rw [← eh] at p2
  exact zP_and p1 p2
