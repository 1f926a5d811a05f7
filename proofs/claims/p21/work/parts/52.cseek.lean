/-! ===== the class's next change is the reference's ===== -/
def fCo (b k j : Nat) : Bool := decide (k = b ∧ (j = 8 ∨ j = 9))
def fCs (b k j : Nat) : Bool := decide (k = b ∧ (6 ≤ j ∧ j ≤ 9))
def cNx (g : Int64) (s : Int32 × Int64 × Int64) (gap speed : Int64) : Prop := (s.1 = 1 ∧ speed = 0) ∨ (s.1 = 0 ∧ gap = s.2.1 ∧ s.2.2 = g * speed ∧ (1 ≤ speed.toInt ∧ speed.toInt ≤ 71400) ∧ 0 < gap.toInt ∧ gap.toInt ≤ 200 * g.toInt)
section ZNX
variable {g way gap speed : Int64} {s : Int32 × Int64 × Int64} {sp : Int32}
theorem cNx.new (hw0 : 0 < way) (hw : way.toInt ≤ 200 * g.toInt) (hs : 0 < sp.toInt ∧ sp.toInt ≤ 71400) : cNx g (0, way, g * Int32.toInt64 sp) way (Int32.toInt64 sp) := by
  rw [i64_lt, i64_0] at hw0
  exact Or.inr ⟨rfl, rfl, rfl, by rw [Int32.toInt_toInt64]; omega, hw0, hw⟩
theorem cNx_sp (hs : 0 < sp.toInt ∧ sp.toInt ≤ 71400) : 0 < sp := by rw [i32_lt, i32_0]; exact hs.1
theorem cNx_r (h : cNx g s gap speed) (h0 : speed = 0) : ¬ s.1 = 0 := by
  rcases h with ⟨a, -⟩ | ⟨-, -, -, b, -⟩
  · rw [a]; decide
  · rw [h0, i64_0] at b; omega
theorem cNx_n (h : cNx g s gap speed) (h0 : ¬ speed = 0) : s.1 = 0 := by
  rcases h with ⟨-, a⟩ | ⟨a, -⟩
  · exact absurd a h0
  · exact a
theorem cNx_lt (hg : 1 ≤ g.toInt ∧ g.toInt ≤ 10000) (h : cNx g s gap speed) (h0 : ¬ speed = 0) (hw0 : 0 < way) (hw : way.toInt ≤ 200 * g.toInt) (hs : 0 < sp.toInt ∧ sp.toInt ≤ 71400) : (way * speed < gap * Int32.toInt64 sp ↔ way * s.2.2 < s.2.1 * (g * Int32.toInt64 sp)) := by
  rcases h with ⟨-, a⟩ | ⟨a, b, c, d, e, f⟩
  · exact absurd a h0
  rw [i64_lt, i64_0] at hw0
  have t := Int32.toInt_toInt64 sp
  have m1 := mul_bd (a := way.toInt) (b := speed.toInt) (A := 2000000) (B := 71400) (by omega) (by omega) (by omega) d.2
  have m2 := mul_bd (a := gap.toInt) (b := sp.toInt) (A := 2000000) (B := 71400) (by omega) (by omega) (by omega) hs.2
  have g1 := mul_bd (a := g.toInt) (b := speed.toInt) (A := 10000) (B := 71400) (by omega) hg.2 (by omega) d.2
  have g2 := mul_bd (a := g.toInt) (b := sp.toInt) (A := 10000) (B := 71400) (by omega) hg.2 (by omega) hs.2
  have e1 : (way * speed).toInt = way.toInt * speed.toInt := i64_mul (by omega) (by omega)
  have e2 : (gap * Int32.toInt64 sp).toInt = gap.toInt * sp.toInt := by rw [i64_mul, t] <;> rw [t] <;> omega
  have e3 : (g * speed).toInt = g.toInt * speed.toInt := i64_mul (by omega) (by omega)
  have e4 : (g * Int32.toInt64 sp).toInt = g.toInt * sp.toInt := by rw [i64_mul, t] <;> rw [t] <;> omega
  have n1 := mul_bd (a := way.toInt) (b := g.toInt * speed.toInt) (A := 2000000) (B := 714000000) (by omega) (by omega) (by omega) (by omega)
  have n2 := mul_bd (a := gap.toInt) (b := g.toInt * sp.toInt) (A := 2000000) (B := 714000000) (by omega) (by omega) (by omega) (by omega)
  have e5 : (way * (g * speed)).toInt = way.toInt * (g.toInt * speed.toInt) := by rw [i64_mul, e3] <;> rw [e3] <;> omega
  have e6 : (gap * (g * Int32.toInt64 sp)).toInt = gap.toInt * (g.toInt * sp.toInt) := by rw [i64_mul, e4] <;> rw [e4] <;> omega
  rw [← b, c, i64_lt, i64_lt, e1, e2, e5, e6]
  have x1 : way.toInt * (g.toInt * speed.toInt) = g.toInt * (way.toInt * speed.toInt) := by ac_rfl
  have x2 : gap.toInt * (g.toInt * sp.toInt) = g.toInt * (gap.toInt * sp.toInt) := by ac_rfl
  rw [x1, x2]
  exact ⟨fun z => Int.mul_lt_mul_of_pos_left z (by omega), fun z => Int.lt_of_mul_lt_mul_left z (by omega)⟩
end ZNX
section ZS1
variable {kind brim high low own opn siph ch : Nat → Int32} {lev : Nat → Int64} {g : Int64} {v : Nat} {s : Int32 × Int64 × Int64}
theorem ng_p (h : 0 < ch v) (hb : -280 ≤ (ch v).toInt) : ¬ 0 < -ch v := by
  rw [i32_lt, i32_0] at h
  rw [i32_lt, i32_0, i32_neg (by omega)]; omega
theorem mS1_r (h : 0 < ch v) (hb : -280 ≤ (ch v).toInt) : mS1 brim ch lev g v s = mayF g s (Int32.toInt64 (brim v) * g - lev v) (ch v) := mayF_b (ng_p h hb)
theorem mS1_f (h : ¬ 0 < ch v) : mS1 brim ch lev g v s = mayF g s (lev v) (-ch v) := by
  unfold mS1
  rw [mayF_b h]
theorem mS2_nn (h : ¬ 0 < ch v) : mS2 kind high siph ch lev g v s = s := by
  unfold mS2
  split
  · exact mayF_b h
  · rfl
theorem mS3_zz (h : ch v = 0) : mS3 kind high low own opn ch lev g v s = s := by
  unfold mS3
  rw [h]
  split
  · split
    · exact mayF_b (by decide)
    · exact mayF_b (by decide)
  · rfl
end ZS1
theorem way_b {x : Int32} {g l : Int64} {b : Int} (hg : 1 ≤ g.toInt ∧ g.toInt ≤ 10000) (hx : 0 ≤ x.toInt ∧ x.toInt ≤ 200) (hl : 0 ≤ l.toInt ∧ l.toInt ≤ 2000000) : (Int32.toInt64 x * g - l).toInt ≤ 200 * g.toInt ∧ (l - Int32.toInt64 x * g).toInt ≤ l.toInt := by
  have m := mBrim hx hg
  constructor
  · have e : (Int32.toInt64 x * g - l).toInt = x.toInt * g.toInt - l.toInt := by rw [i64_sub, m.1] <;> rw [m.1] <;> omega
    rw [e]; omega
  · have e : (l - Int32.toInt64 x * g).toInt = l.toInt - x.toInt * g.toInt := by rw [i64_sub, m.1] <;> rw [m.1] <;> omega
    rw [e]; omega
theorem fCr_s (b : Nat) : ∀ k j, fCs b k j = false → fCr b k j = false := by
  intro k j h
  simp only [fCs, fCr, decide_eq_false_iff_not] at h ⊢
  omega
theorem fCo_s (b : Nat) : ∀ k j, fCs b k j = false → fCo b k j = false := by
  intro k j h
  simp only [fCs, fCo, decide_eq_false_iff_not] at h ⊢
  omega
theorem fCs_w (b : Nat) : ∀ j, j ≤ 6 → ¬ j = 4 → fCs b (b + 1) j = false := by
  intro j h1 h2
  simp only [fCs, decide_eq_false_iff_not]
  omega
set_option maxRecDepth 100000 in
set_option maxHeartbeats 0 in
theorem cx_offer_11 (ro : UInt32 → Nat × (Nat → Int32)) (I : Nat → Nat → Int32) (G : Nat → Nat → Int64) (A : Nat → Nat → Int32) (B : Nat → Nat → Int64) (g way : Int64) (sp : Int32) (s : Int32 × Int64 × Int64) (hg : 1 ≤ g.toInt ∧ g.toInt ≤ 10000) (hw : way.toInt ≤ 200 * g.toInt) (hs : 0 < sp.toInt ∧ sp.toInt ≤ 71400) (hn : cNx g s (G 11 8) (G 11 9)) : zWp ro 57 0 [(0, .ref 11), (1, .long way), (3, .long (Int32.toInt64 sp))] [] (hS I G A B) 0 0 (fun r h1 => ∃ G2, h1 = hS I G2 A B ∧ KQ (fCo 11) p0 I G A B I G2 A B ∧ cNx g (mayF g s way sp) (G2 11 8) (G2 11 9) ∧ r = none) := by
  refine zw_lload_n 1 f57_0 rfl rfl ?_
  refine zw_lconst 0 2 f57_1 rfl (by decide +kernel) ?_
  refine zw_lcmp (lg_cmp way 0) 3 f57_2 rfl rfl ?_
  refine zw_if_le 6 41 f57_3 (by decide +kernel) rfl (fun hc1 => ?_) (fun hc1 => ?_)
  · refine zw_vreturn f57_41 r57 u57 ?_
    refine ⟨_, rfl, KQ.rf, ?_, rfl⟩
    rw [show mayF g s way sp = _ from mayF_a (Int64.not_lt.mpr ((lg_cmp_le _ _).mp hc1))]
    exact hn
  · refine zw_aload_n 7 f57_6 rfl rfl ?_
    refine zw_getG (G 11 9) 10 f57_7 rfl g57_119_10 (hb_11 _ _ _ _) rfl rfl ?_
    refine zw_lconst 0 11 f57_10 rfl (by decide +kernel) ?_
    refine zw_lcmp (lg_cmp (G 11 9) 0) 12 f57_11 rfl rfl ?_
    refine zw_if_eq 15 31 f57_12 (by decide +kernel) rfl (fun hc2 => ?_) (fun hc2 => ?_)
    · refine zw_aload_n 32 f57_31 rfl rfl ?_
      refine zw_lload_n 33 f57_32 rfl rfl ?_
      refine zw_put _ 36 f57_33 rfl g57_116_10 (hb_11 _ _ _ _) rfl (Nat.le_of_ble_eq_true rfl) (by decide +kernel) (hg_11_8 _ _ _ _ _) ?_
      refine zw_aload_n 37 f57_36 rfl rfl ?_
      refine zw_lload_n 38 f57_37 rfl rfl ?_
      refine zw_put _ 41 f57_38 rfl g57_119_10 (hb_11 _ _ _ _) rfl (Nat.le_of_ble_eq_true rfl) (by decide +kernel) (hg_11_9 _ _ _ _ _) ?_
      refine zw_vreturn f57_41 r57 u57 ?_
      refine ⟨_, rfl, (KQ.g rfl (KQ.g rfl KQ.rf)), ?_, rfl⟩
      rw [show mayF g s way sp = _ from mayF_d (Int64.not_le.mp (fun q => hc1 ((lg_cmp_le _ _).mpr q))) (cNx_sp hs) (cNx_r hn ((lg_cmp_eq _ _).mp hc2))]
      exact cNx.new (Int64.not_le.mp (fun q => hc1 ((lg_cmp_le _ _).mpr q))) hw hs
    · refine zw_lload_n 16 f57_15 rfl rfl ?_
      refine zw_aload_n 17 f57_16 rfl rfl ?_
      refine zw_getG (G 11 9) 20 f57_17 rfl g57_119_10 (hb_11 _ _ _ _) rfl rfl ?_
      refine zw_lmul (way * (G 11 9)) 21 f57_20 rfl rfl ?_
      refine zw_aload_n 22 f57_21 rfl rfl ?_
      refine zw_getG (G 11 8) 25 f57_22 rfl g57_116_10 (hb_11 _ _ _ _) rfl rfl ?_
      refine zw_lload_n 26 f57_25 rfl rfl ?_
      refine zw_lmul ((G 11 8) * (Int32.toInt64 sp)) 27 f57_26 rfl rfl ?_
      refine zw_lcmp (lg_cmp (way * (G 11 9)) ((G 11 8) * (Int32.toInt64 sp))) 28 f57_27 rfl rfl ?_
      refine zw_if_ge 31 41 f57_28 (by decide +kernel) rfl (fun hc3 => ?_) (fun hc3 => ?_)
      · refine zw_vreturn f57_41 r57 u57 ?_
        refine ⟨_, rfl, KQ.rf, ?_, rfl⟩
        rw [show mayF g s way sp = _ from mayF_c (cNx_n hn (fun q => hc2 ((lg_cmp_eq _ _).mpr q))) (fun z => (Int64.not_lt.mpr ((lg_cmp_ge _ _).mp hc3)) ((cNx_lt hg hn (fun q => hc2 ((lg_cmp_eq _ _).mpr q)) (Int64.not_le.mp (fun q => hc1 ((lg_cmp_le _ _).mpr q))) hw hs).mpr z))]
        exact hn
      · refine zw_aload_n 32 f57_31 rfl rfl ?_
        refine zw_lload_n 33 f57_32 rfl rfl ?_
        refine zw_put _ 36 f57_33 rfl g57_116_10 (hb_11 _ _ _ _) rfl (Nat.le_of_ble_eq_true rfl) (by decide +kernel) (hg_11_8 _ _ _ _ _) ?_
        refine zw_aload_n 37 f57_36 rfl rfl ?_
        refine zw_lload_n 38 f57_37 rfl rfl ?_
        refine zw_put _ 41 f57_38 rfl g57_119_10 (hb_11 _ _ _ _) rfl (Nat.le_of_ble_eq_true rfl) (by decide +kernel) (hg_11_9 _ _ _ _ _) ?_
        refine zw_vreturn f57_41 r57 u57 ?_
        refine ⟨_, rfl, (KQ.g rfl (KQ.g rfl KQ.rf)), ?_, rfl⟩
        rw [show mayF g s way sp = _ from mayF_e (Int64.not_le.mp (fun q => hc1 ((lg_cmp_le _ _).mpr q))) (cNx_sp hs) ((cNx_lt hg hn (fun q => hc2 ((lg_cmp_eq _ _).mpr q)) (Int64.not_le.mp (fun q => hc1 ((lg_cmp_le _ _).mpr q))) hw hs).mp (Int64.not_le.mp (fun q => hc3 ((lg_cmp_ge _ _).mpr q))))]
        exact cNx.new (Int64.not_le.mp (fun q => hc1 ((lg_cmp_le _ _).mpr q))) hw hs
set_option maxRecDepth 100000 in
set_option maxHeartbeats 0 in
theorem lcx_sn11 (ro : UInt32 → Nat × (Nat → Int32)) (nv np : Nat) (P : Nat → Nat → Int32) (W : qW) (T K : Int) (I : Nat → Nat → Int32) (G : Nat → Nat → Int64) (A : Nat → Nat → Int32) (B : Nat → Nat → Int64) (hR : cRS 11 nv np P W I G A B) (hp : MPa nv np P) (hb : wBo W) (hq : qOw nv np P) (hW : wOk nv T K P W) : ∀ (n k : Nat) (ls : List (Nat × Value)) (I1 : Nat → Nat → Int32) (G1 : Nat → Nat → Int64) (A1 : Nat → Nat → Int32) (B1 : Nat → Nat → Int64), KQ (fCs 11) (pCr 11) I G A B I1 G1 A1 B1 → (cRel 11 I1 A1 (wR2 nv np P W) nv ∧ I1 11 6 = wSr nv np P W) → cNx W.1 (mSk (P 53) (P 54) (P 55) (P 56) (P 57) W.2.2.2.2.2.2.1 W.2.2.2.2.2.1 (wCh nv np P W) W.2.2.2.2.1 W.1 (1, 0, 0) k) (G1 11 8) (G1 11 9) → zld ls 0 = some (.ref 11) → zld ls 1 = some (.int (nI k)) → k ≤ nv → nv + 1 ≤ k + n → zWp ro 53 16 ls [] (hS I1 G1 A1 B1) 0 0 (fun r h1 => ∃ I2 G2 A2 B2, h1 = hS I2 G2 A2 B2 ∧ KQ (fCs 11) (pCr 11) I G A B I2 G2 A2 B2 ∧ (cRel 11 I2 A2 (wR2 nv np P W) nv ∧ I2 11 6 = wSr nv np P W) ∧ cNx W.1 (wNx nv np P W) (G2 11 8) (G2 11 9) ∧ r = none) := by
  have h8 := hp.1
  have h14 := hp.2.1
  have hg : 1 ≤ W.1.toInt ∧ W.1.toInt ≤ 10000 := hW.1.1
  have bb := wR2_b hp W
  intro n
  induction n with
  | zero =>
    intro k ls I1 G1 A1 B1 _ _ _ _ _ a c
    exact absurd c (by omega)
  | succ n ih =>
    intro k ls I1 G1 A1 B1 K0 hr hN h0 h1 hk1 hk2
    refine zw_iload_n 17 f53_16 rfl h1 ?_
    refine zw_aload_n 18 f53_17 rfl h0 ?_
    refine zw_getfield 21 f53_18 rfl g53_37_10 (hb_11 _ _ _ _) rfl ?_
    refine zw_getI (nI nv) 24 f53_21 rfl g53_80_4 (hb_1 _ _ _ _) rfl ((K0.1 1 0 rfl).trans hR.1.1) ?_
    refine zw_ic_ge 27 64 f53_24 (by decide +kernel) rfl (fun hc1 => ?_) (fun hc1 => ?_)
    · have hn_hc1 : nv ≤ k := zn_ge (by omega) (by omega) hc1
      refine zw_vreturn f53_64 r53 u53 ?_
      have hk : k = nv := by omega
      subst hk
      exact ⟨_, _, _, _, rfl, K0, hr, hN, rfl⟩
    · have hn_hc1 : k < nv := zn_lt (by omega) (by omega) hc1
      have ck := bb.2.2.1 k (by omega)
      obtain ⟨pk1, pk2, pk3, -⟩ := hp.2.2.1 k (by omega)
      have lk : 0 ≤ (W.2.2.2.2.1 k).toInt ∧ (W.2.2.2.2.1 k).toInt ≤ 200 * W.1.toInt := ⟨(hW.1.2.1 k (by omega)).1, Int.le_trans (hW.1.2.1 k (by omega)).2 (mBrim (a := P 54 k) (g := W.1) ⟨by omega, pk1.2⟩ hg).2.2⟩
      unfold mChOk at ck
      refine zw_aload_n 28 f53_27 rfl h0 ?_
      refine zw_getfield 31 f53_28 rfl g53_22_10 (hb_11 _ _ _ _) rfl ?_
      refine zw_iload_n 32 f53_31 rfl h1 ?_
      refine zw_iaload k ((wCh nv np P W) k) 33 f53_32 rfl (hb_17 _ _ _ _) (nI_clamp (by omega)) (nI_pos (by omega)) (by omega) (hr.1.2.2.1 k (by omega)) ?_
      refine zw_if_le 36 44 f53_33 (by decide +kernel) rfl (fun hc2 => ?_) (fun hc2 => ?_)
      · refine zw_aload_n 45 f53_44 rfl h0 ?_
        refine zw_getfield 48 f53_45 rfl g53_22_10 (hb_11 _ _ _ _) rfl ?_
        refine zw_iload_n 49 f53_48 rfl h1 ?_
        refine zw_iaload k ((wCh nv np P W) k) 50 f53_49 rfl (hb_17 _ _ _ _) (nI_clamp (by omega)) (nI_pos (by omega)) (by omega) (hr.1.2.2.1 k (by omega)) ?_
        refine zw_if_ge 53 58 f53_50 (by decide +kernel) rfl (fun hc3 => ?_) (fun hc3 => ?_)
        · refine zw_iinc (nI (k + 1)) _ 61 f53_58 rfl h1 (by decide +kernel) (nI_1 _) rfl ?_
          refine zw_goto 16 f53_61 (by decide +kernel) ?_
          have c0 : ((wCh nv np P W) k) = 0 := Int32.toInt_inj.mp (by have q1 := (Int32.not_lt.mpr hc2); have q2 := (Int32.not_lt.mpr hc3); rw [i32_lt, i32_0] at q1 q2; rw [i32_0]; omega)
          have E : cNx W.1 (mSk (P 53) (P 54) (P 55) (P 56) (P 57) W.2.2.2.2.2.2.1 W.2.2.2.2.2.1 (wCh nv np P W) W.2.2.2.2.1 W.1 (1, 0, 0) (k + 1)) (G1 11 8) (G1 11 9) := by
            rw [mSk_s, mS1_f (by rw [c0]; decide), mS2_nn (by rw [c0]; decide), mS3_zz c0, mayF_b (by rw [c0]; decide)]
            exact hN
          exact ih (k + 1) _ _ _ _ _ K0 ⟨hr.1, hr.2⟩ E (zl1_ne rfl rfl h0) zl1_eq (by omega) (by omega)
        · have cn : ((wCh nv np P W) k).toInt < 0 := by have q := (Int32.not_le.mp hc3); rw [i32_lt, i32_0] at q; exact q
          refine zw_aload_n 54 f53_53 rfl h0 ?_
          refine zw_iload_n 55 f53_54 rfl h1 ?_
          refine zw_virtual_v 58 0 0 [.ref 11, .int (nI k)] [(0, .ref 11), (1, .int (nI k))] f53_55 rfl n53_125 k53_125_10 rfl (hb_11 _ _ _ _) (by decide +kernel) (Nat.le_of_ble_eq_true rfl) rfl rfl (by decide +kernel) (by decide +kernel) rfl (Nat.le_of_ble_eq_true rfl) rfl ?_
          refine zw_aload_n 1 f55_0 rfl rfl ?_
          refine zw_aload_n 2 f55_1 rfl rfl ?_
          refine zw_getfield 5 f55_2 rfl g55_12_10 (hb_11 _ _ _ _) rfl ?_
          refine zw_getfield 8 f55_5 rfl g55_87_9 (hb_12 _ _ _ _) rfl ?_
          refine zw_iload_n 9 f55_8 rfl rfl ?_
          refine zw_laload k ((W.2.2.2.2.1) k) 10 f55_9 rfl (hb_13 _ _ _ _) (nI_clamp (by omega)) (nI_pos (by omega)) (by omega) (congrFun (((K0.2.2.2 13 rfl).trans hR.2.2.2.1)) k) ?_
          refine zw_aload_n 11 f55_10 rfl rfl ?_
          refine zw_getfield 14 f55_11 rfl g55_22_10 (hb_11 _ _ _ _) rfl ?_
          refine zw_iload_n 15 f55_14 rfl rfl ?_
          refine zw_iaload k ((wCh nv np P W) k) 16 f55_15 rfl (hb_17 _ _ _ _) (nI_clamp (by omega)) (nI_pos (by omega)) (by omega) (hr.1.2.2.1 k (by omega)) ?_
          refine zw_ineg (-((wCh nv np P W) k)) 17 f55_16 rfl rfl ?_
          refine zw_i2l (Int32.toInt64 (-((wCh nv np P W) k))) 18 f55_17 rfl rfl ?_
          refine zw_virtual_v 21 0 0 [.ref 11, .long ((W.2.2.2.2.1) k), .long (Int32.toInt64 (-((wCh nv np P W) k)))] [(0, .ref 11), (1, .long ((W.2.2.2.2.1) k)), (3, .long (Int32.toInt64 (-((wCh nv np P W) k))))] f55_18 rfl n55_128 k55_128_10 rfl (hb_11 _ _ _ _) (by decide +kernel) (Nat.le_of_ble_eq_true rfl) rfl rfl (by decide +kernel) (by decide +kernel) rfl (Nat.le_of_ble_eq_true rfl) rfl ?_
          refine zWp.mono (cx_offer_11 ro _ _ _ _ W.1 ((W.2.2.2.2.1) k) (-((wCh nv np P W) k)) (mSk (P 53) (P 54) (P 55) (P 56) (P 57) W.2.2.2.2.2.2.1 W.2.2.2.2.2.1 (wCh nv np P W) W.2.2.2.2.1 W.1 (1, 0, 0) k) hg (by have := lk; omega) (by rw [i32_neg (by omega)]; omega) hN) ?_
          rintro r h1 ⟨G_4, rfl, K_4, N_4, rfl⟩
          refine ⟨rfl, ?_⟩
          refine zw_aload_n 22 f55_21 rfl rfl ?_
          refine zw_iload_n 23 f55_22 rfl rfl ?_
          refine zw_iconst 0 24 f55_23 rfl (by decide +kernel) ?_
          refine zw_virtual_i 27 0 0 [.ref 11, .int (nI k), .int 0] [(0, .ref 11), (1, .int (nI k)), (2, .int 0)] f55_24 rfl n55_135 k55_135_10 rfl (hb_11 _ _ _ _) (by decide +kernel) (Nat.le_of_ble_eq_true rfl) rfl rfl (by decide +kernel) (by decide +kernel) rfl (Nat.le_of_ble_eq_true rfl) rfl ?_
          refine zw_aload_n 1 f56_0 rfl rfl ?_
          refine zw_getfield 4 f56_1 rfl g56_37_10 (hb_11 _ _ _ _) rfl ?_
          refine zw_iload_n 5 f56_4 rfl rfl ?_
          refine zw_virtual_i 8 0 0 [.ref 1, .int (nI k)] [(0, .ref 1), (1, .int (nI k))] f56_5 rfl n56_145 k56_145_4 rfl (hb_1 _ _ _ _) (by decide +kernel) (Nat.le_of_ble_eq_true rfl) rfl rfl (by decide +kernel) (by decide +kernel) rfl (Nat.le_of_ble_eq_true rfl) rfl ?_
          refine zw_iload_n 1 f17_0 rfl rfl ?_
          refine zw_if_lt_f 4 22 f17_1 (by decide +kernel) rfl (nI_pos (by omega)) ?_
          refine zw_iload_n 5 f17_4 rfl rfl ?_
          refine zw_aload_n 6 f17_5 rfl rfl ?_
          refine zw_getI (nI nv) 9 f17_6 rfl g17_39_4 (hb_1 _ _ _ _) rfl ((K_4.1 1 0 rfl).trans ((K0.1 1 0 rfl).trans hR.1.1)) ?_
          refine zw_ic_ge_f 12 22 f17_9 (by decide +kernel) rfl hc1 ?_
          refine zw_iload_n 13 f17_12 rfl rfl ?_
          refine zw_bipush 8 15 f17_13 rfl (by decide +kernel) ?_
          refine zw_ic_ge_f 18 22 f17_15 (by decide +kernel) rfl (fun q => absurd (zn_ge (a := 8) (b := k) (by omega) (by omega) q) (by omega)) ?_
          refine zw_iconst 1 19 f17_18 rfl (by decide +kernel) ?_
          refine zw_goto 23 f17_19 (by decide +kernel) ?_
          refine zw_istore_n _ 24 f17_23 rfl (by decide +kernel) rfl ?_
          refine zw_iload_n 25 f17_24 rfl zl1_eq ?_
          refine zw_if_eq_f 28 52 f17_25 (by decide +kernel) rfl (by decide +kernel) ?_
          refine zw_aload_n 29 f17_28 rfl (zl1_ne rfl rfl rfl) ?_
          refine zw_getfield 32 f17_29 rfl g17_9_4 (hb_1 _ _ _ _) rfl ?_
          refine zw_iload_n 33 f17_32 rfl (zl1_ne rfl rfl rfl) ?_
          refine zw_iaload k (P 53 k) 34 f17_33 rfl (hb_2 _ _ _ _) (nI_clamp (by omega)) (nI_pos (by omega)) (by omega) (congrFun (((K_4.2.2.1 2 rfl).trans ((K0.2.2.1 2 rfl).trans (hR.2.1 53 (by omega) (by omega))))) k) ?_
          refine zw_iconst 3 35 f17_34 rfl (by decide +kernel) ?_
          refine zw_ic_eq 38 48 f17_35 (by decide +kernel) rfl (fun hc5 => ?_) (fun hc5 => ?_)
          · refine zw_iconst 1 49 f17_48 rfl (by decide +kernel) ?_
            refine zw_goto 53 f17_49 (by decide +kernel) ?_
            refine zw_zreturn f17_53 r17 u17 (by decide +kernel) ⟨_, rfl, ?_⟩
            refine zw_if_eq_f 11 23 f56_8 (by decide +kernel) rfl (by decide +kernel) ?_
            refine zw_aload_n 12 f56_11 rfl rfl ?_
            refine zw_getfield 15 f56_12 rfl g56_37_10 (hb_11 _ _ _ _) rfl ?_
            refine zw_getfield 18 f56_15 rfl g56_148_4 (hb_1 _ _ _ _) rfl ?_
            refine zw_iload_n 19 f56_18 rfl rfl ?_
            rcases (hp.2.2.1 k (by omega)).2.2.2.1 with t6q | ⟨t6, t6l, t6n, t6q⟩
            · refine zw_iaload k (-1) 20 f56_19 rfl (hb_6 _ _ _ _) (nI_clamp (by omega)) (nI_pos (by omega)) (by omega) ((congrFun ((K_4.2.2.1 6 rfl).trans ((K0.2.2.1 6 rfl).trans (hR.2.1 57 (by omega) (by omega)))) k).trans t6q) ?_
              refine zw_goto 24 f56_20 (by decide +kernel) ?_
              refine zw_istore_n _ 25 f56_24 rfl (by decide +kernel) rfl ?_
              refine zw_iload_n 26 f56_25 rfl zl1_eq ?_
              refine zw_iconst (-1) 27 f56_26 rfl (by decide +kernel) ?_
              refine zw_ic_eq_t 46 f56_27 (by decide +kernel) (by decide +kernel) ?_
              refine zw_iconst 0 47 f56_46 rfl (by decide +kernel) ?_
              refine zw_zreturn f56_47 r56 u56 (by decide +kernel) ⟨_, rfl, ?_⟩
              refine zw_if_eq_t 70 f55_27 (by decide +kernel) (by decide +kernel) ?_
              refine zw_vreturn f55_70 r55 u55 ⟨rfl, ?_⟩
              refine zw_iinc (nI (k + 1)) _ 61 f53_58 rfl h1 (by decide +kernel) (nI_1 _) rfl ?_
              refine zw_goto 16 f53_61 (by decide +kernel) ?_
              have E : cNx W.1 (mSk (P 53) (P 54) (P 55) (P 56) (P 57) W.2.2.2.2.2.2.1 W.2.2.2.2.2.1 (wCh nv np P W) W.2.2.2.2.1 W.1 (1, 0, 0) (k + 1)) (G_4 11 8) (G_4 11 9) := by
                rw [mSk_s, mS1_f (fun z => by rw [i32_lt, i32_0] at z; have q := (Int32.not_le.mp hc3); rw [i32_lt, i32_0] at q; omega), mS2_nn (fun z => by rw [i32_lt, i32_0] at z; have q := (Int32.not_le.mp hc3); rw [i32_lt, i32_0] at q; omega), mS3_b t6q]
                exact N_4
              exact ih (k + 1) _ _ _ _ _ (KQ.tr K0 (KQ.wk K_4 (fCo_s 11) p0_x)) ⟨hr.1, hr.2⟩ E (zl1_ne rfl rfl h0) zl1_eq (by omega) (by omega)
            · refine zw_iaload k (nI t6) 20 f56_19 rfl (hb_6 _ _ _ _) (nI_clamp (by omega)) (nI_pos (by omega)) (by omega) ((congrFun ((K_4.2.2.1 6 rfl).trans ((K0.2.2.1 6 rfl).trans (hR.2.1 57 (by omega) (by omega)))) k).trans t6q) ?_
              refine zw_goto 24 f56_20 (by decide +kernel) ?_
              refine zw_istore_n _ 25 f56_24 rfl (by decide +kernel) rfl ?_
              refine zw_iload_n 26 f56_25 rfl zl1_eq ?_
              refine zw_iconst (-1) 27 f56_26 rfl (by decide +kernel) ?_
              refine zw_ic_eq_f 30 46 f56_27 (by decide +kernel) rfl (nI_nem (by omega)) ?_
              refine zw_aload_n 31 f56_30 rfl (zl1_ne rfl rfl rfl) ?_
              refine zw_getfield 34 f56_31 rfl g56_12_10 (hb_11 _ _ _ _) rfl ?_
              refine zw_iload_n 35 f56_34 rfl zl1_eq ?_
              refine zw_virtual_i 38 0 0 [.ref 12, .int (nI t6)] [(0, .ref 12), (1, .int (nI t6))] f56_35 rfl n56_47 k56_47_9 rfl (hb_12 _ _ _ _) (by decide +kernel) (Nat.le_of_ble_eq_true rfl) rfl rfl (by decide +kernel) (by decide +kernel) rfl (Nat.le_of_ble_eq_true rfl) rfl ?_
              refine zWp.mono (cx_isOpen_11 ro nv np P W _ _ _ _ (hR.k (KQ.tr K0 (KQ.wk K_4 (fCo_s 11) p0_x)) ⟨rfl, rfl⟩ (fCs_w 11) (pCr_w 11 (by omega))) hp hb t6 (by omega)) ?_
              rintro r h1 ⟨rfl, rfl⟩
              refine ⟨_, rfl, ?_⟩
              refine zw_iload_n 39 f56_38 rfl (zl1_ne rfl rfl rfl) ?_
              refine zw_ic_ne 42 46 f56_39 (by decide +kernel) rfl (fun hc7 => ?_) (fun hc7 => ?_)
              · refine zw_iconst 0 47 f56_46 rfl (by decide +kernel) ?_
                refine zw_zreturn f56_47 r56 u56 (by decide +kernel) ⟨_, rfl, ?_⟩
                refine zw_if_eq_t 70 f55_27 (by decide +kernel) (by decide +kernel) ?_
                refine zw_vreturn f55_70 r55 u55 ⟨rfl, ?_⟩
                refine zw_iinc (nI (k + 1)) _ 61 f53_58 rfl h1 (by decide +kernel) (nI_1 _) rfl ?_
                refine zw_goto 16 f53_61 (by decide +kernel) ?_
                have E : cNx W.1 (mSk (P 53) (P 54) (P 55) (P 56) (P 57) W.2.2.2.2.2.2.1 W.2.2.2.2.2.1 (wCh nv np P W) W.2.2.2.2.1 W.1 (1, 0, 0) (k + 1)) (G_4 11 8) (G_4 11 9) := by
                  rw [mSk_s, mS1_f (fun z => by rw [i32_lt, i32_0] at z; have q := (Int32.not_le.mp hc3); rw [i32_lt, i32_0] at q; omega), mS2_nn (fun z => by rw [i32_lt, i32_0] at z; have q := (Int32.not_le.mp hc3); rw [i32_lt, i32_0] at q; omega), mS3_d (Or.inl hc5) t6q (by omega) hc7, mayF_b (fun z => by rw [i32_lt, i32_0] at z; have q := (Int32.not_le.mp hc3); rw [i32_lt, i32_0] at q; omega)]
                  exact N_4
                exact ih (k + 1) _ _ _ _ _ (KQ.tr K0 (KQ.wk K_4 (fCo_s 11) p0_x)) ⟨hr.1, hr.2⟩ E (zl1_ne rfl rfl h0) zl1_eq (by omega) (by omega)
              · refine zw_iconst 1 43 f56_42 rfl (by decide +kernel) ?_
                refine zw_goto 47 f56_43 (by decide +kernel) ?_
                refine zw_zreturn f56_47 r56 u56 (by decide +kernel) ⟨_, rfl, ?_⟩
                refine zw_if_eq_f 30 70 f55_27 (by decide +kernel) rfl (by decide +kernel) ?_
                refine zw_aload_n 31 f55_30 rfl rfl ?_
                refine zw_aload_n 32 f55_31 rfl rfl ?_
                refine zw_getfield 35 f55_32 rfl g55_12_10 (hb_11 _ _ _ _) rfl ?_
                refine zw_getfield 38 f55_35 rfl g55_87_9 (hb_12 _ _ _ _) rfl ?_
                refine zw_iload_n 39 f55_38 rfl rfl ?_
                refine zw_laload k ((W.2.2.2.2.1) k) 40 f55_39 rfl (hb_13 _ _ _ _) (nI_clamp (by omega)) (nI_pos (by omega)) (by omega) (congrFun (((K_4.2.2.2 13 rfl).trans ((K0.2.2.2 13 rfl).trans hR.2.2.2.1))) k) ?_
                refine zw_aload_n 41 f55_40 rfl rfl ?_
                refine zw_getfield 44 f55_41 rfl g55_37_10 (hb_11 _ _ _ _) rfl ?_
                refine zw_getfield 47 f55_44 rfl g55_142_4 (hb_1 _ _ _ _) rfl ?_
                refine zw_iload_n 48 f55_47 rfl rfl ?_
                refine zw_iaload k (P 56 k) 49 f55_48 rfl (hb_5 _ _ _ _) (nI_clamp (by omega)) (nI_pos (by omega)) (by omega) (congrFun (((K_4.2.2.1 5 rfl).trans ((K0.2.2.1 5 rfl).trans (hR.2.1 56 (by omega) (by omega))))) k) ?_
                refine zw_i2l (Int32.toInt64 (P 56 k)) 50 f55_49 rfl rfl ?_
                refine zw_aload_n 51 f55_50 rfl rfl ?_
                refine zw_getfield 54 f55_51 rfl g55_12_10 (hb_11 _ _ _ _) rfl ?_
                refine zw_getG W.1 57 f55_54 rfl g55_109_9 (hb_12 _ _ _ _) rfl ((K_4.2.1 12 0 rfl).trans ((K0.2.1 12 0 rfl).trans hR.2.2.1.1)) ?_
                refine zw_lmul ((Int32.toInt64 (P 56 k)) * W.1) 58 f55_57 rfl rfl ?_
                refine zw_lsub (((W.2.2.2.2.1) k) - ((Int32.toInt64 (P 56 k)) * W.1)) 59 f55_58 rfl rfl ?_
                refine zw_aload_n 60 f55_59 rfl rfl ?_
                refine zw_getfield 63 f55_60 rfl g55_22_10 (hb_11 _ _ _ _) rfl ?_
                refine zw_iload_n 64 f55_63 rfl rfl ?_
                refine zw_iaload k ((wCh nv np P W) k) 65 f55_64 rfl (hb_17 _ _ _ _) (nI_clamp (by omega)) (nI_pos (by omega)) (by omega) ((congrFun (K_4.2.2.1 17 rfl) k).trans (hr.1.2.2.1 k (by omega))) ?_
                refine zw_ineg (-((wCh nv np P W) k)) 66 f55_65 rfl rfl ?_
                refine zw_i2l (Int32.toInt64 (-((wCh nv np P W) k))) 67 f55_66 rfl rfl ?_
                refine zw_virtual_v 70 0 0 [.ref 11, .long (((W.2.2.2.2.1) k) - ((Int32.toInt64 (P 56 k)) * W.1)), .long (Int32.toInt64 (-((wCh nv np P W) k)))] [(0, .ref 11), (1, .long (((W.2.2.2.2.1) k) - ((Int32.toInt64 (P 56 k)) * W.1))), (3, .long (Int32.toInt64 (-((wCh nv np P W) k))))] f55_67 rfl n55_128 k55_128_10 rfl (hb_11 _ _ _ _) (by decide +kernel) (Nat.le_of_ble_eq_true rfl) rfl rfl (by decide +kernel) (by decide +kernel) rfl (Nat.le_of_ble_eq_true rfl) rfl ?_
                refine zWp.mono (cx_offer_11 ro _ _ _ _ W.1 (((W.2.2.2.2.1) k) - ((Int32.toInt64 (P 56 k)) * W.1)) (-((wCh nv np P W) k)) (mayF W.1 (mSk (P 53) (P 54) (P 55) (P 56) (P 57) W.2.2.2.2.2.2.1 W.2.2.2.2.2.1 (wCh nv np P W) W.2.2.2.2.1 W.1 (1, 0, 0) k) ((W.2.2.2.2.1) k) (-((wCh nv np P W) k))) hg (Int.le_trans (way_b (b := 0) (x := P 56 k) (l := W.2.2.2.2.1 k) hg (by omega) (by have := lk; omega)).2 (by have := lk; omega)) (by rw [i32_neg (by omega)]; omega) N_4) ?_
                rintro r h1 ⟨G_8, rfl, K_8, N_8, rfl⟩
                refine ⟨rfl, ?_⟩
                refine zw_vreturn f55_70 r55 u55 ⟨rfl, ?_⟩
                refine zw_iinc (nI (k + 1)) _ 61 f53_58 rfl h1 (by decide +kernel) (nI_1 _) rfl ?_
                refine zw_goto 16 f53_61 (by decide +kernel) ?_
                have E : cNx W.1 (mSk (P 53) (P 54) (P 55) (P 56) (P 57) W.2.2.2.2.2.2.1 W.2.2.2.2.2.1 (wCh nv np P W) W.2.2.2.2.1 W.1 (1, 0, 0) (k + 1)) (G_8 11 8) (G_8 11 9) := by
                  rw [mSk_s, mS1_f (fun z => by rw [i32_lt, i32_0] at z; have q := (Int32.not_le.mp hc3); rw [i32_lt, i32_0] at q; omega), mS2_nn (fun z => by rw [i32_lt, i32_0] at z; have q := (Int32.not_le.mp hc3); rw [i32_lt, i32_0] at q; omega), mS3_c (Or.inl hc5) t6q (by omega) (Decidable.of_not_not hc7)]
                  exact N_8
                exact ih (k + 1) _ _ _ _ _ (KQ.tr (KQ.tr K0 (KQ.wk K_4 (fCo_s 11) p0_x)) (KQ.wk K_8 (fCo_s 11) p0_x)) ⟨hr.1, hr.2⟩ E (zl1_ne rfl rfl h0) zl1_eq (by omega) (by omega)
          · refine zw_aload_n 39 f17_38 rfl (zl1_ne rfl rfl rfl) ?_
            refine zw_getfield 42 f17_39 rfl g17_9_4 (hb_1 _ _ _ _) rfl ?_
            refine zw_iload_n 43 f17_42 rfl (zl1_ne rfl rfl rfl) ?_
            refine zw_iaload k (P 53 k) 44 f17_43 rfl (hb_2 _ _ _ _) (nI_clamp (by omega)) (nI_pos (by omega)) (by omega) (congrFun (((K_4.2.2.1 2 rfl).trans ((K0.2.2.1 2 rfl).trans (hR.2.1 53 (by omega) (by omega))))) k) ?_
            refine zw_iconst 4 45 f17_44 rfl (by decide +kernel) ?_
            refine zw_ic_ne 48 52 f17_45 (by decide +kernel) rfl (fun hc9 => ?_) (fun hc9 => ?_)
            · refine zw_iconst 0 53 f17_52 rfl (by decide +kernel) ?_
              refine zw_zreturn f17_53 r17 u17 (by decide +kernel) ⟨_, rfl, ?_⟩
              refine zw_if_eq_t 23 f56_8 (by decide +kernel) (by decide +kernel) ?_
              refine zw_iconst (-1) 24 f56_23 rfl (by decide +kernel) ?_
              refine zw_istore_n _ 25 f56_24 rfl (by decide +kernel) rfl ?_
              refine zw_iload_n 26 f56_25 rfl zl1_eq ?_
              refine zw_iconst (-1) 27 f56_26 rfl (by decide +kernel) ?_
              refine zw_ic_eq_t 46 f56_27 (by decide +kernel) (by decide +kernel) ?_
              refine zw_iconst 0 47 f56_46 rfl (by decide +kernel) ?_
              refine zw_zreturn f56_47 r56 u56 (by decide +kernel) ⟨_, rfl, ?_⟩
              refine zw_if_eq_t 70 f55_27 (by decide +kernel) (by decide +kernel) ?_
              refine zw_vreturn f55_70 r55 u55 ⟨rfl, ?_⟩
              refine zw_iinc (nI (k + 1)) _ 61 f53_58 rfl h1 (by decide +kernel) (nI_1 _) rfl ?_
              refine zw_goto 16 f53_61 (by decide +kernel) ?_
              have E : cNx W.1 (mSk (P 53) (P 54) (P 55) (P 56) (P 57) W.2.2.2.2.2.2.1 W.2.2.2.2.2.1 (wCh nv np P W) W.2.2.2.2.1 W.1 (1, 0, 0) (k + 1)) (G_4 11 8) (G_4 11 9) := by
                rw [mSk_s, mS1_f (fun z => by rw [i32_lt, i32_0] at z; have q := (Int32.not_le.mp hc3); rw [i32_lt, i32_0] at q; omega), mS2_nn (fun z => by rw [i32_lt, i32_0] at z; have q := (Int32.not_le.mp hc3); rw [i32_lt, i32_0] at q; omega), mS3_a hc5 hc9]
                exact N_4
              exact ih (k + 1) _ _ _ _ _ (KQ.tr K0 (KQ.wk K_4 (fCo_s 11) p0_x)) ⟨hr.1, hr.2⟩ E (zl1_ne rfl rfl h0) zl1_eq (by omega) (by omega)
            · refine zw_iconst 1 49 f17_48 rfl (by decide +kernel) ?_
              refine zw_goto 53 f17_49 (by decide +kernel) ?_
              refine zw_zreturn f17_53 r17 u17 (by decide +kernel) ⟨_, rfl, ?_⟩
              refine zw_if_eq_f 11 23 f56_8 (by decide +kernel) rfl (by decide +kernel) ?_
              refine zw_aload_n 12 f56_11 rfl rfl ?_
              refine zw_getfield 15 f56_12 rfl g56_37_10 (hb_11 _ _ _ _) rfl ?_
              refine zw_getfield 18 f56_15 rfl g56_148_4 (hb_1 _ _ _ _) rfl ?_
              refine zw_iload_n 19 f56_18 rfl rfl ?_
              rcases (hp.2.2.1 k (by omega)).2.2.2.1 with t10q | ⟨t10, t10l, t10n, t10q⟩
              · refine zw_iaload k (-1) 20 f56_19 rfl (hb_6 _ _ _ _) (nI_clamp (by omega)) (nI_pos (by omega)) (by omega) ((congrFun ((K_4.2.2.1 6 rfl).trans ((K0.2.2.1 6 rfl).trans (hR.2.1 57 (by omega) (by omega)))) k).trans t10q) ?_
                refine zw_goto 24 f56_20 (by decide +kernel) ?_
                refine zw_istore_n _ 25 f56_24 rfl (by decide +kernel) rfl ?_
                refine zw_iload_n 26 f56_25 rfl zl1_eq ?_
                refine zw_iconst (-1) 27 f56_26 rfl (by decide +kernel) ?_
                refine zw_ic_eq_t 46 f56_27 (by decide +kernel) (by decide +kernel) ?_
                refine zw_iconst 0 47 f56_46 rfl (by decide +kernel) ?_
                refine zw_zreturn f56_47 r56 u56 (by decide +kernel) ⟨_, rfl, ?_⟩
                refine zw_if_eq_t 70 f55_27 (by decide +kernel) (by decide +kernel) ?_
                refine zw_vreturn f55_70 r55 u55 ⟨rfl, ?_⟩
                refine zw_iinc (nI (k + 1)) _ 61 f53_58 rfl h1 (by decide +kernel) (nI_1 _) rfl ?_
                refine zw_goto 16 f53_61 (by decide +kernel) ?_
                have E : cNx W.1 (mSk (P 53) (P 54) (P 55) (P 56) (P 57) W.2.2.2.2.2.2.1 W.2.2.2.2.2.1 (wCh nv np P W) W.2.2.2.2.1 W.1 (1, 0, 0) (k + 1)) (G_4 11 8) (G_4 11 9) := by
                  rw [mSk_s, mS1_f (fun z => by rw [i32_lt, i32_0] at z; have q := (Int32.not_le.mp hc3); rw [i32_lt, i32_0] at q; omega), mS2_nn (fun z => by rw [i32_lt, i32_0] at z; have q := (Int32.not_le.mp hc3); rw [i32_lt, i32_0] at q; omega), mS3_b t10q]
                  exact N_4
                exact ih (k + 1) _ _ _ _ _ (KQ.tr K0 (KQ.wk K_4 (fCo_s 11) p0_x)) ⟨hr.1, hr.2⟩ E (zl1_ne rfl rfl h0) zl1_eq (by omega) (by omega)
              · refine zw_iaload k (nI t10) 20 f56_19 rfl (hb_6 _ _ _ _) (nI_clamp (by omega)) (nI_pos (by omega)) (by omega) ((congrFun ((K_4.2.2.1 6 rfl).trans ((K0.2.2.1 6 rfl).trans (hR.2.1 57 (by omega) (by omega)))) k).trans t10q) ?_
                refine zw_goto 24 f56_20 (by decide +kernel) ?_
                refine zw_istore_n _ 25 f56_24 rfl (by decide +kernel) rfl ?_
                refine zw_iload_n 26 f56_25 rfl zl1_eq ?_
                refine zw_iconst (-1) 27 f56_26 rfl (by decide +kernel) ?_
                refine zw_ic_eq_f 30 46 f56_27 (by decide +kernel) rfl (nI_nem (by omega)) ?_
                refine zw_aload_n 31 f56_30 rfl (zl1_ne rfl rfl rfl) ?_
                refine zw_getfield 34 f56_31 rfl g56_12_10 (hb_11 _ _ _ _) rfl ?_
                refine zw_iload_n 35 f56_34 rfl zl1_eq ?_
                refine zw_virtual_i 38 0 0 [.ref 12, .int (nI t10)] [(0, .ref 12), (1, .int (nI t10))] f56_35 rfl n56_47 k56_47_9 rfl (hb_12 _ _ _ _) (by decide +kernel) (Nat.le_of_ble_eq_true rfl) rfl rfl (by decide +kernel) (by decide +kernel) rfl (Nat.le_of_ble_eq_true rfl) rfl ?_
                refine zWp.mono (cx_isOpen_11 ro nv np P W _ _ _ _ (hR.k (KQ.tr K0 (KQ.wk K_4 (fCo_s 11) p0_x)) ⟨rfl, rfl⟩ (fCs_w 11) (pCr_w 11 (by omega))) hp hb t10 (by omega)) ?_
                rintro r h1 ⟨rfl, rfl⟩
                refine ⟨_, rfl, ?_⟩
                refine zw_iload_n 39 f56_38 rfl (zl1_ne rfl rfl rfl) ?_
                refine zw_ic_ne 42 46 f56_39 (by decide +kernel) rfl (fun hc11 => ?_) (fun hc11 => ?_)
                · refine zw_iconst 0 47 f56_46 rfl (by decide +kernel) ?_
                  refine zw_zreturn f56_47 r56 u56 (by decide +kernel) ⟨_, rfl, ?_⟩
                  refine zw_if_eq_t 70 f55_27 (by decide +kernel) (by decide +kernel) ?_
                  refine zw_vreturn f55_70 r55 u55 ⟨rfl, ?_⟩
                  refine zw_iinc (nI (k + 1)) _ 61 f53_58 rfl h1 (by decide +kernel) (nI_1 _) rfl ?_
                  refine zw_goto 16 f53_61 (by decide +kernel) ?_
                  have E : cNx W.1 (mSk (P 53) (P 54) (P 55) (P 56) (P 57) W.2.2.2.2.2.2.1 W.2.2.2.2.2.1 (wCh nv np P W) W.2.2.2.2.1 W.1 (1, 0, 0) (k + 1)) (G_4 11 8) (G_4 11 9) := by
                    rw [mSk_s, mS1_f (fun z => by rw [i32_lt, i32_0] at z; have q := (Int32.not_le.mp hc3); rw [i32_lt, i32_0] at q; omega), mS2_nn (fun z => by rw [i32_lt, i32_0] at z; have q := (Int32.not_le.mp hc3); rw [i32_lt, i32_0] at q; omega), mS3_d (Or.inr (Decidable.of_not_not hc9)) t10q (by omega) hc11, mayF_b (fun z => by rw [i32_lt, i32_0] at z; have q := (Int32.not_le.mp hc3); rw [i32_lt, i32_0] at q; omega)]
                    exact N_4
                  exact ih (k + 1) _ _ _ _ _ (KQ.tr K0 (KQ.wk K_4 (fCo_s 11) p0_x)) ⟨hr.1, hr.2⟩ E (zl1_ne rfl rfl h0) zl1_eq (by omega) (by omega)
                · refine zw_iconst 1 43 f56_42 rfl (by decide +kernel) ?_
                  refine zw_goto 47 f56_43 (by decide +kernel) ?_
                  refine zw_zreturn f56_47 r56 u56 (by decide +kernel) ⟨_, rfl, ?_⟩
                  refine zw_if_eq_f 30 70 f55_27 (by decide +kernel) rfl (by decide +kernel) ?_
                  refine zw_aload_n 31 f55_30 rfl rfl ?_
                  refine zw_aload_n 32 f55_31 rfl rfl ?_
                  refine zw_getfield 35 f55_32 rfl g55_12_10 (hb_11 _ _ _ _) rfl ?_
                  refine zw_getfield 38 f55_35 rfl g55_87_9 (hb_12 _ _ _ _) rfl ?_
                  refine zw_iload_n 39 f55_38 rfl rfl ?_
                  refine zw_laload k ((W.2.2.2.2.1) k) 40 f55_39 rfl (hb_13 _ _ _ _) (nI_clamp (by omega)) (nI_pos (by omega)) (by omega) (congrFun (((K_4.2.2.2 13 rfl).trans ((K0.2.2.2 13 rfl).trans hR.2.2.2.1))) k) ?_
                  refine zw_aload_n 41 f55_40 rfl rfl ?_
                  refine zw_getfield 44 f55_41 rfl g55_37_10 (hb_11 _ _ _ _) rfl ?_
                  refine zw_getfield 47 f55_44 rfl g55_142_4 (hb_1 _ _ _ _) rfl ?_
                  refine zw_iload_n 48 f55_47 rfl rfl ?_
                  refine zw_iaload k (P 56 k) 49 f55_48 rfl (hb_5 _ _ _ _) (nI_clamp (by omega)) (nI_pos (by omega)) (by omega) (congrFun (((K_4.2.2.1 5 rfl).trans ((K0.2.2.1 5 rfl).trans (hR.2.1 56 (by omega) (by omega))))) k) ?_
                  refine zw_i2l (Int32.toInt64 (P 56 k)) 50 f55_49 rfl rfl ?_
                  refine zw_aload_n 51 f55_50 rfl rfl ?_
                  refine zw_getfield 54 f55_51 rfl g55_12_10 (hb_11 _ _ _ _) rfl ?_
                  refine zw_getG W.1 57 f55_54 rfl g55_109_9 (hb_12 _ _ _ _) rfl ((K_4.2.1 12 0 rfl).trans ((K0.2.1 12 0 rfl).trans hR.2.2.1.1)) ?_
                  refine zw_lmul ((Int32.toInt64 (P 56 k)) * W.1) 58 f55_57 rfl rfl ?_
                  refine zw_lsub (((W.2.2.2.2.1) k) - ((Int32.toInt64 (P 56 k)) * W.1)) 59 f55_58 rfl rfl ?_
                  refine zw_aload_n 60 f55_59 rfl rfl ?_
                  refine zw_getfield 63 f55_60 rfl g55_22_10 (hb_11 _ _ _ _) rfl ?_
                  refine zw_iload_n 64 f55_63 rfl rfl ?_
                  refine zw_iaload k ((wCh nv np P W) k) 65 f55_64 rfl (hb_17 _ _ _ _) (nI_clamp (by omega)) (nI_pos (by omega)) (by omega) ((congrFun (K_4.2.2.1 17 rfl) k).trans (hr.1.2.2.1 k (by omega))) ?_
                  refine zw_ineg (-((wCh nv np P W) k)) 66 f55_65 rfl rfl ?_
                  refine zw_i2l (Int32.toInt64 (-((wCh nv np P W) k))) 67 f55_66 rfl rfl ?_
                  refine zw_virtual_v 70 0 0 [.ref 11, .long (((W.2.2.2.2.1) k) - ((Int32.toInt64 (P 56 k)) * W.1)), .long (Int32.toInt64 (-((wCh nv np P W) k)))] [(0, .ref 11), (1, .long (((W.2.2.2.2.1) k) - ((Int32.toInt64 (P 56 k)) * W.1))), (3, .long (Int32.toInt64 (-((wCh nv np P W) k))))] f55_67 rfl n55_128 k55_128_10 rfl (hb_11 _ _ _ _) (by decide +kernel) (Nat.le_of_ble_eq_true rfl) rfl rfl (by decide +kernel) (by decide +kernel) rfl (Nat.le_of_ble_eq_true rfl) rfl ?_
                  refine zWp.mono (cx_offer_11 ro _ _ _ _ W.1 (((W.2.2.2.2.1) k) - ((Int32.toInt64 (P 56 k)) * W.1)) (-((wCh nv np P W) k)) (mayF W.1 (mSk (P 53) (P 54) (P 55) (P 56) (P 57) W.2.2.2.2.2.2.1 W.2.2.2.2.2.1 (wCh nv np P W) W.2.2.2.2.1 W.1 (1, 0, 0) k) ((W.2.2.2.2.1) k) (-((wCh nv np P W) k))) hg (Int.le_trans (way_b (b := 0) (x := P 56 k) (l := W.2.2.2.2.1 k) hg (by omega) (by have := lk; omega)).2 (by have := lk; omega)) (by rw [i32_neg (by omega)]; omega) N_4) ?_
                  rintro r h1 ⟨G_12, rfl, K_12, N_12, rfl⟩
                  refine ⟨rfl, ?_⟩
                  refine zw_vreturn f55_70 r55 u55 ⟨rfl, ?_⟩
                  refine zw_iinc (nI (k + 1)) _ 61 f53_58 rfl h1 (by decide +kernel) (nI_1 _) rfl ?_
                  refine zw_goto 16 f53_61 (by decide +kernel) ?_
                  have E : cNx W.1 (mSk (P 53) (P 54) (P 55) (P 56) (P 57) W.2.2.2.2.2.2.1 W.2.2.2.2.2.1 (wCh nv np P W) W.2.2.2.2.1 W.1 (1, 0, 0) (k + 1)) (G_12 11 8) (G_12 11 9) := by
                    rw [mSk_s, mS1_f (fun z => by rw [i32_lt, i32_0] at z; have q := (Int32.not_le.mp hc3); rw [i32_lt, i32_0] at q; omega), mS2_nn (fun z => by rw [i32_lt, i32_0] at z; have q := (Int32.not_le.mp hc3); rw [i32_lt, i32_0] at q; omega), mS3_c (Or.inr (Decidable.of_not_not hc9)) t10q (by omega) (Decidable.of_not_not hc11)]
                    exact N_12
                  exact ih (k + 1) _ _ _ _ _ (KQ.tr (KQ.tr K0 (KQ.wk K_4 (fCo_s 11) p0_x)) (KQ.wk K_12 (fCo_s 11) p0_x)) ⟨hr.1, hr.2⟩ E (zl1_ne rfl rfl h0) zl1_eq (by omega) (by omega)
      · have cp : 0 < ((wCh nv np P W) k).toInt := by have q := (Int32.not_le.mp hc2); rw [i32_lt, i32_0] at q; exact q
        refine zw_aload_n 37 f53_36 rfl h0 ?_
        refine zw_iload_n 38 f53_37 rfl h1 ?_
        refine zw_virtual_v 41 0 0 [.ref 11, .int (nI k)] [(0, .ref 11), (1, .int (nI k))] f53_38 rfl n53_122 k53_122_10 rfl (hb_11 _ _ _ _) (by decide +kernel) (Nat.le_of_ble_eq_true rfl) rfl rfl (by decide +kernel) (by decide +kernel) rfl (Nat.le_of_ble_eq_true rfl) rfl ?_
        refine zw_aload_n 1 f54_0 rfl rfl ?_
        refine zw_aload_n 2 f54_1 rfl rfl ?_
        refine zw_getfield 5 f54_2 rfl g54_37_10 (hb_11 _ _ _ _) rfl ?_
        refine zw_getfield 8 f54_5 rfl g54_106_4 (hb_1 _ _ _ _) rfl ?_
        refine zw_iload_n 9 f54_8 rfl rfl ?_
        refine zw_iaload k (P 54 k) 10 f54_9 rfl (hb_3 _ _ _ _) (nI_clamp (by omega)) (nI_pos (by omega)) (by omega) (congrFun (((K0.2.2.1 3 rfl).trans (hR.2.1 54 (by omega) (by omega)))) k) ?_
        refine zw_i2l (Int32.toInt64 (P 54 k)) 11 f54_10 rfl rfl ?_
        refine zw_aload_n 12 f54_11 rfl rfl ?_
        refine zw_getfield 15 f54_12 rfl g54_12_10 (hb_11 _ _ _ _) rfl ?_
        refine zw_getG W.1 18 f54_15 rfl g54_109_9 (hb_12 _ _ _ _) rfl ((K0.2.1 12 0 rfl).trans hR.2.2.1.1) ?_
        refine zw_lmul ((Int32.toInt64 (P 54 k)) * W.1) 19 f54_18 rfl rfl ?_
        refine zw_aload_n 20 f54_19 rfl rfl ?_
        refine zw_getfield 23 f54_20 rfl g54_12_10 (hb_11 _ _ _ _) rfl ?_
        refine zw_getfield 26 f54_23 rfl g54_87_9 (hb_12 _ _ _ _) rfl ?_
        refine zw_iload_n 27 f54_26 rfl rfl ?_
        refine zw_laload k ((W.2.2.2.2.1) k) 28 f54_27 rfl (hb_13 _ _ _ _) (nI_clamp (by omega)) (nI_pos (by omega)) (by omega) (congrFun (((K0.2.2.2 13 rfl).trans hR.2.2.2.1)) k) ?_
        refine zw_lsub (((Int32.toInt64 (P 54 k)) * W.1) - ((W.2.2.2.2.1) k)) 29 f54_28 rfl rfl ?_
        refine zw_aload_n 30 f54_29 rfl rfl ?_
        refine zw_getfield 33 f54_30 rfl g54_22_10 (hb_11 _ _ _ _) rfl ?_
        refine zw_iload_n 34 f54_33 rfl rfl ?_
        refine zw_iaload k ((wCh nv np P W) k) 35 f54_34 rfl (hb_17 _ _ _ _) (nI_clamp (by omega)) (nI_pos (by omega)) (by omega) (hr.1.2.2.1 k (by omega)) ?_
        refine zw_i2l (Int32.toInt64 ((wCh nv np P W) k)) 36 f54_35 rfl rfl ?_
        refine zw_virtual_v 39 0 0 [.ref 11, .long (((Int32.toInt64 (P 54 k)) * W.1) - ((W.2.2.2.2.1) k)), .long (Int32.toInt64 ((wCh nv np P W) k))] [(0, .ref 11), (1, .long (((Int32.toInt64 (P 54 k)) * W.1) - ((W.2.2.2.2.1) k))), (3, .long (Int32.toInt64 ((wCh nv np P W) k)))] f54_36 rfl n54_128 k54_128_10 rfl (hb_11 _ _ _ _) (by decide +kernel) (Nat.le_of_ble_eq_true rfl) rfl rfl (by decide +kernel) (by decide +kernel) rfl (Nat.le_of_ble_eq_true rfl) rfl ?_
        refine zWp.mono (cx_offer_11 ro _ _ _ _ W.1 (((Int32.toInt64 (P 54 k)) * W.1) - ((W.2.2.2.2.1) k)) ((wCh nv np P W) k) (mSk (P 53) (P 54) (P 55) (P 56) (P 57) W.2.2.2.2.2.2.1 W.2.2.2.2.2.1 (wCh nv np P W) W.2.2.2.2.1 W.1 (1, 0, 0) k) hg (way_b (b := 0) hg (by omega) (by have := lk; omega)).1 (by have := ck; omega) hN) ?_
        rintro r h1 ⟨G_13, rfl, K_13, N_13, rfl⟩
        refine ⟨rfl, ?_⟩
        refine zw_aload_n 40 f54_39 rfl rfl ?_
        refine zw_getfield 43 f54_40 rfl g54_37_10 (hb_11 _ _ _ _) rfl ?_
        refine zw_iload_n 44 f54_43 rfl rfl ?_
        refine zw_virtual_i 47 0 0 [.ref 1, .int (nI k)] [(0, .ref 1), (1, .int (nI k))] f54_44 rfl n54_132 k54_132_4 rfl (hb_1 _ _ _ _) (by decide +kernel) (Nat.le_of_ble_eq_true rfl) rfl rfl (by decide +kernel) (by decide +kernel) rfl (Nat.le_of_ble_eq_true rfl) rfl ?_
        refine zw_iload_n 1 f15_0 rfl rfl ?_
        refine zw_if_lt_f 4 27 f15_1 (by decide +kernel) rfl (nI_pos (by omega)) ?_
        refine zw_iload_n 5 f15_4 rfl rfl ?_
        refine zw_aload_n 6 f15_5 rfl rfl ?_
        refine zw_getI (nI nv) 9 f15_6 rfl g15_39_4 (hb_1 _ _ _ _) rfl ((K_13.1 1 0 rfl).trans ((K0.1 1 0 rfl).trans hR.1.1)) ?_
        refine zw_ic_ge_f 12 27 f15_9 (by decide +kernel) rfl hc1 ?_
        refine zw_iload_n 13 f15_12 rfl rfl ?_
        refine zw_bipush 8 15 f15_13 rfl (by decide +kernel) ?_
        refine zw_ic_ge_f 18 27 f15_15 (by decide +kernel) rfl (fun q => absurd (zn_ge (a := 8) (b := k) (by omega) (by omega) q) (by omega)) ?_
        refine zw_aload_n 19 f15_18 rfl rfl ?_
        refine zw_getfield 22 f15_19 rfl g15_9_4 (hb_1 _ _ _ _) rfl ?_
        refine zw_iload_n 23 f15_22 rfl rfl ?_
        refine zw_iaload k (P 53 k) 24 f15_23 rfl (hb_2 _ _ _ _) (nI_clamp (by omega)) (nI_pos (by omega)) (by omega) (congrFun (((K_13.2.2.1 2 rfl).trans ((K0.2.2.1 2 rfl).trans (hR.2.1 53 (by omega) (by omega))))) k) ?_
        refine zw_goto 28 f15_24 (by decide +kernel) ?_
        refine zw_ireturn f15_28 r15 u15 ⟨_, rfl, ?_⟩
        refine zw_iconst 1 48 f54_47 rfl (by decide +kernel) ?_
        refine zw_ic_ne 51 70 f54_48 (by decide +kernel) rfl (fun hc14 => ?_) (fun hc14 => ?_)
        · refine zw_aload_n 71 f54_70 rfl rfl ?_
          refine zw_iload_n 72 f54_71 rfl rfl ?_
          refine zw_iconst 1 73 f54_72 rfl (by decide +kernel) ?_
          refine zw_virtual_i 76 0 0 [.ref 11, .int (nI k), .int 1] [(0, .ref 11), (1, .int (nI k)), (2, .int 1)] f54_73 rfl n54_135 k54_135_10 rfl (hb_11 _ _ _ _) (by decide +kernel) (Nat.le_of_ble_eq_true rfl) rfl rfl (by decide +kernel) (by decide +kernel) rfl (Nat.le_of_ble_eq_true rfl) rfl ?_
          refine zw_aload_n 1 f56_0 rfl rfl ?_
          refine zw_getfield 4 f56_1 rfl g56_37_10 (hb_11 _ _ _ _) rfl ?_
          refine zw_iload_n 5 f56_4 rfl rfl ?_
          refine zw_virtual_i 8 0 0 [.ref 1, .int (nI k)] [(0, .ref 1), (1, .int (nI k))] f56_5 rfl n56_145 k56_145_4 rfl (hb_1 _ _ _ _) (by decide +kernel) (Nat.le_of_ble_eq_true rfl) rfl rfl (by decide +kernel) (by decide +kernel) rfl (Nat.le_of_ble_eq_true rfl) rfl ?_
          refine zw_iload_n 1 f17_0 rfl rfl ?_
          refine zw_if_lt_f 4 22 f17_1 (by decide +kernel) rfl (nI_pos (by omega)) ?_
          refine zw_iload_n 5 f17_4 rfl rfl ?_
          refine zw_aload_n 6 f17_5 rfl rfl ?_
          refine zw_getI (nI nv) 9 f17_6 rfl g17_39_4 (hb_1 _ _ _ _) rfl ((K_13.1 1 0 rfl).trans ((K0.1 1 0 rfl).trans hR.1.1)) ?_
          refine zw_ic_ge_f 12 22 f17_9 (by decide +kernel) rfl hc1 ?_
          refine zw_iload_n 13 f17_12 rfl rfl ?_
          refine zw_bipush 8 15 f17_13 rfl (by decide +kernel) ?_
          refine zw_ic_ge_f 18 22 f17_15 (by decide +kernel) rfl (fun q => absurd (zn_ge (a := 8) (b := k) (by omega) (by omega) q) (by omega)) ?_
          refine zw_iconst 1 19 f17_18 rfl (by decide +kernel) ?_
          refine zw_goto 23 f17_19 (by decide +kernel) ?_
          refine zw_istore_n _ 24 f17_23 rfl (by decide +kernel) rfl ?_
          refine zw_iload_n 25 f17_24 rfl zl1_eq ?_
          refine zw_if_eq_f 28 52 f17_25 (by decide +kernel) rfl (by decide +kernel) ?_
          refine zw_aload_n 29 f17_28 rfl (zl1_ne rfl rfl rfl) ?_
          refine zw_getfield 32 f17_29 rfl g17_9_4 (hb_1 _ _ _ _) rfl ?_
          refine zw_iload_n 33 f17_32 rfl (zl1_ne rfl rfl rfl) ?_
          refine zw_iaload k (P 53 k) 34 f17_33 rfl (hb_2 _ _ _ _) (nI_clamp (by omega)) (nI_pos (by omega)) (by omega) (congrFun (((K_13.2.2.1 2 rfl).trans ((K0.2.2.1 2 rfl).trans (hR.2.1 53 (by omega) (by omega))))) k) ?_
          refine zw_iconst 3 35 f17_34 rfl (by decide +kernel) ?_
          refine zw_ic_eq 38 48 f17_35 (by decide +kernel) rfl (fun hc15 => ?_) (fun hc15 => ?_)
          · refine zw_iconst 1 49 f17_48 rfl (by decide +kernel) ?_
            refine zw_goto 53 f17_49 (by decide +kernel) ?_
            refine zw_zreturn f17_53 r17 u17 (by decide +kernel) ⟨_, rfl, ?_⟩
            refine zw_if_eq_f 11 23 f56_8 (by decide +kernel) rfl (by decide +kernel) ?_
            refine zw_aload_n 12 f56_11 rfl rfl ?_
            refine zw_getfield 15 f56_12 rfl g56_37_10 (hb_11 _ _ _ _) rfl ?_
            refine zw_getfield 18 f56_15 rfl g56_148_4 (hb_1 _ _ _ _) rfl ?_
            refine zw_iload_n 19 f56_18 rfl rfl ?_
            rcases (hp.2.2.1 k (by omega)).2.2.2.1 with t16q | ⟨t16, t16l, t16n, t16q⟩
            · refine zw_iaload k (-1) 20 f56_19 rfl (hb_6 _ _ _ _) (nI_clamp (by omega)) (nI_pos (by omega)) (by omega) ((congrFun ((K_13.2.2.1 6 rfl).trans ((K0.2.2.1 6 rfl).trans (hR.2.1 57 (by omega) (by omega)))) k).trans t16q) ?_
              refine zw_goto 24 f56_20 (by decide +kernel) ?_
              refine zw_istore_n _ 25 f56_24 rfl (by decide +kernel) rfl ?_
              refine zw_iload_n 26 f56_25 rfl zl1_eq ?_
              refine zw_iconst (-1) 27 f56_26 rfl (by decide +kernel) ?_
              refine zw_ic_eq_t 46 f56_27 (by decide +kernel) (by decide +kernel) ?_
              refine zw_iconst 0 47 f56_46 rfl (by decide +kernel) ?_
              refine zw_zreturn f56_47 r56 u56 (by decide +kernel) ⟨_, rfl, ?_⟩
              refine zw_istore_n _ 77 f54_76 rfl (by decide +kernel) rfl ?_
              refine zw_iload_n 78 f54_77 rfl zl1_eq ?_
              refine zw_if_eq_t 120 f54_78 (by decide +kernel) (by decide +kernel) ?_
              refine zw_vreturn f54_120 r54 u54 ⟨rfl, ?_⟩
              refine zw_goto 58 f53_41 (by decide +kernel) ?_
              refine zw_iinc (nI (k + 1)) _ 61 f53_58 rfl h1 (by decide +kernel) (nI_1 _) rfl ?_
              refine zw_goto 16 f53_61 (by decide +kernel) ?_
              have E : cNx W.1 (mSk (P 53) (P 54) (P 55) (P 56) (P 57) W.2.2.2.2.2.2.1 W.2.2.2.2.2.1 (wCh nv np P W) W.2.2.2.2.1 W.1 (1, 0, 0) (k + 1)) (G_13 11 8) (G_13 11 9) := by
                rw [mSk_s, mS1_r (Int32.not_le.mp hc2) (by have := ck; omega), mS2_a hc14, mS3_b t16q]
                exact N_13
              exact ih (k + 1) _ _ _ _ _ (KQ.tr K0 (KQ.wk K_13 (fCo_s 11) p0_x)) ⟨hr.1, hr.2⟩ E (zl1_ne rfl rfl h0) zl1_eq (by omega) (by omega)
            · refine zw_iaload k (nI t16) 20 f56_19 rfl (hb_6 _ _ _ _) (nI_clamp (by omega)) (nI_pos (by omega)) (by omega) ((congrFun ((K_13.2.2.1 6 rfl).trans ((K0.2.2.1 6 rfl).trans (hR.2.1 57 (by omega) (by omega)))) k).trans t16q) ?_
              refine zw_goto 24 f56_20 (by decide +kernel) ?_
              refine zw_istore_n _ 25 f56_24 rfl (by decide +kernel) rfl ?_
              refine zw_iload_n 26 f56_25 rfl zl1_eq ?_
              refine zw_iconst (-1) 27 f56_26 rfl (by decide +kernel) ?_
              refine zw_ic_eq_f 30 46 f56_27 (by decide +kernel) rfl (nI_nem (by omega)) ?_
              refine zw_aload_n 31 f56_30 rfl (zl1_ne rfl rfl rfl) ?_
              refine zw_getfield 34 f56_31 rfl g56_12_10 (hb_11 _ _ _ _) rfl ?_
              refine zw_iload_n 35 f56_34 rfl zl1_eq ?_
              refine zw_virtual_i 38 0 0 [.ref 12, .int (nI t16)] [(0, .ref 12), (1, .int (nI t16))] f56_35 rfl n56_47 k56_47_9 rfl (hb_12 _ _ _ _) (by decide +kernel) (Nat.le_of_ble_eq_true rfl) rfl rfl (by decide +kernel) (by decide +kernel) rfl (Nat.le_of_ble_eq_true rfl) rfl ?_
              refine zWp.mono (cx_isOpen_11 ro nv np P W _ _ _ _ (hR.k (KQ.tr K0 (KQ.wk K_13 (fCo_s 11) p0_x)) ⟨rfl, rfl⟩ (fCs_w 11) (pCr_w 11 (by omega))) hp hb t16 (by omega)) ?_
              rintro r h1 ⟨rfl, rfl⟩
              refine ⟨_, rfl, ?_⟩
              refine zw_iload_n 39 f56_38 rfl (zl1_ne rfl rfl rfl) ?_
              refine zw_ic_ne 42 46 f56_39 (by decide +kernel) rfl (fun hc17 => ?_) (fun hc17 => ?_)
              · refine zw_iconst 0 47 f56_46 rfl (by decide +kernel) ?_
                refine zw_zreturn f56_47 r56 u56 (by decide +kernel) ⟨_, rfl, ?_⟩
                refine zw_istore_n _ 77 f54_76 rfl (by decide +kernel) rfl ?_
                refine zw_iload_n 78 f54_77 rfl zl1_eq ?_
                refine zw_if_eq_t 120 f54_78 (by decide +kernel) (by decide +kernel) ?_
                refine zw_vreturn f54_120 r54 u54 ⟨rfl, ?_⟩
                refine zw_goto 58 f53_41 (by decide +kernel) ?_
                refine zw_iinc (nI (k + 1)) _ 61 f53_58 rfl h1 (by decide +kernel) (nI_1 _) rfl ?_
                refine zw_goto 16 f53_61 (by decide +kernel) ?_
                have E : cNx W.1 (mSk (P 53) (P 54) (P 55) (P 56) (P 57) W.2.2.2.2.2.2.1 W.2.2.2.2.2.1 (wCh nv np P W) W.2.2.2.2.1 W.1 (1, 0, 0) (k + 1)) (G_13 11 8) (G_13 11 9) := by
                  rw [mSk_s, mS1_r (Int32.not_le.mp hc2) (by have := ck; omega), mS2_a hc14, mS3_c (Or.inl hc15) t16q (by omega) ((hb.1 t16 (by omega)).resolve_right hc17), mayF_b (ng_p (Int32.not_le.mp hc2) (by have := ck; omega))]
                  exact N_13
                exact ih (k + 1) _ _ _ _ _ (KQ.tr K0 (KQ.wk K_13 (fCo_s 11) p0_x)) ⟨hr.1, hr.2⟩ E (zl1_ne rfl rfl h0) zl1_eq (by omega) (by omega)
              · refine zw_iconst 1 43 f56_42 rfl (by decide +kernel) ?_
                refine zw_goto 47 f56_43 (by decide +kernel) ?_
                refine zw_zreturn f56_47 r56 u56 (by decide +kernel) ⟨_, rfl, ?_⟩
                refine zw_istore_n _ 77 f54_76 rfl (by decide +kernel) rfl ?_
                refine zw_iload_n 78 f54_77 rfl zl1_eq ?_
                refine zw_if_eq_f 81 120 f54_78 (by decide +kernel) rfl (by decide +kernel) ?_
                refine zw_aload_n 82 f54_81 rfl (zl1_ne rfl rfl rfl) ?_
                refine zw_aload_n 83 f54_82 rfl (zl1_ne rfl rfl rfl) ?_
                refine zw_getfield 86 f54_83 rfl g54_37_10 (hb_11 _ _ _ _) rfl ?_
                refine zw_getfield 89 f54_86 rfl g54_139_4 (hb_1 _ _ _ _) rfl ?_
                refine zw_iload_n 90 f54_89 rfl (zl1_ne rfl rfl rfl) ?_
                refine zw_iaload k (P 55 k) 91 f54_90 rfl (hb_4 _ _ _ _) (nI_clamp (by omega)) (nI_pos (by omega)) (by omega) (congrFun (((K_13.2.2.1 4 rfl).trans ((K0.2.2.1 4 rfl).trans (hR.2.1 55 (by omega) (by omega))))) k) ?_
                refine zw_i2l (Int32.toInt64 (P 55 k)) 92 f54_91 rfl rfl ?_
                refine zw_aload_n 93 f54_92 rfl (zl1_ne rfl rfl rfl) ?_
                refine zw_getfield 96 f54_93 rfl g54_12_10 (hb_11 _ _ _ _) rfl ?_
                refine zw_getG W.1 99 f54_96 rfl g54_109_9 (hb_12 _ _ _ _) rfl ((K_13.2.1 12 0 rfl).trans ((K0.2.1 12 0 rfl).trans hR.2.2.1.1)) ?_
                refine zw_lmul ((Int32.toInt64 (P 55 k)) * W.1) 100 f54_99 rfl rfl ?_
                refine zw_aload_n 101 f54_100 rfl (zl1_ne rfl rfl rfl) ?_
                refine zw_getfield 104 f54_101 rfl g54_12_10 (hb_11 _ _ _ _) rfl ?_
                refine zw_getfield 107 f54_104 rfl g54_87_9 (hb_12 _ _ _ _) rfl ?_
                refine zw_iload_n 108 f54_107 rfl (zl1_ne rfl rfl rfl) ?_
                refine zw_laload k ((W.2.2.2.2.1) k) 109 f54_108 rfl (hb_13 _ _ _ _) (nI_clamp (by omega)) (nI_pos (by omega)) (by omega) (congrFun (((K_13.2.2.2 13 rfl).trans ((K0.2.2.2 13 rfl).trans hR.2.2.2.1))) k) ?_
                refine zw_lsub (((Int32.toInt64 (P 55 k)) * W.1) - ((W.2.2.2.2.1) k)) 110 f54_109 rfl rfl ?_
                refine zw_aload_n 111 f54_110 rfl (zl1_ne rfl rfl rfl) ?_
                refine zw_getfield 114 f54_111 rfl g54_22_10 (hb_11 _ _ _ _) rfl ?_
                refine zw_iload_n 115 f54_114 rfl (zl1_ne rfl rfl rfl) ?_
                refine zw_iaload k ((wCh nv np P W) k) 116 f54_115 rfl (hb_17 _ _ _ _) (nI_clamp (by omega)) (nI_pos (by omega)) (by omega) ((congrFun (K_13.2.2.1 17 rfl) k).trans (hr.1.2.2.1 k (by omega))) ?_
                refine zw_i2l (Int32.toInt64 ((wCh nv np P W) k)) 117 f54_116 rfl rfl ?_
                refine zw_virtual_v 120 0 0 [.ref 11, .long (((Int32.toInt64 (P 55 k)) * W.1) - ((W.2.2.2.2.1) k)), .long (Int32.toInt64 ((wCh nv np P W) k))] [(0, .ref 11), (1, .long (((Int32.toInt64 (P 55 k)) * W.1) - ((W.2.2.2.2.1) k))), (3, .long (Int32.toInt64 ((wCh nv np P W) k)))] f54_117 rfl n54_128 k54_128_10 rfl (hb_11 _ _ _ _) (by decide +kernel) (Nat.le_of_ble_eq_true rfl) rfl rfl (by decide +kernel) (by decide +kernel) rfl (Nat.le_of_ble_eq_true rfl) rfl ?_
                refine zWp.mono (cx_offer_11 ro _ _ _ _ W.1 (((Int32.toInt64 (P 55 k)) * W.1) - ((W.2.2.2.2.1) k)) ((wCh nv np P W) k) (mayF W.1 (mSk (P 53) (P 54) (P 55) (P 56) (P 57) W.2.2.2.2.2.2.1 W.2.2.2.2.2.1 (wCh nv np P W) W.2.2.2.2.1 W.1 (1, 0, 0) k) (((Int32.toInt64 (P 54 k)) * W.1) - ((W.2.2.2.2.1) k)) ((wCh nv np P W) k)) hg (way_b (b := 0) hg (by omega) (by have := lk; omega)).1 (by have := ck; omega) N_13) ?_
                rintro r h1 ⟨G_18, rfl, K_18, N_18, rfl⟩
                refine ⟨rfl, ?_⟩
                refine zw_vreturn f54_120 r54 u54 ⟨rfl, ?_⟩
                refine zw_goto 58 f53_41 (by decide +kernel) ?_
                refine zw_iinc (nI (k + 1)) _ 61 f53_58 rfl h1 (by decide +kernel) (nI_1 _) rfl ?_
                refine zw_goto 16 f53_61 (by decide +kernel) ?_
                have E : cNx W.1 (mSk (P 53) (P 54) (P 55) (P 56) (P 57) W.2.2.2.2.2.2.1 W.2.2.2.2.2.1 (wCh nv np P W) W.2.2.2.2.1 W.1 (1, 0, 0) (k + 1)) (G_18 11 8) (G_18 11 9) := by
                  rw [mSk_s, mS1_r (Int32.not_le.mp hc2) (by have := ck; omega), mS2_a hc14, mS3_d (Or.inl hc15) t16q (by omega) (kne (Decidable.of_not_not hc17) (by decide))]
                  exact N_18
                exact ih (k + 1) _ _ _ _ _ (KQ.tr (KQ.tr K0 (KQ.wk K_13 (fCo_s 11) p0_x)) (KQ.wk K_18 (fCo_s 11) p0_x)) ⟨hr.1, hr.2⟩ E (zl1_ne rfl rfl h0) zl1_eq (by omega) (by omega)
          · refine zw_aload_n 39 f17_38 rfl (zl1_ne rfl rfl rfl) ?_
            refine zw_getfield 42 f17_39 rfl g17_9_4 (hb_1 _ _ _ _) rfl ?_
            refine zw_iload_n 43 f17_42 rfl (zl1_ne rfl rfl rfl) ?_
            refine zw_iaload k (P 53 k) 44 f17_43 rfl (hb_2 _ _ _ _) (nI_clamp (by omega)) (nI_pos (by omega)) (by omega) (congrFun (((K_13.2.2.1 2 rfl).trans ((K0.2.2.1 2 rfl).trans (hR.2.1 53 (by omega) (by omega))))) k) ?_
            refine zw_iconst 4 45 f17_44 rfl (by decide +kernel) ?_
            refine zw_ic_ne 48 52 f17_45 (by decide +kernel) rfl (fun hc19 => ?_) (fun hc19 => ?_)
            · refine zw_iconst 0 53 f17_52 rfl (by decide +kernel) ?_
              refine zw_zreturn f17_53 r17 u17 (by decide +kernel) ⟨_, rfl, ?_⟩
              refine zw_if_eq_t 23 f56_8 (by decide +kernel) (by decide +kernel) ?_
              refine zw_iconst (-1) 24 f56_23 rfl (by decide +kernel) ?_
              refine zw_istore_n _ 25 f56_24 rfl (by decide +kernel) rfl ?_
              refine zw_iload_n 26 f56_25 rfl zl1_eq ?_
              refine zw_iconst (-1) 27 f56_26 rfl (by decide +kernel) ?_
              refine zw_ic_eq_t 46 f56_27 (by decide +kernel) (by decide +kernel) ?_
              refine zw_iconst 0 47 f56_46 rfl (by decide +kernel) ?_
              refine zw_zreturn f56_47 r56 u56 (by decide +kernel) ⟨_, rfl, ?_⟩
              refine zw_istore_n _ 77 f54_76 rfl (by decide +kernel) rfl ?_
              refine zw_iload_n 78 f54_77 rfl zl1_eq ?_
              refine zw_if_eq_t 120 f54_78 (by decide +kernel) (by decide +kernel) ?_
              refine zw_vreturn f54_120 r54 u54 ⟨rfl, ?_⟩
              refine zw_goto 58 f53_41 (by decide +kernel) ?_
              refine zw_iinc (nI (k + 1)) _ 61 f53_58 rfl h1 (by decide +kernel) (nI_1 _) rfl ?_
              refine zw_goto 16 f53_61 (by decide +kernel) ?_
              have E : cNx W.1 (mSk (P 53) (P 54) (P 55) (P 56) (P 57) W.2.2.2.2.2.2.1 W.2.2.2.2.2.1 (wCh nv np P W) W.2.2.2.2.1 W.1 (1, 0, 0) (k + 1)) (G_13 11 8) (G_13 11 9) := by
                rw [mSk_s, mS1_r (Int32.not_le.mp hc2) (by have := ck; omega), mS2_a hc14, mS3_a hc15 hc19]
                exact N_13
              exact ih (k + 1) _ _ _ _ _ (KQ.tr K0 (KQ.wk K_13 (fCo_s 11) p0_x)) ⟨hr.1, hr.2⟩ E (zl1_ne rfl rfl h0) zl1_eq (by omega) (by omega)
            · refine zw_iconst 1 49 f17_48 rfl (by decide +kernel) ?_
              refine zw_goto 53 f17_49 (by decide +kernel) ?_
              refine zw_zreturn f17_53 r17 u17 (by decide +kernel) ⟨_, rfl, ?_⟩
              refine zw_if_eq_f 11 23 f56_8 (by decide +kernel) rfl (by decide +kernel) ?_
              refine zw_aload_n 12 f56_11 rfl rfl ?_
              refine zw_getfield 15 f56_12 rfl g56_37_10 (hb_11 _ _ _ _) rfl ?_
              refine zw_getfield 18 f56_15 rfl g56_148_4 (hb_1 _ _ _ _) rfl ?_
              refine zw_iload_n 19 f56_18 rfl rfl ?_
              rcases (hp.2.2.1 k (by omega)).2.2.2.1 with t20q | ⟨t20, t20l, t20n, t20q⟩
              · refine zw_iaload k (-1) 20 f56_19 rfl (hb_6 _ _ _ _) (nI_clamp (by omega)) (nI_pos (by omega)) (by omega) ((congrFun ((K_13.2.2.1 6 rfl).trans ((K0.2.2.1 6 rfl).trans (hR.2.1 57 (by omega) (by omega)))) k).trans t20q) ?_
                refine zw_goto 24 f56_20 (by decide +kernel) ?_
                refine zw_istore_n _ 25 f56_24 rfl (by decide +kernel) rfl ?_
                refine zw_iload_n 26 f56_25 rfl zl1_eq ?_
                refine zw_iconst (-1) 27 f56_26 rfl (by decide +kernel) ?_
                refine zw_ic_eq_t 46 f56_27 (by decide +kernel) (by decide +kernel) ?_
                refine zw_iconst 0 47 f56_46 rfl (by decide +kernel) ?_
                refine zw_zreturn f56_47 r56 u56 (by decide +kernel) ⟨_, rfl, ?_⟩
                refine zw_istore_n _ 77 f54_76 rfl (by decide +kernel) rfl ?_
                refine zw_iload_n 78 f54_77 rfl zl1_eq ?_
                refine zw_if_eq_t 120 f54_78 (by decide +kernel) (by decide +kernel) ?_
                refine zw_vreturn f54_120 r54 u54 ⟨rfl, ?_⟩
                refine zw_goto 58 f53_41 (by decide +kernel) ?_
                refine zw_iinc (nI (k + 1)) _ 61 f53_58 rfl h1 (by decide +kernel) (nI_1 _) rfl ?_
                refine zw_goto 16 f53_61 (by decide +kernel) ?_
                have E : cNx W.1 (mSk (P 53) (P 54) (P 55) (P 56) (P 57) W.2.2.2.2.2.2.1 W.2.2.2.2.2.1 (wCh nv np P W) W.2.2.2.2.1 W.1 (1, 0, 0) (k + 1)) (G_13 11 8) (G_13 11 9) := by
                  rw [mSk_s, mS1_r (Int32.not_le.mp hc2) (by have := ck; omega), mS2_a hc14, mS3_b t20q]
                  exact N_13
                exact ih (k + 1) _ _ _ _ _ (KQ.tr K0 (KQ.wk K_13 (fCo_s 11) p0_x)) ⟨hr.1, hr.2⟩ E (zl1_ne rfl rfl h0) zl1_eq (by omega) (by omega)
              · refine zw_iaload k (nI t20) 20 f56_19 rfl (hb_6 _ _ _ _) (nI_clamp (by omega)) (nI_pos (by omega)) (by omega) ((congrFun ((K_13.2.2.1 6 rfl).trans ((K0.2.2.1 6 rfl).trans (hR.2.1 57 (by omega) (by omega)))) k).trans t20q) ?_
                refine zw_goto 24 f56_20 (by decide +kernel) ?_
                refine zw_istore_n _ 25 f56_24 rfl (by decide +kernel) rfl ?_
                refine zw_iload_n 26 f56_25 rfl zl1_eq ?_
                refine zw_iconst (-1) 27 f56_26 rfl (by decide +kernel) ?_
                refine zw_ic_eq_f 30 46 f56_27 (by decide +kernel) rfl (nI_nem (by omega)) ?_
                refine zw_aload_n 31 f56_30 rfl (zl1_ne rfl rfl rfl) ?_
                refine zw_getfield 34 f56_31 rfl g56_12_10 (hb_11 _ _ _ _) rfl ?_
                refine zw_iload_n 35 f56_34 rfl zl1_eq ?_
                refine zw_virtual_i 38 0 0 [.ref 12, .int (nI t20)] [(0, .ref 12), (1, .int (nI t20))] f56_35 rfl n56_47 k56_47_9 rfl (hb_12 _ _ _ _) (by decide +kernel) (Nat.le_of_ble_eq_true rfl) rfl rfl (by decide +kernel) (by decide +kernel) rfl (Nat.le_of_ble_eq_true rfl) rfl ?_
                refine zWp.mono (cx_isOpen_11 ro nv np P W _ _ _ _ (hR.k (KQ.tr K0 (KQ.wk K_13 (fCo_s 11) p0_x)) ⟨rfl, rfl⟩ (fCs_w 11) (pCr_w 11 (by omega))) hp hb t20 (by omega)) ?_
                rintro r h1 ⟨rfl, rfl⟩
                refine ⟨_, rfl, ?_⟩
                refine zw_iload_n 39 f56_38 rfl (zl1_ne rfl rfl rfl) ?_
                refine zw_ic_ne 42 46 f56_39 (by decide +kernel) rfl (fun hc21 => ?_) (fun hc21 => ?_)
                · refine zw_iconst 0 47 f56_46 rfl (by decide +kernel) ?_
                  refine zw_zreturn f56_47 r56 u56 (by decide +kernel) ⟨_, rfl, ?_⟩
                  refine zw_istore_n _ 77 f54_76 rfl (by decide +kernel) rfl ?_
                  refine zw_iload_n 78 f54_77 rfl zl1_eq ?_
                  refine zw_if_eq_t 120 f54_78 (by decide +kernel) (by decide +kernel) ?_
                  refine zw_vreturn f54_120 r54 u54 ⟨rfl, ?_⟩
                  refine zw_goto 58 f53_41 (by decide +kernel) ?_
                  refine zw_iinc (nI (k + 1)) _ 61 f53_58 rfl h1 (by decide +kernel) (nI_1 _) rfl ?_
                  refine zw_goto 16 f53_61 (by decide +kernel) ?_
                  have E : cNx W.1 (mSk (P 53) (P 54) (P 55) (P 56) (P 57) W.2.2.2.2.2.2.1 W.2.2.2.2.2.1 (wCh nv np P W) W.2.2.2.2.1 W.1 (1, 0, 0) (k + 1)) (G_13 11 8) (G_13 11 9) := by
                    rw [mSk_s, mS1_r (Int32.not_le.mp hc2) (by have := ck; omega), mS2_a hc14, mS3_c (Or.inr (Decidable.of_not_not hc19)) t20q (by omega) ((hb.1 t20 (by omega)).resolve_right hc21), mayF_b (ng_p (Int32.not_le.mp hc2) (by have := ck; omega))]
                    exact N_13
                  exact ih (k + 1) _ _ _ _ _ (KQ.tr K0 (KQ.wk K_13 (fCo_s 11) p0_x)) ⟨hr.1, hr.2⟩ E (zl1_ne rfl rfl h0) zl1_eq (by omega) (by omega)
                · refine zw_iconst 1 43 f56_42 rfl (by decide +kernel) ?_
                  refine zw_goto 47 f56_43 (by decide +kernel) ?_
                  refine zw_zreturn f56_47 r56 u56 (by decide +kernel) ⟨_, rfl, ?_⟩
                  refine zw_istore_n _ 77 f54_76 rfl (by decide +kernel) rfl ?_
                  refine zw_iload_n 78 f54_77 rfl zl1_eq ?_
                  refine zw_if_eq_f 81 120 f54_78 (by decide +kernel) rfl (by decide +kernel) ?_
                  refine zw_aload_n 82 f54_81 rfl (zl1_ne rfl rfl rfl) ?_
                  refine zw_aload_n 83 f54_82 rfl (zl1_ne rfl rfl rfl) ?_
                  refine zw_getfield 86 f54_83 rfl g54_37_10 (hb_11 _ _ _ _) rfl ?_
                  refine zw_getfield 89 f54_86 rfl g54_139_4 (hb_1 _ _ _ _) rfl ?_
                  refine zw_iload_n 90 f54_89 rfl (zl1_ne rfl rfl rfl) ?_
                  refine zw_iaload k (P 55 k) 91 f54_90 rfl (hb_4 _ _ _ _) (nI_clamp (by omega)) (nI_pos (by omega)) (by omega) (congrFun (((K_13.2.2.1 4 rfl).trans ((K0.2.2.1 4 rfl).trans (hR.2.1 55 (by omega) (by omega))))) k) ?_
                  refine zw_i2l (Int32.toInt64 (P 55 k)) 92 f54_91 rfl rfl ?_
                  refine zw_aload_n 93 f54_92 rfl (zl1_ne rfl rfl rfl) ?_
                  refine zw_getfield 96 f54_93 rfl g54_12_10 (hb_11 _ _ _ _) rfl ?_
                  refine zw_getG W.1 99 f54_96 rfl g54_109_9 (hb_12 _ _ _ _) rfl ((K_13.2.1 12 0 rfl).trans ((K0.2.1 12 0 rfl).trans hR.2.2.1.1)) ?_
                  refine zw_lmul ((Int32.toInt64 (P 55 k)) * W.1) 100 f54_99 rfl rfl ?_
                  refine zw_aload_n 101 f54_100 rfl (zl1_ne rfl rfl rfl) ?_
                  refine zw_getfield 104 f54_101 rfl g54_12_10 (hb_11 _ _ _ _) rfl ?_
                  refine zw_getfield 107 f54_104 rfl g54_87_9 (hb_12 _ _ _ _) rfl ?_
                  refine zw_iload_n 108 f54_107 rfl (zl1_ne rfl rfl rfl) ?_
                  refine zw_laload k ((W.2.2.2.2.1) k) 109 f54_108 rfl (hb_13 _ _ _ _) (nI_clamp (by omega)) (nI_pos (by omega)) (by omega) (congrFun (((K_13.2.2.2 13 rfl).trans ((K0.2.2.2 13 rfl).trans hR.2.2.2.1))) k) ?_
                  refine zw_lsub (((Int32.toInt64 (P 55 k)) * W.1) - ((W.2.2.2.2.1) k)) 110 f54_109 rfl rfl ?_
                  refine zw_aload_n 111 f54_110 rfl (zl1_ne rfl rfl rfl) ?_
                  refine zw_getfield 114 f54_111 rfl g54_22_10 (hb_11 _ _ _ _) rfl ?_
                  refine zw_iload_n 115 f54_114 rfl (zl1_ne rfl rfl rfl) ?_
                  refine zw_iaload k ((wCh nv np P W) k) 116 f54_115 rfl (hb_17 _ _ _ _) (nI_clamp (by omega)) (nI_pos (by omega)) (by omega) ((congrFun (K_13.2.2.1 17 rfl) k).trans (hr.1.2.2.1 k (by omega))) ?_
                  refine zw_i2l (Int32.toInt64 ((wCh nv np P W) k)) 117 f54_116 rfl rfl ?_
                  refine zw_virtual_v 120 0 0 [.ref 11, .long (((Int32.toInt64 (P 55 k)) * W.1) - ((W.2.2.2.2.1) k)), .long (Int32.toInt64 ((wCh nv np P W) k))] [(0, .ref 11), (1, .long (((Int32.toInt64 (P 55 k)) * W.1) - ((W.2.2.2.2.1) k))), (3, .long (Int32.toInt64 ((wCh nv np P W) k)))] f54_117 rfl n54_128 k54_128_10 rfl (hb_11 _ _ _ _) (by decide +kernel) (Nat.le_of_ble_eq_true rfl) rfl rfl (by decide +kernel) (by decide +kernel) rfl (Nat.le_of_ble_eq_true rfl) rfl ?_
                  refine zWp.mono (cx_offer_11 ro _ _ _ _ W.1 (((Int32.toInt64 (P 55 k)) * W.1) - ((W.2.2.2.2.1) k)) ((wCh nv np P W) k) (mayF W.1 (mSk (P 53) (P 54) (P 55) (P 56) (P 57) W.2.2.2.2.2.2.1 W.2.2.2.2.2.1 (wCh nv np P W) W.2.2.2.2.1 W.1 (1, 0, 0) k) (((Int32.toInt64 (P 54 k)) * W.1) - ((W.2.2.2.2.1) k)) ((wCh nv np P W) k)) hg (way_b (b := 0) hg (by omega) (by have := lk; omega)).1 (by have := ck; omega) N_13) ?_
                  rintro r h1 ⟨G_22, rfl, K_22, N_22, rfl⟩
                  refine ⟨rfl, ?_⟩
                  refine zw_vreturn f54_120 r54 u54 ⟨rfl, ?_⟩
                  refine zw_goto 58 f53_41 (by decide +kernel) ?_
                  refine zw_iinc (nI (k + 1)) _ 61 f53_58 rfl h1 (by decide +kernel) (nI_1 _) rfl ?_
                  refine zw_goto 16 f53_61 (by decide +kernel) ?_
                  have E : cNx W.1 (mSk (P 53) (P 54) (P 55) (P 56) (P 57) W.2.2.2.2.2.2.1 W.2.2.2.2.2.1 (wCh nv np P W) W.2.2.2.2.1 W.1 (1, 0, 0) (k + 1)) (G_22 11 8) (G_22 11 9) := by
                    rw [mSk_s, mS1_r (Int32.not_le.mp hc2) (by have := ck; omega), mS2_a hc14, mS3_d (Or.inr (Decidable.of_not_not hc19)) t20q (by omega) (kne (Decidable.of_not_not hc21) (by decide))]
                    exact N_22
                  exact ih (k + 1) _ _ _ _ _ (KQ.tr (KQ.tr K0 (KQ.wk K_13 (fCo_s 11) p0_x)) (KQ.wk K_22 (fCo_s 11) p0_x)) ⟨hr.1, hr.2⟩ E (zl1_ne rfl rfl h0) zl1_eq (by omega) (by omega)
        · refine zw_aload_n 52 f54_51 rfl rfl ?_
          refine zw_getfield 55 f54_52 rfl g54_12_10 (hb_11 _ _ _ _) rfl ?_
          refine zw_iload_n 56 f54_55 rfl rfl ?_
          refine zw_virtual_i 59 0 0 [.ref 12, .int (nI k)] [(0, .ref 12), (1, .int (nI k))] f54_56 rfl n54_51 k54_51_9 rfl (hb_12 _ _ _ _) (by decide +kernel) (Nat.le_of_ble_eq_true rfl) rfl rfl (by decide +kernel) (by decide +kernel) rfl (Nat.le_of_ble_eq_true rfl) rfl ?_
          refine zWp.mono (cx_isSiphoning_11 ro nv np P W _ _ _ _ (hR.k (KQ.tr K0 (KQ.wk K_13 (fCo_s 11) p0_x)) ⟨rfl, rfl⟩ (fCs_w 11) (pCr_w 11 (by omega))) hp hb k (by omega)) ?_
          rintro r h1 ⟨rfl, rfl⟩
          refine ⟨_, rfl, ?_⟩
          refine zw_if_ne 62 66 f54_59 (by decide +kernel) rfl (fun hc23 => ?_) (fun hc23 => ?_)
          · refine zw_iconst 0 67 f54_66 rfl (by decide +kernel) ?_
            refine zw_goto 76 f54_67 (by decide +kernel) ?_
            refine zw_istore_n _ 77 f54_76 rfl (by decide +kernel) rfl ?_
            refine zw_iload_n 78 f54_77 rfl zl1_eq ?_
            refine zw_if_eq_t 120 f54_78 (by decide +kernel) (by decide +kernel) ?_
            refine zw_vreturn f54_120 r54 u54 ⟨rfl, ?_⟩
            refine zw_goto 58 f53_41 (by decide +kernel) ?_
            refine zw_iinc (nI (k + 1)) _ 61 f53_58 rfl h1 (by decide +kernel) (nI_1 _) rfl ?_
            refine zw_goto 16 f53_61 (by decide +kernel) ?_
            have E : cNx W.1 (mSk (P 53) (P 54) (P 55) (P 56) (P 57) W.2.2.2.2.2.2.1 W.2.2.2.2.2.1 (wCh nv np P W) W.2.2.2.2.1 W.1 (1, 0, 0) (k + 1)) (G_13 11 8) (G_13 11 9) := by
              rw [mSk_s, mS1_r (Int32.not_le.mp hc2) (by have := ck; omega), mS2_b hc23, mS3_a (kne (Decidable.of_not_not hc14) (by decide)) (kne (Decidable.of_not_not hc14) (by decide))]
              exact N_13
            exact ih (k + 1) _ _ _ _ _ (KQ.tr K0 (KQ.wk K_13 (fCo_s 11) p0_x)) ⟨hr.1, hr.2⟩ E (zl1_ne rfl rfl h0) zl1_eq (by omega) (by omega)
          · refine zw_iconst 1 63 f54_62 rfl (by decide +kernel) ?_
            refine zw_goto 76 f54_63 (by decide +kernel) ?_
            refine zw_istore_n _ 77 f54_76 rfl (by decide +kernel) rfl ?_
            refine zw_iload_n 78 f54_77 rfl zl1_eq ?_
            refine zw_if_eq_f 81 120 f54_78 (by decide +kernel) rfl (by decide +kernel) ?_
            refine zw_aload_n 82 f54_81 rfl (zl1_ne rfl rfl rfl) ?_
            refine zw_aload_n 83 f54_82 rfl (zl1_ne rfl rfl rfl) ?_
            refine zw_getfield 86 f54_83 rfl g54_37_10 (hb_11 _ _ _ _) rfl ?_
            refine zw_getfield 89 f54_86 rfl g54_139_4 (hb_1 _ _ _ _) rfl ?_
            refine zw_iload_n 90 f54_89 rfl (zl1_ne rfl rfl rfl) ?_
            refine zw_iaload k (P 55 k) 91 f54_90 rfl (hb_4 _ _ _ _) (nI_clamp (by omega)) (nI_pos (by omega)) (by omega) (congrFun (((K_13.2.2.1 4 rfl).trans ((K0.2.2.1 4 rfl).trans (hR.2.1 55 (by omega) (by omega))))) k) ?_
            refine zw_i2l (Int32.toInt64 (P 55 k)) 92 f54_91 rfl rfl ?_
            refine zw_aload_n 93 f54_92 rfl (zl1_ne rfl rfl rfl) ?_
            refine zw_getfield 96 f54_93 rfl g54_12_10 (hb_11 _ _ _ _) rfl ?_
            refine zw_getG W.1 99 f54_96 rfl g54_109_9 (hb_12 _ _ _ _) rfl ((K_13.2.1 12 0 rfl).trans ((K0.2.1 12 0 rfl).trans hR.2.2.1.1)) ?_
            refine zw_lmul ((Int32.toInt64 (P 55 k)) * W.1) 100 f54_99 rfl rfl ?_
            refine zw_aload_n 101 f54_100 rfl (zl1_ne rfl rfl rfl) ?_
            refine zw_getfield 104 f54_101 rfl g54_12_10 (hb_11 _ _ _ _) rfl ?_
            refine zw_getfield 107 f54_104 rfl g54_87_9 (hb_12 _ _ _ _) rfl ?_
            refine zw_iload_n 108 f54_107 rfl (zl1_ne rfl rfl rfl) ?_
            refine zw_laload k ((W.2.2.2.2.1) k) 109 f54_108 rfl (hb_13 _ _ _ _) (nI_clamp (by omega)) (nI_pos (by omega)) (by omega) (congrFun (((K_13.2.2.2 13 rfl).trans ((K0.2.2.2 13 rfl).trans hR.2.2.2.1))) k) ?_
            refine zw_lsub (((Int32.toInt64 (P 55 k)) * W.1) - ((W.2.2.2.2.1) k)) 110 f54_109 rfl rfl ?_
            refine zw_aload_n 111 f54_110 rfl (zl1_ne rfl rfl rfl) ?_
            refine zw_getfield 114 f54_111 rfl g54_22_10 (hb_11 _ _ _ _) rfl ?_
            refine zw_iload_n 115 f54_114 rfl (zl1_ne rfl rfl rfl) ?_
            refine zw_iaload k ((wCh nv np P W) k) 116 f54_115 rfl (hb_17 _ _ _ _) (nI_clamp (by omega)) (nI_pos (by omega)) (by omega) ((congrFun (K_13.2.2.1 17 rfl) k).trans (hr.1.2.2.1 k (by omega))) ?_
            refine zw_i2l (Int32.toInt64 ((wCh nv np P W) k)) 117 f54_116 rfl rfl ?_
            refine zw_virtual_v 120 0 0 [.ref 11, .long (((Int32.toInt64 (P 55 k)) * W.1) - ((W.2.2.2.2.1) k)), .long (Int32.toInt64 ((wCh nv np P W) k))] [(0, .ref 11), (1, .long (((Int32.toInt64 (P 55 k)) * W.1) - ((W.2.2.2.2.1) k))), (3, .long (Int32.toInt64 ((wCh nv np P W) k)))] f54_117 rfl n54_128 k54_128_10 rfl (hb_11 _ _ _ _) (by decide +kernel) (Nat.le_of_ble_eq_true rfl) rfl rfl (by decide +kernel) (by decide +kernel) rfl (Nat.le_of_ble_eq_true rfl) rfl ?_
            refine zWp.mono (cx_offer_11 ro _ _ _ _ W.1 (((Int32.toInt64 (P 55 k)) * W.1) - ((W.2.2.2.2.1) k)) ((wCh nv np P W) k) (mayF W.1 (mSk (P 53) (P 54) (P 55) (P 56) (P 57) W.2.2.2.2.2.2.1 W.2.2.2.2.2.1 (wCh nv np P W) W.2.2.2.2.1 W.1 (1, 0, 0) k) (((Int32.toInt64 (P 54 k)) * W.1) - ((W.2.2.2.2.1) k)) ((wCh nv np P W) k)) hg (way_b (b := 0) hg (by omega) (by have := lk; omega)).1 (by have := ck; omega) N_13) ?_
            rintro r h1 ⟨G_24, rfl, K_24, N_24, rfl⟩
            refine ⟨rfl, ?_⟩
            refine zw_vreturn f54_120 r54 u54 ⟨rfl, ?_⟩
            refine zw_goto 58 f53_41 (by decide +kernel) ?_
            refine zw_iinc (nI (k + 1)) _ 61 f53_58 rfl h1 (by decide +kernel) (nI_1 _) rfl ?_
            refine zw_goto 16 f53_61 (by decide +kernel) ?_
            have E : cNx W.1 (mSk (P 53) (P 54) (P 55) (P 56) (P 57) W.2.2.2.2.2.2.1 W.2.2.2.2.2.1 (wCh nv np P W) W.2.2.2.2.1 W.1 (1, 0, 0) (k + 1)) (G_24 11 8) (G_24 11 9) := by
              rw [mSk_s, mS1_r (Int32.not_le.mp hc2) (by have := ck; omega), mS2_y (Decidable.of_not_not hc14) (Decidable.of_not_not hc23), mS3_a (kne (Decidable.of_not_not hc14) (by decide)) (kne (Decidable.of_not_not hc14) (by decide))]
              exact N_24
            exact ih (k + 1) _ _ _ _ _ (KQ.tr (KQ.tr K0 (KQ.wk K_13 (fCo_s 11) p0_x)) (KQ.wk K_24 (fCo_s 11) p0_x)) ⟨hr.1, hr.2⟩ E (zl1_ne rfl rfl h0) zl1_eq (by omega) (by omega)
set_option maxRecDepth 100000 in
set_option maxHeartbeats 0 in
theorem cx_seek_11 (ro : UInt32 → Nat × (Nat → Int32)) (nv np : Nat) (P : Nat → Nat → Int32) (W : qW) (T K : Int) (I : Nat → Nat → Int32) (G : Nat → Nat → Int64) (A : Nat → Nat → Int32) (B : Nat → Nat → Int64) (hR : cRS 11 nv np P W I G A B) (hp : MPa nv np P) (hb : wBo W) (hq : qOw nv np P) (hW : wOk nv T K P W) : zWp ro 53 0 [(0, .ref 11)] [] (hS I G A B) 0 0 (fun r h1 => ∃ I2 G2 A2 B2, h1 = hS I2 G2 A2 B2 ∧ KQ (fCs 11) (pCr 11) I G A B I2 G2 A2 B2 ∧ (cRel 11 I2 A2 (wR2 nv np P W) nv ∧ I2 11 6 = wSr nv np P W) ∧ cNx W.1 (wNx nv np P W) (G2 11 8) (G2 11 9) ∧ r = none) := by
  have h8 := hp.1
  have h14 := hp.2.1
  have hg : 1 ≤ W.1.toInt ∧ W.1.toInt ≤ 10000 := hW.1.1
  have bb := wR2_b hp W
  refine zw_aload_n 1 f53_0 rfl rfl ?_
  refine zw_virtual_v 4 0 0 [.ref 11] [(0, .ref 11)] f53_1 rfl n53_113 k53_113_10 rfl (hb_11 _ _ _ _) (by decide +kernel) (Nat.le_of_ble_eq_true rfl) rfl rfl (by decide +kernel) (by decide +kernel) rfl (Nat.le_of_ble_eq_true rfl) rfl ?_
  refine zWp.mono (cx_rates_11 ro nv np P W T K _ _ _ _ hR hp hb hq hW) ?_
  rintro r h1 ⟨Ir, Gr, Ar, Br, rfl, Kr, hr, rfl⟩
  refine ⟨rfl, ?_⟩
  refine zw_aload_n 5 f53_4 rfl rfl ?_
  refine zw_lconst 0 6 f53_5 rfl (by decide +kernel) ?_
  refine zw_put _ 9 f53_6 rfl g53_116_10 (hb_11 _ _ _ _) rfl (Nat.le_of_ble_eq_true rfl) (by decide +kernel) (hg_11_8 _ _ _ _ _) ?_
  refine zw_aload_n 10 f53_9 rfl rfl ?_
  refine zw_lconst 0 11 f53_10 rfl (by decide +kernel) ?_
  refine zw_put _ 14 f53_11 rfl g53_119_10 (hb_11 _ _ _ _) rfl (Nat.le_of_ble_eq_true rfl) (by decide +kernel) (hg_11_9 _ _ _ _ _) ?_
  refine zw_iconst 0 15 f53_14 rfl (by decide +kernel) ?_
  refine zw_istore_n _ 16 f53_15 rfl (by decide +kernel) rfl ?_
  exact lcx_sn11 ro nv np P W T K I G A B hR hp hb hq hW (nv + 1) 0 _ _ _ _ _ (KQ.g rfl (KQ.g rfl (KQ.wk Kr (fCr_s 11) (fun _ h => h)))) ⟨hr.1, hr.2⟩ (Or.inl ⟨rfl, rfl⟩) (zl1_ne rfl rfl rfl) zl1_eq (by omega) (by omega)
