/-! ===== the reference's step and go ===== -/
def PE (A PA : Nat → Nat → Int32) : Prop := ∀ k, 53 ≤ k → k ≤ 62 → A k = PA k
theorem PE.rf {A : Nat → Nat → Int32} : PE A A := fun _ _ _ => rfl
theorem PE.k {pf : Nat → Nat → Bool} {pa : Nat → Bool} {I I1 : Nat → Nat → Int32} {G G1 : Nat → Nat → Int64} {A A1 PA : Nat → Nat → Int32} {B B1 : Nat → Nat → Int64} (K : KQ pf pa I G A B I1 G1 A1 B1) (hp : ∀ k, 53 ≤ k → k ≤ 62 → pa k = false) (h : PE A PA) : PE A1 PA := fun k h1 h2 => (K.2.2.1 k (hp k h1 h2)).trans (h k h1 h2)
theorem MPa.pe {nv np : Nat} {A PA : Nat → Nat → Int32} (h : MPa nv np PA) (e : PE A PA) : MPa nv np A := by
  refine ⟨h.1, h.2.1, fun v hv => ?_, fun p hp => ?_⟩
  · unfold mPv
    rw [e 54 (by omega) (by omega), e 55 (by omega) (by omega), e 56 (by omega) (by omega), e 57 (by omega) (by omega), e 58 (by omega) (by omega), e 59 (by omega) (by omega)]
    exact h.2.2.1 v hv
  · unfold mPp
    rw [e 60 (by omega) (by omega), e 61 (by omega) (by omega), e 62 (by omega) (by omega)]
    exact h.2.2.2 p hp
theorem wRun_pe {nv : Nat} {A PA : Nat → Nat → Int32} {W : qW} (e : PE A PA) : wRun nv A W = wRun nv PA W := by
  funext p
  unfold wRun
  rw [e 53 (by omega) (by omega), e 57 (by omega) (by omega)]
theorem wR2_pe {nv np : Nat} {A PA : Nat → Nat → Int32} {W : qW} (e : PE A PA) : wR2 nv np A W = wR2 nv np PA W := by
  unfold wR2
  rw [wRun_pe e, e 60 (by omega) (by omega), e 61 (by omega) (by omega), e 62 (by omega) (by omega), e 59 (by omega) (by omega), e 54 (by omega) (by omega)]
theorem wCh_pe {nv np : Nat} {A PA : Nat → Nat → Int32} {W : qW} (e : PE A PA) : wCh nv np A W = wCh nv np PA W := by
  unfold wCh
  rw [wR2_pe e]
theorem wSr_pe {nv np : Nat} {A PA : Nat → Nat → Int32} {W : qW} (e : PE A PA) : wSr nv np A W = wSr nv np PA W := by
  unfold wSr
  rw [wRun_pe e, e 60 (by omega) (by omega), e 61 (by omega) (by omega), e 62 (by omega) (by omega)]
theorem wNx_pe {nv np : Nat} {A PA : Nat → Nat → Int32} {W : qW} (e : PE A PA) : wNx nv np A W = wNx nv np PA W := by
  unfold wNx
  rw [wCh_pe e, e 53 (by omega) (by omega), e 54 (by omega) (by omega), e 55 (by omega) (by omega), e 56 (by omega) (by omega), e 57 (by omega) (by omega)]
theorem wMm_pe {nv : Nat} {A PA : Nat → Nat → Int32} {W : qW} (e : PE A PA) : wMm nv A W = wMm nv PA W := by
  unfold wMm
  rw [e 53 (by omega) (by omega), e 54 (by omega) (by omega), e 55 (by omega) (by omega), e 56 (by omega) (by omega), e 57 (by omega) (by omega), e 58 (by omega) (by omega), e 59 (by omega) (by omega)]
theorem wOk.pe {nv : Nat} {T K : Int} {A PA : Nat → Nat → Int32} {W : qW} (h : wOk nv T K PA W) (e : PE A PA) : wOk nv T K A W := MW.pa h (e 54 (by omega) (by omega))
/-- the reference stands at plan PA, water W, log L -/
def mRS (nv np : Nat) (PA : Nat → Nat → Int32) (W : qW) (L : qLog) (I : Nat → Nat → Int32) (G : Nat → Nat → Int64) (A : Nat → Nat → Int32) (B : Nat → Nat → Int64) : Prop := (I 52 0 = nI nv ∧ I 52 8 = nI np) ∧ PE A PA ∧ wR G A B = W ∧ qLR I A B L
section ZRS
variable {nv np : Nat} {PA : Nat → Nat → Int32} {W : qW} {L : qLog} {I I1 : Nat → Nat → Int32} {G G1 : Nat → Nat → Int64} {A A1 : Nat → Nat → Int32} {B B1 : Nat → Nat → Int64}
theorem mRS.mp (h : mRS nv np PA W L I G A B) (hp : MPa nv np PA) : MP nv np I A := ⟨⟨h.1.1, hp.1⟩, ⟨h.1.2, hp.2.1⟩, (hp.pe h.2.1).2.2.1, (hp.pe h.2.1).2.2.2⟩
theorem mRS.mb (h : mRS nv np PA W L I G A B) (hb : wBo W) : MB A := by
  have e := h.2.2.1
  subst e
  exact hb
theorem mRS.mw {T K : Int} (h : mRS nv np PA W L I G A B) (hW : wOk nv T K PA W) : MW nv T K A G B := by
  have e := h.2.2.1
  subst e
  exact MW.pa hW (h.2.1 54 (by omega) (by omega))
theorem mRS.g (h : mRS nv np PA W L I G A B) : G 52 12 = W.1 := congrArg (fun w => w.1) h.2.2.1
theorem mRS.t (h : mRS nv np PA W L I G A B) : G 52 13 = W.2.1 := congrArg (fun w => w.2.1) h.2.2.1
theorem mRS.k {pf : Nat → Nat → Bool} {pa : Nat → Bool} (K : KQ pf pa I G A B I1 G1 A1 B1) (hf : ∀ j, (j = 0 ∨ j = 8 ∨ (12 ≤ j ∧ j ≤ 15) ∨ j = 20 ∨ j = 42) → pf 52 j = false) (hp : ∀ k, 53 ≤ k → k ≤ 70 → pa k = false) (h : mRS nv np PA W L I G A B) : mRS nv np PA W L I1 G1 A1 B1 := by
  obtain ⟨⟨a, b⟩, c, d, e⟩ := h
  refine ⟨⟨(K.1 52 0 (hf 0 (by omega))).trans a, (K.1 52 8 (hf 8 (by omega))).trans b⟩, PE.k K (fun k h1 h2 => hp k h1 (by omega)) c, ?_, qLR.k K (hf 20 (by omega)) (hf 42 (by omega)) (hp 67 (by omega) (by omega)) (hp 68 (by omega) (by omega)) (hp 69 (by omega) (by omega)) (hp 70 (by omega) (by omega)) e⟩
  rw [← d]
  unfold wR
  rw [K.2.1 52 12 (hf 12 (by omega)), K.2.1 52 13 (hf 13 (by omega)), K.2.1 52 14 (hf 14 (by omega)), K.2.1 52 15 (hf 15 (by omega)), K.2.2.2 63 (hp 63 (by omega) (by omega)), K.2.2.1 65 (hp 65 (by omega) (by omega)), K.2.2.1 64 (hp 64 (by omega) (by omega)), K.2.2.1 66 (hp 66 (by omega) (by omega))]
end ZRS
def qNx (N : Int32 × Int64 × Int64) (rs : Int32) (na nb : Int64) : Prop := (rs = 0 ∧ N = (0, na, nb)) ∨ (¬ rs = 0 ∧ ¬ N.1 = 0)
theorem qNx_y {N : Int32 × Int64 × Int64} {rs : Int32} {na nb : Int64} (h : qNx N rs na nb) (h0 : rs = 0) : N = (0, na, nb) := h.elim (fun q => q.2) (fun q => absurd h0 q.1)
theorem qNx_n {N : Int32 × Int64 × Int64} {rs : Int32} {na nb : Int64} (h : qNx N rs na nb) (h0 : ¬ rs = 0) : ¬ N.1 = 0 := h.elim (fun q => absurd q.1 h0) (fun q => q.2)
def qRt (nv np : Nat) (PA : Nat → Nat → Int32) (W : qW) (I : Nat → Nat → Int32) (A : Nat → Nat → Int32) : Prop := (∀ j, j < 8 → A 73 j = wCh nv np PA W j) ∧ I 52 34 = wSr nv np PA W ∧ I 52 35 = wDr nv np PA W ∧ ∀ j, j < 8 → A 74 j = (wR2 nv np PA W).2.2.2 j
theorem fS_R : ∀ j, (j = 0 ∨ j = 8 ∨ (12 ≤ j ∧ j ≤ 15) ∨ j = 20 ∨ j = 42) → fS 52 j = false := by
  intro j h
  simp only [fS, decide_eq_false_iff_not]
  omega
theorem pS_R : ∀ k, 53 ≤ k → k ≤ 70 → pS k = false := by
  intro k h1 h2
  simp only [pS, decide_eq_false_iff_not]
  omega
section ZSW
variable (ro : UInt32 → Nat × (Nat → Int32)) (nv np : Nat) (PA : Nat → Nat → Int32) (W : qW) (L : qLog) (I : Nat → Nat → Int32) (G : Nat → Nat → Int64) (A : Nat → Nat → Int32) (B : Nat → Nat → Int64)
theorem mm_seekW (hR : mRS nv np PA W L I G A B) (hp : MPa nv np PA) (hb : wBo W) : zWp ro 132 0 [(0, .ref 52)] [] (hS I G A B) 0 0 (fun r h1 => ∃ I2 G2 A2 B2, h1 = hS I2 G2 A2 B2 ∧ KQ fS pS I G A B I2 G2 A2 B2 ∧ mRS nv np PA W L I2 G2 A2 B2 ∧ qRt nv np PA W I2 A2 ∧ (∃ rs na nb, I2 52 38 = rs ∧ G2 52 36 = na ∧ G2 52 37 = nb ∧ qNx (wNx nv np PA W) rs na nb) ∧ r = none) := by
  refine zWp.mono (mm_seek ro nv np I G A B (hR.mp hp) (hR.mb hb)) ?_
  rintro r h1 ⟨I2, G2, A2, B2, rfl, K, ⟨⟨hr, hs⟩, hN⟩, rfl⟩
  have e := hR.2.2.1
  have x2 : mR2s nv np G A B nv = wR2 nv np PA W := by
    rw [← e]; exact (wR2_pe (W := wR G A B) hR.2.1)
  have x3 : mSr nv np A = wSr nv np PA W := by
    rw [← e]; exact (wSr_pe (W := wR G A B) hR.2.1)
  rw [x2] at hr
  rw [x3] at hs
  refine ⟨I2, G2, A2, B2, rfl, K, hR.k K fS_R pS_R, ⟨hr.2.2.1, hs, hr.2.1, hr.2.2.2⟩, ⟨_, _, _, rfl, rfl, rfl, ?_⟩, rfl⟩
  have x4 : mSks nv np G A B (1, 0, 0) nv = wNx nv np PA W := by
    rw [← e]; exact (wNx_pe (W := wR G A B) hR.2.1)
  have sim := mSk_sim (kind := A 53) (brim := A 54) (high := A 55) (low := A 56) (own := A 57) (opn := A 64) (siph := A 65) (ch := mCh nv np G A B) (lev := B 63) (g := G 52 12) (s := (1, G 52 36, G 52 37)) (t := (1, 0, 0)) (Or.inr ⟨show ¬ (1 : Int32) = 0 by decide, show ¬ (1 : Int32) = 0 by decide⟩) nv
  have e1 : mN I2 G2 = mSk (A 53) (A 54) (A 55) (A 56) (A 57) (A 64) (A 65) (mCh nv np G A B) (B 63) (G 52 12) (1, G 52 36, G 52 37) nv := hN
  have e2 : mSk (A 53) (A 54) (A 55) (A 56) (A 57) (A 64) (A 65) (mCh nv np G A B) (B 63) (G 52 12) (1, 0, 0) nv = wNx nv np PA W := x4
  rw [← e1, e2] at sim
  rcases sim with s1 | ⟨s1, s2⟩
  · by_cases z : I2 52 38 = 0
    · refine Or.inl ⟨z, ?_⟩
      rw [← s1]
      unfold mN
      rw [z]
    · refine Or.inr ⟨z, ?_⟩
      rw [← s1]
      exact z
  · exact Or.inr ⟨s1, s2⟩
theorem mm_passesW {T K : Int} (tA tB : Int64) (hR : mRS nv np PA W L I G A B) (hp : MPa nv np PA) (hW : wOk nv T K PA W) (hT : qRt nv np PA W I A) (hb : ¬ tB = 0) (hbe : ¬ wBe tA tB = 0) (hal : ¬ wAl W.1 tA tB = 0) : zWp ro 134 0 [(0, .ref 52), (1, .long tA), (3, .long tB)] [] (hS I G A B) 0 0 (fun r h1 => ∃ I2 G2 A2 B2, h1 = hS I2 G2 A2 B2 ∧ KQ fP pP I G A B I2 G2 A2 B2 ∧ ((r = some (.int 0) ∧ wPass nv np PA W tA tB = none ∧ mRS nv np PA W L I2 G2 A2 B2) ∨ (r = some (.int 1) ∧ ∃ W1, wPass nv np PA W tA tB = some W1 ∧ mRS nv np PA W1 L I2 G2 A2 B2))) := by
  have e := hR.2.2.1
  have hg0 : ¬ G 52 12 = 0 := by
    intro z
    have q := (hR.mw hW).1.1
    rw [z, i64_0] at q; omega
  have hal2 : ¬ (((G 52 12) / (mD (G 52 12) (tB / (mD tA tB)))) * (tB / (mD tA tB))) = 0 := by rw [hR.g]; exact hal
  have b := wR2_b hp W
  have hn8 := hp.1
  refine zWp.mono (mm_passes ro I G A B tA tB hg0 hb hbe hal2) ?_
  rintro r h1 ⟨I2, G2, A2, B2, rfl, K, q⟩
  refine ⟨I2, G2, A2, B2, rfl, K, ?_⟩
  rcases q with ⟨rfl, K0, hf⟩ | ⟨rfl, hs⟩
  · refine Or.inl ⟨rfl, ?_, hR.k K0 (by
      intro j h
      simp only [fC, decide_eq_false_iff_not]
      omega) (by
      intro k h1 h2
      simp only [pT, decide_eq_false_iff_not]
      omega)⟩
    have w := pass_w0 (ch := wCh nv np PA W) (sr := wSr nv np PA W) (dr := wDr nv np PA W) hT.1 hT.2.1 hT.2.2.1 hf
    rw [e] at w
    unfold wPass
    rw [← hR.g]
    exact w
  · have w := pass_w1 (A2 := A2) (ch := wCh nv np PA W) (sr := wSr nv np PA W) (dr := wDr nv np PA W) hT.1 (fun j hj => b.2.1 j (by omega)) (fun j hj => (hR.mw hW).1.2.2 j (by omega)) hT.2.1 hT.2.2.1 (K.2.2.1 65 rfl) (K.2.2.1 64 rfl) (K.2.2.1 66 rfl) hs
    rw [e] at w
    refine Or.inr ⟨rfl, wR G2 A2 B2, ?_, ⟨⟨(K.1 52 0 rfl).trans hR.1.1, (K.1 52 8 rfl).trans hR.1.2⟩, PE.k K (by
      intro k h1 h2
      simp only [pP, decide_eq_false_iff_not]
      omega) hR.2.1, rfl, qLR.k K rfl rfl rfl rfl rfl rfl hR.2.2.2⟩⟩
    unfold wPass
    rw [← hR.g]
    exact w
theorem mm_momentW {T K : Int} (hR : mRS nv np PA W L I G A B) (hp : MPa nv np PA) (hW : wInv nv T K PA W) (hT : T ≤ 40000) (hK : K ≤ 200000000) (hn : L.1 < 1000000000) : zWp ro 138 0 [(0, .ref 52)] [] (hS I G A B) 0 0 (fun r h1 => ∃ I2 G2 A2 B2, h1 = hS I2 G2 A2 B2 ∧ KQ fMo pM1 I G A B I2 G2 A2 B2 ∧ mRS nv np PA (wMom nv PA W) (qNotes (I 52 22) W.2.1 W.1 (I 52 41) L (wEv nv PA W)) I2 G2 A2 B2 ∧ r = none) := by
  have e := hR.2.2.1
  have hg0 : ¬ G 52 12 = 0 := by
    intro z
    have q := (hR.mw hW.1).1.1
    rw [z, i64_0] at q; omega
  have mo := mom_ok (hR.mp hp) (hR.mb hW.2.1) (hR.mw hW.1) hT hK
  have hn8 := hp.1
  refine zWp.mono (mm_moment ro nv np I G A B (hR.mp hp) (hR.mb hW.2.1) hg0 L hR.2.2.2 hn) ?_
  rintro r h1 ⟨I2, G2, A2, B2, rfl, K, q, rfl⟩
  have x1 : qMoms nv G A B = wMm nv PA W := by
    rw [← e]; exact (wMm_pe (W := wR G A B) hR.2.1)
  rw [x1] at q mo
  obtain ⟨b1, b2, b3, b4, b5, b6, b7, b8, b9, b10⟩ := q
  refine ⟨I2, G2, A2, B2, rfl, K, ⟨⟨(K.1 52 0 rfl).trans hR.1.1, (K.1 52 8 rfl).trans hR.1.2⟩, PE.k K pM1_p hR.2.1, ?_, ?_⟩, rfl⟩
  · have ec : qLc (G 52 13) (G 52 14) (wMm nv PA W).2.1 (G 52 12) (wMm nv PA W).1 8 = wLowC W (wMm nv PA W) := by rw [← e]; rfl
    rw [ec] at b1 b3 b4 b5 b6
    have el : B2 63 = fun j => (wMm nv PA W).1 j / wLowC W (wMm nv PA W) := by
      funext j
      rcases Nat.lt_or_ge j 8 with z | z
      · exact b1 j z
      · rw [b2 j z, mo.1.2 j (by omega)]; exact Int64.zero_div.symm
    unfold wR
    rw [b3, b4, b5, b6, b7, b8, b9, el]
    unfold wMom wLow
    rw [← e]
    rfl
  · rw [hR.t, hR.g] at b10
    exact b10
end ZSW
def fSt (k j : Nat) : Bool := decide (k = 52 ∧ ((12 ≤ j ∧ j ≤ 15) ∨ j = 20 ∨ (34 ≤ j ∧ j ≤ 39) ∨ j = 42))
def pSt (k : Nat) : Bool := decide ((63 ≤ k ∧ k ≤ 70) ∨ (72 ≤ k ∧ k ≤ 76))
def fGo (k j : Nat) : Bool := decide (k = 52 ∧ ((12 ≤ j ∧ j ≤ 15) ∨ j = 20 ∨ j = 27 ∨ (34 ≤ j ∧ j ≤ 39) ∨ j = 42))
theorem wStep_c {nv np : Nat} {PA : Nat → Nat → Int32} {W : qW} {u na nb : Int64} (hN : wNx nv np PA W = (0, na, nb)) (hb : ¬ (u * W.1 - W.2.1) * nb < na * W.1) : ¬ (wStep nv np PA u W).1 = 0 := by
  cases hp : wPass nv np PA W na nb with
  | none => rw [wStep_n hN hb hp]; show ¬ (-1 : Int32) = 0; decide
  | some W1 => rw [wStep_y hN hb hp]; show ¬ (1 : Int32) = 0; decide
theorem nI_n150 {k : Nat} (h : k < 150) : ¬ nI k = 150 := by
  intro q
  have := congrArg Int32.toInt q
  rw [nI_toInt (by omega)] at this
  have e : (150 : Int32).toInt = 150 := by decide
  omega
theorem fS_St : ∀ k j, fSt k j = false → fS k j = false := by
  intro k j h
  simp only [fS, fSt, decide_eq_false_iff_not] at h ⊢
  omega
theorem fP_St : ∀ k j, fSt k j = false → fP k j = false := by
  intro k j h
  simp only [fP, fSt, decide_eq_false_iff_not] at h ⊢
  omega
theorem fMo_St : ∀ k j, fSt k j = false → fMo k j = false := by
  intro k j h
  simp only [fMo, fSt, decide_eq_false_iff_not] at h ⊢
  omega
theorem pS_St : ∀ k, pSt k = false → pS k = false := by
  intro k h
  simp only [pS, pSt, decide_eq_false_iff_not] at h ⊢
  omega
theorem pP_St : ∀ k, pSt k = false → pP k = false := by
  intro k h
  simp only [pP, pSt, decide_eq_false_iff_not] at h ⊢
  omega
theorem pM1_St : ∀ k, pSt k = false → pM1 k = false := by
  intro k h
  simp only [pM1, pSt, decide_eq_false_iff_not] at h ⊢
  omega
theorem fSt_Go : ∀ k j, fGo k j = false → fSt k j = false := by
  intro k j h
  simp only [fSt, fGo, decide_eq_false_iff_not] at h ⊢
  omega
set_option maxRecDepth 100000 in
set_option maxHeartbeats 0 in
theorem mm_step (ro : UInt32 → Nat × (Nat → Int32)) (nv np : Nat) (PA : Nat → Nat → Int32) (W : qW) (L : qLog) (I : Nat → Nat → Int32) (G : Nat → Nat → Int64) (A : Nat → Nat → Int32) (B : Nat → Nat → Int64) (T T2 K : Int) (u : Int64) (hR : mRS nv np PA W L I G A B) (hp : MPa nv np PA) (hW : wInv nv T K PA W) (hT : T ≤ 40000) (hT2 : T2 ≤ 40000) (hK0 : 0 ≤ K) (hK : K ≤ 200000000) (hu : wU T T2 u) (hn : L.1 < 1000000000) : zWp ro 151 0 [(0, .ref 52), (1, .long u)] [] (hS I G A B) 0 0 (fun r h1 => ∃ I2 G2 A2 B2, h1 = hS I2 G2 A2 B2 ∧ KQ fSt pSt I G A B I2 G2 A2 B2 ∧ mRS nv np PA (wStep nv np PA u W).2.1 (qNotes (I 52 22) (wStep nv np PA u W).2.2.1 (wStep nv np PA u W).2.2.2.1 (I 52 41) L (wStep nv np PA u W).2.2.2.2) I2 G2 A2 B2 ∧ r = some (.int (wStep nv np PA u W).1)) := by
  refine zw_aload_n 1 f151_0 rfl rfl ?_
  refine zw_virtual_v 4 0 0 [.ref 52] [(0, .ref 52)] f151_1 rfl n151_228 k151_228_12 rfl (hb_52 _ _ _ _) (by decide +kernel) (Nat.le_of_ble_eq_true rfl) rfl rfl (by decide +kernel) (by decide +kernel) rfl (Nat.le_of_ble_eq_true rfl) rfl ?_
  refine zWp.mono (mm_seekW ro nv np PA W L _ _ _ _ hR hp hW.2.1) ?_
  rintro r h1 ⟨I_1, G_1, A_1, B_1, rfl, K_1, R_1, T_1, ⟨rs_1, na_1, nb_1, er_1, ea_1, eb_1, x_1⟩, rfl⟩
  refine ⟨rfl, ?_⟩
  refine zw_aload_n 5 f151_4 rfl rfl ?_
  refine zw_getI rs_1 8 f151_5 rfl g151_142_12 (hb_52 _ _ _ _) rfl er_1 ?_
  refine zw_if_ne 11 40 f151_8 (by decide +kernel) rfl (fun hc2 => ?_) (fun hc2 => ?_)
  · refine zw_iconst 0 41 f151_40 rfl (by decide +kernel) ?_
    refine zw_ireturn f151_41 r151 u151 ?_
    rw [show (wStep nv np PA u W) = _ from wStep_r (qNx_n x_1 hc2)]
    exact ⟨_, _, _, _, rfl, (KQ.tr KQ.rf (KQ.wk K_1 fS_St pS_St)), R_1, rfl⟩
  · refine zw_aload_n 12 f151_11 rfl rfl ?_
    refine zw_getG na_1 15 f151_12 rfl g151_148_12 (hb_52 _ _ _ _) rfl ea_1 ?_
    refine zw_aload_n 16 f151_15 rfl rfl ?_
    refine zw_getG W.1 19 f151_16 rfl g151_40_12 (hb_52 _ _ _ _) rfl R_1.g ?_
    refine zw_lmul (na_1 * W.1) 20 f151_19 rfl rfl ?_
    refine zw_lload_n 21 f151_20 rfl rfl ?_
    refine zw_aload_n 22 f151_21 rfl rfl ?_
    refine zw_getG W.1 25 f151_22 rfl g151_40_12 (hb_52 _ _ _ _) rfl R_1.g ?_
    refine zw_lmul (u * W.1) 26 f151_25 rfl rfl ?_
    refine zw_aload_n 27 f151_26 rfl rfl ?_
    refine zw_getG W.2.1 30 f151_27 rfl g151_172_12 (hb_52 _ _ _ _) rfl R_1.t ?_
    refine zw_lsub ((u * W.1) - W.2.1) 31 f151_30 rfl rfl ?_
    refine zw_aload_n 32 f151_31 rfl rfl ?_
    refine zw_getG nb_1 35 f151_32 rfl g151_145_12 (hb_52 _ _ _ _) rfl eb_1 ?_
    refine zw_lmul (((u * W.1) - W.2.1) * nb_1) 36 f151_35 rfl rfl ?_
    refine zw_lcmp (lg_cmp (na_1 * W.1) (((u * W.1) - W.2.1) * nb_1)) 37 f151_36 rfl rfl ?_
    refine zw_if_le 40 42 f151_37 (by decide +kernel) rfl (fun hc3 => ?_) (fun hc3 => ?_)
    · refine zw_aload_n 43 f151_42 rfl rfl ?_
      refine zw_aload_n 44 f151_43 rfl rfl ?_
      refine zw_getG na_1 47 f151_44 rfl g151_148_12 (hb_52 _ _ _ _) rfl ea_1 ?_
      refine zw_aload_n 48 f151_47 rfl rfl ?_
      refine zw_getG nb_1 51 f151_48 rfl g151_145_12 (hb_52 _ _ _ _) rfl eb_1 ?_
      refine zw_virtual_i 54 0 0 [.ref 52, .long na_1, .long nb_1] [(0, .ref 52), (1, .long na_1), (3, .long nb_1)] f151_51 rfl n151_231 k151_231_12 rfl (hb_52 _ _ _ _) (by decide +kernel) (Nat.le_of_ble_eq_true rfl) rfl rfl (by decide +kernel) (by decide +kernel) rfl (Nat.le_of_ble_eq_true rfl) rfl ?_
      have hN := qNx_y x_1 (Decidable.of_not_not hc2)
      have hb : ¬ (u * W.1 - W.2.1) * nb_1 < na_1 * W.1 := (Int64.not_lt.mpr ((lg_cmp_le _ _).mp hc3))
      obtain ⟨c1, c2, c3, c4⟩ := wStep_pass hp hW.1 hT hK0 hK hu hN hb
      refine zWp.mono (mm_passesW ro nv np PA W L _ _ _ _ na_1 nb_1 R_1 hp hW.1 T_1 c1 c2 c3) ?_
      rintro r h1 ⟨I_4, G_4, A_4, B_4, rfl, K_4, (⟨rfl, E_4, R_4⟩ | ⟨rfl, W_4, E_4, R_4⟩)⟩
      · refine ⟨_, rfl, ?_⟩
        refine zw_if_ne_f 57 59 f151_54 (by decide +kernel) rfl (by decide +kernel) ?_
        refine zw_iconst (-1) 58 f151_57 rfl (by decide +kernel) ?_
        refine zw_ireturn f151_58 r151 u151 ?_
        rw [show (wStep nv np PA u W) = _ from wStep_n hN hb E_4]
        exact ⟨_, _, _, _, rfl, (KQ.tr (KQ.tr KQ.rf (KQ.wk K_1 fS_St pS_St)) (KQ.wk K_4 fP_St pP_St)), R_4, rfl⟩
      · refine ⟨_, rfl, ?_⟩
        refine zw_if_ne_t 59 f151_54 (by decide +kernel) (by decide +kernel) ?_
        refine zw_aload_n 60 f151_59 rfl rfl ?_
        refine zw_virtual_v 63 0 0 [.ref 52] [(0, .ref 52)] f151_60 rfl n151_202 k151_202_12 rfl (hb_52 _ _ _ _) (by decide +kernel) (Nat.le_of_ble_eq_true rfl) rfl rfl (by decide +kernel) (by decide +kernel) rfl (Nat.le_of_ble_eq_true rfl) rfl ?_
        have i1 : wInv nv T2 K PA W_4 := ⟨(c4 _ E_4).1, by have z := (c4 _ E_4).2; unfold wBo; rw [z]; exact hW.2.1, by have z := (c4 _ E_4).2; unfold wZ; rw [z]; exact hW.2.2⟩
        refine zWp.mono (mm_momentW ro nv np PA W_4 L _ _ _ _ R_4 hp i1 (by omega) (by omega) (by omega)) ?_
        rintro r h1 ⟨I_5, G_5, A_5, B_5, rfl, K_5, R_5, rfl⟩
        refine ⟨rfl, ?_⟩
        rw [((K_4.1 52 22 rfl).trans (K_1.1 52 22 rfl)), ((K_4.1 52 41 rfl).trans (K_1.1 52 41 rfl))] at R_5
        refine zw_iconst 1 64 f151_63 rfl (by decide +kernel) ?_
        refine zw_ireturn f151_64 r151 u151 ?_
        rw [show (wStep nv np PA u W) = _ from wStep_y hN hb E_4]
        exact ⟨_, _, _, _, rfl, (KQ.tr (KQ.tr (KQ.tr KQ.rf (KQ.wk K_1 fS_St pS_St)) (KQ.wk K_4 fP_St pP_St)) (KQ.wk K_5 fMo_St pM1_St)), R_5, rfl⟩
    · refine zw_iconst 0 41 f151_40 rfl (by decide +kernel) ?_
      refine zw_ireturn f151_41 r151 u151 ?_
      rw [show (wStep nv np PA u W) = _ from wStep_b (qNx_y x_1 (Decidable.of_not_not hc2)) (Int64.not_le.mp (fun q => hc3 ((lg_cmp_le _ _).mpr q)))]
      exact ⟨_, _, _, _, rfl, (KQ.tr KQ.rf (KQ.wk K_1 fS_St pS_St)), R_1, rfl⟩
theorem fS_Go : ∀ k j, fGo k j = false → fS k j = false := fun k j h => fS_St k j (fSt_Go k j h)
theorem fP_Go : ∀ k j, fGo k j = false → fP k j = false := fun k j h => fP_St k j (fSt_Go k j h)
theorem f27_R : ∀ j, (j = 0 ∨ j = 8 ∨ (12 ≤ j ∧ j ≤ 15) ∨ j = 20 ∨ j = 42) → (fun k j => decide (k = 52 ∧ j = 27)) 52 j = false := by
  intro j h
  simp only [decide_eq_false_iff_not]
  omega
def qGoP (nv np : Nat) (PA : Nat → Nat → Int32) (u : Int64) (n0 : Nat) (X : Int32 × qW × qLog) (I2 : Nat → Nat → Int32) (G2 : Nat → Nat → Int64) (A2 : Nat → Nat → Int32) (B2 : Nat → Nat → Int64) (r : Option Value) : Prop := (X.1 = -1 → mRS nv np PA X.2.1 X.2.2 I2 G2 A2 B2 ∧ I2 52 27 = 4 ∧ r = some (.int (-1))) ∧ (¬ X.1 = -1 → mRS nv np PA (wTo nv np PA u X.2.1) X.2.2 I2 G2 A2 B2 ∧ I2 52 27 = 0 ∧ r = some (.int (nI X.2.2.1 - nI n0)))
/-- status, answer, water, log behind a go -/
def wGoX (nv np : Nat) (PA : Nat → Nat → Int32) (u : Int64) (n0 : Nat) (X : Int32 × qW × qLog) : Int32 × Int32 × qW × qLog := if X.1 = -1 then (4, -1, X.2.1, X.2.2) else (0, nI X.2.2.1 - nI n0, wTo nv np PA u X.2.1, X.2.2)
def wGoR (nv np : Nat) (PA : Nat → Nat → Int32) (rec so u : Int32) (W : qW) (L : qLog) : Int32 × Int32 × qW × qLog := if 10000 < u ∨ Int32.toInt64 u * W.1 < W.2.1 then (1, -1, W, L) else wGoX nv np PA (Int32.toInt64 u) L.1 (wGo nv np PA rec so (Int32.toInt64 u) 150 W L)
def qGoQ (nv np : Nat) (PA : Nat → Nat → Int32) (Y : Int32 × Int32 × qW × qLog) (I2 : Nat → Nat → Int32) (G2 : Nat → Nat → Int64) (A2 : Nat → Nat → Int32) (B2 : Nat → Nat → Int64) (r : Option Value) : Prop := mRS nv np PA Y.2.2.1 Y.2.2.2 I2 G2 A2 B2 ∧ I2 52 27 = Y.1 ∧ r = some (.int Y.2.1)
theorem qGoP.f {nv np : Nat} {PA : Nat → Nat → Int32} {u : Int64} {n0 : Nat} {X : Int32 × qW × qLog} {I2 : Nat → Nat → Int32} {G2 : Nat → Nat → Int64} {A2 : Nat → Nat → Int32} {B2 : Nat → Nat → Int64} {r : Option Value} (h : qGoP nv np PA u n0 X I2 G2 A2 B2 r) : qGoQ nv np PA (wGoX nv np PA u n0 X) I2 G2 A2 B2 r := by
  unfold wGoX
  by_cases z : X.1 = -1
  · rw [if_pos z]; exact h.1 z
  · rw [if_neg z]; exact h.2 z
theorem wGo_u {nv : Nat} {T K : Int} {PA : Nat → Nat → Int32} {W : qW} {u : Int32} (hW : wOk nv T K PA W) (h1 : ¬ 10000 < u) (h2 : ¬ Int32.toInt64 u * W.1 < W.2.1) : 0 ≤ (Int32.toInt64 u).toInt ∧ (Int32.toInt64 u).toInt ≤ 10000 := by
  have hg : 1 ≤ W.1.toInt ∧ W.1.toInt ≤ 10000 := hW.1.1
  have ht : 0 ≤ W.2.1.toInt := hW.2.1.1
  rw [i32_lt] at h1
  have e : (10000 : Int32).toInt = 10000 := by decide
  have l1 := Int32.le_toInt u
  have l2 := Int32.toInt_lt u
  rw [Int32.toInt_toInt64]
  refine ⟨?_, by omega⟩
  rcases Int.lt_or_le u.toInt 0 with z | z
  · exfalso
    apply h2
    have m := abs_mul (a := u.toInt) (b := W.1.toInt) (A := 2147483648) (B := 10000) (by omega) (by omega) (by omega) hg.2
    have e2 : (Int32.toInt64 u * W.1).toInt = u.toInt * W.1.toInt := by
      rw [i64_mul, Int32.toInt_toInt64] <;> rw [Int32.toInt_toInt64] <;> omega
    have : u.toInt * W.1.toInt < 0 := Int.mul_neg_of_neg_of_pos z (by omega)
    rw [i64_lt, e2]
    omega
  · exact z
set_option maxRecDepth 100000 in
set_option maxHeartbeats 0 in
theorem lmm_go (ro : UInt32 → Nat × (Nat → Int32)) (nv np : Nat) (PA : Nat → Nat → Int32) (W : qW) (L : qLog) (I : Nat → Nat → Int32) (G : Nat → Nat → Int64) (A : Nat → Nat → Int32) (B : Nat → Nat → Int64) (K : Int) (u : Int32) (hR : mRS nv np PA W L I G A B) (hp : MPa nv np PA) (hW : wInv nv 10000 K PA W) (hK0 : 0 ≤ K) (hK : K ≤ 199000000) (hn : L.1 < 900000000) (u0 : 0 ≤ (Int32.toInt64 u).toInt) (u1 : (Int32.toInt64 u).toInt ≤ 10000) : ∀ (n k : Nat) (ls : List (Nat × Value)) (I1 : Nat → Nat → Int32) (G1 : Nat → Nat → Int64) (A1 : Nat → Nat → Int32) (B1 : Nat → Nat → Int64) (W1 : qW) (L1 : qLog), KQ fGo pSt I G A B I1 G1 A1 B1 → mRS nv np PA W1 L1 I1 G1 A1 B1 → wInv nv 10000 (K + 1600 * k) PA W1 → L1.1 ≤ L.1 + 24 * k → zld ls 0 = some (.ref 52) → zld ls 1 = some (.int u) → zld ls 2 = some (.int (nI L.1)) → zld ls 3 = some (.int (nI k)) → zld ls 4 = some (.int 1) → k + n = 150 → zWp ro 152 38 ls [] (hS I1 G1 A1 B1) 0 0 (fun r h1 => ∃ I2 G2 A2 B2, h1 = hS I2 G2 A2 B2 ∧ KQ fGo pSt I G A B I2 G2 A2 B2 ∧ qGoP nv np PA (Int32.toInt64 u) L.1 (wGo nv np PA (I 52 22) (I 52 41) (Int32.toInt64 u) n W1 L1) I2 G2 A2 B2 r) := by
  intro n
  induction n with
  | zero =>
    intro k ls I1 G1 A1 B1 W1 L1 KK R1 hJ hl h0 h1 h2 h3 h4 hk
    have hk0 : k = 150 := by omega
    subst hk0
    replace h3 : zld ls 3 = some (.int 150) := h3
    refine zw_iload 40 f152_38 rfl h4 ?_
    refine zw_iconst 1 41 f152_40 rfl (by decide +kernel) ?_
    refine zw_ic_ne_f 44 122 f152_41 (by decide +kernel) rfl (by decide +kernel) ?_
    refine zw_aload_n 45 f152_44 rfl h0 ?_
    refine zw_virtual_v 48 0 0 [.ref 52] [(0, .ref 52)] f152_45 rfl n152_228 k152_228_12 rfl (hb_52 _ _ _ _) (by decide +kernel) (Nat.le_of_ble_eq_true rfl) rfl rfl (by decide +kernel) (by decide +kernel) rfl (Nat.le_of_ble_eq_true rfl) rfl ?_
    refine zWp.mono (mm_seekW ro nv np PA W1 L1 _ _ _ _ R1 hp hJ.2.1) ?_
    rintro r h1 ⟨I_1, G_1, A_1, B_1, rfl, K_1, R_1, T_1, ⟨rs_1, na_1, nb_1, er_1, ea_1, eb_1, x_1⟩, rfl⟩
    refine ⟨rfl, ?_⟩
    refine zw_aload_n 49 f152_48 rfl h0 ?_
    refine zw_getI rs_1 52 f152_49 rfl g152_142_12 (hb_52 _ _ _ _) rfl er_1 ?_
    refine zw_if_ne 55 89 f152_52 (by decide +kernel) rfl (fun hc2 => ?_) (fun hc2 => ?_)
    · refine zw_iconst 0 90 f152_89 rfl (by decide +kernel) ?_
      refine zw_istore _ 92 f152_90 rfl (by decide +kernel) rfl ?_
      refine zw_iload 94 f152_92 rfl zl1_eq ?_
      refine zw_if_eq_t 108 f152_94 (by decide +kernel) (by decide +kernel) ?_
      refine zw_aload_n 109 f152_108 rfl (zl1_ne rfl rfl h0) ?_
      refine zw_iload_n 110 f152_109 rfl (zl1_ne rfl rfl h1) ?_
      refine zw_i2l (Int32.toInt64 u) 111 f152_110 rfl rfl ?_
      refine zw_virtual_i 114 0 0 [.ref 52, .long (Int32.toInt64 u)] [(0, .ref 52), (1, .long (Int32.toInt64 u))] f152_111 rfl n152_235 k152_235_12 rfl (hb_52 _ _ _ _) (by decide +kernel) (Nat.le_of_ble_eq_true rfl) rfl rfl (by decide +kernel) (by decide +kernel) rfl (Nat.le_of_ble_eq_true rfl) rfl ?_
      refine zWp.mono (mm_step ro nv np PA W1 L1 _ _ _ _ 10000 10000 (K + 1600 * 150) (Int32.toInt64 u) R_1 hp hJ (by omega) (by omega) (by omega) (by omega) (Or.inr ⟨u0, u1, u1⟩) (by omega)) ?_
      rintro r h1 ⟨I_3, G_3, A_3, B_3, rfl, K_3, R_3, rfl⟩
      rw [((K_1.1 52 22 rfl).trans (KK.1 52 22 rfl)), ((K_1.1 52 41 rfl).trans (KK.1 52 41 rfl))] at R_3
      have E : wStep nv np PA (Int32.toInt64 u) W1 = (0, W1, 0, 0, []) := wStep_r (qNx_n x_1 hc2)
      rw [E] at R_3
      refine ⟨0, by rw [E], ?_⟩
      refine zw_istore _ 116 f152_114 rfl (by decide +kernel) rfl ?_
      refine zw_iinc 151 _ 119 f152_116 rfl (zl1_ne rfl rfl (zl1_ne rfl rfl h3)) (by decide +kernel) (by decide +kernel) rfl ?_
      refine zw_goto 38 f152_119 (by decide +kernel) ?_
      refine zw_iload 40 f152_38 rfl (zl1_ne rfl rfl zl1_eq) ?_
      refine zw_iconst 1 41 f152_40 rfl (by decide +kernel) ?_
      refine zw_ic_ne_t 122 f152_41 (by decide +kernel) (by decide +kernel) ?_
      refine zw_iload 124 f152_122 rfl (zl1_ne rfl rfl zl1_eq) ?_
      refine zw_iconst (-1) 125 f152_124 rfl (by decide +kernel) ?_
      refine zw_ic_ne_t 134 f152_125 (by decide +kernel) (by decide +kernel) ?_
      refine zw_aload_n 135 f152_134 rfl (zl1_ne rfl rfl (zl1_ne rfl rfl (zl1_ne rfl rfl h0))) ?_
      refine zw_virtual_v 138 0 0 [.ref 52] [(0, .ref 52)] f152_135 rfl n152_228 k152_228_12 rfl (hb_52 _ _ _ _) (by decide +kernel) (Nat.le_of_ble_eq_true rfl) rfl rfl (by decide +kernel) (by decide +kernel) rfl (Nat.le_of_ble_eq_true rfl) rfl ?_
      refine zWp.mono (mm_seekW ro nv np PA W1 L1 _ _ _ _ R_3 hp hJ.2.1) ?_
      rintro r h1 ⟨I_4, G_4, A_4, B_4, rfl, K_4, R_4, T_4, ⟨rs_4, na_4, nb_4, er_4, ea_4, eb_4, x_4⟩, rfl⟩
      refine ⟨rfl, ?_⟩
      refine zw_iload_n 139 f152_138 rfl (zl1_ne rfl rfl (zl1_ne rfl rfl (zl1_ne rfl rfl h1))) ?_
      refine zw_i2l (Int32.toInt64 u) 140 f152_139 rfl rfl ?_
      refine zw_aload_n 141 f152_140 rfl (zl1_ne rfl rfl (zl1_ne rfl rfl (zl1_ne rfl rfl h0))) ?_
      refine zw_getG W1.1 144 f152_141 rfl g152_40_12 (hb_52 _ _ _ _) rfl R_4.g ?_
      refine zw_lmul ((Int32.toInt64 u) * W1.1) 145 f152_144 rfl rfl ?_
      refine zw_aload_n 146 f152_145 rfl (zl1_ne rfl rfl (zl1_ne rfl rfl (zl1_ne rfl rfl h0))) ?_
      refine zw_getG W1.2.1 149 f152_146 rfl g152_172_12 (hb_52 _ _ _ _) rfl R_4.t ?_
      refine zw_lcmp (lg_cmp ((Int32.toInt64 u) * W1.1) W1.2.1) 150 f152_149 rfl rfl ?_
      refine zw_if_le 153 174 f152_150 (by decide +kernel) rfl (fun hc5 => ?_) (fun hc5 => ?_)
      · refine zw_aload_n 175 f152_174 rfl (zl1_ne rfl rfl (zl1_ne rfl rfl (zl1_ne rfl rfl h0))) ?_
        refine zw_aload_n 176 f152_175 rfl (zl1_ne rfl rfl (zl1_ne rfl rfl (zl1_ne rfl rfl h0))) ?_
        refine zw_getI (nI L1.1) 179 f152_176 rfl g152_183_12 (hb_52 _ _ _ _) rfl ((K_4.1 52 20 rfl).trans R_3.2.2.2.1) ?_
        refine zw_iload_n 180 f152_179 rfl (zl1_ne rfl rfl (zl1_ne rfl rfl (zl1_ne rfl rfl h2))) ?_
        refine zw_isub ((nI L1.1) - (nI L.1)) 181 f152_180 rfl rfl ?_
        refine zw_virtual_i 184 0 0 [.ref 52, .int ((nI L1.1) - (nI L.1))] [(0, .ref 52), (1, .int ((nI L1.1) - (nI L.1)))] f152_181 rfl n152_205 k152_205_12 rfl (hb_52 _ _ _ _) (by decide +kernel) (Nat.le_of_ble_eq_true rfl) rfl rfl (by decide +kernel) (by decide +kernel) rfl (Nat.le_of_ble_eq_true rfl) rfl ?_
        refine zw_aload_n 1 f122_0 rfl rfl ?_
        refine zw_iconst 0 2 f122_1 rfl (by decide +kernel) ?_
        refine zw_put _ 5 f122_2 rfl g122_111_12 (hb_52 _ _ _ _) rfl (Nat.le_of_ble_eq_true rfl) (by decide +kernel) (hi_52_27 _ _ _ _ _) ?_
        refine zw_iload_n 6 f122_5 rfl rfl ?_
        refine zw_ireturn f122_6 r122 u122 ⟨_, rfl, ?_⟩
        refine zw_ireturn f152_184 r152 u152 ?_
        rw [show wGo nv np PA (I 52 22) (I 52 41) (Int32.toInt64 u) 0 W1 L1 = (0, W1, L1) from congrArg (fun z => (z, W1, L1)) (if_pos (by rw [E]))]
        have ET : wTo nv np PA (Int32.toInt64 u) W1 = W1 := if_neg (Int64.not_lt.mpr ((lg_cmp_le _ _).mp hc5))
        refine ⟨_, _, _, _, rfl, (KQ.i rfl (KQ.tr (KQ.tr (KQ.tr KK (KQ.wk K_1 fS_Go pS_St)) (KQ.wk K_3 fSt_Go (fun _ h => h))) (KQ.wk K_4 fS_Go pS_St))), fun z => absurd (show (0 : Int32) = -1 from z) (by decide), fun _ => ⟨?_, rfl, rfl⟩⟩
        show mRS nv np PA (wTo nv np PA (Int32.toInt64 u) W1) L1 _ _ _ _
        rw [ET]
        exact (R_4.k (pf := fun k j => decide (k = 52 ∧ j = 27)) (pa := fun _ => false) (KQ.i rfl KQ.rf) f27_R (fun _ _ _ => rfl))
      · refine zw_aload_n 154 f152_153 rfl (zl1_ne rfl rfl (zl1_ne rfl rfl (zl1_ne rfl rfl h0))) ?_
        refine zw_iload_n 155 f152_154 rfl (zl1_ne rfl rfl (zl1_ne rfl rfl (zl1_ne rfl rfl h1))) ?_
        refine zw_i2l (Int32.toInt64 u) 156 f152_155 rfl rfl ?_
        refine zw_aload_n 157 f152_156 rfl (zl1_ne rfl rfl (zl1_ne rfl rfl (zl1_ne rfl rfl h0))) ?_
        refine zw_getG W1.1 160 f152_157 rfl g152_40_12 (hb_52 _ _ _ _) rfl R_4.g ?_
        refine zw_lmul ((Int32.toInt64 u) * W1.1) 161 f152_160 rfl rfl ?_
        refine zw_aload_n 162 f152_161 rfl (zl1_ne rfl rfl (zl1_ne rfl rfl (zl1_ne rfl rfl h0))) ?_
        refine zw_getG W1.2.1 165 f152_162 rfl g152_172_12 (hb_52 _ _ _ _) rfl R_4.t ?_
        refine zw_lsub (((Int32.toInt64 u) * W1.1) - W1.2.1) 166 f152_165 rfl rfl ?_
        refine zw_aload_n 167 f152_166 rfl (zl1_ne rfl rfl (zl1_ne rfl rfl (zl1_ne rfl rfl h0))) ?_
        refine zw_getG W1.1 170 f152_167 rfl g152_40_12 (hb_52 _ _ _ _) rfl R_4.g ?_
        refine zw_virtual_i 173 0 0 [.ref 52, .long (((Int32.toInt64 u) * W1.1) - W1.2.1), .long W1.1] [(0, .ref 52), (1, .long (((Int32.toInt64 u) * W1.1) - W1.2.1)), (3, .long W1.1)] f152_170 rfl n152_231 k152_231_12 rfl (hb_52 _ _ _ _) (by decide +kernel) (Nat.le_of_ble_eq_true rfl) rfl rfl (by decide +kernel) (by decide +kernel) rfl (Nat.le_of_ble_eq_true rfl) rfl ?_
        obtain ⟨c1, c2, c3, c4⟩ := wTo_pass hp hJ (by omega) (by omega) (by omega) u0 u1 (by rw [E]) (Int64.not_le.mp (fun q => hc5 ((lg_cmp_le _ _).mpr q)))
        refine zWp.mono (mm_passesW ro nv np PA W1 L1 _ _ _ _ (((Int32.toInt64 u) * W1.1) - W1.2.1) W1.1 R_4 hp hJ.1 T_4 c1 c2 c3) ?_
        rintro r h1 ⟨I_6, G_6, A_6, B_6, rfl, K_6, (⟨rfl, E_6, R_6⟩ | ⟨rfl, W_6, E_6, R_6⟩)⟩
        · refine ⟨_, rfl, ?_⟩
          refine zw_pop 174 f152_173 rfl rfl ?_
          refine zw_aload_n 175 f152_174 rfl (zl1_ne rfl rfl (zl1_ne rfl rfl (zl1_ne rfl rfl h0))) ?_
          refine zw_aload_n 176 f152_175 rfl (zl1_ne rfl rfl (zl1_ne rfl rfl (zl1_ne rfl rfl h0))) ?_
          refine zw_getI (nI L1.1) 179 f152_176 rfl g152_183_12 (hb_52 _ _ _ _) rfl ((K_6.1 52 20 rfl).trans ((K_4.1 52 20 rfl).trans R_3.2.2.2.1)) ?_
          refine zw_iload_n 180 f152_179 rfl (zl1_ne rfl rfl (zl1_ne rfl rfl (zl1_ne rfl rfl h2))) ?_
          refine zw_isub ((nI L1.1) - (nI L.1)) 181 f152_180 rfl rfl ?_
          refine zw_virtual_i 184 0 0 [.ref 52, .int ((nI L1.1) - (nI L.1))] [(0, .ref 52), (1, .int ((nI L1.1) - (nI L.1)))] f152_181 rfl n152_205 k152_205_12 rfl (hb_52 _ _ _ _) (by decide +kernel) (Nat.le_of_ble_eq_true rfl) rfl rfl (by decide +kernel) (by decide +kernel) rfl (Nat.le_of_ble_eq_true rfl) rfl ?_
          refine zw_aload_n 1 f122_0 rfl rfl ?_
          refine zw_iconst 0 2 f122_1 rfl (by decide +kernel) ?_
          refine zw_put _ 5 f122_2 rfl g122_111_12 (hb_52 _ _ _ _) rfl (Nat.le_of_ble_eq_true rfl) (by decide +kernel) (hi_52_27 _ _ _ _ _) ?_
          refine zw_iload_n 6 f122_5 rfl rfl ?_
          refine zw_ireturn f122_6 r122 u122 ⟨_, rfl, ?_⟩
          refine zw_ireturn f152_184 r152 u152 ?_
          rw [show wGo nv np PA (I 52 22) (I 52 41) (Int32.toInt64 u) 0 W1 L1 = (0, W1, L1) from congrArg (fun z => (z, W1, L1)) (if_pos (by rw [E]))]
          have ET : wTo nv np PA (Int32.toInt64 u) W1 = W1 := (if_pos (Int64.not_le.mp (fun q => hc5 ((lg_cmp_le _ _).mpr q)))).trans (by rw [E_6]; rfl)
          refine ⟨_, _, _, _, rfl, (KQ.i rfl (KQ.tr (KQ.tr (KQ.tr (KQ.tr KK (KQ.wk K_1 fS_Go pS_St)) (KQ.wk K_3 fSt_Go (fun _ h => h))) (KQ.wk K_4 fS_Go pS_St)) (KQ.wk K_6 fP_Go pP_St))), fun z => absurd (show (0 : Int32) = -1 from z) (by decide), fun _ => ⟨?_, rfl, rfl⟩⟩
          show mRS nv np PA (wTo nv np PA (Int32.toInt64 u) W1) L1 _ _ _ _
          rw [ET]
          exact (R_6.k (pf := fun k j => decide (k = 52 ∧ j = 27)) (pa := fun _ => false) (KQ.i rfl KQ.rf) f27_R (fun _ _ _ => rfl))
        · refine ⟨_, rfl, ?_⟩
          refine zw_pop 174 f152_173 rfl rfl ?_
          refine zw_aload_n 175 f152_174 rfl (zl1_ne rfl rfl (zl1_ne rfl rfl (zl1_ne rfl rfl h0))) ?_
          refine zw_aload_n 176 f152_175 rfl (zl1_ne rfl rfl (zl1_ne rfl rfl (zl1_ne rfl rfl h0))) ?_
          refine zw_getI (nI L1.1) 179 f152_176 rfl g152_183_12 (hb_52 _ _ _ _) rfl ((K_6.1 52 20 rfl).trans ((K_4.1 52 20 rfl).trans R_3.2.2.2.1)) ?_
          refine zw_iload_n 180 f152_179 rfl (zl1_ne rfl rfl (zl1_ne rfl rfl (zl1_ne rfl rfl h2))) ?_
          refine zw_isub ((nI L1.1) - (nI L.1)) 181 f152_180 rfl rfl ?_
          refine zw_virtual_i 184 0 0 [.ref 52, .int ((nI L1.1) - (nI L.1))] [(0, .ref 52), (1, .int ((nI L1.1) - (nI L.1)))] f152_181 rfl n152_205 k152_205_12 rfl (hb_52 _ _ _ _) (by decide +kernel) (Nat.le_of_ble_eq_true rfl) rfl rfl (by decide +kernel) (by decide +kernel) rfl (Nat.le_of_ble_eq_true rfl) rfl ?_
          refine zw_aload_n 1 f122_0 rfl rfl ?_
          refine zw_iconst 0 2 f122_1 rfl (by decide +kernel) ?_
          refine zw_put _ 5 f122_2 rfl g122_111_12 (hb_52 _ _ _ _) rfl (Nat.le_of_ble_eq_true rfl) (by decide +kernel) (hi_52_27 _ _ _ _ _) ?_
          refine zw_iload_n 6 f122_5 rfl rfl ?_
          refine zw_ireturn f122_6 r122 u122 ⟨_, rfl, ?_⟩
          refine zw_ireturn f152_184 r152 u152 ?_
          rw [show wGo nv np PA (I 52 22) (I 52 41) (Int32.toInt64 u) 0 W1 L1 = (0, W1, L1) from congrArg (fun z => (z, W1, L1)) (if_pos (by rw [E]))]
          have ET : wTo nv np PA (Int32.toInt64 u) W1 = W_6 := (if_pos (Int64.not_le.mp (fun q => hc5 ((lg_cmp_le _ _).mpr q)))).trans (by rw [E_6]; rfl)
          refine ⟨_, _, _, _, rfl, (KQ.i rfl (KQ.tr (KQ.tr (KQ.tr (KQ.tr KK (KQ.wk K_1 fS_Go pS_St)) (KQ.wk K_3 fSt_Go (fun _ h => h))) (KQ.wk K_4 fS_Go pS_St)) (KQ.wk K_6 fP_Go pP_St))), fun z => absurd (show (0 : Int32) = -1 from z) (by decide), fun _ => ⟨?_, rfl, rfl⟩⟩
          show mRS nv np PA (wTo nv np PA (Int32.toInt64 u) W1) L1 _ _ _ _
          rw [ET]
          exact (R_6.k (pf := fun k j => decide (k = 52 ∧ j = 27)) (pa := fun _ => false) (KQ.i rfl KQ.rf) f27_R (fun _ _ _ => rfl))
    · refine zw_aload_n 56 f152_55 rfl h0 ?_
      refine zw_getG na_1 59 f152_56 rfl g152_148_12 (hb_52 _ _ _ _) rfl ea_1 ?_
      refine zw_aload_n 60 f152_59 rfl h0 ?_
      refine zw_getG W1.1 63 f152_60 rfl g152_40_12 (hb_52 _ _ _ _) rfl R_1.g ?_
      refine zw_lmul (na_1 * W1.1) 64 f152_63 rfl rfl ?_
      refine zw_iload_n 65 f152_64 rfl h1 ?_
      refine zw_i2l (Int32.toInt64 u) 66 f152_65 rfl rfl ?_
      refine zw_aload_n 67 f152_66 rfl h0 ?_
      refine zw_getG W1.1 70 f152_67 rfl g152_40_12 (hb_52 _ _ _ _) rfl R_1.g ?_
      refine zw_lmul ((Int32.toInt64 u) * W1.1) 71 f152_70 rfl rfl ?_
      refine zw_aload_n 72 f152_71 rfl h0 ?_
      refine zw_getG W1.2.1 75 f152_72 rfl g152_172_12 (hb_52 _ _ _ _) rfl R_1.t ?_
      refine zw_lsub (((Int32.toInt64 u) * W1.1) - W1.2.1) 76 f152_75 rfl rfl ?_
      refine zw_aload_n 77 f152_76 rfl h0 ?_
      refine zw_getG nb_1 80 f152_77 rfl g152_145_12 (hb_52 _ _ _ _) rfl eb_1 ?_
      refine zw_lmul ((((Int32.toInt64 u) * W1.1) - W1.2.1) * nb_1) 81 f152_80 rfl rfl ?_
      refine zw_lcmp (lg_cmp (na_1 * W1.1) ((((Int32.toInt64 u) * W1.1) - W1.2.1) * nb_1)) 82 f152_81 rfl rfl ?_
      refine zw_if_gt 85 89 f152_82 (by decide +kernel) rfl (fun hc7 => ?_) (fun hc7 => ?_)
      · refine zw_iconst 0 90 f152_89 rfl (by decide +kernel) ?_
        refine zw_istore _ 92 f152_90 rfl (by decide +kernel) rfl ?_
        refine zw_iload 94 f152_92 rfl zl1_eq ?_
        refine zw_if_eq_t 108 f152_94 (by decide +kernel) (by decide +kernel) ?_
        refine zw_aload_n 109 f152_108 rfl (zl1_ne rfl rfl h0) ?_
        refine zw_iload_n 110 f152_109 rfl (zl1_ne rfl rfl h1) ?_
        refine zw_i2l (Int32.toInt64 u) 111 f152_110 rfl rfl ?_
        refine zw_virtual_i 114 0 0 [.ref 52, .long (Int32.toInt64 u)] [(0, .ref 52), (1, .long (Int32.toInt64 u))] f152_111 rfl n152_235 k152_235_12 rfl (hb_52 _ _ _ _) (by decide +kernel) (Nat.le_of_ble_eq_true rfl) rfl rfl (by decide +kernel) (by decide +kernel) rfl (Nat.le_of_ble_eq_true rfl) rfl ?_
        refine zWp.mono (mm_step ro nv np PA W1 L1 _ _ _ _ 10000 10000 (K + 1600 * 150) (Int32.toInt64 u) R_1 hp hJ (by omega) (by omega) (by omega) (by omega) (Or.inr ⟨u0, u1, u1⟩) (by omega)) ?_
        rintro r h1 ⟨I_8, G_8, A_8, B_8, rfl, K_8, R_8, rfl⟩
        rw [((K_1.1 52 22 rfl).trans (KK.1 52 22 rfl)), ((K_1.1 52 41 rfl).trans (KK.1 52 41 rfl))] at R_8
        have E : wStep nv np PA (Int32.toInt64 u) W1 = (0, W1, 0, 0, []) := wStep_b (qNx_y x_1 (Decidable.of_not_not hc2)) ((lg_cmp_gt _ _).mp hc7)
        rw [E] at R_8
        refine ⟨0, by rw [E], ?_⟩
        refine zw_istore _ 116 f152_114 rfl (by decide +kernel) rfl ?_
        refine zw_iinc 151 _ 119 f152_116 rfl (zl1_ne rfl rfl (zl1_ne rfl rfl h3)) (by decide +kernel) (by decide +kernel) rfl ?_
        refine zw_goto 38 f152_119 (by decide +kernel) ?_
        refine zw_iload 40 f152_38 rfl (zl1_ne rfl rfl zl1_eq) ?_
        refine zw_iconst 1 41 f152_40 rfl (by decide +kernel) ?_
        refine zw_ic_ne_t 122 f152_41 (by decide +kernel) (by decide +kernel) ?_
        refine zw_iload 124 f152_122 rfl (zl1_ne rfl rfl zl1_eq) ?_
        refine zw_iconst (-1) 125 f152_124 rfl (by decide +kernel) ?_
        refine zw_ic_ne_t 134 f152_125 (by decide +kernel) (by decide +kernel) ?_
        refine zw_aload_n 135 f152_134 rfl (zl1_ne rfl rfl (zl1_ne rfl rfl (zl1_ne rfl rfl h0))) ?_
        refine zw_virtual_v 138 0 0 [.ref 52] [(0, .ref 52)] f152_135 rfl n152_228 k152_228_12 rfl (hb_52 _ _ _ _) (by decide +kernel) (Nat.le_of_ble_eq_true rfl) rfl rfl (by decide +kernel) (by decide +kernel) rfl (Nat.le_of_ble_eq_true rfl) rfl ?_
        refine zWp.mono (mm_seekW ro nv np PA W1 L1 _ _ _ _ R_8 hp hJ.2.1) ?_
        rintro r h1 ⟨I_9, G_9, A_9, B_9, rfl, K_9, R_9, T_9, ⟨rs_9, na_9, nb_9, er_9, ea_9, eb_9, x_9⟩, rfl⟩
        refine ⟨rfl, ?_⟩
        refine zw_iload_n 139 f152_138 rfl (zl1_ne rfl rfl (zl1_ne rfl rfl (zl1_ne rfl rfl h1))) ?_
        refine zw_i2l (Int32.toInt64 u) 140 f152_139 rfl rfl ?_
        refine zw_aload_n 141 f152_140 rfl (zl1_ne rfl rfl (zl1_ne rfl rfl (zl1_ne rfl rfl h0))) ?_
        refine zw_getG W1.1 144 f152_141 rfl g152_40_12 (hb_52 _ _ _ _) rfl R_9.g ?_
        refine zw_lmul ((Int32.toInt64 u) * W1.1) 145 f152_144 rfl rfl ?_
        refine zw_aload_n 146 f152_145 rfl (zl1_ne rfl rfl (zl1_ne rfl rfl (zl1_ne rfl rfl h0))) ?_
        refine zw_getG W1.2.1 149 f152_146 rfl g152_172_12 (hb_52 _ _ _ _) rfl R_9.t ?_
        refine zw_lcmp (lg_cmp ((Int32.toInt64 u) * W1.1) W1.2.1) 150 f152_149 rfl rfl ?_
        refine zw_if_le 153 174 f152_150 (by decide +kernel) rfl (fun hc10 => ?_) (fun hc10 => ?_)
        · refine zw_aload_n 175 f152_174 rfl (zl1_ne rfl rfl (zl1_ne rfl rfl (zl1_ne rfl rfl h0))) ?_
          refine zw_aload_n 176 f152_175 rfl (zl1_ne rfl rfl (zl1_ne rfl rfl (zl1_ne rfl rfl h0))) ?_
          refine zw_getI (nI L1.1) 179 f152_176 rfl g152_183_12 (hb_52 _ _ _ _) rfl ((K_9.1 52 20 rfl).trans R_8.2.2.2.1) ?_
          refine zw_iload_n 180 f152_179 rfl (zl1_ne rfl rfl (zl1_ne rfl rfl (zl1_ne rfl rfl h2))) ?_
          refine zw_isub ((nI L1.1) - (nI L.1)) 181 f152_180 rfl rfl ?_
          refine zw_virtual_i 184 0 0 [.ref 52, .int ((nI L1.1) - (nI L.1))] [(0, .ref 52), (1, .int ((nI L1.1) - (nI L.1)))] f152_181 rfl n152_205 k152_205_12 rfl (hb_52 _ _ _ _) (by decide +kernel) (Nat.le_of_ble_eq_true rfl) rfl rfl (by decide +kernel) (by decide +kernel) rfl (Nat.le_of_ble_eq_true rfl) rfl ?_
          refine zw_aload_n 1 f122_0 rfl rfl ?_
          refine zw_iconst 0 2 f122_1 rfl (by decide +kernel) ?_
          refine zw_put _ 5 f122_2 rfl g122_111_12 (hb_52 _ _ _ _) rfl (Nat.le_of_ble_eq_true rfl) (by decide +kernel) (hi_52_27 _ _ _ _ _) ?_
          refine zw_iload_n 6 f122_5 rfl rfl ?_
          refine zw_ireturn f122_6 r122 u122 ⟨_, rfl, ?_⟩
          refine zw_ireturn f152_184 r152 u152 ?_
          rw [show wGo nv np PA (I 52 22) (I 52 41) (Int32.toInt64 u) 0 W1 L1 = (0, W1, L1) from congrArg (fun z => (z, W1, L1)) (if_pos (by rw [E]))]
          have ET : wTo nv np PA (Int32.toInt64 u) W1 = W1 := if_neg (Int64.not_lt.mpr ((lg_cmp_le _ _).mp hc10))
          refine ⟨_, _, _, _, rfl, (KQ.i rfl (KQ.tr (KQ.tr (KQ.tr KK (KQ.wk K_1 fS_Go pS_St)) (KQ.wk K_8 fSt_Go (fun _ h => h))) (KQ.wk K_9 fS_Go pS_St))), fun z => absurd (show (0 : Int32) = -1 from z) (by decide), fun _ => ⟨?_, rfl, rfl⟩⟩
          show mRS nv np PA (wTo nv np PA (Int32.toInt64 u) W1) L1 _ _ _ _
          rw [ET]
          exact (R_9.k (pf := fun k j => decide (k = 52 ∧ j = 27)) (pa := fun _ => false) (KQ.i rfl KQ.rf) f27_R (fun _ _ _ => rfl))
        · refine zw_aload_n 154 f152_153 rfl (zl1_ne rfl rfl (zl1_ne rfl rfl (zl1_ne rfl rfl h0))) ?_
          refine zw_iload_n 155 f152_154 rfl (zl1_ne rfl rfl (zl1_ne rfl rfl (zl1_ne rfl rfl h1))) ?_
          refine zw_i2l (Int32.toInt64 u) 156 f152_155 rfl rfl ?_
          refine zw_aload_n 157 f152_156 rfl (zl1_ne rfl rfl (zl1_ne rfl rfl (zl1_ne rfl rfl h0))) ?_
          refine zw_getG W1.1 160 f152_157 rfl g152_40_12 (hb_52 _ _ _ _) rfl R_9.g ?_
          refine zw_lmul ((Int32.toInt64 u) * W1.1) 161 f152_160 rfl rfl ?_
          refine zw_aload_n 162 f152_161 rfl (zl1_ne rfl rfl (zl1_ne rfl rfl (zl1_ne rfl rfl h0))) ?_
          refine zw_getG W1.2.1 165 f152_162 rfl g152_172_12 (hb_52 _ _ _ _) rfl R_9.t ?_
          refine zw_lsub (((Int32.toInt64 u) * W1.1) - W1.2.1) 166 f152_165 rfl rfl ?_
          refine zw_aload_n 167 f152_166 rfl (zl1_ne rfl rfl (zl1_ne rfl rfl (zl1_ne rfl rfl h0))) ?_
          refine zw_getG W1.1 170 f152_167 rfl g152_40_12 (hb_52 _ _ _ _) rfl R_9.g ?_
          refine zw_virtual_i 173 0 0 [.ref 52, .long (((Int32.toInt64 u) * W1.1) - W1.2.1), .long W1.1] [(0, .ref 52), (1, .long (((Int32.toInt64 u) * W1.1) - W1.2.1)), (3, .long W1.1)] f152_170 rfl n152_231 k152_231_12 rfl (hb_52 _ _ _ _) (by decide +kernel) (Nat.le_of_ble_eq_true rfl) rfl rfl (by decide +kernel) (by decide +kernel) rfl (Nat.le_of_ble_eq_true rfl) rfl ?_
          obtain ⟨c1, c2, c3, c4⟩ := wTo_pass hp hJ (by omega) (by omega) (by omega) u0 u1 (by rw [E]) (Int64.not_le.mp (fun q => hc10 ((lg_cmp_le _ _).mpr q)))
          refine zWp.mono (mm_passesW ro nv np PA W1 L1 _ _ _ _ (((Int32.toInt64 u) * W1.1) - W1.2.1) W1.1 R_9 hp hJ.1 T_9 c1 c2 c3) ?_
          rintro r h1 ⟨I_11, G_11, A_11, B_11, rfl, K_11, (⟨rfl, E_11, R_11⟩ | ⟨rfl, W_11, E_11, R_11⟩)⟩
          · refine ⟨_, rfl, ?_⟩
            refine zw_pop 174 f152_173 rfl rfl ?_
            refine zw_aload_n 175 f152_174 rfl (zl1_ne rfl rfl (zl1_ne rfl rfl (zl1_ne rfl rfl h0))) ?_
            refine zw_aload_n 176 f152_175 rfl (zl1_ne rfl rfl (zl1_ne rfl rfl (zl1_ne rfl rfl h0))) ?_
            refine zw_getI (nI L1.1) 179 f152_176 rfl g152_183_12 (hb_52 _ _ _ _) rfl ((K_11.1 52 20 rfl).trans ((K_9.1 52 20 rfl).trans R_8.2.2.2.1)) ?_
            refine zw_iload_n 180 f152_179 rfl (zl1_ne rfl rfl (zl1_ne rfl rfl (zl1_ne rfl rfl h2))) ?_
            refine zw_isub ((nI L1.1) - (nI L.1)) 181 f152_180 rfl rfl ?_
            refine zw_virtual_i 184 0 0 [.ref 52, .int ((nI L1.1) - (nI L.1))] [(0, .ref 52), (1, .int ((nI L1.1) - (nI L.1)))] f152_181 rfl n152_205 k152_205_12 rfl (hb_52 _ _ _ _) (by decide +kernel) (Nat.le_of_ble_eq_true rfl) rfl rfl (by decide +kernel) (by decide +kernel) rfl (Nat.le_of_ble_eq_true rfl) rfl ?_
            refine zw_aload_n 1 f122_0 rfl rfl ?_
            refine zw_iconst 0 2 f122_1 rfl (by decide +kernel) ?_
            refine zw_put _ 5 f122_2 rfl g122_111_12 (hb_52 _ _ _ _) rfl (Nat.le_of_ble_eq_true rfl) (by decide +kernel) (hi_52_27 _ _ _ _ _) ?_
            refine zw_iload_n 6 f122_5 rfl rfl ?_
            refine zw_ireturn f122_6 r122 u122 ⟨_, rfl, ?_⟩
            refine zw_ireturn f152_184 r152 u152 ?_
            rw [show wGo nv np PA (I 52 22) (I 52 41) (Int32.toInt64 u) 0 W1 L1 = (0, W1, L1) from congrArg (fun z => (z, W1, L1)) (if_pos (by rw [E]))]
            have ET : wTo nv np PA (Int32.toInt64 u) W1 = W1 := (if_pos (Int64.not_le.mp (fun q => hc10 ((lg_cmp_le _ _).mpr q)))).trans (by rw [E_11]; rfl)
            refine ⟨_, _, _, _, rfl, (KQ.i rfl (KQ.tr (KQ.tr (KQ.tr (KQ.tr KK (KQ.wk K_1 fS_Go pS_St)) (KQ.wk K_8 fSt_Go (fun _ h => h))) (KQ.wk K_9 fS_Go pS_St)) (KQ.wk K_11 fP_Go pP_St))), fun z => absurd (show (0 : Int32) = -1 from z) (by decide), fun _ => ⟨?_, rfl, rfl⟩⟩
            show mRS nv np PA (wTo nv np PA (Int32.toInt64 u) W1) L1 _ _ _ _
            rw [ET]
            exact (R_11.k (pf := fun k j => decide (k = 52 ∧ j = 27)) (pa := fun _ => false) (KQ.i rfl KQ.rf) f27_R (fun _ _ _ => rfl))
          · refine ⟨_, rfl, ?_⟩
            refine zw_pop 174 f152_173 rfl rfl ?_
            refine zw_aload_n 175 f152_174 rfl (zl1_ne rfl rfl (zl1_ne rfl rfl (zl1_ne rfl rfl h0))) ?_
            refine zw_aload_n 176 f152_175 rfl (zl1_ne rfl rfl (zl1_ne rfl rfl (zl1_ne rfl rfl h0))) ?_
            refine zw_getI (nI L1.1) 179 f152_176 rfl g152_183_12 (hb_52 _ _ _ _) rfl ((K_11.1 52 20 rfl).trans ((K_9.1 52 20 rfl).trans R_8.2.2.2.1)) ?_
            refine zw_iload_n 180 f152_179 rfl (zl1_ne rfl rfl (zl1_ne rfl rfl (zl1_ne rfl rfl h2))) ?_
            refine zw_isub ((nI L1.1) - (nI L.1)) 181 f152_180 rfl rfl ?_
            refine zw_virtual_i 184 0 0 [.ref 52, .int ((nI L1.1) - (nI L.1))] [(0, .ref 52), (1, .int ((nI L1.1) - (nI L.1)))] f152_181 rfl n152_205 k152_205_12 rfl (hb_52 _ _ _ _) (by decide +kernel) (Nat.le_of_ble_eq_true rfl) rfl rfl (by decide +kernel) (by decide +kernel) rfl (Nat.le_of_ble_eq_true rfl) rfl ?_
            refine zw_aload_n 1 f122_0 rfl rfl ?_
            refine zw_iconst 0 2 f122_1 rfl (by decide +kernel) ?_
            refine zw_put _ 5 f122_2 rfl g122_111_12 (hb_52 _ _ _ _) rfl (Nat.le_of_ble_eq_true rfl) (by decide +kernel) (hi_52_27 _ _ _ _ _) ?_
            refine zw_iload_n 6 f122_5 rfl rfl ?_
            refine zw_ireturn f122_6 r122 u122 ⟨_, rfl, ?_⟩
            refine zw_ireturn f152_184 r152 u152 ?_
            rw [show wGo nv np PA (I 52 22) (I 52 41) (Int32.toInt64 u) 0 W1 L1 = (0, W1, L1) from congrArg (fun z => (z, W1, L1)) (if_pos (by rw [E]))]
            have ET : wTo nv np PA (Int32.toInt64 u) W1 = W_11 := (if_pos (Int64.not_le.mp (fun q => hc10 ((lg_cmp_le _ _).mpr q)))).trans (by rw [E_11]; rfl)
            refine ⟨_, _, _, _, rfl, (KQ.i rfl (KQ.tr (KQ.tr (KQ.tr (KQ.tr KK (KQ.wk K_1 fS_Go pS_St)) (KQ.wk K_8 fSt_Go (fun _ h => h))) (KQ.wk K_9 fS_Go pS_St)) (KQ.wk K_11 fP_Go pP_St))), fun z => absurd (show (0 : Int32) = -1 from z) (by decide), fun _ => ⟨?_, rfl, rfl⟩⟩
            show mRS nv np PA (wTo nv np PA (Int32.toInt64 u) W1) L1 _ _ _ _
            rw [ET]
            exact (R_11.k (pf := fun k j => decide (k = 52 ∧ j = 27)) (pa := fun _ => false) (KQ.i rfl KQ.rf) f27_R (fun _ _ _ => rfl))
      · refine zw_iconst 1 86 f152_85 rfl (by decide +kernel) ?_
        refine zw_goto 90 f152_86 (by decide +kernel) ?_
        refine zw_istore _ 92 f152_90 rfl (by decide +kernel) rfl ?_
        refine zw_iload 94 f152_92 rfl zl1_eq ?_
        refine zw_if_eq_f 97 108 f152_94 (by decide +kernel) rfl (by decide +kernel) ?_
        refine zw_iload_n 98 f152_97 rfl (zl1_ne rfl rfl h3) ?_
        refine zw_sipush 150 101 f152_98 rfl (by decide +kernel) ?_
        refine zw_ic_ne_f 104 108 f152_101 (by decide +kernel) rfl (by decide +kernel) ?_
        refine zw_iconst (-1) 105 f152_104 rfl (by decide +kernel) ?_
        refine zw_goto 114 f152_105 (by decide +kernel) ?_
        refine zw_istore _ 116 f152_114 rfl (by decide +kernel) rfl ?_
        refine zw_iinc 151 _ 119 f152_116 rfl (zl1_ne rfl rfl (zl1_ne rfl rfl h3)) (by decide +kernel) (by decide +kernel) rfl ?_
        refine zw_goto 38 f152_119 (by decide +kernel) ?_
        refine zw_iload 40 f152_38 rfl (zl1_ne rfl rfl zl1_eq) ?_
        refine zw_iconst 1 41 f152_40 rfl (by decide +kernel) ?_
        refine zw_ic_ne_t 122 f152_41 (by decide +kernel) (by decide +kernel) ?_
        refine zw_iload 124 f152_122 rfl (zl1_ne rfl rfl zl1_eq) ?_
        refine zw_iconst (-1) 125 f152_124 rfl (by decide +kernel) ?_
        refine zw_ic_ne_f 128 134 f152_125 (by decide +kernel) rfl (by decide +kernel) ?_
        refine zw_aload_n 129 f152_128 rfl (zl1_ne rfl rfl (zl1_ne rfl rfl (zl1_ne rfl rfl h0))) ?_
        refine zw_iconst 4 130 f152_129 rfl (by decide +kernel) ?_
        refine zw_virtual_i 133 0 0 [.ref 52, .int 4] [(0, .ref 52), (1, .int 4)] f152_130 rfl n152_209 k152_209_12 rfl (hb_52 _ _ _ _) (by decide +kernel) (Nat.le_of_ble_eq_true rfl) rfl rfl (by decide +kernel) (by decide +kernel) rfl (Nat.le_of_ble_eq_true rfl) rfl ?_
        refine zw_aload_n 1 f121_0 rfl rfl ?_
        refine zw_iload_n 2 f121_1 rfl rfl ?_
        refine zw_put _ 5 f121_2 rfl g121_111_12 (hb_52 _ _ _ _) rfl (Nat.le_of_ble_eq_true rfl) (by decide +kernel) (hi_52_27 _ _ _ _ _) ?_
        refine zw_iconst (-1) 6 f121_5 rfl (by decide +kernel) ?_
        refine zw_ireturn f121_6 r121 u121 ⟨_, rfl, ?_⟩
        refine zw_ireturn f152_133 r152 u152 ?_
        rw [show wGo nv np PA (I 52 22) (I 52 41) (Int32.toInt64 u) 0 W1 L1 = (-1, W1, L1) from congrArg (fun z => (z, W1, L1)) (if_neg (wStep_c (qNx_y x_1 (Decidable.of_not_not hc2)) (Int64.not_lt.mpr (Int64.not_lt.mp (fun q => hc7 ((lg_cmp_gt _ _).mpr q))))))]
        exact ⟨_, _, _, _, rfl, (KQ.i rfl (KQ.tr KK (KQ.wk K_1 fS_Go pS_St))), fun _ => ⟨(R_1.k (pf := fun k j => decide (k = 52 ∧ j = 27)) (pa := fun _ => false) (KQ.i rfl KQ.rf) f27_R (fun _ _ _ => rfl)), rfl, rfl⟩, fun z => absurd rfl z⟩
  | succ n ih =>
    intro k ls I1 G1 A1 B1 W1 L1 KK R1 hJ hl h0 h1 h2 h3 h4 hk
    refine zw_iload 40 f152_38 rfl h4 ?_
    refine zw_iconst 1 41 f152_40 rfl (by decide +kernel) ?_
    refine zw_ic_ne_f 44 122 f152_41 (by decide +kernel) rfl (by decide +kernel) ?_
    refine zw_aload_n 45 f152_44 rfl h0 ?_
    refine zw_virtual_v 48 0 0 [.ref 52] [(0, .ref 52)] f152_45 rfl n152_228 k152_228_12 rfl (hb_52 _ _ _ _) (by decide +kernel) (Nat.le_of_ble_eq_true rfl) rfl rfl (by decide +kernel) (by decide +kernel) rfl (Nat.le_of_ble_eq_true rfl) rfl ?_
    refine zWp.mono (mm_seekW ro nv np PA W1 L1 _ _ _ _ R1 hp hJ.2.1) ?_
    rintro r h1 ⟨I_1, G_1, A_1, B_1, rfl, K_1, R_1, T_1, ⟨rs_1, na_1, nb_1, er_1, ea_1, eb_1, x_1⟩, rfl⟩
    refine ⟨rfl, ?_⟩
    refine zw_aload_n 49 f152_48 rfl h0 ?_
    refine zw_getI rs_1 52 f152_49 rfl g152_142_12 (hb_52 _ _ _ _) rfl er_1 ?_
    refine zw_if_ne 55 89 f152_52 (by decide +kernel) rfl (fun hc2 => ?_) (fun hc2 => ?_)
    · refine zw_iconst 0 90 f152_89 rfl (by decide +kernel) ?_
      refine zw_istore _ 92 f152_90 rfl (by decide +kernel) rfl ?_
      refine zw_iload 94 f152_92 rfl zl1_eq ?_
      refine zw_if_eq_t 108 f152_94 (by decide +kernel) (by decide +kernel) ?_
      refine zw_aload_n 109 f152_108 rfl (zl1_ne rfl rfl h0) ?_
      refine zw_iload_n 110 f152_109 rfl (zl1_ne rfl rfl h1) ?_
      refine zw_i2l (Int32.toInt64 u) 111 f152_110 rfl rfl ?_
      refine zw_virtual_i 114 0 0 [.ref 52, .long (Int32.toInt64 u)] [(0, .ref 52), (1, .long (Int32.toInt64 u))] f152_111 rfl n152_235 k152_235_12 rfl (hb_52 _ _ _ _) (by decide +kernel) (Nat.le_of_ble_eq_true rfl) rfl rfl (by decide +kernel) (by decide +kernel) rfl (Nat.le_of_ble_eq_true rfl) rfl ?_
      refine zWp.mono (mm_step ro nv np PA W1 L1 _ _ _ _ 10000 10000 (K + 1600 * k) (Int32.toInt64 u) R_1 hp hJ (by omega) (by omega) (by omega) (by omega) (Or.inr ⟨u0, u1, u1⟩) (by omega)) ?_
      rintro r h1 ⟨I_3, G_3, A_3, B_3, rfl, K_3, R_3, rfl⟩
      rw [((K_1.1 52 22 rfl).trans (KK.1 52 22 rfl)), ((K_1.1 52 41 rfl).trans (KK.1 52 41 rfl))] at R_3
      have E : wStep nv np PA (Int32.toInt64 u) W1 = (0, W1, 0, 0, []) := wStep_r (qNx_n x_1 hc2)
      rw [E] at R_3
      refine ⟨0, by rw [E], ?_⟩
      refine zw_istore _ 116 f152_114 rfl (by decide +kernel) rfl ?_
      refine zw_iinc (nI (k + 1)) _ 119 f152_116 rfl (zl1_ne rfl rfl (zl1_ne rfl rfl h3)) (by decide +kernel) (nI_1 _) rfl ?_
      refine zw_goto 38 f152_119 (by decide +kernel) ?_
      refine zw_iload 40 f152_38 rfl (zl1_ne rfl rfl zl1_eq) ?_
      refine zw_iconst 1 41 f152_40 rfl (by decide +kernel) ?_
      refine zw_ic_ne_t 122 f152_41 (by decide +kernel) (by decide +kernel) ?_
      refine zw_iload 124 f152_122 rfl (zl1_ne rfl rfl zl1_eq) ?_
      refine zw_iconst (-1) 125 f152_124 rfl (by decide +kernel) ?_
      refine zw_ic_ne_t 134 f152_125 (by decide +kernel) (by decide +kernel) ?_
      refine zw_aload_n 135 f152_134 rfl (zl1_ne rfl rfl (zl1_ne rfl rfl (zl1_ne rfl rfl h0))) ?_
      refine zw_virtual_v 138 0 0 [.ref 52] [(0, .ref 52)] f152_135 rfl n152_228 k152_228_12 rfl (hb_52 _ _ _ _) (by decide +kernel) (Nat.le_of_ble_eq_true rfl) rfl rfl (by decide +kernel) (by decide +kernel) rfl (Nat.le_of_ble_eq_true rfl) rfl ?_
      refine zWp.mono (mm_seekW ro nv np PA W1 L1 _ _ _ _ R_3 hp hJ.2.1) ?_
      rintro r h1 ⟨I_4, G_4, A_4, B_4, rfl, K_4, R_4, T_4, ⟨rs_4, na_4, nb_4, er_4, ea_4, eb_4, x_4⟩, rfl⟩
      refine ⟨rfl, ?_⟩
      refine zw_iload_n 139 f152_138 rfl (zl1_ne rfl rfl (zl1_ne rfl rfl (zl1_ne rfl rfl h1))) ?_
      refine zw_i2l (Int32.toInt64 u) 140 f152_139 rfl rfl ?_
      refine zw_aload_n 141 f152_140 rfl (zl1_ne rfl rfl (zl1_ne rfl rfl (zl1_ne rfl rfl h0))) ?_
      refine zw_getG W1.1 144 f152_141 rfl g152_40_12 (hb_52 _ _ _ _) rfl R_4.g ?_
      refine zw_lmul ((Int32.toInt64 u) * W1.1) 145 f152_144 rfl rfl ?_
      refine zw_aload_n 146 f152_145 rfl (zl1_ne rfl rfl (zl1_ne rfl rfl (zl1_ne rfl rfl h0))) ?_
      refine zw_getG W1.2.1 149 f152_146 rfl g152_172_12 (hb_52 _ _ _ _) rfl R_4.t ?_
      refine zw_lcmp (lg_cmp ((Int32.toInt64 u) * W1.1) W1.2.1) 150 f152_149 rfl rfl ?_
      refine zw_if_le 153 174 f152_150 (by decide +kernel) rfl (fun hc5 => ?_) (fun hc5 => ?_)
      · refine zw_aload_n 175 f152_174 rfl (zl1_ne rfl rfl (zl1_ne rfl rfl (zl1_ne rfl rfl h0))) ?_
        refine zw_aload_n 176 f152_175 rfl (zl1_ne rfl rfl (zl1_ne rfl rfl (zl1_ne rfl rfl h0))) ?_
        refine zw_getI (nI L1.1) 179 f152_176 rfl g152_183_12 (hb_52 _ _ _ _) rfl ((K_4.1 52 20 rfl).trans R_3.2.2.2.1) ?_
        refine zw_iload_n 180 f152_179 rfl (zl1_ne rfl rfl (zl1_ne rfl rfl (zl1_ne rfl rfl h2))) ?_
        refine zw_isub ((nI L1.1) - (nI L.1)) 181 f152_180 rfl rfl ?_
        refine zw_virtual_i 184 0 0 [.ref 52, .int ((nI L1.1) - (nI L.1))] [(0, .ref 52), (1, .int ((nI L1.1) - (nI L.1)))] f152_181 rfl n152_205 k152_205_12 rfl (hb_52 _ _ _ _) (by decide +kernel) (Nat.le_of_ble_eq_true rfl) rfl rfl (by decide +kernel) (by decide +kernel) rfl (Nat.le_of_ble_eq_true rfl) rfl ?_
        refine zw_aload_n 1 f122_0 rfl rfl ?_
        refine zw_iconst 0 2 f122_1 rfl (by decide +kernel) ?_
        refine zw_put _ 5 f122_2 rfl g122_111_12 (hb_52 _ _ _ _) rfl (Nat.le_of_ble_eq_true rfl) (by decide +kernel) (hi_52_27 _ _ _ _ _) ?_
        refine zw_iload_n 6 f122_5 rfl rfl ?_
        refine zw_ireturn f122_6 r122 u122 ⟨_, rfl, ?_⟩
        refine zw_ireturn f152_184 r152 u152 ?_
        rw [show wGo nv np PA (I 52 22) (I 52 41) (Int32.toInt64 u) (n + 1) W1 L1 = (0, W1, L1) from (if_neg (by rw [E]; show ¬ (0 : Int32) = 1; decide)).trans (by rw [E])]
        have ET : wTo nv np PA (Int32.toInt64 u) W1 = W1 := if_neg (Int64.not_lt.mpr ((lg_cmp_le _ _).mp hc5))
        refine ⟨_, _, _, _, rfl, (KQ.i rfl (KQ.tr (KQ.tr (KQ.tr KK (KQ.wk K_1 fS_Go pS_St)) (KQ.wk K_3 fSt_Go (fun _ h => h))) (KQ.wk K_4 fS_Go pS_St))), fun z => absurd (show (0 : Int32) = -1 from z) (by decide), fun _ => ⟨?_, rfl, rfl⟩⟩
        show mRS nv np PA (wTo nv np PA (Int32.toInt64 u) W1) L1 _ _ _ _
        rw [ET]
        exact (R_4.k (pf := fun k j => decide (k = 52 ∧ j = 27)) (pa := fun _ => false) (KQ.i rfl KQ.rf) f27_R (fun _ _ _ => rfl))
      · refine zw_aload_n 154 f152_153 rfl (zl1_ne rfl rfl (zl1_ne rfl rfl (zl1_ne rfl rfl h0))) ?_
        refine zw_iload_n 155 f152_154 rfl (zl1_ne rfl rfl (zl1_ne rfl rfl (zl1_ne rfl rfl h1))) ?_
        refine zw_i2l (Int32.toInt64 u) 156 f152_155 rfl rfl ?_
        refine zw_aload_n 157 f152_156 rfl (zl1_ne rfl rfl (zl1_ne rfl rfl (zl1_ne rfl rfl h0))) ?_
        refine zw_getG W1.1 160 f152_157 rfl g152_40_12 (hb_52 _ _ _ _) rfl R_4.g ?_
        refine zw_lmul ((Int32.toInt64 u) * W1.1) 161 f152_160 rfl rfl ?_
        refine zw_aload_n 162 f152_161 rfl (zl1_ne rfl rfl (zl1_ne rfl rfl (zl1_ne rfl rfl h0))) ?_
        refine zw_getG W1.2.1 165 f152_162 rfl g152_172_12 (hb_52 _ _ _ _) rfl R_4.t ?_
        refine zw_lsub (((Int32.toInt64 u) * W1.1) - W1.2.1) 166 f152_165 rfl rfl ?_
        refine zw_aload_n 167 f152_166 rfl (zl1_ne rfl rfl (zl1_ne rfl rfl (zl1_ne rfl rfl h0))) ?_
        refine zw_getG W1.1 170 f152_167 rfl g152_40_12 (hb_52 _ _ _ _) rfl R_4.g ?_
        refine zw_virtual_i 173 0 0 [.ref 52, .long (((Int32.toInt64 u) * W1.1) - W1.2.1), .long W1.1] [(0, .ref 52), (1, .long (((Int32.toInt64 u) * W1.1) - W1.2.1)), (3, .long W1.1)] f152_170 rfl n152_231 k152_231_12 rfl (hb_52 _ _ _ _) (by decide +kernel) (Nat.le_of_ble_eq_true rfl) rfl rfl (by decide +kernel) (by decide +kernel) rfl (Nat.le_of_ble_eq_true rfl) rfl ?_
        obtain ⟨c1, c2, c3, c4⟩ := wTo_pass hp hJ (by omega) (by omega) (by omega) u0 u1 (by rw [E]) (Int64.not_le.mp (fun q => hc5 ((lg_cmp_le _ _).mpr q)))
        refine zWp.mono (mm_passesW ro nv np PA W1 L1 _ _ _ _ (((Int32.toInt64 u) * W1.1) - W1.2.1) W1.1 R_4 hp hJ.1 T_4 c1 c2 c3) ?_
        rintro r h1 ⟨I_6, G_6, A_6, B_6, rfl, K_6, (⟨rfl, E_6, R_6⟩ | ⟨rfl, W_6, E_6, R_6⟩)⟩
        · refine ⟨_, rfl, ?_⟩
          refine zw_pop 174 f152_173 rfl rfl ?_
          refine zw_aload_n 175 f152_174 rfl (zl1_ne rfl rfl (zl1_ne rfl rfl (zl1_ne rfl rfl h0))) ?_
          refine zw_aload_n 176 f152_175 rfl (zl1_ne rfl rfl (zl1_ne rfl rfl (zl1_ne rfl rfl h0))) ?_
          refine zw_getI (nI L1.1) 179 f152_176 rfl g152_183_12 (hb_52 _ _ _ _) rfl ((K_6.1 52 20 rfl).trans ((K_4.1 52 20 rfl).trans R_3.2.2.2.1)) ?_
          refine zw_iload_n 180 f152_179 rfl (zl1_ne rfl rfl (zl1_ne rfl rfl (zl1_ne rfl rfl h2))) ?_
          refine zw_isub ((nI L1.1) - (nI L.1)) 181 f152_180 rfl rfl ?_
          refine zw_virtual_i 184 0 0 [.ref 52, .int ((nI L1.1) - (nI L.1))] [(0, .ref 52), (1, .int ((nI L1.1) - (nI L.1)))] f152_181 rfl n152_205 k152_205_12 rfl (hb_52 _ _ _ _) (by decide +kernel) (Nat.le_of_ble_eq_true rfl) rfl rfl (by decide +kernel) (by decide +kernel) rfl (Nat.le_of_ble_eq_true rfl) rfl ?_
          refine zw_aload_n 1 f122_0 rfl rfl ?_
          refine zw_iconst 0 2 f122_1 rfl (by decide +kernel) ?_
          refine zw_put _ 5 f122_2 rfl g122_111_12 (hb_52 _ _ _ _) rfl (Nat.le_of_ble_eq_true rfl) (by decide +kernel) (hi_52_27 _ _ _ _ _) ?_
          refine zw_iload_n 6 f122_5 rfl rfl ?_
          refine zw_ireturn f122_6 r122 u122 ⟨_, rfl, ?_⟩
          refine zw_ireturn f152_184 r152 u152 ?_
          rw [show wGo nv np PA (I 52 22) (I 52 41) (Int32.toInt64 u) (n + 1) W1 L1 = (0, W1, L1) from (if_neg (by rw [E]; show ¬ (0 : Int32) = 1; decide)).trans (by rw [E])]
          have ET : wTo nv np PA (Int32.toInt64 u) W1 = W1 := (if_pos (Int64.not_le.mp (fun q => hc5 ((lg_cmp_le _ _).mpr q)))).trans (by rw [E_6]; rfl)
          refine ⟨_, _, _, _, rfl, (KQ.i rfl (KQ.tr (KQ.tr (KQ.tr (KQ.tr KK (KQ.wk K_1 fS_Go pS_St)) (KQ.wk K_3 fSt_Go (fun _ h => h))) (KQ.wk K_4 fS_Go pS_St)) (KQ.wk K_6 fP_Go pP_St))), fun z => absurd (show (0 : Int32) = -1 from z) (by decide), fun _ => ⟨?_, rfl, rfl⟩⟩
          show mRS nv np PA (wTo nv np PA (Int32.toInt64 u) W1) L1 _ _ _ _
          rw [ET]
          exact (R_6.k (pf := fun k j => decide (k = 52 ∧ j = 27)) (pa := fun _ => false) (KQ.i rfl KQ.rf) f27_R (fun _ _ _ => rfl))
        · refine ⟨_, rfl, ?_⟩
          refine zw_pop 174 f152_173 rfl rfl ?_
          refine zw_aload_n 175 f152_174 rfl (zl1_ne rfl rfl (zl1_ne rfl rfl (zl1_ne rfl rfl h0))) ?_
          refine zw_aload_n 176 f152_175 rfl (zl1_ne rfl rfl (zl1_ne rfl rfl (zl1_ne rfl rfl h0))) ?_
          refine zw_getI (nI L1.1) 179 f152_176 rfl g152_183_12 (hb_52 _ _ _ _) rfl ((K_6.1 52 20 rfl).trans ((K_4.1 52 20 rfl).trans R_3.2.2.2.1)) ?_
          refine zw_iload_n 180 f152_179 rfl (zl1_ne rfl rfl (zl1_ne rfl rfl (zl1_ne rfl rfl h2))) ?_
          refine zw_isub ((nI L1.1) - (nI L.1)) 181 f152_180 rfl rfl ?_
          refine zw_virtual_i 184 0 0 [.ref 52, .int ((nI L1.1) - (nI L.1))] [(0, .ref 52), (1, .int ((nI L1.1) - (nI L.1)))] f152_181 rfl n152_205 k152_205_12 rfl (hb_52 _ _ _ _) (by decide +kernel) (Nat.le_of_ble_eq_true rfl) rfl rfl (by decide +kernel) (by decide +kernel) rfl (Nat.le_of_ble_eq_true rfl) rfl ?_
          refine zw_aload_n 1 f122_0 rfl rfl ?_
          refine zw_iconst 0 2 f122_1 rfl (by decide +kernel) ?_
          refine zw_put _ 5 f122_2 rfl g122_111_12 (hb_52 _ _ _ _) rfl (Nat.le_of_ble_eq_true rfl) (by decide +kernel) (hi_52_27 _ _ _ _ _) ?_
          refine zw_iload_n 6 f122_5 rfl rfl ?_
          refine zw_ireturn f122_6 r122 u122 ⟨_, rfl, ?_⟩
          refine zw_ireturn f152_184 r152 u152 ?_
          rw [show wGo nv np PA (I 52 22) (I 52 41) (Int32.toInt64 u) (n + 1) W1 L1 = (0, W1, L1) from (if_neg (by rw [E]; show ¬ (0 : Int32) = 1; decide)).trans (by rw [E])]
          have ET : wTo nv np PA (Int32.toInt64 u) W1 = W_6 := (if_pos (Int64.not_le.mp (fun q => hc5 ((lg_cmp_le _ _).mpr q)))).trans (by rw [E_6]; rfl)
          refine ⟨_, _, _, _, rfl, (KQ.i rfl (KQ.tr (KQ.tr (KQ.tr (KQ.tr KK (KQ.wk K_1 fS_Go pS_St)) (KQ.wk K_3 fSt_Go (fun _ h => h))) (KQ.wk K_4 fS_Go pS_St)) (KQ.wk K_6 fP_Go pP_St))), fun z => absurd (show (0 : Int32) = -1 from z) (by decide), fun _ => ⟨?_, rfl, rfl⟩⟩
          show mRS nv np PA (wTo nv np PA (Int32.toInt64 u) W1) L1 _ _ _ _
          rw [ET]
          exact (R_6.k (pf := fun k j => decide (k = 52 ∧ j = 27)) (pa := fun _ => false) (KQ.i rfl KQ.rf) f27_R (fun _ _ _ => rfl))
    · refine zw_aload_n 56 f152_55 rfl h0 ?_
      refine zw_getG na_1 59 f152_56 rfl g152_148_12 (hb_52 _ _ _ _) rfl ea_1 ?_
      refine zw_aload_n 60 f152_59 rfl h0 ?_
      refine zw_getG W1.1 63 f152_60 rfl g152_40_12 (hb_52 _ _ _ _) rfl R_1.g ?_
      refine zw_lmul (na_1 * W1.1) 64 f152_63 rfl rfl ?_
      refine zw_iload_n 65 f152_64 rfl h1 ?_
      refine zw_i2l (Int32.toInt64 u) 66 f152_65 rfl rfl ?_
      refine zw_aload_n 67 f152_66 rfl h0 ?_
      refine zw_getG W1.1 70 f152_67 rfl g152_40_12 (hb_52 _ _ _ _) rfl R_1.g ?_
      refine zw_lmul ((Int32.toInt64 u) * W1.1) 71 f152_70 rfl rfl ?_
      refine zw_aload_n 72 f152_71 rfl h0 ?_
      refine zw_getG W1.2.1 75 f152_72 rfl g152_172_12 (hb_52 _ _ _ _) rfl R_1.t ?_
      refine zw_lsub (((Int32.toInt64 u) * W1.1) - W1.2.1) 76 f152_75 rfl rfl ?_
      refine zw_aload_n 77 f152_76 rfl h0 ?_
      refine zw_getG nb_1 80 f152_77 rfl g152_145_12 (hb_52 _ _ _ _) rfl eb_1 ?_
      refine zw_lmul ((((Int32.toInt64 u) * W1.1) - W1.2.1) * nb_1) 81 f152_80 rfl rfl ?_
      refine zw_lcmp (lg_cmp (na_1 * W1.1) ((((Int32.toInt64 u) * W1.1) - W1.2.1) * nb_1)) 82 f152_81 rfl rfl ?_
      refine zw_if_gt 85 89 f152_82 (by decide +kernel) rfl (fun hc7 => ?_) (fun hc7 => ?_)
      · refine zw_iconst 0 90 f152_89 rfl (by decide +kernel) ?_
        refine zw_istore _ 92 f152_90 rfl (by decide +kernel) rfl ?_
        refine zw_iload 94 f152_92 rfl zl1_eq ?_
        refine zw_if_eq_t 108 f152_94 (by decide +kernel) (by decide +kernel) ?_
        refine zw_aload_n 109 f152_108 rfl (zl1_ne rfl rfl h0) ?_
        refine zw_iload_n 110 f152_109 rfl (zl1_ne rfl rfl h1) ?_
        refine zw_i2l (Int32.toInt64 u) 111 f152_110 rfl rfl ?_
        refine zw_virtual_i 114 0 0 [.ref 52, .long (Int32.toInt64 u)] [(0, .ref 52), (1, .long (Int32.toInt64 u))] f152_111 rfl n152_235 k152_235_12 rfl (hb_52 _ _ _ _) (by decide +kernel) (Nat.le_of_ble_eq_true rfl) rfl rfl (by decide +kernel) (by decide +kernel) rfl (Nat.le_of_ble_eq_true rfl) rfl ?_
        refine zWp.mono (mm_step ro nv np PA W1 L1 _ _ _ _ 10000 10000 (K + 1600 * k) (Int32.toInt64 u) R_1 hp hJ (by omega) (by omega) (by omega) (by omega) (Or.inr ⟨u0, u1, u1⟩) (by omega)) ?_
        rintro r h1 ⟨I_8, G_8, A_8, B_8, rfl, K_8, R_8, rfl⟩
        rw [((K_1.1 52 22 rfl).trans (KK.1 52 22 rfl)), ((K_1.1 52 41 rfl).trans (KK.1 52 41 rfl))] at R_8
        have E : wStep nv np PA (Int32.toInt64 u) W1 = (0, W1, 0, 0, []) := wStep_b (qNx_y x_1 (Decidable.of_not_not hc2)) ((lg_cmp_gt _ _).mp hc7)
        rw [E] at R_8
        refine ⟨0, by rw [E], ?_⟩
        refine zw_istore _ 116 f152_114 rfl (by decide +kernel) rfl ?_
        refine zw_iinc (nI (k + 1)) _ 119 f152_116 rfl (zl1_ne rfl rfl (zl1_ne rfl rfl h3)) (by decide +kernel) (nI_1 _) rfl ?_
        refine zw_goto 38 f152_119 (by decide +kernel) ?_
        refine zw_iload 40 f152_38 rfl (zl1_ne rfl rfl zl1_eq) ?_
        refine zw_iconst 1 41 f152_40 rfl (by decide +kernel) ?_
        refine zw_ic_ne_t 122 f152_41 (by decide +kernel) (by decide +kernel) ?_
        refine zw_iload 124 f152_122 rfl (zl1_ne rfl rfl zl1_eq) ?_
        refine zw_iconst (-1) 125 f152_124 rfl (by decide +kernel) ?_
        refine zw_ic_ne_t 134 f152_125 (by decide +kernel) (by decide +kernel) ?_
        refine zw_aload_n 135 f152_134 rfl (zl1_ne rfl rfl (zl1_ne rfl rfl (zl1_ne rfl rfl h0))) ?_
        refine zw_virtual_v 138 0 0 [.ref 52] [(0, .ref 52)] f152_135 rfl n152_228 k152_228_12 rfl (hb_52 _ _ _ _) (by decide +kernel) (Nat.le_of_ble_eq_true rfl) rfl rfl (by decide +kernel) (by decide +kernel) rfl (Nat.le_of_ble_eq_true rfl) rfl ?_
        refine zWp.mono (mm_seekW ro nv np PA W1 L1 _ _ _ _ R_8 hp hJ.2.1) ?_
        rintro r h1 ⟨I_9, G_9, A_9, B_9, rfl, K_9, R_9, T_9, ⟨rs_9, na_9, nb_9, er_9, ea_9, eb_9, x_9⟩, rfl⟩
        refine ⟨rfl, ?_⟩
        refine zw_iload_n 139 f152_138 rfl (zl1_ne rfl rfl (zl1_ne rfl rfl (zl1_ne rfl rfl h1))) ?_
        refine zw_i2l (Int32.toInt64 u) 140 f152_139 rfl rfl ?_
        refine zw_aload_n 141 f152_140 rfl (zl1_ne rfl rfl (zl1_ne rfl rfl (zl1_ne rfl rfl h0))) ?_
        refine zw_getG W1.1 144 f152_141 rfl g152_40_12 (hb_52 _ _ _ _) rfl R_9.g ?_
        refine zw_lmul ((Int32.toInt64 u) * W1.1) 145 f152_144 rfl rfl ?_
        refine zw_aload_n 146 f152_145 rfl (zl1_ne rfl rfl (zl1_ne rfl rfl (zl1_ne rfl rfl h0))) ?_
        refine zw_getG W1.2.1 149 f152_146 rfl g152_172_12 (hb_52 _ _ _ _) rfl R_9.t ?_
        refine zw_lcmp (lg_cmp ((Int32.toInt64 u) * W1.1) W1.2.1) 150 f152_149 rfl rfl ?_
        refine zw_if_le 153 174 f152_150 (by decide +kernel) rfl (fun hc10 => ?_) (fun hc10 => ?_)
        · refine zw_aload_n 175 f152_174 rfl (zl1_ne rfl rfl (zl1_ne rfl rfl (zl1_ne rfl rfl h0))) ?_
          refine zw_aload_n 176 f152_175 rfl (zl1_ne rfl rfl (zl1_ne rfl rfl (zl1_ne rfl rfl h0))) ?_
          refine zw_getI (nI L1.1) 179 f152_176 rfl g152_183_12 (hb_52 _ _ _ _) rfl ((K_9.1 52 20 rfl).trans R_8.2.2.2.1) ?_
          refine zw_iload_n 180 f152_179 rfl (zl1_ne rfl rfl (zl1_ne rfl rfl (zl1_ne rfl rfl h2))) ?_
          refine zw_isub ((nI L1.1) - (nI L.1)) 181 f152_180 rfl rfl ?_
          refine zw_virtual_i 184 0 0 [.ref 52, .int ((nI L1.1) - (nI L.1))] [(0, .ref 52), (1, .int ((nI L1.1) - (nI L.1)))] f152_181 rfl n152_205 k152_205_12 rfl (hb_52 _ _ _ _) (by decide +kernel) (Nat.le_of_ble_eq_true rfl) rfl rfl (by decide +kernel) (by decide +kernel) rfl (Nat.le_of_ble_eq_true rfl) rfl ?_
          refine zw_aload_n 1 f122_0 rfl rfl ?_
          refine zw_iconst 0 2 f122_1 rfl (by decide +kernel) ?_
          refine zw_put _ 5 f122_2 rfl g122_111_12 (hb_52 _ _ _ _) rfl (Nat.le_of_ble_eq_true rfl) (by decide +kernel) (hi_52_27 _ _ _ _ _) ?_
          refine zw_iload_n 6 f122_5 rfl rfl ?_
          refine zw_ireturn f122_6 r122 u122 ⟨_, rfl, ?_⟩
          refine zw_ireturn f152_184 r152 u152 ?_
          rw [show wGo nv np PA (I 52 22) (I 52 41) (Int32.toInt64 u) (n + 1) W1 L1 = (0, W1, L1) from (if_neg (by rw [E]; show ¬ (0 : Int32) = 1; decide)).trans (by rw [E])]
          have ET : wTo nv np PA (Int32.toInt64 u) W1 = W1 := if_neg (Int64.not_lt.mpr ((lg_cmp_le _ _).mp hc10))
          refine ⟨_, _, _, _, rfl, (KQ.i rfl (KQ.tr (KQ.tr (KQ.tr KK (KQ.wk K_1 fS_Go pS_St)) (KQ.wk K_8 fSt_Go (fun _ h => h))) (KQ.wk K_9 fS_Go pS_St))), fun z => absurd (show (0 : Int32) = -1 from z) (by decide), fun _ => ⟨?_, rfl, rfl⟩⟩
          show mRS nv np PA (wTo nv np PA (Int32.toInt64 u) W1) L1 _ _ _ _
          rw [ET]
          exact (R_9.k (pf := fun k j => decide (k = 52 ∧ j = 27)) (pa := fun _ => false) (KQ.i rfl KQ.rf) f27_R (fun _ _ _ => rfl))
        · refine zw_aload_n 154 f152_153 rfl (zl1_ne rfl rfl (zl1_ne rfl rfl (zl1_ne rfl rfl h0))) ?_
          refine zw_iload_n 155 f152_154 rfl (zl1_ne rfl rfl (zl1_ne rfl rfl (zl1_ne rfl rfl h1))) ?_
          refine zw_i2l (Int32.toInt64 u) 156 f152_155 rfl rfl ?_
          refine zw_aload_n 157 f152_156 rfl (zl1_ne rfl rfl (zl1_ne rfl rfl (zl1_ne rfl rfl h0))) ?_
          refine zw_getG W1.1 160 f152_157 rfl g152_40_12 (hb_52 _ _ _ _) rfl R_9.g ?_
          refine zw_lmul ((Int32.toInt64 u) * W1.1) 161 f152_160 rfl rfl ?_
          refine zw_aload_n 162 f152_161 rfl (zl1_ne rfl rfl (zl1_ne rfl rfl (zl1_ne rfl rfl h0))) ?_
          refine zw_getG W1.2.1 165 f152_162 rfl g152_172_12 (hb_52 _ _ _ _) rfl R_9.t ?_
          refine zw_lsub (((Int32.toInt64 u) * W1.1) - W1.2.1) 166 f152_165 rfl rfl ?_
          refine zw_aload_n 167 f152_166 rfl (zl1_ne rfl rfl (zl1_ne rfl rfl (zl1_ne rfl rfl h0))) ?_
          refine zw_getG W1.1 170 f152_167 rfl g152_40_12 (hb_52 _ _ _ _) rfl R_9.g ?_
          refine zw_virtual_i 173 0 0 [.ref 52, .long (((Int32.toInt64 u) * W1.1) - W1.2.1), .long W1.1] [(0, .ref 52), (1, .long (((Int32.toInt64 u) * W1.1) - W1.2.1)), (3, .long W1.1)] f152_170 rfl n152_231 k152_231_12 rfl (hb_52 _ _ _ _) (by decide +kernel) (Nat.le_of_ble_eq_true rfl) rfl rfl (by decide +kernel) (by decide +kernel) rfl (Nat.le_of_ble_eq_true rfl) rfl ?_
          obtain ⟨c1, c2, c3, c4⟩ := wTo_pass hp hJ (by omega) (by omega) (by omega) u0 u1 (by rw [E]) (Int64.not_le.mp (fun q => hc10 ((lg_cmp_le _ _).mpr q)))
          refine zWp.mono (mm_passesW ro nv np PA W1 L1 _ _ _ _ (((Int32.toInt64 u) * W1.1) - W1.2.1) W1.1 R_9 hp hJ.1 T_9 c1 c2 c3) ?_
          rintro r h1 ⟨I_11, G_11, A_11, B_11, rfl, K_11, (⟨rfl, E_11, R_11⟩ | ⟨rfl, W_11, E_11, R_11⟩)⟩
          · refine ⟨_, rfl, ?_⟩
            refine zw_pop 174 f152_173 rfl rfl ?_
            refine zw_aload_n 175 f152_174 rfl (zl1_ne rfl rfl (zl1_ne rfl rfl (zl1_ne rfl rfl h0))) ?_
            refine zw_aload_n 176 f152_175 rfl (zl1_ne rfl rfl (zl1_ne rfl rfl (zl1_ne rfl rfl h0))) ?_
            refine zw_getI (nI L1.1) 179 f152_176 rfl g152_183_12 (hb_52 _ _ _ _) rfl ((K_11.1 52 20 rfl).trans ((K_9.1 52 20 rfl).trans R_8.2.2.2.1)) ?_
            refine zw_iload_n 180 f152_179 rfl (zl1_ne rfl rfl (zl1_ne rfl rfl (zl1_ne rfl rfl h2))) ?_
            refine zw_isub ((nI L1.1) - (nI L.1)) 181 f152_180 rfl rfl ?_
            refine zw_virtual_i 184 0 0 [.ref 52, .int ((nI L1.1) - (nI L.1))] [(0, .ref 52), (1, .int ((nI L1.1) - (nI L.1)))] f152_181 rfl n152_205 k152_205_12 rfl (hb_52 _ _ _ _) (by decide +kernel) (Nat.le_of_ble_eq_true rfl) rfl rfl (by decide +kernel) (by decide +kernel) rfl (Nat.le_of_ble_eq_true rfl) rfl ?_
            refine zw_aload_n 1 f122_0 rfl rfl ?_
            refine zw_iconst 0 2 f122_1 rfl (by decide +kernel) ?_
            refine zw_put _ 5 f122_2 rfl g122_111_12 (hb_52 _ _ _ _) rfl (Nat.le_of_ble_eq_true rfl) (by decide +kernel) (hi_52_27 _ _ _ _ _) ?_
            refine zw_iload_n 6 f122_5 rfl rfl ?_
            refine zw_ireturn f122_6 r122 u122 ⟨_, rfl, ?_⟩
            refine zw_ireturn f152_184 r152 u152 ?_
            rw [show wGo nv np PA (I 52 22) (I 52 41) (Int32.toInt64 u) (n + 1) W1 L1 = (0, W1, L1) from (if_neg (by rw [E]; show ¬ (0 : Int32) = 1; decide)).trans (by rw [E])]
            have ET : wTo nv np PA (Int32.toInt64 u) W1 = W1 := (if_pos (Int64.not_le.mp (fun q => hc10 ((lg_cmp_le _ _).mpr q)))).trans (by rw [E_11]; rfl)
            refine ⟨_, _, _, _, rfl, (KQ.i rfl (KQ.tr (KQ.tr (KQ.tr (KQ.tr KK (KQ.wk K_1 fS_Go pS_St)) (KQ.wk K_8 fSt_Go (fun _ h => h))) (KQ.wk K_9 fS_Go pS_St)) (KQ.wk K_11 fP_Go pP_St))), fun z => absurd (show (0 : Int32) = -1 from z) (by decide), fun _ => ⟨?_, rfl, rfl⟩⟩
            show mRS nv np PA (wTo nv np PA (Int32.toInt64 u) W1) L1 _ _ _ _
            rw [ET]
            exact (R_11.k (pf := fun k j => decide (k = 52 ∧ j = 27)) (pa := fun _ => false) (KQ.i rfl KQ.rf) f27_R (fun _ _ _ => rfl))
          · refine ⟨_, rfl, ?_⟩
            refine zw_pop 174 f152_173 rfl rfl ?_
            refine zw_aload_n 175 f152_174 rfl (zl1_ne rfl rfl (zl1_ne rfl rfl (zl1_ne rfl rfl h0))) ?_
            refine zw_aload_n 176 f152_175 rfl (zl1_ne rfl rfl (zl1_ne rfl rfl (zl1_ne rfl rfl h0))) ?_
            refine zw_getI (nI L1.1) 179 f152_176 rfl g152_183_12 (hb_52 _ _ _ _) rfl ((K_11.1 52 20 rfl).trans ((K_9.1 52 20 rfl).trans R_8.2.2.2.1)) ?_
            refine zw_iload_n 180 f152_179 rfl (zl1_ne rfl rfl (zl1_ne rfl rfl (zl1_ne rfl rfl h2))) ?_
            refine zw_isub ((nI L1.1) - (nI L.1)) 181 f152_180 rfl rfl ?_
            refine zw_virtual_i 184 0 0 [.ref 52, .int ((nI L1.1) - (nI L.1))] [(0, .ref 52), (1, .int ((nI L1.1) - (nI L.1)))] f152_181 rfl n152_205 k152_205_12 rfl (hb_52 _ _ _ _) (by decide +kernel) (Nat.le_of_ble_eq_true rfl) rfl rfl (by decide +kernel) (by decide +kernel) rfl (Nat.le_of_ble_eq_true rfl) rfl ?_
            refine zw_aload_n 1 f122_0 rfl rfl ?_
            refine zw_iconst 0 2 f122_1 rfl (by decide +kernel) ?_
            refine zw_put _ 5 f122_2 rfl g122_111_12 (hb_52 _ _ _ _) rfl (Nat.le_of_ble_eq_true rfl) (by decide +kernel) (hi_52_27 _ _ _ _ _) ?_
            refine zw_iload_n 6 f122_5 rfl rfl ?_
            refine zw_ireturn f122_6 r122 u122 ⟨_, rfl, ?_⟩
            refine zw_ireturn f152_184 r152 u152 ?_
            rw [show wGo nv np PA (I 52 22) (I 52 41) (Int32.toInt64 u) (n + 1) W1 L1 = (0, W1, L1) from (if_neg (by rw [E]; show ¬ (0 : Int32) = 1; decide)).trans (by rw [E])]
            have ET : wTo nv np PA (Int32.toInt64 u) W1 = W_11 := (if_pos (Int64.not_le.mp (fun q => hc10 ((lg_cmp_le _ _).mpr q)))).trans (by rw [E_11]; rfl)
            refine ⟨_, _, _, _, rfl, (KQ.i rfl (KQ.tr (KQ.tr (KQ.tr (KQ.tr KK (KQ.wk K_1 fS_Go pS_St)) (KQ.wk K_8 fSt_Go (fun _ h => h))) (KQ.wk K_9 fS_Go pS_St)) (KQ.wk K_11 fP_Go pP_St))), fun z => absurd (show (0 : Int32) = -1 from z) (by decide), fun _ => ⟨?_, rfl, rfl⟩⟩
            show mRS nv np PA (wTo nv np PA (Int32.toInt64 u) W1) L1 _ _ _ _
            rw [ET]
            exact (R_11.k (pf := fun k j => decide (k = 52 ∧ j = 27)) (pa := fun _ => false) (KQ.i rfl KQ.rf) f27_R (fun _ _ _ => rfl))
      · refine zw_iconst 1 86 f152_85 rfl (by decide +kernel) ?_
        refine zw_goto 90 f152_86 (by decide +kernel) ?_
        refine zw_istore _ 92 f152_90 rfl (by decide +kernel) rfl ?_
        refine zw_iload 94 f152_92 rfl zl1_eq ?_
        refine zw_if_eq_f 97 108 f152_94 (by decide +kernel) rfl (by decide +kernel) ?_
        refine zw_iload_n 98 f152_97 rfl (zl1_ne rfl rfl h3) ?_
        refine zw_sipush 150 101 f152_98 rfl (by decide +kernel) ?_
        refine zw_ic_ne_t 108 f152_101 (by decide +kernel) (nI_n150 (by omega)) ?_
        refine zw_aload_n 109 f152_108 rfl (zl1_ne rfl rfl h0) ?_
        refine zw_iload_n 110 f152_109 rfl (zl1_ne rfl rfl h1) ?_
        refine zw_i2l (Int32.toInt64 u) 111 f152_110 rfl rfl ?_
        refine zw_virtual_i 114 0 0 [.ref 52, .long (Int32.toInt64 u)] [(0, .ref 52), (1, .long (Int32.toInt64 u))] f152_111 rfl n152_235 k152_235_12 rfl (hb_52 _ _ _ _) (by decide +kernel) (Nat.le_of_ble_eq_true rfl) rfl rfl (by decide +kernel) (by decide +kernel) rfl (Nat.le_of_ble_eq_true rfl) rfl ?_
        refine zWp.mono (mm_step ro nv np PA W1 L1 _ _ _ _ 10000 10000 (K + 1600 * k) (Int32.toInt64 u) R_1 hp hJ (by omega) (by omega) (by omega) (by omega) (Or.inr ⟨u0, u1, u1⟩) (by omega)) ?_
        rintro r h1 ⟨I_12, G_12, A_12, B_12, rfl, K_12, R_12, rfl⟩
        rw [((K_1.1 52 22 rfl).trans (KK.1 52 22 rfl)), ((K_1.1 52 41 rfl).trans (KK.1 52 41 rfl))] at R_12
        rcases wStep_inv hp hJ (by omega) (T2 := 10000) (by omega) (by omega) (by omega) (Or.inr ⟨u0, u1, u1⟩) with (E | E) | ⟨e1, e2, e3⟩
        · rw [E] at R_12
          refine ⟨0, by rw [E], ?_⟩
          refine zw_istore _ 116 f152_114 rfl (by decide +kernel) rfl ?_
          refine zw_iinc (nI (k + 1)) _ 119 f152_116 rfl (zl1_ne rfl rfl (zl1_ne rfl rfl h3)) (by decide +kernel) (nI_1 _) rfl ?_
          refine zw_goto 38 f152_119 (by decide +kernel) ?_
          refine zw_iload 40 f152_38 rfl (zl1_ne rfl rfl zl1_eq) ?_
          refine zw_iconst 1 41 f152_40 rfl (by decide +kernel) ?_
          refine zw_ic_ne_t 122 f152_41 (by decide +kernel) (by decide +kernel) ?_
          refine zw_iload 124 f152_122 rfl (zl1_ne rfl rfl zl1_eq) ?_
          refine zw_iconst (-1) 125 f152_124 rfl (by decide +kernel) ?_
          refine zw_ic_ne_t 134 f152_125 (by decide +kernel) (by decide +kernel) ?_
          refine zw_aload_n 135 f152_134 rfl (zl1_ne rfl rfl (zl1_ne rfl rfl (zl1_ne rfl rfl h0))) ?_
          refine zw_virtual_v 138 0 0 [.ref 52] [(0, .ref 52)] f152_135 rfl n152_228 k152_228_12 rfl (hb_52 _ _ _ _) (by decide +kernel) (Nat.le_of_ble_eq_true rfl) rfl rfl (by decide +kernel) (by decide +kernel) rfl (Nat.le_of_ble_eq_true rfl) rfl ?_
          refine zWp.mono (mm_seekW ro nv np PA W1 L1 _ _ _ _ R_12 hp hJ.2.1) ?_
          rintro r h1 ⟨I_13, G_13, A_13, B_13, rfl, K_13, R_13, T_13, ⟨rs_13, na_13, nb_13, er_13, ea_13, eb_13, x_13⟩, rfl⟩
          refine ⟨rfl, ?_⟩
          refine zw_iload_n 139 f152_138 rfl (zl1_ne rfl rfl (zl1_ne rfl rfl (zl1_ne rfl rfl h1))) ?_
          refine zw_i2l (Int32.toInt64 u) 140 f152_139 rfl rfl ?_
          refine zw_aload_n 141 f152_140 rfl (zl1_ne rfl rfl (zl1_ne rfl rfl (zl1_ne rfl rfl h0))) ?_
          refine zw_getG W1.1 144 f152_141 rfl g152_40_12 (hb_52 _ _ _ _) rfl R_13.g ?_
          refine zw_lmul ((Int32.toInt64 u) * W1.1) 145 f152_144 rfl rfl ?_
          refine zw_aload_n 146 f152_145 rfl (zl1_ne rfl rfl (zl1_ne rfl rfl (zl1_ne rfl rfl h0))) ?_
          refine zw_getG W1.2.1 149 f152_146 rfl g152_172_12 (hb_52 _ _ _ _) rfl R_13.t ?_
          refine zw_lcmp (lg_cmp ((Int32.toInt64 u) * W1.1) W1.2.1) 150 f152_149 rfl rfl ?_
          refine zw_if_le 153 174 f152_150 (by decide +kernel) rfl (fun hc14 => ?_) (fun hc14 => ?_)
          · refine zw_aload_n 175 f152_174 rfl (zl1_ne rfl rfl (zl1_ne rfl rfl (zl1_ne rfl rfl h0))) ?_
            refine zw_aload_n 176 f152_175 rfl (zl1_ne rfl rfl (zl1_ne rfl rfl (zl1_ne rfl rfl h0))) ?_
            refine zw_getI (nI L1.1) 179 f152_176 rfl g152_183_12 (hb_52 _ _ _ _) rfl ((K_13.1 52 20 rfl).trans R_12.2.2.2.1) ?_
            refine zw_iload_n 180 f152_179 rfl (zl1_ne rfl rfl (zl1_ne rfl rfl (zl1_ne rfl rfl h2))) ?_
            refine zw_isub ((nI L1.1) - (nI L.1)) 181 f152_180 rfl rfl ?_
            refine zw_virtual_i 184 0 0 [.ref 52, .int ((nI L1.1) - (nI L.1))] [(0, .ref 52), (1, .int ((nI L1.1) - (nI L.1)))] f152_181 rfl n152_205 k152_205_12 rfl (hb_52 _ _ _ _) (by decide +kernel) (Nat.le_of_ble_eq_true rfl) rfl rfl (by decide +kernel) (by decide +kernel) rfl (Nat.le_of_ble_eq_true rfl) rfl ?_
            refine zw_aload_n 1 f122_0 rfl rfl ?_
            refine zw_iconst 0 2 f122_1 rfl (by decide +kernel) ?_
            refine zw_put _ 5 f122_2 rfl g122_111_12 (hb_52 _ _ _ _) rfl (Nat.le_of_ble_eq_true rfl) (by decide +kernel) (hi_52_27 _ _ _ _ _) ?_
            refine zw_iload_n 6 f122_5 rfl rfl ?_
            refine zw_ireturn f122_6 r122 u122 ⟨_, rfl, ?_⟩
            refine zw_ireturn f152_184 r152 u152 ?_
            rw [show wGo nv np PA (I 52 22) (I 52 41) (Int32.toInt64 u) (n + 1) W1 L1 = (0, W1, L1) from (if_neg (by rw [E]; show ¬ (0 : Int32) = 1; decide)).trans (by rw [E])]
            have ET : wTo nv np PA (Int32.toInt64 u) W1 = W1 := if_neg (Int64.not_lt.mpr ((lg_cmp_le _ _).mp hc14))
            refine ⟨_, _, _, _, rfl, (KQ.i rfl (KQ.tr (KQ.tr (KQ.tr KK (KQ.wk K_1 fS_Go pS_St)) (KQ.wk K_12 fSt_Go (fun _ h => h))) (KQ.wk K_13 fS_Go pS_St))), fun z => absurd (show (0 : Int32) = -1 from z) (by decide), fun _ => ⟨?_, rfl, rfl⟩⟩
            show mRS nv np PA (wTo nv np PA (Int32.toInt64 u) W1) L1 _ _ _ _
            rw [ET]
            exact (R_13.k (pf := fun k j => decide (k = 52 ∧ j = 27)) (pa := fun _ => false) (KQ.i rfl KQ.rf) f27_R (fun _ _ _ => rfl))
          · refine zw_aload_n 154 f152_153 rfl (zl1_ne rfl rfl (zl1_ne rfl rfl (zl1_ne rfl rfl h0))) ?_
            refine zw_iload_n 155 f152_154 rfl (zl1_ne rfl rfl (zl1_ne rfl rfl (zl1_ne rfl rfl h1))) ?_
            refine zw_i2l (Int32.toInt64 u) 156 f152_155 rfl rfl ?_
            refine zw_aload_n 157 f152_156 rfl (zl1_ne rfl rfl (zl1_ne rfl rfl (zl1_ne rfl rfl h0))) ?_
            refine zw_getG W1.1 160 f152_157 rfl g152_40_12 (hb_52 _ _ _ _) rfl R_13.g ?_
            refine zw_lmul ((Int32.toInt64 u) * W1.1) 161 f152_160 rfl rfl ?_
            refine zw_aload_n 162 f152_161 rfl (zl1_ne rfl rfl (zl1_ne rfl rfl (zl1_ne rfl rfl h0))) ?_
            refine zw_getG W1.2.1 165 f152_162 rfl g152_172_12 (hb_52 _ _ _ _) rfl R_13.t ?_
            refine zw_lsub (((Int32.toInt64 u) * W1.1) - W1.2.1) 166 f152_165 rfl rfl ?_
            refine zw_aload_n 167 f152_166 rfl (zl1_ne rfl rfl (zl1_ne rfl rfl (zl1_ne rfl rfl h0))) ?_
            refine zw_getG W1.1 170 f152_167 rfl g152_40_12 (hb_52 _ _ _ _) rfl R_13.g ?_
            refine zw_virtual_i 173 0 0 [.ref 52, .long (((Int32.toInt64 u) * W1.1) - W1.2.1), .long W1.1] [(0, .ref 52), (1, .long (((Int32.toInt64 u) * W1.1) - W1.2.1)), (3, .long W1.1)] f152_170 rfl n152_231 k152_231_12 rfl (hb_52 _ _ _ _) (by decide +kernel) (Nat.le_of_ble_eq_true rfl) rfl rfl (by decide +kernel) (by decide +kernel) rfl (Nat.le_of_ble_eq_true rfl) rfl ?_
            obtain ⟨c1, c2, c3, c4⟩ := wTo_pass hp hJ (by omega) (by omega) (by omega) u0 u1 (by rw [E]) (Int64.not_le.mp (fun q => hc14 ((lg_cmp_le _ _).mpr q)))
            refine zWp.mono (mm_passesW ro nv np PA W1 L1 _ _ _ _ (((Int32.toInt64 u) * W1.1) - W1.2.1) W1.1 R_13 hp hJ.1 T_13 c1 c2 c3) ?_
            rintro r h1 ⟨I_15, G_15, A_15, B_15, rfl, K_15, (⟨rfl, E_15, R_15⟩ | ⟨rfl, W_15, E_15, R_15⟩)⟩
            · refine ⟨_, rfl, ?_⟩
              refine zw_pop 174 f152_173 rfl rfl ?_
              refine zw_aload_n 175 f152_174 rfl (zl1_ne rfl rfl (zl1_ne rfl rfl (zl1_ne rfl rfl h0))) ?_
              refine zw_aload_n 176 f152_175 rfl (zl1_ne rfl rfl (zl1_ne rfl rfl (zl1_ne rfl rfl h0))) ?_
              refine zw_getI (nI L1.1) 179 f152_176 rfl g152_183_12 (hb_52 _ _ _ _) rfl ((K_15.1 52 20 rfl).trans ((K_13.1 52 20 rfl).trans R_12.2.2.2.1)) ?_
              refine zw_iload_n 180 f152_179 rfl (zl1_ne rfl rfl (zl1_ne rfl rfl (zl1_ne rfl rfl h2))) ?_
              refine zw_isub ((nI L1.1) - (nI L.1)) 181 f152_180 rfl rfl ?_
              refine zw_virtual_i 184 0 0 [.ref 52, .int ((nI L1.1) - (nI L.1))] [(0, .ref 52), (1, .int ((nI L1.1) - (nI L.1)))] f152_181 rfl n152_205 k152_205_12 rfl (hb_52 _ _ _ _) (by decide +kernel) (Nat.le_of_ble_eq_true rfl) rfl rfl (by decide +kernel) (by decide +kernel) rfl (Nat.le_of_ble_eq_true rfl) rfl ?_
              refine zw_aload_n 1 f122_0 rfl rfl ?_
              refine zw_iconst 0 2 f122_1 rfl (by decide +kernel) ?_
              refine zw_put _ 5 f122_2 rfl g122_111_12 (hb_52 _ _ _ _) rfl (Nat.le_of_ble_eq_true rfl) (by decide +kernel) (hi_52_27 _ _ _ _ _) ?_
              refine zw_iload_n 6 f122_5 rfl rfl ?_
              refine zw_ireturn f122_6 r122 u122 ⟨_, rfl, ?_⟩
              refine zw_ireturn f152_184 r152 u152 ?_
              rw [show wGo nv np PA (I 52 22) (I 52 41) (Int32.toInt64 u) (n + 1) W1 L1 = (0, W1, L1) from (if_neg (by rw [E]; show ¬ (0 : Int32) = 1; decide)).trans (by rw [E])]
              have ET : wTo nv np PA (Int32.toInt64 u) W1 = W1 := (if_pos (Int64.not_le.mp (fun q => hc14 ((lg_cmp_le _ _).mpr q)))).trans (by rw [E_15]; rfl)
              refine ⟨_, _, _, _, rfl, (KQ.i rfl (KQ.tr (KQ.tr (KQ.tr (KQ.tr KK (KQ.wk K_1 fS_Go pS_St)) (KQ.wk K_12 fSt_Go (fun _ h => h))) (KQ.wk K_13 fS_Go pS_St)) (KQ.wk K_15 fP_Go pP_St))), fun z => absurd (show (0 : Int32) = -1 from z) (by decide), fun _ => ⟨?_, rfl, rfl⟩⟩
              show mRS nv np PA (wTo nv np PA (Int32.toInt64 u) W1) L1 _ _ _ _
              rw [ET]
              exact (R_15.k (pf := fun k j => decide (k = 52 ∧ j = 27)) (pa := fun _ => false) (KQ.i rfl KQ.rf) f27_R (fun _ _ _ => rfl))
            · refine ⟨_, rfl, ?_⟩
              refine zw_pop 174 f152_173 rfl rfl ?_
              refine zw_aload_n 175 f152_174 rfl (zl1_ne rfl rfl (zl1_ne rfl rfl (zl1_ne rfl rfl h0))) ?_
              refine zw_aload_n 176 f152_175 rfl (zl1_ne rfl rfl (zl1_ne rfl rfl (zl1_ne rfl rfl h0))) ?_
              refine zw_getI (nI L1.1) 179 f152_176 rfl g152_183_12 (hb_52 _ _ _ _) rfl ((K_15.1 52 20 rfl).trans ((K_13.1 52 20 rfl).trans R_12.2.2.2.1)) ?_
              refine zw_iload_n 180 f152_179 rfl (zl1_ne rfl rfl (zl1_ne rfl rfl (zl1_ne rfl rfl h2))) ?_
              refine zw_isub ((nI L1.1) - (nI L.1)) 181 f152_180 rfl rfl ?_
              refine zw_virtual_i 184 0 0 [.ref 52, .int ((nI L1.1) - (nI L.1))] [(0, .ref 52), (1, .int ((nI L1.1) - (nI L.1)))] f152_181 rfl n152_205 k152_205_12 rfl (hb_52 _ _ _ _) (by decide +kernel) (Nat.le_of_ble_eq_true rfl) rfl rfl (by decide +kernel) (by decide +kernel) rfl (Nat.le_of_ble_eq_true rfl) rfl ?_
              refine zw_aload_n 1 f122_0 rfl rfl ?_
              refine zw_iconst 0 2 f122_1 rfl (by decide +kernel) ?_
              refine zw_put _ 5 f122_2 rfl g122_111_12 (hb_52 _ _ _ _) rfl (Nat.le_of_ble_eq_true rfl) (by decide +kernel) (hi_52_27 _ _ _ _ _) ?_
              refine zw_iload_n 6 f122_5 rfl rfl ?_
              refine zw_ireturn f122_6 r122 u122 ⟨_, rfl, ?_⟩
              refine zw_ireturn f152_184 r152 u152 ?_
              rw [show wGo nv np PA (I 52 22) (I 52 41) (Int32.toInt64 u) (n + 1) W1 L1 = (0, W1, L1) from (if_neg (by rw [E]; show ¬ (0 : Int32) = 1; decide)).trans (by rw [E])]
              have ET : wTo nv np PA (Int32.toInt64 u) W1 = W_15 := (if_pos (Int64.not_le.mp (fun q => hc14 ((lg_cmp_le _ _).mpr q)))).trans (by rw [E_15]; rfl)
              refine ⟨_, _, _, _, rfl, (KQ.i rfl (KQ.tr (KQ.tr (KQ.tr (KQ.tr KK (KQ.wk K_1 fS_Go pS_St)) (KQ.wk K_12 fSt_Go (fun _ h => h))) (KQ.wk K_13 fS_Go pS_St)) (KQ.wk K_15 fP_Go pP_St))), fun z => absurd (show (0 : Int32) = -1 from z) (by decide), fun _ => ⟨?_, rfl, rfl⟩⟩
              show mRS nv np PA (wTo nv np PA (Int32.toInt64 u) W1) L1 _ _ _ _
              rw [ET]
              exact (R_15.k (pf := fun k j => decide (k = 52 ∧ j = 27)) (pa := fun _ => false) (KQ.i rfl KQ.rf) f27_R (fun _ _ _ => rfl))
        · rw [E] at R_12
          refine ⟨-1, by rw [E], ?_⟩
          refine zw_istore _ 116 f152_114 rfl (by decide +kernel) rfl ?_
          refine zw_iinc (nI (k + 1)) _ 119 f152_116 rfl (zl1_ne rfl rfl (zl1_ne rfl rfl h3)) (by decide +kernel) (nI_1 _) rfl ?_
          refine zw_goto 38 f152_119 (by decide +kernel) ?_
          refine zw_iload 40 f152_38 rfl (zl1_ne rfl rfl zl1_eq) ?_
          refine zw_iconst 1 41 f152_40 rfl (by decide +kernel) ?_
          refine zw_ic_ne_t 122 f152_41 (by decide +kernel) (by decide +kernel) ?_
          refine zw_iload 124 f152_122 rfl (zl1_ne rfl rfl zl1_eq) ?_
          refine zw_iconst (-1) 125 f152_124 rfl (by decide +kernel) ?_
          refine zw_ic_ne_f 128 134 f152_125 (by decide +kernel) rfl (by decide +kernel) ?_
          refine zw_aload_n 129 f152_128 rfl (zl1_ne rfl rfl (zl1_ne rfl rfl (zl1_ne rfl rfl h0))) ?_
          refine zw_iconst 4 130 f152_129 rfl (by decide +kernel) ?_
          refine zw_virtual_i 133 0 0 [.ref 52, .int 4] [(0, .ref 52), (1, .int 4)] f152_130 rfl n152_209 k152_209_12 rfl (hb_52 _ _ _ _) (by decide +kernel) (Nat.le_of_ble_eq_true rfl) rfl rfl (by decide +kernel) (by decide +kernel) rfl (Nat.le_of_ble_eq_true rfl) rfl ?_
          refine zw_aload_n 1 f121_0 rfl rfl ?_
          refine zw_iload_n 2 f121_1 rfl rfl ?_
          refine zw_put _ 5 f121_2 rfl g121_111_12 (hb_52 _ _ _ _) rfl (Nat.le_of_ble_eq_true rfl) (by decide +kernel) (hi_52_27 _ _ _ _ _) ?_
          refine zw_iconst (-1) 6 f121_5 rfl (by decide +kernel) ?_
          refine zw_ireturn f121_6 r121 u121 ⟨_, rfl, ?_⟩
          refine zw_ireturn f152_133 r152 u152 ?_
          rw [show wGo nv np PA (I 52 22) (I 52 41) (Int32.toInt64 u) (n + 1) W1 L1 = ((-1), W1, L1) from (if_neg (by rw [E]; show ¬ ((-1) : Int32) = 1; decide)).trans (by rw [E])]
          exact ⟨_, _, _, _, rfl, (KQ.i rfl (KQ.tr (KQ.tr KK (KQ.wk K_1 fS_Go pS_St)) (KQ.wk K_12 fSt_Go (fun _ h => h)))), fun _ => ⟨(R_12.k (pf := fun k j => decide (k = 52 ∧ j = 27)) (pa := fun _ => false) (KQ.i rfl KQ.rf) f27_R (fun _ _ _ => rfl)), rfl, rfl⟩, fun z => absurd rfl z⟩
        · refine ⟨1, by rw [e1], ?_⟩
          refine zw_istore _ 116 f152_114 rfl (by decide +kernel) rfl ?_
          refine zw_iinc (nI (k + 1)) _ 119 f152_116 rfl (zl1_ne rfl rfl (zl1_ne rfl rfl h3)) (by decide +kernel) (nI_1 _) rfl ?_
          refine zw_goto 38 f152_119 (by decide +kernel) ?_
          rw [show wGo nv np PA (I 52 22) (I 52 41) (Int32.toInt64 u) (n + 1) W1 L1 = _ from if_pos e1]
          exact ih (k + 1) _ _ _ _ _ _ _ (KQ.tr (KQ.tr KK (KQ.wk K_1 fS_Go pS_St)) (KQ.wk K_12 fSt_Go (fun _ h => h))) R_12 (e2.mo (by omega) (by omega)) (by rw [qNotes_1]; omega) (zl1_ne rfl rfl (zl1_ne rfl rfl (zl1_ne rfl rfl h0))) (zl1_ne rfl rfl (zl1_ne rfl rfl (zl1_ne rfl rfl h1))) (zl1_ne rfl rfl (zl1_ne rfl rfl (zl1_ne rfl rfl h2))) zl1_eq (zl1_ne rfl rfl zl1_eq) (by omega)
set_option maxRecDepth 100000 in
set_option maxHeartbeats 0 in
theorem mm_go (ro : UInt32 → Nat × (Nat → Int32)) (nv np : Nat) (PA : Nat → Nat → Int32) (W : qW) (L : qLog) (I : Nat → Nat → Int32) (G : Nat → Nat → Int64) (A : Nat → Nat → Int32) (B : Nat → Nat → Int64) (K : Int) (u : Int32) (hR : mRS nv np PA W L I G A B) (hp : MPa nv np PA) (hW : wInv nv 10000 K PA W) (hK0 : 0 ≤ K) (hK : K ≤ 199000000) (hn : L.1 < 900000000) : zWp ro 152 0 [(0, .ref 52), (1, .int u)] [] (hS I G A B) 0 0 (fun r h1 => ∃ I2 G2 A2 B2, h1 = hS I2 G2 A2 B2 ∧ KQ fGo pSt I G A B I2 G2 A2 B2 ∧ qGoQ nv np PA (wGoR nv np PA (I 52 22) (I 52 41) u W L) I2 G2 A2 B2 r) := by
  refine zw_iload_n 1 f152_0 rfl rfl ?_
  refine zw_sipush 10000 4 f152_1 rfl (by decide +kernel) ?_
  refine zw_ic_gt 7 22 f152_4 (by decide +kernel) rfl (fun hc1 => ?_) (fun hc1 => ?_)
  · refine zw_aload_n 23 f152_22 rfl rfl ?_
    refine zw_iconst 1 24 f152_23 rfl (by decide +kernel) ?_
    refine zw_virtual_i 27 0 0 [.ref 52, .int 1] [(0, .ref 52), (1, .int 1)] f152_24 rfl n152_209 k152_209_12 rfl (hb_52 _ _ _ _) (by decide +kernel) (Nat.le_of_ble_eq_true rfl) rfl rfl (by decide +kernel) (by decide +kernel) rfl (Nat.le_of_ble_eq_true rfl) rfl ?_
    refine zw_aload_n 1 f121_0 rfl rfl ?_
    refine zw_iload_n 2 f121_1 rfl rfl ?_
    refine zw_put _ 5 f121_2 rfl g121_111_12 (hb_52 _ _ _ _) rfl (Nat.le_of_ble_eq_true rfl) (by decide +kernel) (hi_52_27 _ _ _ _ _) ?_
    refine zw_iconst (-1) 6 f121_5 rfl (by decide +kernel) ?_
    refine zw_ireturn f121_6 r121 u121 ⟨_, rfl, ?_⟩
    refine zw_ireturn f152_27 r152 u152 ?_
    exact ⟨_, _, _, _, rfl, (KQ.i rfl KQ.rf), by unfold wGoR; rw [if_pos (Or.inl hc1)]; exact ⟨(hR.k (pf := fun k j => decide (k = 52 ∧ j = 27)) (pa := fun _ => false) (KQ.i rfl KQ.rf) f27_R (fun _ _ _ => rfl)), rfl, rfl⟩⟩
  · refine zw_iload_n 8 f152_7 rfl rfl ?_
    refine zw_i2l (Int32.toInt64 u) 9 f152_8 rfl rfl ?_
    refine zw_aload_n 10 f152_9 rfl rfl ?_
    refine zw_getG W.1 13 f152_10 rfl g152_40_12 (hb_52 _ _ _ _) rfl hR.g ?_
    refine zw_lmul ((Int32.toInt64 u) * W.1) 14 f152_13 rfl rfl ?_
    refine zw_aload_n 15 f152_14 rfl rfl ?_
    refine zw_getG W.2.1 18 f152_15 rfl g152_172_12 (hb_52 _ _ _ _) rfl hR.t ?_
    refine zw_lcmp (lg_cmp ((Int32.toInt64 u) * W.1) W.2.1) 19 f152_18 rfl rfl ?_
    refine zw_if_ge 22 28 f152_19 (by decide +kernel) rfl (fun hc2 => ?_) (fun hc2 => ?_)
    · refine zw_aload_n 29 f152_28 rfl rfl ?_
      refine zw_getI (nI L.1) 32 f152_29 rfl g152_183_12 (hb_52 _ _ _ _) rfl hR.2.2.2.1 ?_
      refine zw_istore_n _ 33 f152_32 rfl (by decide +kernel) rfl ?_
      refine zw_iconst 0 34 f152_33 rfl (by decide +kernel) ?_
      refine zw_istore_n _ 35 f152_34 rfl (by decide +kernel) rfl ?_
      refine zw_iconst 1 36 f152_35 rfl (by decide +kernel) ?_
      refine zw_istore _ 38 f152_36 rfl (by decide +kernel) rfl ?_
      have cu := wGo_u (T := 10000) (K := K) hW.1 hc1 (Int64.not_lt.mpr ((lg_cmp_ge _ _).mp hc2))
      have er : wGoR nv np PA (I 52 22) (I 52 41) u W L = _ := if_neg (fun q => q.elim hc1 (Int64.not_lt.mpr ((lg_cmp_ge _ _).mp hc2)))
      refine zWp.mono (lmm_go ro nv np PA W L I G A B K u hR hp hW hK0 hK hn cu.1 cu.2 150 0 _ _ _ _ _ W L KQ.rf hR (hW.mo (by omega) (by omega)) (by omega) (zl1_ne rfl rfl (zl1_ne rfl rfl (zl1_ne rfl rfl rfl))) (zl1_ne rfl rfl (zl1_ne rfl rfl (zl1_ne rfl rfl rfl))) (zl1_ne rfl rfl (zl1_ne rfl rfl zl1_eq)) (zl1_ne rfl rfl zl1_eq) zl1_eq rfl) ?_
      rintro r h1 ⟨I2, G2, A2, B2, rfl, K2, q⟩
      refine ⟨I2, G2, A2, B2, rfl, K2, ?_⟩
      rw [er]
      exact qGoP.f q
    · refine zw_aload_n 23 f152_22 rfl rfl ?_
      refine zw_iconst 1 24 f152_23 rfl (by decide +kernel) ?_
      refine zw_virtual_i 27 0 0 [.ref 52, .int 1] [(0, .ref 52), (1, .int 1)] f152_24 rfl n152_209 k152_209_12 rfl (hb_52 _ _ _ _) (by decide +kernel) (Nat.le_of_ble_eq_true rfl) rfl rfl (by decide +kernel) (by decide +kernel) rfl (Nat.le_of_ble_eq_true rfl) rfl ?_
      refine zw_aload_n 1 f121_0 rfl rfl ?_
      refine zw_iload_n 2 f121_1 rfl rfl ?_
      refine zw_put _ 5 f121_2 rfl g121_111_12 (hb_52 _ _ _ _) rfl (Nat.le_of_ble_eq_true rfl) (by decide +kernel) (hi_52_27 _ _ _ _ _) ?_
      refine zw_iconst (-1) 6 f121_5 rfl (by decide +kernel) ?_
      refine zw_ireturn f121_6 r121 u121 ⟨_, rfl, ?_⟩
      refine zw_ireturn f152_27 r152 u152 ?_
      exact ⟨_, _, _, _, rfl, (KQ.i rfl KQ.rf), by unfold wGoR; rw [if_pos (Or.inr (Int64.not_le.mp (fun q => hc2 ((lg_cmp_ge _ _).mpr q))))]; exact ⟨(hR.k (pf := fun k j => decide (k = 52 ∧ j = 27)) (pa := fun _ => false) (KQ.i rfl KQ.rf) f27_R (fun _ _ _ => rfl)), rfl, rfl⟩⟩
