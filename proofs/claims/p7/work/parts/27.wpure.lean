/-! ===== the water as a value: grain, time, spring, drain, levels, siphoning, open, counted ===== -/
abbrev qW : Type := Int64 × Int64 × Int64 × Int64 × (Nat → Int64) × (Nat → Int32) × (Nat → Int32) × (Nat → Int32)
def wR (G : Nat → Nat → Int64) (A : Nat → Nat → Int32) (B : Nat → Nat → Int64) : qW := (G 52 12, G 52 13, G 52 14, G 52 15, B 63, A 65, A 64, A 66)
def wRun (nv : Nat) (PA : Nat → Nat → Int32) (W : qW) (p : Nat) : Int32 := mRun (PA 53) (PA 57) W.2.2.2.2.2.1 W.2.2.2.2.2.2.1 p nv
def wR2 (nv np : Nat) (PA : Nat → Nat → Int32) (W : qW) : (Nat → Int32) × Int32 × (Nat → Int32) × (Nat → Int32) := mR2 (PA 60) (PA 61) (PA 62) (wRun nv PA W) (PA 59) (PA 54) W.2.2.2.2.1 W.1 np nv
def wCh (nv np : Nat) (PA : Nat → Nat → Int32) (W : qW) : Nat → Int32 := (wR2 nv np PA W).2.2.1
def wDr (nv np : Nat) (PA : Nat → Nat → Int32) (W : qW) : Int32 := (wR2 nv np PA W).2.1
def wSr (nv np : Nat) (PA : Nat → Nat → Int32) (W : qW) : Int32 := (mR1 (PA 60) (PA 61) (PA 62) (wRun nv PA W) np).2.2
def wNx (nv np : Nat) (PA : Nat → Nat → Int32) (W : qW) : Int32 × Int64 × Int64 := mSk (PA 53) (PA 54) (PA 55) (PA 56) (PA 57) W.2.2.2.2.2.2.1 W.2.2.2.2.2.1 (wCh nv np PA W) W.2.2.2.2.1 W.1 (1, 0, 0) nv
def wBe (tA tB : Int64) : Int64 := tB / mD tA tB
def wAb (tA tB : Int64) : Int64 := tA / mD tA tB
def wAl (g tA tB : Int64) : Int64 := g / mD g (wBe tA tB) * wBe tA tB
def wTh (W : qW) (ch : Nat → Int32) (sr dr : Int32) (ab be al : Int64) (j : Nat) : Int64 := if j < 8 then mThen W.1 (W.2.2.2.2.1 j) (Int32.toInt64 (ch j)) ab be al else if j = 8 then mThen W.1 W.2.1 1 ab be al else if j = 9 then mThen W.1 W.2.2.1 (Int32.toInt64 sr) ab be al else mThen W.1 W.2.2.2.1 (Int32.toInt64 dr) ab be al
def wCm (W : qW) (ch : Nat → Int32) (sr dr : Int32) (ab be al : Int64) : Nat → Int64
  | 0 => al
  | k + 1 => mD (wTh W ch sr dr ab be al k) (wCm W ch sr dr ab be al k)
def wPassed (W : qW) (ch : Nat → Int32) (sr dr : Int32) (ab be al c : Int64) : qW := (al / c, wTh W ch sr dr ab be al 8 / c, wTh W ch sr dr ab be al 9 / c, wTh W ch sr dr ab be al 10 / c, fun j => mThen W.1 (W.2.2.2.2.1 j) (Int32.toInt64 (ch j)) ab be al / c, W.2.2.2.2.2)
def wPas (W : qW) (ch : Nat → Int32) (sr dr : Int32) (ab be al : Int64) : Option qW := if 10000 < al / wCm W ch sr dr ab be al 11 then none else some (wPassed W ch sr dr ab be al (wCm W ch sr dr ab be al 11))
def wPass (nv np : Nat) (PA : Nat → Nat → Int32) (W : qW) (tA tB : Int64) : Option qW := wPas W (wCh nv np PA W) (wSr nv np PA W) (wDr nv np PA W) (wAb tA tB) (wBe tA tB) (wAl W.1 tA tB)
def wMm (nv : Nat) (PA : Nat → Nat → Int32) (W : qW) : qM := qMom (PA 53) (PA 54) (PA 55) (PA 56) (PA 57) (PA 58) (PA 59) W.1 nv (W.2.2.2.2.1, W.2.2.2.1, W.2.2.2.2.2.1, W.2.2.2.2.2.2.1, W.2.2.2.2.2.2.2, [])
def wLowC (W : qW) (m : qM) : Int64 := qLc W.2.1 W.2.2.1 m.2.1 W.1 m.1 8
def wLow (W : qW) (m : qM) : qW := (W.1 / wLowC W m, W.2.1 / wLowC W m, W.2.2.1 / wLowC W m, m.2.1 / wLowC W m, fun j => m.1 j / wLowC W m, m.2.2.1, m.2.2.2.1, m.2.2.2.2.1)
def wMom (nv : Nat) (PA : Nat → Nat → Int32) (W : qW) : qW := wLow W (wMm nv PA W)
def wEv (nv : Nat) (PA : Nat → Nat → Int32) (W : qW) : List (Int32 × Int32) := (wMm nv PA W).2.2.2.2.2
abbrev qS : Type := Int32 × qW × Int64 × Int64 × List (Int32 × Int32)
def wStepB (nv : Nat) (PA : Nat → Nat → Int32) (W : qW) : Option qW → qS
  | none => (-1, W, 0, 0, [])
  | some W1 => (1, wMom nv PA W1, W1.2.1, W1.1, wEv nv PA W1)
def wStep (nv np : Nat) (PA : Nat → Nat → Int32) (u : Int64) (W : qW) : qS := if ¬ (wNx nv np PA W).1 = 0 ∨ (u * W.1 - W.2.1) * (wNx nv np PA W).2.2 < (wNx nv np PA W).2.1 * W.1 then (0, W, 0, 0, []) else wStepB nv PA W (wPass nv np PA W (wNx nv np PA W).2.1 (wNx nv np PA W).2.2)
/-! cells that hold a water -/
def eI (nv np : Nat) (sr dr : Int32) : Nat → Nat → Int32 := fun _ j => if j = 0 then nI nv else if j = 8 then nI np else if j = 34 then sr else if j = 35 then dr else 0
def eG (W : qW) : Nat → Nat → Int64 := fun _ j => if j = 12 then W.1 else if j = 13 then W.2.1 else if j = 14 then W.2.2.1 else W.2.2.2.1
def eA (PA : Nat → Nat → Int32) (W : qW) (ch : Nat → Int32) : Nat → Nat → Int32 := fun k => if k = 73 then ch else if k = 65 then W.2.2.2.2.2.1 else if k = 64 then W.2.2.2.2.2.2.1 else if k = 66 then W.2.2.2.2.2.2.2 else PA k
def eB (W : qW) : Nat → Nat → Int64 := fun _ => W.2.2.2.2.1
theorem wR_e (PA : Nat → Nat → Int32) (W : qW) (ch : Nat → Int32) : wR (eG W) (eA PA W ch) (eB W) = W := rfl
def MPa (nv np : Nat) (PA : Nat → Nat → Int32) : Prop := nv ≤ 8 ∧ np ≤ 14 ∧ (∀ v, v < nv → mPv nv np PA v) ∧ ∀ p, p < np → mPp nv PA p
theorem MP.a {nv np : Nat} {I A : Nat → Nat → Int32} (h : MP nv np I A) : MPa nv np A := ⟨h.1.2, h.2.1.2, h.2.2.1, h.2.2.2⟩
theorem MPa.e {nv np : Nat} {PA : Nat → Nat → Int32} (h : MPa nv np PA) (W : qW) (ch : Nat → Int32) (sr dr : Int32) : MP nv np (eI nv np sr dr) (eA PA W ch) := ⟨⟨rfl, h.1⟩, ⟨rfl, h.2.1⟩, h.2.2.1, h.2.2.2⟩
def wOk (nv : Nat) (T K : Int) (PA : Nat → Nat → Int32) (W : qW) : Prop := MW nv T K PA (eG W) (eB W)
def wBo (W : qW) : Prop := (∀ p, p < 14 → W.2.2.2.2.2.2.1 p = 0 ∨ W.2.2.2.2.2.2.1 p = 1) ∧ ∀ v, v < 8 → W.2.2.2.2.2.1 v = 0 ∨ W.2.2.2.2.2.1 v = 1
theorem MW.w {nv : Nat} {T K : Int} {G : Nat → Nat → Int64} {A : Nat → Nat → Int32} {B : Nat → Nat → Int64} (h : MW nv T K A G B) : wOk nv T K A (wR G A B) := h
theorem wOk.c {nv : Nat} {T K : Int} {G : Nat → Nat → Int64} {A : Nat → Nat → Int32} {B : Nat → Nat → Int64} (h : wOk nv T K A (wR G A B)) : MW nv T K A G B := h
theorem MB.w {G : Nat → Nat → Int64} {A : Nat → Nat → Int32} {B : Nat → Nat → Int64} (h : MB A) : wBo (wR G A B) := h
theorem wBo.c {G : Nat → Nat → Int64} {A : Nat → Nat → Int32} {B : Nat → Nat → Int64} (h : wBo (wR G A B)) : MB A := h
theorem MW.pa {nv : Nat} {T K : Int} {G B : Nat → Nat → Int64} {A A2 : Nat → Nat → Int32} (h : MW nv T K A G B) (e : A2 54 = A 54) : MW nv T K A2 G B := by
  unfold MW mLv at h ⊢
  rw [e]; exact h
theorem MW.mo {nv : Nat} {T K T2 K2 : Int} {G B : Nat → Nat → Int64} {A : Nat → Nat → Int32} (h : MW nv T K A G B) (hT : T ≤ T2) (hK : K ≤ K2) : MW nv T2 K2 A G B := by
  obtain ⟨a, b, c, d⟩ := h
  have hg := a.1
  have t1 : T * (G 52 12).toInt ≤ T2 * (G 52 12).toInt := Int.mul_le_mul_of_nonneg_right hT (by omega)
  have t2 : K * (G 52 12).toInt ≤ K2 * (G 52 12).toInt := Int.mul_le_mul_of_nonneg_right hK (by omega)
  exact ⟨a, ⟨b.1, by omega⟩, c, ⟨d.1, by omega⟩⟩
theorem mTh_w {I : Nat → Nat → Int32} {G : Nat → Nat → Int64} {A : Nat → Nat → Int32} {B : Nat → Nat → Int64} {ch : Nat → Int32} {sr dr : Int32} {ab be al : Int64} (hc : ∀ j, j < 8 → A 73 j = ch j) (hs : I 52 34 = sr) (hd : I 52 35 = dr) (j : Nat) : mTh I G A B ab be al j = wTh (wR G A B) ch sr dr ab be al j := by
  unfold mTh wTh
  rw [hs, hd]
  by_cases h : j < 8
  · rw [if_pos h, if_pos h, hc j h]; rfl
  · rw [if_neg h, if_neg h]; rfl
theorem mCm_w {I : Nat → Nat → Int32} {G : Nat → Nat → Int64} {A : Nat → Nat → Int32} {B : Nat → Nat → Int64} {ch : Nat → Int32} {sr dr : Int32} {ab be al : Int64} (hc : ∀ j, j < 8 → A 73 j = ch j) (hs : I 52 34 = sr) (hd : I 52 35 = dr) : ∀ k, mCm I G A B ab be al k = wCm (wR G A B) ch sr dr ab be al k
  | 0 => rfl
  | k + 1 => by rw [mCm, wCm, mCm_w hc hs hd k, mTh_w hc hs hd k]
theorem mThen_z {g c ab be al : Int64} : mThen g 0 (Int32.toInt64 0) ab be al / c = 0 := by
  have e : mThen g 0 (Int32.toInt64 0) ab be al = 0 := by
    unfold mThen
    rw [show Int32.toInt64 0 = 0 by decide, Int64.zero_mul, Int64.zero_mul, Int64.zero_mul]
    decide
  rw [e]
  exact Int64.zero_div
theorem pass_w1 {I : Nat → Nat → Int32} {G G2 : Nat → Nat → Int64} {A A2 : Nat → Nat → Int32} {B B2 : Nat → Nat → Int64} {ch : Nat → Int32} {sr dr : Int32} {ab be al : Int64} (hc : ∀ j, j < 8 → A 73 j = ch j) (hz : ∀ j, 8 ≤ j → ch j = 0) (hl : ∀ j, 8 ≤ j → B 63 j = 0) (hs : I 52 34 = sr) (hd : I 52 35 = dr) (h5 : A2 65 = A 65) (h4 : A2 64 = A 64) (h6 : A2 66 = A 66) (h : mPass I G A B ab be al G2 B2) : wPas (wR G A B) ch sr dr ab be al = some (wR G2 A2 B2) := by
  obtain ⟨p1, p2, p3, p4, p5, p6, p7⟩ := h
  rw [mCm_w hc hs hd 11] at p1 p2 p3 p4 p5 p6
  rw [mTh_w hc hs hd] at p3 p4 p5
  unfold wPas
  rw [if_neg p1]
  unfold wPassed wR
  have e : (fun j => mThen (G 52 12) (B 63 j) (Int32.toInt64 (ch j)) ab be al / wCm (wR G A B) ch sr dr ab be al 11) = B2 63 := by
    funext j
    rcases Nat.lt_or_ge j 8 with q | q
    · rw [p2 j q, mTh_w hc hs hd]
      unfold wTh
      rw [if_pos q]; rfl
    · rw [p7 j q, hl j q, hz j q]; exact mThen_z
  rw [p3, p4, p5, p6, h5, h4, h6, ← e]
  rfl
theorem pass_w0 {I : Nat → Nat → Int32} {G : Nat → Nat → Int64} {A : Nat → Nat → Int32} {B : Nat → Nat → Int64} {ch : Nat → Int32} {sr dr : Int32} {ab be al : Int64} (hc : ∀ j, j < 8 → A 73 j = ch j) (hs : I 52 34 = sr) (hd : I 52 35 = dr) (h : mFail I G A B ab be al) : wPas (wR G A B) ch sr dr ab be al = none := by
  unfold mFail at h
  rw [mCm_w hc hs hd 11] at h
  exact if_pos h
/-- cells of what has passed -/
theorem pass_e {nv np : Nat} {PA : Nat → Nat → Int32} {W W1 : qW} {ch : Nat → Int32} {sr dr : Int32} {ab be al : Int64} (hz : ∀ j, 8 ≤ j → ch j = 0) (hl : ∀ j, 8 ≤ j → W.2.2.2.2.1 j = 0) (h : wPas W ch sr dr ab be al = some W1) : mPass (eI nv np sr dr) (eG W) (eA PA W ch) (eB W) ab be al (eG W1) (eB W1) ∧ W1.2.2.2.2.2 = W.2.2.2.2.2 := by
  have hc : ∀ j, j < 8 → eA PA W ch 73 j = ch j := fun _ _ => rfl
  unfold wPas at h
  by_cases q : 10000 < al / wCm W ch sr dr ab be al 11
  · rw [if_pos q] at h; cases h
  · rw [if_neg q] at h
    have e := Option.some.inj h
    subst e
    refine ⟨⟨?_, fun j hj => ?_, ?_, ?_, ?_, ?_, fun j hj => ?_⟩, rfl⟩
    · rw [mCm_w (I := eI nv np sr dr) (G := eG W) (A := eA PA W ch) (B := eB W) hc rfl rfl 11]; exact q
    · rw [mCm_w (I := eI nv np sr dr) (G := eG W) (A := eA PA W ch) (B := eB W) hc rfl rfl 11, mTh_w (I := eI nv np sr dr) (G := eG W) (A := eA PA W ch) (B := eB W) hc rfl rfl j]
      unfold wTh
      rw [if_pos hj]; rfl
    · rw [mCm_w (I := eI nv np sr dr) (G := eG W) (A := eA PA W ch) (B := eB W) hc rfl rfl 11, mTh_w (I := eI nv np sr dr) (G := eG W) (A := eA PA W ch) (B := eB W) hc rfl rfl]; rfl
    · rw [mCm_w (I := eI nv np sr dr) (G := eG W) (A := eA PA W ch) (B := eB W) hc rfl rfl 11, mTh_w (I := eI nv np sr dr) (G := eG W) (A := eA PA W ch) (B := eB W) hc rfl rfl]; rfl
    · rw [mCm_w (I := eI nv np sr dr) (G := eG W) (A := eA PA W ch) (B := eB W) hc rfl rfl 11, mTh_w (I := eI nv np sr dr) (G := eG W) (A := eA PA W ch) (B := eB W) hc rfl rfl]; rfl
    · rw [mCm_w (I := eI nv np sr dr) (G := eG W) (A := eA PA W ch) (B := eB W) hc rfl rfl 11]; rfl
    · show mThen W.1 (W.2.2.2.2.1 j) (Int32.toInt64 (ch j)) ab be al / wCm W ch sr dr ab be al 11 = W.2.2.2.2.1 j
      rw [hl j hj, hz j hj]; exact mThen_z
theorem wR2_b {nv np : Nat} {PA : Nat → Nat → Int32} (h : MPa nv np PA) (W : qW) : mBd 143080 (wR2 nv np PA W).1 (wR2 nv np PA W).2.1 ∧ (∀ j, nv ≤ j → wCh nv np PA W j = 0) ∧ (∀ j, j < nv → mChOk (PA 54) W.2.2.2.2.1 W.1 (wCh nv np PA W j) j) ∧ 0 ≤ (wSr nv np PA W).toInt ∧ (wSr nv np PA W).toInt ≤ 280 := mR2s_b (I := eI nv np 0 0) (G := eG W) (A := eA PA W (fun _ => 0)) (B := eB W) (h.e W (fun _ => 0) 0 0)
theorem wNx_ok {nv np : Nat} {T K : Int} {PA : Nat → Nat → Int32} {W : qW} (h : MPa nv np PA) (hW : wOk nv T K PA W) : mOk W.1.toInt (wNx nv np PA W) ∧ mMin nv PA (eG W) (eB W) (wCh nv np PA W) (wNx nv np PA W) := mSks_ok (I := eI nv np 0 0) (G := eG W) (A := eA PA W (fun _ => 0)) (B := eB W) (s0 := (1, 0, 0)) (h.e W (fun _ => 0) 0 0) hW.1 rfl nv (Nat.le_refl _)
/-- a time to the next change, or as long as no change comes -/
def wTm (T T2 : Int) (W : qW) (tA tB : Int64) : Prop := W.2.1.toInt * tB.toInt + tA.toInt * W.1.toInt ≤ T2 * (W.1.toInt * tB.toInt)
theorem wPass_ok {nv np : Nat} {T T2 K q : Int} {PA : Nat → Nat → Int32} {W : qW} {tA tB : Int64} (h : MPa nv np PA) (hW : wOk nv T K PA W) (hT : T ≤ 40000) (hK0 : 0 ≤ K) (hK : K ≤ 200000000) (a0 : 0 < tA.toInt) (a1 : tA.toInt ≤ 100000000) (q1 : 1 ≤ q) (q2 : q ≤ 71400) (hq : tB.toInt = W.1.toInt * q)
    (hph : ∀ v, v < nv → 0 ≤ (W.2.2.2.2.1 v).toInt * tB.toInt + (wCh nv np PA W v).toInt * tA.toInt * W.1.toInt ∧ (W.2.2.2.2.1 v).toInt * tB.toInt + (wCh nv np PA W v).toInt * tA.toInt * W.1.toInt ≤ (PA 54 v).toInt * W.1.toInt * tB.toInt) (hti : wTm T T2 W tA tB) :
    ¬ wBe tA tB = 0 ∧ ¬ wAl W.1 tA tB = 0 ∧ ∀ W1, wPass nv np PA W tA tB = some W1 → wOk nv T2 K PA W1 ∧ W1.2.2.2.2.2 = W.2.2.2.2.2 := by
  have b := wR2_b h W
  have hn := h.1
  have p := pass_num (I := eI nv np (wSr nv np PA W) (wDr nv np PA W)) (G := eG W) (A := eA PA W (wCh nv np PA W)) (B := eB W) (T := T) (T2 := T2) (K := K) (tA := tA) (tB := tB) (h.e W _ _ _) hW (fun j hj => ⟨(b.2.2.1 j hj).1, (b.2.2.1 j hj).2.1⟩) (fun j hj _ => b.2.1 j hj) b.2.2.2 b.1.2 hT hK0 hK a0 a1 q1 q2 hq hph hti
  refine ⟨p.1, p.2.1, fun W1 h1 => ?_⟩
  have e := pass_e (nv := nv) (np := np) (PA := PA) (fun j hj => b.2.1 j (by omega)) (fun j hj => hW.1.2.2 j (by omega)) h1
  exact ⟨p.2.2 _ _ e.1, e.2⟩
theorem wNext_ph {nv np : Nat} {T K : Int} {PA : Nat → Nat → Int32} {W : qW} {na nb : Int64} (h : MPa nv np PA) (hW : wOk nv T K PA W) (hN : wNx nv np PA W = (0, na, nb)) :
    (0 < na.toInt ∧ na.toInt ≤ 200 * W.1.toInt) ∧ (∃ q : Int, 1 ≤ q ∧ q ≤ 71400 ∧ nb.toInt = W.1.toInt * q) ∧ ∀ v, v < nv → 0 ≤ (W.2.2.2.2.1 v).toInt * nb.toInt + (wCh nv np PA W v).toInt * na.toInt * W.1.toInt ∧ (W.2.2.2.2.1 v).toInt * nb.toInt + (wCh nv np PA W v).toInt * na.toInt * W.1.toInt ≤ (PA 54 v).toInt * W.1.toInt * nb.toInt := by
  obtain ⟨o, m⟩ := wNx_ok h hW
  rw [hN] at o m
  obtain ⟨-, o⟩ := o
  obtain ⟨o1, o2, q, q1, q2, o3⟩ := o rfl
  simp only at o1 o2 o3
  have hg : 1 ≤ W.1.toInt ∧ W.1.toInt ≤ 10000 := hW.1.1
  have nb0 : 0 ≤ nb.toInt := by rw [o3]; exact Int.mul_nonneg (by omega) (by omega)
  refine ⟨⟨o1, o2⟩, ⟨q, q1, q2, o3⟩, fun v hv => ?_⟩
  have hl : 0 ≤ (W.2.2.2.2.1 v).toInt ∧ (W.2.2.2.2.1 v).toInt ≤ (PA 54 v).toInt * W.1.toInt := hW.1.2.1 v hv
  have mv : (0 < (wCh nv np PA W v).toInt → na.toInt * (W.1.toInt * (wCh nv np PA W v).toInt) ≤ ((PA 54 v).toInt * W.1.toInt - (W.2.2.2.2.1 v).toInt) * nb.toInt) ∧ ((wCh nv np PA W v).toInt < 0 → na.toInt * (W.1.toInt * -(wCh nv np PA W v).toInt) ≤ (W.2.2.2.2.1 v).toInt * nb.toInt) := ⟨fun z => ((m v hv).1 z).2, fun z => ((m v hv).2 z).2⟩
  generalize (wCh nv np PA W v).toInt = c at *
  have e1 : c * na.toInt * W.1.toInt = na.toInt * (W.1.toInt * c) := by ac_rfl
  have l1 := Int.mul_nonneg hl.1 nb0
  have l2 := Int.mul_le_mul_of_nonneg_right hl.2 nb0
  rw [e1]
  rcases Int.lt_trichotomy c 0 with z | z | z
  · have := mv.2 z
    rw [Int.mul_neg, Int.mul_neg] at this
    have n1 : na.toInt * (W.1.toInt * c) ≤ 0 := Int.mul_nonpos_of_nonneg_of_nonpos (by omega) (Int.mul_nonpos_of_nonneg_of_nonpos (by omega) (by omega))
    omega
  · rw [z, Int.mul_zero, Int.mul_zero]; omega
  · have := mv.1 z
    rw [Int.sub_mul] at this
    have n1 : 0 ≤ na.toInt * (W.1.toInt * c) := Int.mul_nonneg (by omega) (Int.mul_nonneg (by omega) (by omega))
    omega
