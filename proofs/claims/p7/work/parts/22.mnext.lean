/-! ===== the next change is the least ===== -/
theorem nI_inj8 {a b : Nat} (ha : a < 8) (hb : b < 8) (h : nI a = nI b) : a = b := (nI_eq (by omega) (by omega)).mp h
theorem MP.ha {nv np : Nat} {I : Nat → Nat → Int32} {A : Nat → Nat → Int32} (h : MP nv np I A) : ∀ p, p < np → 1 ≤ (A 62 p).toInt ∧ (A 62 p).toInt ≤ 20 := fun p hp => (h.2.2.2 p hp).2.1
theorem MP.h0 {nv np : Nat} {I : Nat → Nat → Int32} {A : Nat → Nat → Int32} (h : MP nv np I A) : ∀ p, p < np → mTo nv 0 (A 61 p) := fun p hp => (h.2.2.2 p hp).1
theorem MP.ht {nv np : Nat} {I : Nat → Nat → Int32} {A : Nat → Nat → Int32} (h : MP nv np I A) : ∀ v p, v < nv → p < np → A 60 p = nI v → mTo nv (v + 1) (A 61 p) := by
  intro v p hv hp e
  have hn := h.1.2
  rcases (h.2.2.2 p hp).2.2 with q | ⟨f, hf, q, w⟩
  · exact absurd (e.symm.trans q) (nI_nem (by omega))
  · have := nI_inj8 (by omega) (by omega) (e.symm.trans q)
    rw [this]; exact w
theorem MP.ho {nv np : Nat} {I : Nat → Nat → Int32} {A : Nat → Nat → Int32} (h : MP nv np I A) : ∀ v, v < nv → mTo nv (v + 1) (A 59 v) := fun v hv => (h.2.2.1 v hv).2.2.2.2.2
/-- rates' numbers -/
theorem mR2s_b {nv np : Nat} {I : Nat → Nat → Int32} {G : Nat → Nat → Int64} {A : Nat → Nat → Int32} {B : Nat → Nat → Int64} (h : MP nv np I A) : mBd 143080 (mR2s nv np G A B nv).1 (mR2s nv np G A B nv).2.1 ∧ (∀ j, nv ≤ j → mCh nv np G A B j = 0) ∧ (∀ j, j < nv → mChOk (A 54) (B 63) (G 52 12) (mCh nv np G A B j) j) ∧ 0 ≤ (mSr nv np A).toInt ∧ (mSr nv np A).toInt ≤ 280 := by
  have a := mR2_b (frm := A 60) (run := mRn nv A) (brim := A 54) (lev := B 63) (g := G 52 12) h.1.2 h.2.1.2 h.ha h.h0 h.ht h.ho nv (Nat.le_refl _)
  have b := mR1_b (frm := A 60) (run := mRn nv A) h.1.2 h.2.1.2 h.ha h.h0 np (Nat.le_refl _)
  have := h.2.1.2
  exact ⟨a.1.mono (mCf_b nv h.1.2).2, a.2.1, a.2.2, b.2.1, by have := b.2.2; unfold mSr; omega⟩
/-- the time to the next change: numbers -/
def mOk (g : Int) (s : Int32 × Int64 × Int64) : Prop := (s.1 = 0 ∨ s.1 = 1) ∧ (s.1 = 0 → 0 < s.2.1.toInt ∧ s.2.1.toInt ≤ 200 * g ∧ ∃ q : Int, 1 ≤ q ∧ q ≤ 71400 ∧ s.2.2.toInt = g * q)
/-- no later than w / (g * q) -/
def mLe (g : Int) (s : Int32 × Int64 × Int64) (w q : Int) : Prop := s.1 = 0 ∧ s.2.1.toInt * (g * q) ≤ w * s.2.2.toInt
theorem mul_bd {a b A B : Int} (a0 : 0 ≤ a) (a1 : a ≤ A) (b0 : 0 ≤ b) (b1 : b ≤ B) : 0 ≤ a * b ∧ a * b ≤ A * B :=
  ⟨Int.mul_nonneg a0 b0, Int.mul_le_mul a1 b1 b0 (Int.le_trans a0 a1)⟩
theorem mayF_ok {gi : Int} {g way : Int64} {sp : Int32} {s : Int32 × Int64 × Int64} (hg : g.toInt = gi) (g1 : 1 ≤ gi) (g2 : gi ≤ 10000) (hw : way.toInt ≤ 200 * gi) (hp : sp.toInt ≤ 71400) (h : mOk gi s) : mOk gi (mayF g s way sp) ∧ (0 < way.toInt → 0 < sp.toInt → mLe gi (mayF g s way sp) way.toInt sp.toInt) ∧ ∀ w q, 0 < q → mLe gi s w q → mLe gi (mayF g s way sp) w q := by
  by_cases hw0 : 0 < way
  · by_cases hs0 : 0 < sp
    · have w0 := hw0
      have p0 := hs0
      rw [i64_lt, i64_0] at w0
      rw [i32_lt, i32_0] at p0
      have hgq := mul_bd (a := gi) (b := sp.toInt) (A := 10000) (B := 71400) (by omega) g2 (by omega) hp
      have e1 : (g * Int32.toInt64 sp).toInt = gi * sp.toInt := by
        rw [i64_mul, Int32.toInt_toInt64, hg] <;> rw [Int32.toInt_toInt64, hg] <;> omega
      have hgp : 0 < gi * sp.toInt := Int.mul_pos (by omega) p0
      by_cases hr : s.1 = 0
      · obtain ⟨n1, n2, q, q1, q2, q3⟩ := h.2 hr
        have hb := mul_bd (a := gi) (b := q) (A := 10000) (B := 71400) (by omega) g2 (by omega) q2
        have hbp : 0 < gi * q := Int.mul_pos (by omega) (by omega)
        have m1 := mul_bd (a := way.toInt) (b := s.2.2.toInt) (A := 2000000) (B := 10000 * 71400) (by omega) (by omega) (by omega) (by omega)
        have m2 := mul_bd (a := s.2.1.toInt) (b := gi * sp.toInt) (A := 2000000) (B := 10000 * 71400) (by omega) (by omega) (by omega) (by omega)
        have e2 : (way * s.2.2).toInt = way.toInt * s.2.2.toInt := i64_mul (by omega) (by omega)
        have e3 : (s.2.1 * (g * Int32.toInt64 sp)).toInt = s.2.1.toInt * (gi * sp.toInt) := by
          rw [i64_mul, e1] <;> rw [e1] <;> omega
        by_cases hc : way * s.2.2 < s.2.1 * (g * Int32.toInt64 sp)
        · rw [mayF_e hw0 hs0 hc]
          rw [i64_lt, e2, e3] at hc
          refine ⟨⟨Or.inl rfl, fun _ => ⟨w0, hw, sp.toInt, by omega, hp, e1⟩⟩, fun _ _ => ⟨rfl, ?_⟩, fun w q' hq' hl => ⟨rfl, ?_⟩⟩
          · show way.toInt * (gi * sp.toInt) ≤ way.toInt * (g * Int32.toInt64 sp).toInt
            rw [e1]; exact Int.le_refl _
          · show way.toInt * (gi * q') ≤ w * (g * Int32.toInt64 sp).toInt
            rw [e1]
            have l := hl.2
            have hgq' : 0 < gi * q' := Int.mul_pos (by omega) hq'
            -- way * nb < na * below ; na * gq' <= w * nb
            apply Int.le_of_mul_le_mul_right (a := s.2.2.toInt) _ (by omega)
            have t1 : way.toInt * s.2.2.toInt * (gi * q') ≤ s.2.1.toInt * (gi * sp.toInt) * (gi * q') := Int.mul_le_mul_of_nonneg_right (by omega) (by omega)
            have t2 : s.2.1.toInt * (gi * q') * (gi * sp.toInt) ≤ w * s.2.2.toInt * (gi * sp.toInt) := Int.mul_le_mul_of_nonneg_right l (by omega)
            calc way.toInt * (gi * q') * s.2.2.toInt = way.toInt * s.2.2.toInt * (gi * q') := by ac_rfl
              _ ≤ s.2.1.toInt * (gi * sp.toInt) * (gi * q') := t1
              _ = s.2.1.toInt * (gi * q') * (gi * sp.toInt) := by ac_rfl
              _ ≤ w * s.2.2.toInt * (gi * sp.toInt) := t2
              _ = w * (gi * sp.toInt) * s.2.2.toInt := by ac_rfl
        · rw [mayF_c hr hc]
          rw [i64_lt, e2, e3] at hc
          exact ⟨h, fun _ _ => ⟨hr, by omega⟩, fun _ _ _ hl => hl⟩
      · rw [mayF_d hw0 hs0 hr]
        refine ⟨⟨Or.inl rfl, fun _ => ⟨w0, hw, sp.toInt, by omega, hp, e1⟩⟩, fun _ _ => ⟨rfl, ?_⟩, fun w q hq hl => absurd hl.1 hr⟩
        show way.toInt * (gi * sp.toInt) ≤ way.toInt * (g * Int32.toInt64 sp).toInt
        rw [e1]; exact Int.le_refl _
    · rw [mayF_b hs0]
      rw [i32_lt, i32_0] at hs0
      exact ⟨h, fun _ q => absurd q hs0, fun _ _ _ hl => hl⟩
  · rw [mayF_a hw0]
    rw [i64_lt, i64_0] at hw0
    exact ⟨h, fun q => absurd q hw0, fun _ _ _ hl => hl⟩
/-- the water's levels -/
def mLv (nv : Nat) (A : Nat → Nat → Int32) (G B : Nat → Nat → Int64) : Prop := (1 ≤ (G 52 12).toInt ∧ (G 52 12).toInt ≤ 10000) ∧ (∀ v, v < nv → 0 ≤ (B 63 v).toInt ∧ (B 63 v).toInt ≤ (A 54 v).toInt * (G 52 12).toInt) ∧ ∀ v, nv ≤ v → B 63 v = 0
theorem mBrim {a : Int32} {g : Int64} (h : 0 ≤ a.toInt ∧ a.toInt ≤ 200) (hg : 1 ≤ g.toInt ∧ g.toInt ≤ 10000) : (Int32.toInt64 a * g).toInt = a.toInt * g.toInt ∧ 0 ≤ a.toInt * g.toInt ∧ a.toInt * g.toInt ≤ 200 * g.toInt := by
  have h1 : 0 ≤ a.toInt * g.toInt := Int.mul_nonneg h.1 (by omega)
  have h2 : a.toInt * g.toInt ≤ 200 * g.toInt := Int.mul_le_mul_of_nonneg_right h.2 (by omega)
  refine ⟨?_, h1, h2⟩
  rw [i64_mul, Int32.toInt_toInt64] <;> rw [Int32.toInt_toInt64] <;> omega
/-- what seek has found behind k vessels -/
def mMin (k : Nat) (A : Nat → Nat → Int32) (G B : Nat → Nat → Int64) (ch : Nat → Int32) (s : Int32 × Int64 × Int64) : Prop := ∀ u, u < k → (0 < (ch u).toInt → mLe (G 52 12).toInt s ((A 54 u).toInt * (G 52 12).toInt - (B 63 u).toInt) (ch u).toInt) ∧ ((ch u).toInt < 0 → mLe (G 52 12).toInt s (B 63 u).toInt (-(ch u).toInt))
theorem mMin.mono {k : Nat} {A : Nat → Nat → Int32} {G B : Nat → Nat → Int64} {ch : Nat → Int32} {s t : Int32 × Int64 × Int64} (h : mMin k A G B ch s) (m : ∀ w q, 0 < q → mLe (G 52 12).toInt s w q → mLe (G 52 12).toInt t w q) : mMin k A G B ch t := fun u hu => ⟨fun q => m _ _ q ((h u hu).1 q), fun q => m _ _ (by omega) ((h u hu).2 q)⟩
theorem mSks_ok {nv np : Nat} {I : Nat → Nat → Int32} {G : Nat → Nat → Int64} {A : Nat → Nat → Int32} {B : Nat → Nat → Int64} {s0 : Int32 × Int64 × Int64} (hP : MP nv np I A) (hL : mLv nv A G B) (h0 : s0.1 = 1) : ∀ k, k ≤ nv → mOk (G 52 12).toInt (mSks nv np G A B s0 k) ∧ mMin k A G B (mCh nv np G A B) (mSks nv np G A B s0 k)
  | 0, _ => by
    refine ⟨⟨Or.inr h0, fun q => ?_⟩, fun u hu => absurd hu (by omega)⟩
    have e : (mSks nv np G A B s0 0).1 = 1 := h0
    rw [e] at q
    exact absurd q (by decide)
  | k + 1, hk => by
    obtain ⟨ih, im⟩ := mSks_ok (s0 := s0) hP hL h0 k (by omega)
    have hc := (mR2s_b (G := G) (B := B) hP).2.2.1 k (by omega)
    have hpv := hP.2.2.1 k (by omega)
    have hl := hL.2.1 k (by omega)
    have hg := hL.1
    have b1 := mBrim (g := G 52 12) (a := A 54 k) ⟨by have := hpv.1; omega, hpv.1.2⟩ hg
    have b2 := mBrim (g := G 52 12) (a := A 55 k) ⟨hpv.2.1.1, by have := hpv.1; have := hpv.2.1; omega⟩ hg
    have b3 := mBrim (g := G 52 12) (a := A 56 k) ⟨hpv.2.2.1.1, by have := hpv.1; have := hpv.2.2.1; omega⟩ hg
    have e1 : (Int32.toInt64 (A 54 k) * G 52 12 - B 63 k).toInt = (A 54 k).toInt * (G 52 12).toInt - (B 63 k).toInt := by
      rw [i64_sub, b1.1] <;> rw [b1.1] <;> omega
    have e2 : (Int32.toInt64 (A 55 k) * G 52 12 - B 63 k).toInt = (A 55 k).toInt * (G 52 12).toInt - (B 63 k).toInt := by
      rw [i64_sub, b2.1] <;> rw [b2.1] <;> omega
    have e3 : (B 63 k - Int32.toInt64 (A 56 k) * G 52 12).toInt = (B 63 k).toInt - (A 56 k).toInt * (G 52 12).toInt := by
      rw [i64_sub, b3.1] <;> rw [b3.1] <;> omega
    have e4 : (-mCh nv np G A B k).toInt = -(mCh nv np G A B k).toInt := i32_neg (by have := hc.1; omega)
    have c1 := hc.1
    have c2 := hc.2.1
    have c3 := hc.2.2.1
    have c4 := hc.2.2.2
    rw [i64_lt, i64_0] at c3
    -- first two
    obtain ⟨f1, f2, f3⟩ := mayF_ok (way := Int32.toInt64 (A 54 k) * G 52 12 - B 63 k) (sp := mCh nv np G A B k) rfl hg.1 hg.2 (by omega) c2 ih
    obtain ⟨g1, g2, g3⟩ := mayF_ok (way := B 63 k) (sp := -mCh nv np G A B k) rfl hg.1 hg.2 (by omega) (by omega) f1
    have m1 : mMin (k + 1) A G B (mCh nv np G A B) (mS1 (A 54) (mCh nv np G A B) (B 63) (G 52 12) k (mSks nv np G A B s0 k)) := by
      intro u hu
      by_cases e : u = k
      · subst e
        refine ⟨fun q => ?_, fun q => ?_⟩
        · have ne : ¬ (B 63 u).toInt = (A 54 u).toInt * (G 52 12).toInt := by
            intro z
            refine c4 q (Int64.toInt_inj.mp ?_)
            rw [b1.1]; exact z
          have := f2 (by omega) q
          rw [e1] at this
          exact g3 _ _ q this
        · have : 0 < (B 63 u).toInt := by
            rcases Int.lt_or_le 0 (B 63 u).toInt with z | z
            · exact z
            · have := c3 (by omega); omega
          have r := g2 this (by omega)
          rw [e4] at r
          exact r
      · exact (im.mono f3).mono g3 u (by omega)
    have k1 : mOk (G 52 12).toInt (mS1 (A 54) (mCh nv np G A B) (B 63) (G 52 12) k (mSks nv np G A B s0 k)) := g1
    generalize hs1 : mS1 (A 54) (mCh nv np G A B) (B 63) (G 52 12) k (mSks nv np G A B s0 k) = s1 at m1 k1
    obtain ⟨p1, p2, p3⟩ := mayF_ok (way := Int32.toInt64 (A 55 k) * G 52 12 - B 63 k) (sp := mCh nv np G A B k) rfl hg.1 hg.2 (by omega) c2 k1
    have w2 : mOk (G 52 12).toInt (mS2 (A 53) (A 55) (A 65) (mCh nv np G A B) (B 63) (G 52 12) k s1) ∧ mMin (k + 1) A G B (mCh nv np G A B) (mS2 (A 53) (A 55) (A 65) (mCh nv np G A B) (B 63) (G 52 12) k s1) := by
      unfold mS2
      split
      · exact ⟨p1, m1.mono p3⟩
      · exact ⟨k1, m1⟩
    generalize hs2 : mS2 (A 53) (A 55) (A 65) (mCh nv np G A B) (B 63) (G 52 12) k s1 = s2 at w2
    obtain ⟨u1, u2, u3⟩ := mayF_ok (way := Int32.toInt64 (A 55 k) * G 52 12 - B 63 k) (sp := mCh nv np G A B k) rfl hg.1 hg.2 (by omega) c2 w2.1
    obtain ⟨v1, v2, v3⟩ := mayF_ok (way := B 63 k - Int32.toInt64 (A 56 k) * G 52 12) (sp := -mCh nv np G A B k) rfl hg.1 hg.2 (by omega) (by omega) w2.1
    have w3 : mOk (G 52 12).toInt (mS3 (A 53) (A 55) (A 56) (A 57) (A 64) (mCh nv np G A B) (B 63) (G 52 12) k s2) ∧ mMin (k + 1) A G B (mCh nv np G A B) (mS3 (A 53) (A 55) (A 56) (A 57) (A 64) (mCh nv np G A B) (B 63) (G 52 12) k s2) := by
      unfold mS3
      split
      · split
        · exact ⟨v1, w2.2.mono v3⟩
        · exact ⟨u1, w2.2.mono u3⟩
      · exact w2
    have e : mSks nv np G A B s0 (k + 1) = mS3 (A 53) (A 55) (A 56) (A 57) (A 64) (mCh nv np G A B) (B 63) (G 52 12) k s2 := by
      rw [← hs2, ← hs1]
      rfl
    rw [e]
    exact w3
/-- seek again finds the same -/
def mSim (s t : Int32 × Int64 × Int64) : Prop := s = t ∨ (¬ s.1 = 0 ∧ ¬ t.1 = 0)
theorem mayF_sim {g way : Int64} {sp : Int32} {s t : Int32 × Int64 × Int64} (h : mSim s t) : mSim (mayF g s way sp) (mayF g t way sp) := by
  rcases h with rfl | ⟨a, b⟩
  · exact Or.inl rfl
  · by_cases h0 : 0 < way
    · by_cases h1 : 0 < sp
      · rw [mayF_d h0 h1 a, mayF_d h0 h1 b]
        exact Or.inl rfl
      · rw [mayF_b h1, mayF_b h1]; exact Or.inr ⟨a, b⟩
    · rw [mayF_a h0, mayF_a h0]; exact Or.inr ⟨a, b⟩
theorem mSk_sim {kind brim high low own opn siph ch : Nat → Int32} {lev : Nat → Int64} {g : Int64} {s t : Int32 × Int64 × Int64} (h : mSim s t) : ∀ k, mSim (mSk kind brim high low own opn siph ch lev g s k) (mSk kind brim high low own opn siph ch lev g t k)
  | 0 => h
  | k + 1 => by
    have ih := mSk_sim (kind := kind) (brim := brim) (high := high) (low := low) (own := own) (opn := opn) (siph := siph) (ch := ch) (lev := lev) (g := g) h k
    rw [mSk_s, mSk_s]
    have h1 : mSim (mS1 brim ch lev g k (mSk kind brim high low own opn siph ch lev g s k)) (mS1 brim ch lev g k (mSk kind brim high low own opn siph ch lev g t k)) := mayF_sim (mayF_sim ih)
    have h2 : mSim (mS2 kind high siph ch lev g k (mS1 brim ch lev g k (mSk kind brim high low own opn siph ch lev g s k))) (mS2 kind high siph ch lev g k (mS1 brim ch lev g k (mSk kind brim high low own opn siph ch lev g t k))) := by
      unfold mS2
      split
      · exact mayF_sim h1
      · exact h1
    unfold mS3
    split
    · split
      · exact mayF_sim h2
      · exact mayF_sim h2
    · exact h2
