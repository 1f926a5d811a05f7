/-! ===== numbers ===== -/
theorem i32_add {a b : Int32} (h1 : -2 ^ 31 ≤ a.toInt + b.toInt) (h2 : a.toInt + b.toInt < 2 ^ 31) : (a + b).toInt = a.toInt + b.toInt := by
  rw [Int32.toInt_add]
  exact Int.bmod_eq_of_le (by omega) (by omega)
theorem i32_sub {a b : Int32} (h1 : -2 ^ 31 ≤ a.toInt - b.toInt) (h2 : a.toInt - b.toInt < 2 ^ 31) : (a - b).toInt = a.toInt - b.toInt := by
  rw [Int32.toInt_sub]
  exact Int.bmod_eq_of_le (by omega) (by omega)
theorem i32_neg {a : Int32} (h1 : -2 ^ 31 < a.toInt) : (-a).toInt = -a.toInt := by
  have := Int32.toInt_lt a
  rw [Int32.toInt_neg]
  exact Int.bmod_eq_of_le (by omega) (by omega)
theorem i64_add {a b : Int64} (h1 : -2 ^ 63 ≤ a.toInt + b.toInt) (h2 : a.toInt + b.toInt < 2 ^ 63) : (a + b).toInt = a.toInt + b.toInt := by
  rw [Int64.toInt_add]
  exact Int.bmod_eq_of_le (by omega) (by omega)
theorem i64_sub {a b : Int64} (h1 : -2 ^ 63 ≤ a.toInt - b.toInt) (h2 : a.toInt - b.toInt < 2 ^ 63) : (a - b).toInt = a.toInt - b.toInt := by
  rw [Int64.toInt_sub]
  exact Int.bmod_eq_of_le (by omega) (by omega)
theorem i64_mul {a b : Int64} (h1 : -2 ^ 63 ≤ a.toInt * b.toInt) (h2 : a.toInt * b.toInt < 2 ^ 63) : (a * b).toInt = a.toInt * b.toInt := by
  rw [Int64.toInt_mul]
  exact Int.bmod_eq_of_le (by omega) (by omega)
theorem i32_0 : (0 : Int32).toInt = 0 := by decide
theorem i64_0 : (0 : Int64).toInt = 0 := by decide
theorem i32_lt {a b : Int32} : a < b ↔ a.toInt < b.toInt := Int32.lt_iff_toInt_lt
theorem i64_lt {a b : Int64} : a < b ↔ a.toInt < b.toInt := Int64.lt_iff_toInt_lt
theorem i64_le {a b : Int64} : a ≤ b ↔ a.toInt ≤ b.toInt := Int64.le_iff_toInt_le
/-- all that comes lies in 0 .. C -/
def mBd (C : Int) (c : Nat → Int32) (d : Int32) : Prop := (∀ j, j < 8 → 0 ≤ (c j).toInt ∧ (c j).toInt ≤ C) ∧ 0 ≤ d.toInt ∧ d.toInt ≤ C
theorem mBd.mono {C D : Int} {c : Nat → Int32} {d : Int32} (h : mBd C c d) (hc : C ≤ D) : mBd D c d := ⟨fun j hj => ⟨(h.1 j hj).1, Int.le_trans (h.1 j hj).2 hc⟩, h.2.1, Int.le_trans h.2.2 hc⟩
theorem mBd.go {C F : Int} {c : Nat → Int32} {d w f : Int32} {lo nv : Nat} (h : mBd C c d) (hw : mTo nv lo w) (hn : nv ≤ 8) (f0 : 0 ≤ f.toInt) (f1 : f.toInt ≤ F) (hC : C + F < 2 ^ 31) : mBd (C + F) (mGoC c w f) (mGoD d w f) := by
  rcases hw with q | ⟨t, tl, tn, q⟩
  · rw [q, mGoC_m, mGoD_m]
    refine ⟨fun j hj => ⟨(h.1 j hj).1, by have := (h.1 j hj).2; omega⟩, ?_⟩
    have h1 := h.2
    rw [i32_add (by omega) (by omega)]
    omega
  · rw [q, mGoC_t (by omega), mGoD_t (by omega)]
    refine ⟨fun j hj => ?_, ?_⟩
    · unfold upd
      split
      · have h1 := h.1 t (by omega)
        rw [i32_add (by omega) (by omega)]
        omega
      · have h1 := h.1 j hj
        omega
    · have h1 := h.2
      omega
theorem mGoC_o {c : Nat → Int32} {w f : Int32} {lo nv v : Nat} (hw : mTo nv lo w) (hn : nv ≤ 8) (hv : v < lo) : mGoC c w f v = c v := by
  rcases hw with q | ⟨t, tl, tn, q⟩
  · rw [q, mGoC_m]
  · rw [q, mGoC_t (by omega)]
    exact upd_o (by omega)
theorem mR1_b {nv np : Nat} {frm too amt run : Nat → Int32} (hn : nv ≤ 8) (hnp : np ≤ 14) (ha : ∀ p, p < np → 1 ≤ (amt p).toInt ∧ (amt p).toInt ≤ 20) (ht : ∀ p, p < np → mTo nv 0 (too p)) : ∀ k, k ≤ np → mBd (20 * k) (mR1 frm too amt run k).1 (mR1 frm too amt run k).2.1 ∧ 0 ≤ (mR1 frm too amt run k).2.2.toInt ∧ (mR1 frm too amt run k).2.2.toInt ≤ 20 * k
  | 0, _ => by
    have e : mR1 frm too amt run 0 = (fun _ => 0, 0, 0) := rfl
    rw [e]
    refine ⟨⟨fun j _ => ?_, ?_⟩, ?_⟩ <;> simp only [i32_0] <;> omega
  | k + 1, hk => by
    have ih := mR1_b (frm := frm) (run := run) hn hnp ha ht k (by omega)
    have h1 := ha k (by omega)
    have hf : 0 ≤ (mF0 frm amt run k).toInt ∧ (mF0 frm amt run k).toInt ≤ 20 := by
      unfold mF0
      split
      · omega
      · rw [i32_0]; omega
    generalize hfe : mF0 frm amt run k = f at hf
    by_cases h0 : 0 < f
    · rw [mR1_y f _ rfl hfe h0]
      refine ⟨(ih.1.go (ht k (by omega)) hn hf.1 hf.2 (by omega)).mono (by omega), ?_⟩
      show 0 ≤ ((mR1 frm too amt run k).2.2 + f).toInt ∧ ((mR1 frm too amt run k).2.2 + f).toInt ≤ _
      rw [i32_add (by omega) (by omega)]
      omega
    · rw [mR1_n f hfe h0]
      refine ⟨ih.1.mono (by omega), ?_⟩
      show 0 ≤ ((mR1 frm too amt run k).2.2 + f).toInt ∧ ((mR1 frm too amt run k).2.2 + f).toInt ≤ _
      rw [i32_add (by omega) (by omega)]
      omega
/-- what a vessel's pipes let: numbers -/
theorem mRO_b {nv np v : Nat} {C : Int} {frm too amt run : Nat → Int32} {lev : Int64} {s : (Nat → Int32) × Int32 × (Nat → Int32) × (Nat → Int32)} (hn : nv ≤ 8) (hnp : np ≤ 14) (hv : v < nv) (hC : C < 2 ^ 30) (ha : ∀ p, p < np → 1 ≤ (amt p).toInt ∧ (amt p).toInt ≤ 20) (ht : ∀ p, p < np → frm p = nI v → mTo nv (v + 1) (too p)) (hs : mBd C s.1 s.2.1) : ∀ k, k ≤ np →
    mBd (C + 20 * k) (mRO frm too amt run lev v (s.1, s.2.1, s.1 v, 0) k).1 (mRO frm too amt run lev v (s.1, s.2.1, s.1 v, 0) k).2.1 ∧
    (mRO frm too amt run lev v (s.1, s.2.1, s.1 v, 0) k).1 v = s.1 v ∧
    (mRO frm too amt run lev v (s.1, s.2.1, s.1 v, 0) k).2.2.1.toInt + (mRO frm too amt run lev v (s.1, s.2.1, s.1 v, 0) k).2.2.2.toInt = (s.1 v).toInt ∧
    0 ≤ (mRO frm too amt run lev v (s.1, s.2.1, s.1 v, 0) k).2.2.2.toInt ∧ (mRO frm too amt run lev v (s.1, s.2.1, s.1 v, 0) k).2.2.2.toInt ≤ 20 * k ∧
    (¬ 0 < lev → 0 ≤ (mRO frm too amt run lev v (s.1, s.2.1, s.1 v, 0) k).2.2.1.toInt)
  | 0, _ => by
    have e : mRO frm too amt run lev v (s.1, s.2.1, s.1 v, 0) 0 = (s.1, s.2.1, s.1 v, 0) := rfl
    rw [e]
    have h := hs.1 v (by omega)
    refine ⟨hs.mono (by omega), rfl, ?_, ?_, ?_, fun _ => h.1⟩ <;> simp only [i32_0] <;> omega
  | k + 1, hk => by
    have ih := mRO_b (frm := frm) (run := run) (lev := lev) hn hnp hv hC ha ht hs k (by omega)
    by_cases hy : frm k = nI v ∧ ¬ run k = 0
    · have h1 := ha k (by omega)
      generalize hr : mRO frm too amt run lev v (s.1, s.2.1, s.1 v, 0) k = r at ih
      obtain ⟨i1, i2, i3, i4, i5, i6⟩ := ih
      have hsv := hs.1 v (by omega)
      have hf : 0 ≤ (mFl lev (amt k) r.2.2.1).toInt ∧ (mFl lev (amt k) r.2.2.1).toInt ≤ 20 ∧ (¬ 0 < lev → (mFl lev (amt k) r.2.2.1).toInt ≤ r.2.2.1.toInt) := by
        by_cases hl : 0 < lev
        · rw [mFl_a hl]
          exact ⟨by omega, by omega, fun q => absurd hl q⟩
        · by_cases hq : amt k < r.2.2.1
          · rw [mFl_b hq]
            rw [i32_lt] at hq
            exact ⟨by omega, by omega, fun _ => by omega⟩
          · rw [mFl_c hl hq]
            rw [i32_lt] at hq
            have := i6 hl
            exact ⟨by omega, by omega, fun _ => by omega⟩
      rw [mRO_y (mFl lev (amt k) r.2.2.1) _ rfl (by rw [hr]) hy.1 hy.2, hr]
      generalize hfe : mFl lev (amt k) r.2.2.1 = f at hf
      have hto := ht k (by omega) hy.1
      refine ⟨(i1.go hto hn hf.1 hf.2.1 (by omega)).mono (by omega), ?_, ?_⟩
      · show mGoC r.1 (too k) f v = s.1 v
        rw [mGoC_o hto hn (by omega), i2]
      · show (r.2.2.1 - f).toInt + (r.2.2.2 + f).toInt = _ ∧ 0 ≤ (r.2.2.2 + f).toInt ∧ (r.2.2.2 + f).toInt ≤ _ ∧ (¬ 0 < lev → 0 ≤ (r.2.2.1 - f).toInt)
        rw [i32_add (by omega) (by omega), i32_sub (by omega) (by omega)]
        refine ⟨by omega, by omega, by omega, fun q => ?_⟩
        have := hf.2.2 q
        omega
    · rw [mRO_n hy]
      obtain ⟨i1, i2, i3, i4, i5, i6⟩ := ih
      exact ⟨i1.mono (by omega), i2, i3, i4, by omega, i6⟩
def mCf : Nat → Int
  | 0 => 280
  | v + 1 => 2 * mCf v + 280
theorem mCf_b : ∀ v, v ≤ 8 → 280 ≤ mCf v ∧ mCf v ≤ 143080 := by decide
theorem mCf_c : ∀ v, v < 8 → mCf v ≤ 71400 := by decide
/-- what is known of a change -/
def mChOk (brim : Nat → Int32) (lev : Nat → Int64) (g : Int64) (c : Int32) (v : Nat) : Prop := -280 ≤ c.toInt ∧ c.toInt ≤ 71400 ∧ (¬ 0 < lev v → 0 ≤ c.toInt) ∧ (0 < c.toInt → ¬ lev v = Int32.toInt64 (brim v) * g)
theorem mRateOf_b {nv np v : Nat} {C : Int} {frm too amt run over brim : Nat → Int32} {lev : Nat → Int64} {g : Int64} {s : (Nat → Int32) × Int32 × (Nat → Int32) × (Nat → Int32)} (hn : nv ≤ 8) (hnp : np ≤ 14) (hv : v < nv) (hC0 : 280 ≤ C) (hC : C ≤ 71400) (ha : ∀ p, p < np → 1 ≤ (amt p).toInt ∧ (amt p).toInt ≤ 20) (ht : ∀ p, p < np → frm p = nI v → mTo nv (v + 1) (too p)) (ho : mTo nv (v + 1) (over v)) (hs : mBd C s.1 s.2.1) :
    mBd (2 * C + 280) (mRateOf frm too amt run over brim lev g np v s).1 (mRateOf frm too amt run over brim lev g np v s).2.1 ∧
    (∀ j, ¬ j = v → (mRateOf frm too amt run over brim lev g np v s).2.2.1 j = s.2.2.1 j) ∧
    mChOk brim lev g ((mRateOf frm too amt run over brim lev g np v s).2.2.1 v) v := by
  have h := mRO_b (frm := frm) (run := run) (lev := lev v) hn hnp hv (by omega) ha ht hs np (Nat.le_refl _)
  generalize hr : mRO frm too amt run (lev v) v (s.1, s.2.1, s.1 v, 0) np = r at h
  obtain ⟨i1, i2, i3, i4, i5, i6⟩ := h
  have hsv := hs.1 v (by omega)
  have hx : (r.1 v - r.2.2.2).toInt = r.2.2.1.toInt := by
    rw [i2, i32_sub (by omega) (by omega)]
    omega
  by_cases hc : 0 < r.1 v - r.2.2.2 ∧ lev v = Int32.toInt64 (brim v) * g
  · rw [mRateOf_y _ rfl hr hc.1 hc.2]
    have h0 := hc.1
    rw [i32_lt, i32_0] at h0
    refine ⟨(i1.go (F := C) ho hn (by omega) (by omega) (by omega)).mono (by omega), fun j hj => upd_o hj, ?_⟩
    show mChOk brim lev g (upd s.2.2.1 v 0 v) v
    rw [upd_s]
    refine ⟨?_, ?_, fun _ => ?_, fun q => ?_⟩ <;> rw [i32_0] at * <;> omega
  · rw [mRateOf_n hr hc]
    refine ⟨i1.mono (by omega), fun j hj => upd_o hj, ?_⟩
    show mChOk brim lev g (upd s.2.2.1 v (r.1 v - r.2.2.2) v) v
    rw [upd_s]
    refine ⟨by omega, by omega, fun q => by have := i6 q; omega, fun q e => ?_⟩
    exact hc ⟨by rw [i32_lt, i32_0]; exact q, e⟩
theorem mR2_b {nv np : Nat} {frm too amt run over brim : Nat → Int32} {lev : Nat → Int64} {g : Int64} (hn : nv ≤ 8) (hnp : np ≤ 14) (ha : ∀ p, p < np → 1 ≤ (amt p).toInt ∧ (amt p).toInt ≤ 20) (h0 : ∀ p, p < np → mTo nv 0 (too p)) (ht : ∀ v p, v < nv → p < np → frm p = nI v → mTo nv (v + 1) (too p)) (ho : ∀ v, v < nv → mTo nv (v + 1) (over v)) : ∀ k, k ≤ nv →
    mBd (mCf k) (mR2 frm too amt run over brim lev g np k).1 (mR2 frm too amt run over brim lev g np k).2.1 ∧
    (∀ j, k ≤ j → (mR2 frm too amt run over brim lev g np k).2.2.1 j = 0) ∧
    (∀ j, j < k → mChOk brim lev g ((mR2 frm too amt run over brim lev g np k).2.2.1 j) j)
  | 0, _ => by
    refine ⟨(mR1_b hn hnp ha h0 np (Nat.le_refl _)).1.mono ?_, fun _ _ => rfl, fun j hj => absurd hj (by omega)⟩
    show 20 * (np : Int) ≤ 280
    omega
  | k + 1, hk => by
    have ih := mR2_b (frm := frm) (run := run) (brim := brim) (lev := lev) (g := g) hn hnp ha h0 ht ho k (by omega)
    have hc := mCf_b k (by omega)
    have hd := mCf_c k (by omega)
    have h := mRateOf_b (frm := frm) (run := run) (brim := brim) (lev := lev) (g := g) hn hnp (show k < nv by omega) hc.1 hd ha (fun p hp => ht k p (by omega) hp) (ho k (by omega)) ih.1
    refine ⟨h.1, fun j hj => ?_, fun j hj => ?_⟩
    · show (mRateOf frm too amt run over brim lev g np k (mR2 frm too amt run over brim lev g np k)).2.2.1 j = 0
      rw [h.2.1 j (by omega)]
      exact ih.2.1 j (by omega)
    · show mChOk brim lev g ((mRateOf frm too amt run over brim lev g np k (mR2 frm too amt run over brim lev g np k)).2.2.1 j) j
      by_cases e : j = k
      · rw [e]; exact h.2.2
      · rw [h.2.1 j e]
        exact ih.2.2 j (by omega)
