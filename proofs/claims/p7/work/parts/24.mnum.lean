/-! ===== a time passes: numbers ===== -/
theorem i64_div {x y : Int64} (hx : 0 ≤ x.toInt) (hy : 0 < y.toInt) : (x / y).toInt = x.toInt / y.toInt := lg_ldiv_nonneg hx hy
/-- the parts of a time and of the grain -/
theorem pass_w {g tA tB : Int64} {q : Int} (g1 : 1 ≤ g.toInt) (g2 : g.toInt ≤ 10000) (a0 : 0 < tA.toInt) (q1 : 1 ≤ q) (q2 : q ≤ 71400) (hb : tB.toInt = g.toInt * q) :
    ∃ e g' b' d a' : Int, 0 < e ∧ 0 < g' ∧ 0 < b' ∧ 0 < d ∧ 0 < a' ∧ b' ≤ q ∧ g.toInt = e * g' ∧ tA.toInt = d * a' ∧ tB.toInt = d * (e * b') ∧
      (tA / mD tA tB).toInt = a' ∧ (tB / mD tA tB).toInt = e * b' ∧ (g / mD g (tB / mD tA tB) * (tB / mD tA tB)).toInt = g' * (e * b') ∧
      ((g / mD g (tB / mD tA tB) * (tB / mD tA tB)) / g).toInt = b' ∧ ((g / mD g (tB / mD tA tB) * (tB / mD tA tB)) / (tB / mD tA tB)).toInt = g' := by
  have hgq := mul_bd (a := g.toInt) (b := q) (A := 10000) (B := 71400) (by omega) g2 (by omega) q2
  have hb0 : 0 < tB.toInt := by rw [hb]; exact Int.mul_pos (by omega) (by omega)
  have hd := mD_gcd (a := tA) (b := tB) (by omega) (by omega)
  have ea : tA.toInt.natAbs = tA.toInt.toNat := by omega
  rw [ea] at hd
  obtain ⟨d, hdd⟩ : ∃ d, Nat.gcd tA.toInt.toNat tB.toInt.toNat = d := ⟨_, rfl⟩
  have dp : 0 < d := by rw [← hdd]; exact Nat.gcd_pos_of_pos_right _ (by omega)
  obtain ⟨a', ha'⟩ : d ∣ tA.toInt.toNat := by rw [← hdd]; exact Nat.gcd_dvd_left _ _
  obtain ⟨bb, hbb⟩ : d ∣ tB.toInt.toNat := by rw [← hdd]; exact Nat.gcd_dvd_right _ _
  rw [hdd] at hd
  have ha2 : tA.toInt = (d : Int) * (a' : Int) := by rw [← Int.natCast_mul, ← ha']; omega
  have hb2 : tB.toInt = (d : Int) * (bb : Int) := by rw [← Int.natCast_mul, ← hbb]; omega
  have abv : (tA / mD tA tB).toInt = (a' : Int) := by
    rw [i64_div (by omega) (by omega), hd, ha2]
    exact Int.mul_ediv_cancel_left _ (by omega)
  have bel : (tB / mD tA tB).toInt = (bb : Int) := by
    rw [i64_div (by omega) (by omega), hd, hb2]
    exact Int.mul_ediv_cancel_left _ (by omega)
  have bb0 : 0 < bb := by
    rcases Nat.eq_zero_or_pos bb with z | z
    · rw [z] at hb2; simp at hb2; omega
    · exact z
  have a0' : 0 < a' := by
    rcases Nat.eq_zero_or_pos a' with z | z
    · rw [z] at ha2; simp at ha2; omega
    · exact z
  generalize hbe : tB / mD tA tB = be at *
  have hbbT : (bb : Int) ≤ tB.toInt := by
    rw [hb2]
    have : (1 : Int) * bb ≤ d * bb := Int.mul_le_mul_of_nonneg_right (by omega) (by omega)
    omega
  have he := mD_gcd (a := g) (b := be) (by omega) (by omega)
  have eg : g.toInt.natAbs = g.toInt.toNat := by omega
  rw [eg, bel, Int.toNat_natCast] at he
  obtain ⟨e, hee⟩ : ∃ e, Nat.gcd g.toInt.toNat bb = e := ⟨_, rfl⟩
  have ep : 0 < e := by rw [← hee]; exact Nat.gcd_pos_of_pos_right _ (by omega)
  obtain ⟨g', hg'⟩ : e ∣ g.toInt.toNat := by rw [← hee]; exact Nat.gcd_dvd_left _ _
  obtain ⟨b', hb'⟩ : e ∣ bb := by rw [← hee]; exact Nat.gcd_dvd_right _ _
  rw [hee] at he
  have hg2 : g.toInt = (e : Int) * (g' : Int) := by rw [← Int.natCast_mul, ← hg']; omega
  have hbb2 : (bb : Int) = (e : Int) * (b' : Int) := by rw [← Int.natCast_mul, ← hb']
  have g0' : 0 < g' := by
    rcases Nat.eq_zero_or_pos g' with z | z
    · rw [z] at hg2; simp at hg2; omega
    · exact z
  have b0' : 0 < b' := by
    rcases Nat.eq_zero_or_pos b' with z | z
    · rw [z] at hb'; simp at hb'; omega
    · exact z
  -- b' ≤ q
  have hle : b' ≤ q.toNat := by
    have h1 : bb ∣ g.toInt.toNat * q.toNat := by
      refine ⟨d, ?_⟩
      have : ((g.toInt.toNat * q.toNat : Nat) : Int) = ((bb * d : Nat) : Int) := by
        rw [Int.natCast_mul, Int.natCast_mul, Int.toNat_of_nonneg (by omega), Int.toNat_of_nonneg (by omega), ← hb, hb2, Int.mul_comm]
      exact Int.ofNat.inj this
    have h2 : bb ∣ Nat.gcd (g.toInt.toNat * q.toNat) (bb * q.toNat) := Nat.dvd_gcd h1 (Nat.dvd_mul_right _ _)
    rw [Nat.gcd_mul_right, hee] at h2
    have h3 := Nat.le_of_dvd (Nat.mul_pos ep (by omega)) h2
    rw [hb'] at h3
    exact Nat.le_of_mul_le_mul_left h3 ep
  have gdv : (g / mD g be).toInt = (g' : Int) := by
    rw [i64_div (by omega) (by omega), he, hg2]
    exact Int.mul_ediv_cancel_left _ (by omega)
  have g'le : (g' : Int) ≤ 10000 := by
    have : (1 : Int) * g' ≤ e * g' := Int.mul_le_mul_of_nonneg_right (by omega) (by omega)
    omega
  have hgb := mul_bd (a := (g' : Int)) (b := (bb : Int)) (A := 10000) (B := 10000 * 71400) (by omega) g'le (by omega) (by omega)
  have hal : (g / mD g be * be).toInt = (g' : Int) * (bb : Int) := by
    rw [i64_mul, gdv, bel] <;> rw [gdv, bel] <;> omega
  refine ⟨e, g', b', d, a', by omega, by omega, by omega, by omega, by omega, by omega, hg2, ha2, by rw [hb2, hbb2], abv, by rw [bel, hbb2], by rw [hal, hbb2], ?_, ?_⟩
  · have hal0 : 0 ≤ (g / mD g be * be).toInt := by rw [hal]; omega
    rw [i64_div hal0 (by omega), hal, hg2, hbb2]
    have : (g' : Int) * ((e : Int) * (b' : Int)) = (e : Int) * (g' : Int) * (b' : Int) := by ac_rfl
    rw [this]
    exact Int.mul_ediv_cancel_left _ (by rw [← hg2]; omega)
  · have hal0 : 0 ≤ (g / mD g be * be).toInt := by rw [hal]; omega
    rw [i64_div hal0 (by omega), hal, bel]
    exact Int.mul_ediv_cancel _ (by omega)
theorem abs_mul {a b A B : Int} (h1 : -A ≤ a) (h2 : a ≤ A) (b0 : 0 ≤ b) (b1 : b ≤ B) : -(A * B) ≤ a * b ∧ a * b ≤ A * B := by
  have hA : 0 ≤ A := by omega
  have t1 : a * b ≤ A * b := Int.mul_le_mul_of_nonneg_right h2 b0
  have t2 : A * b ≤ A * B := Int.mul_le_mul_of_nonneg_left b1 hA
  have t3 : -A * b ≤ a * b := Int.mul_le_mul_of_nonneg_right h1 b0
  have t4 : -A * b = -(A * b) := Int.neg_mul _ _
  omega
theorem then_num {had rate ab x z : Int64} {y w : Int} (h1 : -60000000000000 ≤ had.toInt) (h2 : had.toInt ≤ 60000000000000) (r1 : -143080 ≤ rate.toInt) (r2 : rate.toInt ≤ 143080) (a1 : 0 ≤ ab.toInt) (a2 : ab.toInt ≤ 100000000) (hy : x.toInt = y) (y0 : 0 ≤ y) (y1 : y ≤ 71400) (hw : z.toInt = w) (w0 : 0 ≤ w) (w1 : w ≤ 10000) : (had * x + rate * ab * z).toInt = had.toInt * y + rate.toInt * ab.toInt * w ∧ -2 ^ 63 < (had * x + rate * ab * z).toInt := by
  have m1 := abs_mul h1 h2 y0 y1
  have m2 := abs_mul r1 r2 a1 a2
  have m3 := abs_mul m2.1 m2.2 w0 w1
  have e1 : (had * x).toInt = had.toInt * y := by
    rw [i64_mul, hy] <;> rw [hy] <;> omega
  have e2 : (rate * ab).toInt = rate.toInt * ab.toInt := i64_mul (by omega) (by omega)
  have e3 : (rate * ab * z).toInt = rate.toInt * ab.toInt * w := by
    rw [i64_mul, e2, hw] <;> rw [e2, hw] <;> omega
  have e4 : (had * x + rate * ab * z).toInt = had.toInt * y + rate.toInt * ab.toInt * w := by
    rw [i64_add, e1, e3] <;> rw [e1, e3] <;> omega
  exact ⟨e4, by omega⟩
theorem mD_dvd {a b : Int64} (ha : -2 ^ 63 < a.toInt) (hb : 0 < b.toInt) : 0 < (mD a b).toInt ∧ (mD a b).toInt ∣ a.toInt ∧ (mD a b).toInt ∣ b.toInt := by
  rw [mD_gcd ha (by omega)]
  refine ⟨?_, ?_, ?_⟩
  · have := Nat.gcd_pos_of_pos_right a.toInt.natAbs (show 0 < b.toInt.toNat by omega)
    omega
  · exact Int.ofNat_dvd_left.mpr (Nat.gcd_dvd_left _ _)
  · have := Nat.gcd_dvd_right a.toInt.natAbs b.toInt.toNat
    refine Int.ofNat_dvd_left.mpr ?_
    rwa [show b.toInt.natAbs = b.toInt.toNat by omega]
theorem mCm_num {I : Nat → Nat → Int32} {G : Nat → Nat → Int64} {A : Nat → Nat → Int32} {B : Nat → Nat → Int64} {ab be al : Int64} {N : Nat} (h0 : 0 < al.toInt) (ht : ∀ j, j < N → -2 ^ 63 < (mTh I G A B ab be al j).toInt) : ∀ k, k ≤ N → 0 < (mCm I G A B ab be al k).toInt ∧ (mCm I G A B ab be al k).toInt ∣ al.toInt ∧ ∀ j, j < k → (mCm I G A B ab be al k).toInt ∣ (mTh I G A B ab be al j).toInt
  | 0, _ => ⟨h0, Int.dvd_refl _, fun j hj => absurd hj (by omega)⟩
  | k + 1, hk => by
    have ih := mCm_num (N := N) h0 ht k (by omega)
    have h := mD_dvd (ht k (by omega)) ih.1
    rw [mCm_s]
    refine ⟨h.1, Int.dvd_trans h.2.2 ih.2.1, fun j hj => ?_⟩
    by_cases e : j = k
    · rw [e]; exact h.2.1
    · exact Int.dvd_trans h.2.2 (ih.2.2 j (by omega))
/-- the water: T bounds the time, K what was poured -/
def MW (nv : Nat) (T K : Int) (A : Nat → Nat → Int32) (G B : Nat → Nat → Int64) : Prop := mLv nv A G B ∧ (0 ≤ (G 52 13).toInt ∧ (G 52 13).toInt ≤ T * (G 52 12).toInt) ∧ (0 ≤ (G 52 14).toInt ∧ (G 52 14).toInt ≤ 280 * (G 52 13).toInt) ∧ (0 ≤ (G 52 15).toInt ∧ (G 52 15).toInt ≤ 143080 * (G 52 13).toInt + K * (G 52 12).toInt)
theorem div_ex {x c : Int64} (hx : 0 ≤ x.toInt) (hc : 0 < c.toInt) (h : c.toInt ∣ x.toInt) : ∃ y, (x / c).toInt = y ∧ x.toInt = c.toInt * y := by
  obtain ⟨y, hy⟩ := h
  refine ⟨y, ?_, hy⟩
  rw [i64_div hx hc, hy]
  exact Int.mul_ediv_cancel_left _ (by omega)
theorem le_c {c x y : Int} (hc : 0 < c) (h : c * x ≤ c * y) : x ≤ y := Int.le_of_mul_le_mul_left h hc
theorem MW_div {nv : Nat} {T K : Int} {A : Nat → Nat → Int32} {G2 B2 : Nat → Nat → Int64} {c al t8 t9 t10 : Int64} {th : Nat → Int64} (hn : nv ≤ 8) (hc : 0 < c.toInt) (ha : 0 < al.toInt) (da : c.toInt ∣ al.toInt) (dt : ∀ j, j < 8 → c.toInt ∣ (th j).toInt) (d8 : c.toInt ∣ t8.toInt) (d9 : c.toInt ∣ t9.toInt) (d10 : c.toInt ∣ t10.toInt)
    (hgr : (al / c).toInt ≤ 10000) (hl : ∀ v, v < nv → 0 ≤ (th v).toInt ∧ (th v).toInt ≤ (A 54 v).toInt * al.toInt) (hz : ∀ v, nv ≤ v → v < 8 → (th v).toInt = 0) (h8 : 0 ≤ t8.toInt ∧ t8.toInt ≤ T * al.toInt) (h9 : 0 ≤ t9.toInt ∧ t9.toInt ≤ 280 * t8.toInt) (h10 : 0 ≤ t10.toInt ∧ t10.toInt ≤ 143080 * t8.toInt + K * al.toInt)
    (e : ∀ j, j < 8 → B2 63 j = th j / c) (eo : ∀ j, 8 ≤ j → B2 63 j = 0) (e8 : G2 52 13 = t8 / c) (e9 : G2 52 14 = t9 / c) (e10 : G2 52 15 = t10 / c) (eg : G2 52 12 = al / c) : MW nv T K A G2 B2 := by
  obtain ⟨y, hy, ey⟩ := div_ex (by omega) hc da
  obtain ⟨y8, hy8, ey8⟩ := div_ex h8.1 hc d8
  obtain ⟨y9, hy9, ey9⟩ := div_ex h9.1 hc d9
  obtain ⟨y10, hy10, ey10⟩ := div_ex h10.1 hc d10
  have yp : 0 < y := by
    rcases Int.lt_or_le 0 y with z | z
    · exact z
    · have := Int.mul_nonpos_of_nonneg_of_nonpos (show 0 ≤ c.toInt by omega) z
      omega
  have nn : ∀ x : Int, 0 ≤ c.toInt * x → 0 ≤ x := fun x hx => le_c hc (by rw [Int.mul_zero]; exact hx)
  unfold MW mLv
  rw [e8, e9, e10, eg, hy, hy8, hy9, hy10]
  refine ⟨⟨⟨by omega, by omega⟩, fun v hv => ?_, fun v h1 => ?_⟩, ⟨nn _ (by omega), le_c hc ?_⟩, ⟨nn _ (by omega), le_c hc ?_⟩, ⟨nn _ (by omega), le_c hc ?_⟩⟩
  · have h := hl v hv
    obtain ⟨x, hx, ex⟩ := div_ex h.1 hc (dt v (by omega))
    rw [e v (by omega), hx]
    refine ⟨nn _ (by omega), le_c hc ?_⟩
    rw [← ex]
    have : c.toInt * ((A 54 v).toInt * y) = (A 54 v).toInt * (c.toInt * y) := by ac_rfl
    rw [this, ← ey]
    exact h.2
  · rcases Nat.lt_or_ge v 8 with h2 | h2
    rotate_left
    · exact eo v h2
    rw [e v h2]
    apply Int64.toInt_inj.mp
    rw [i64_div (by rw [hz v h1 h2]; omega) hc, hz v h1 h2, Int.zero_ediv]
    rfl
  · rw [← ey8]
    have : c.toInt * (T * y) = T * (c.toInt * y) := by ac_rfl
    rw [this, ← ey]
    exact h8.2
  · rw [← ey9]
    have : c.toInt * (280 * y8) = 280 * (c.toInt * y8) := by ac_rfl
    rw [this, ← ey8]
    exact h9.2
  · rw [← ey10]
    have : c.toInt * (143080 * y8 + K * y) = 143080 * (c.toInt * y8) + K * (c.toInt * y) := by
      rw [Int.mul_add]
      have a1 : c.toInt * (143080 * y8) = 143080 * (c.toInt * y8) := by ac_rfl
      have a2 : c.toInt * (K * y) = K * (c.toInt * y) := by ac_rfl
      rw [a1, a2]
    rw [this, ← ey, ← ey8]
    exact h10.2
theorem pass_num {nv np : Nat} {I : Nat → Nat → Int32} {G : Nat → Nat → Int64} {A : Nat → Nat → Int32} {B : Nat → Nat → Int64} {T T2 K q : Int} {tA tB : Int64} (hP : MP nv np I A) (hW : MW nv T K A G B) (hch : ∀ j, j < nv → -280 ≤ (A 73 j).toInt ∧ (A 73 j).toInt ≤ 71400) (hcz : ∀ j, nv ≤ j → j < 8 → A 73 j = 0) (hsr : 0 ≤ (I 52 34).toInt ∧ (I 52 34).toInt ≤ 280) (hdr : 0 ≤ (I 52 35).toInt ∧ (I 52 35).toInt ≤ 143080) (hT : T ≤ 40000) (hK0 : 0 ≤ K) (hK : K ≤ 200000000) (a0 : 0 < tA.toInt) (a1 : tA.toInt ≤ 100000000) (q1 : 1 ≤ q) (q2 : q ≤ 71400) (hq : tB.toInt = (G 52 12).toInt * q)
    (hph : ∀ v, v < nv → 0 ≤ (B 63 v).toInt * tB.toInt + (A 73 v).toInt * tA.toInt * (G 52 12).toInt ∧ (B 63 v).toInt * tB.toInt + (A 73 v).toInt * tA.toInt * (G 52 12).toInt ≤ (A 54 v).toInt * (G 52 12).toInt * tB.toInt) (hti : (G 52 13).toInt * tB.toInt + tA.toInt * (G 52 12).toInt ≤ T2 * ((G 52 12).toInt * tB.toInt)) :
    ¬ (tB / mD tA tB) = 0 ∧ ¬ (((G 52 12) / (mD (G 52 12) (tB / (mD tA tB)))) * (tB / (mD tA tB))) = 0 ∧ ∀ G2 B2, mPass I G A B (tA / (mD tA tB)) (tB / (mD tA tB)) (((G 52 12) / (mD (G 52 12) (tB / (mD tA tB)))) * (tB / (mD tA tB))) G2 B2 → MW nv T2 K A G2 B2 := by
  obtain ⟨⟨hg, hlv, hlz⟩, ht, hsp, hdn⟩ := hW
  have hnv := hP.1.2
  obtain ⟨e, g', b', d, a', e0, g0, b0, d0, a0', bq, eg, ea, eb, wab, wbe, wal, wdg, wdb⟩ := pass_w hg.1 hg.2 a0 q1 q2 hq
  generalize hbe : tB / mD tA tB = be at *
  generalize hab : tA / mD tA tB = ab at *
  generalize hal : G 52 12 / mD (G 52 12) be * be = al at *
  have eb0 : 0 < e * b' := Int.mul_pos e0 b0
  have al0 : 0 < al.toInt := by rw [wal]; exact Int.mul_pos g0 eb0
  have aa : a' ≤ tA.toInt := by
    have : 1 * a' ≤ d * a' := Int.mul_le_mul_of_nonneg_right (by omega) (by omega)
    omega
  have gg : g' ≤ 10000 := by
    have : 1 * g' ≤ e * g' := Int.mul_le_mul_of_nonneg_right (by omega) (by omega)
    omega
  have de : 0 < d * e := Int.mul_pos d0 e0
  refine ⟨fun z => ?_, fun z => ?_, fun G2 B2 hp => ?_⟩
  · rw [z, i64_0] at wbe; omega
  · rw [z, i64_0] at al0; omega
  have tg : T * (G 52 12).toInt ≤ 40000 * (G 52 12).toInt := Int.mul_le_mul_of_nonneg_right hT (by omega)
  have kg : K * (G 52 12).toInt ≤ 200000000 * (G 52 12).toInt := Int.mul_le_mul_of_nonneg_right hK (by omega)
  have i1 : (1 : Int64).toInt = 1 := by decide
  -- the parts of the water behind the time
  have n8 := then_num (had := G 52 13) (rate := 1) (ab := ab) (by omega) (by omega) (by omega) (by omega) (by omega) (by omega) wdg (by omega) (by omega) wdb (by omega) gg
  have n9 := then_num (had := G 52 14) (rate := Int32.toInt64 (I 52 34)) (ab := ab) (by omega) (by omega) (by rw [Int32.toInt_toInt64]; omega) (by rw [Int32.toInt_toInt64]; omega) (by omega) (by omega) wdg (by omega) (by omega) wdb (by omega) gg
  have n10 := then_num (had := G 52 15) (rate := Int32.toInt64 (I 52 35)) (ab := ab) (by omega) (by omega) (by rw [Int32.toInt_toInt64]; omega) (by rw [Int32.toInt_toInt64]; omega) (by omega) (by omega) wdg (by omega) (by omega) wdb (by omega) gg
  have lb : ∀ v, v < 8 → 0 ≤ (B 63 v).toInt ∧ (B 63 v).toInt ≤ 2000000 := by
    intro v hv
    rcases Nat.lt_or_ge v nv with z | z
    · have h1 := hlv v z
      have h2 := (hP.2.2.1 v z).1
      have := mul_bd (a := (A 54 v).toInt) (b := (G 52 12).toInt) (A := 200) (B := 10000) (by omega) h2.2 (by omega) hg.2
      omega
    · rw [hlz v z, i64_0]; omega
  have cb : ∀ v, v < 8 → -280 ≤ (A 73 v).toInt ∧ (A 73 v).toInt ≤ 71400 := by
    intro v hv
    rcases Nat.lt_or_ge v nv with z | z
    · exact hch v z
    · rw [hcz v z hv, i32_0]; omega
  have nk : ∀ v, v < 8 → (mTh I G A B ab be al v).toInt = (B 63 v).toInt * b' + (A 73 v).toInt * a' * g' ∧ -2 ^ 63 < (mTh I G A B ab be al v).toInt := by
    intro v hv
    have h1 := lb v hv
    have h2 := cb v hv
    have n := then_num (had := B 63 v) (rate := Int32.toInt64 (A 73 v)) (ab := ab) (by omega) (by omega) (by rw [Int32.toInt_toInt64]; omega) (by rw [Int32.toInt_toInt64]; omega) (by omega) (by omega) wdg (by omega) (by omega) wdb (by omega) gg
    rw [mTh_k hv]
    rw [Int32.toInt_toInt64, wab] at n
    exact n
  rw [Int32.toInt_toInt64] at n9 n10
  rw [i1] at n8
  rw [wab] at n8 n9 n10
  rw [← mTh_8 (I := I) (A := A) (B := B)] at n8
  rw [← mTh_9 (A := A) (B := B)] at n9
  rw [← mTh_10 (A := A) (B := B)] at n10
  have cm := mCm_num (I := I) (G := G) (A := A) (B := B) (ab := ab) (be := be) (N := 11) al0 (by
    intro j hj
    rcases Nat.lt_or_ge j 8 with z | z
    · exact (nk j z).2
    · rcases (show j = 8 ∨ j = 9 ∨ j = 10 by omega) with z | z | z
      · rw [z]; exact n8.2
      · rw [z]; exact n9.2
      · rw [z]; exact n10.2) 11 (Nat.le_refl _)
  have ag : 0 ≤ a' * g' := Int.mul_nonneg (by omega) (by omega)
  have alg : al.toInt = (G 52 12).toInt * b' := by rw [wal, eg]; ac_rfl
  obtain ⟨p1, p2, p3, p4, p5, p6, p7⟩ := hp
  have t8n : 0 ≤ (mTh I G A B ab be al 8).toInt := by
    rw [n8.1, Int.one_mul]
    have := Int.mul_nonneg ht.1 (show 0 ≤ b' by omega)
    omega
  refine MW_div (nv := nv) (T := T2) (K := K) (A := A) (c := mCm I G A B ab be al 11) (al := al) (th := mTh I G A B ab be al) hnv cm.1 al0 cm.2.1 (fun j hj => cm.2.2 j (by omega)) (cm.2.2 8 (by omega)) (cm.2.2 9 (by omega)) (cm.2.2 10 (by omega)) ?_ ?_ ?_ ⟨t8n, ?_⟩ ⟨?_, ?_⟩ ⟨?_, ?_⟩ p2 (fun j hj => (p7 j hj).trans (hlz j (by omega))) p3 p4 p5 p6
  · rw [i64_lt] at p1
    have : (10000 : Int64).toInt = 10000 := by decide
    omega
  · intro v hv
    have h := hph v hv
    rw [(nk v (by omega)).1]
    rw [eb, ea] at h
    have s1 : (B 63 v).toInt * (d * (e * b')) + (A 73 v).toInt * (d * a') * (G 52 12).toInt = d * e * ((B 63 v).toInt * b' + (A 73 v).toInt * a' * g') := by
      rw [eg, Int.mul_add]
      congr 1 <;> ac_rfl
    have s2 : (A 54 v).toInt * (G 52 12).toInt * (d * (e * b')) = d * e * ((A 54 v).toInt * al.toInt) := by
      rw [alg]; ac_rfl
    rw [s1, s2] at h
    exact ⟨le_c de (by rw [Int.mul_zero]; exact h.1), le_c de h.2⟩
  · intro v h1 h2
    rw [(nk v h2).1, hlz v h1, hcz v h1 h2, i64_0, i32_0]
    simp
  · rw [n8.1, Int.one_mul]
    rw [eb, ea] at hti
    have s1 : (G 52 13).toInt * (d * (e * b')) + d * a' * (G 52 12).toInt = d * e * ((G 52 13).toInt * b' + a' * g') := by
      rw [eg, Int.mul_add]
      congr 1 <;> ac_rfl
    have s2 : T2 * ((G 52 12).toInt * (d * (e * b'))) = d * e * (T2 * al.toInt) := by
      rw [alg]; ac_rfl
    rw [s1, s2] at hti
    exact le_c de hti
  · rw [n9.1]
    have h1 := Int.mul_nonneg hsp.1 (show 0 ≤ b' by omega)
    have h2 := Int.mul_nonneg hsr.1 ag
    rw [← Int.mul_assoc] at h2
    omega
  · rw [n9.1, n8.1, Int.one_mul, Int.mul_assoc (I 52 34).toInt]
    have h1 : (G 52 14).toInt * b' ≤ 280 * (G 52 13).toInt * b' := Int.mul_le_mul_of_nonneg_right hsp.2 (by omega)
    have h2 : (I 52 34).toInt * (a' * g') ≤ 280 * (a' * g') := Int.mul_le_mul_of_nonneg_right hsr.2 ag
    rw [Int.mul_assoc] at h1
    omega
  · rw [n10.1]
    have h1 := Int.mul_nonneg hdn.1 (show 0 ≤ b' by omega)
    have h2 := Int.mul_nonneg hdr.1 ag
    rw [← Int.mul_assoc] at h2
    omega
  · rw [n10.1, n8.1, Int.one_mul, Int.mul_assoc (I 52 35).toInt, alg]
    have h1 : (G 52 15).toInt * b' ≤ (143080 * (G 52 13).toInt + K * (G 52 12).toInt) * b' := Int.mul_le_mul_of_nonneg_right hdn.2 (by omega)
    have h2 : (I 52 35).toInt * (a' * g') ≤ 143080 * (a' * g') := Int.mul_le_mul_of_nonneg_right hdr.2 ag
    rw [Int.add_mul, Int.mul_assoc, Int.mul_assoc] at h1
    omega
