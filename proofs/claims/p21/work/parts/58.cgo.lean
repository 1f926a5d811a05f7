/-! ===== the class's step and go ===== -/
theorem low_of {V : qW} {a c : Int64} {x : Nat → Int64} (ha : 0 < a.toInt) (hx : ∀ j, j < 11 → 0 ≤ (x j).toInt) (hc : 0 < c.toInt) (hd : ∀ m : Nat, m ∣ c.toInt.toNat ↔ (m ∣ a.toInt.toNat ∧ ∀ j, j < 11 → m ∣ (x j).toInt.toNat)) (h1 : V.1 = a / c) (hj : ∀ j, j < 11 → wH V j = x j / c) : wLc V = 1 := by
  have self := (hd _).mp (Nat.dvd_refl _)
  have q : ∀ y : Int64, 0 ≤ y.toInt → c.toInt.toNat ∣ y.toInt.toNat → 0 ≤ (y / c).toInt ∧ y.toInt.toNat = c.toInt.toNat * (y / c).toInt.toNat := by
    rintro y hy ⟨z, hz⟩
    have e : y.toInt = c.toInt * (z : Int) := by
      rw [← nn_nat hy, hz, Int.natCast_mul, nn_nat (by omega)]
    have e2 : (y / c).toInt = (z : Int) := by
      rw [i64_div hy hc, e, Int.mul_ediv_cancel_left _ (by omega)]
    rw [e2, hz]
    exact ⟨Int.natCast_nonneg _, by rw [Int.toNat_natCast]⟩
  have qa := q a (by omega) self.1
  have qx := fun j hj => q (x j) (hx j hj) (self.2 j hj)
  have c0 : 0 < c.toInt.toNat := by omega
  have g0 : 0 < V.1.toInt := by
    rw [h1]
    rcases Int.lt_or_eq_of_le qa.1 with y | y
    · exact y
    · have : (a / c).toInt.toNat = 0 := by omega
      rw [this, Nat.mul_zero] at qa
      omega
  have n8 : 0 ≤ (wH V 8).toInt := by rw [hj 8 (by omega)]; exact (qx 8 (by omega)).1
  have n9 : 0 ≤ (wH V 9).toInt := by rw [hj 9 (by omega)]; exact (qx 9 (by omega)).1
  have n10 : 0 ≤ (wH V 10).toInt := by rw [hj 10 (by omega)]; exact (qx 10 (by omega)).1
  have nl : ∀ j, j < 8 → 0 ≤ (V.2.2.2.2.1 j).toInt := fun j h => by
    have e : wH V j = V.2.2.2.2.1 j := if_pos h
    rw [← e, hj j (by omega)]; exact (qx j (by omega)).1
  have qd := qLc_dvd (t := V.2.1) (sp := V.2.2.1) (dr := V.2.2.2.1) (g := V.1) (lev := V.2.2.2.2.1) n8 n9 n10 g0 nl 8 (Nat.le_refl _)
  obtain ⟨m0, m1, m2, m3, m4⟩ := (qd.2 _).mp (Nat.dvd_refl _)
  have hm : c.toInt.toNat * (wLc V).toInt.toNat ∣ c.toInt.toNat := by
    refine (hd _).mpr ⟨?_, fun j hj2 => ?_⟩
    · rw [qa.2]
      exact Nat.mul_dvd_mul_left _ (h1 ▸ m0)
    · rw [(qx j hj2).2]
      refine Nat.mul_dvd_mul_left _ ?_
      rw [← hj j hj2]
      rcases Nat.lt_or_ge j 8 with y | y
      · have e : wH V j = V.2.2.2.2.1 j := if_pos y
        rw [e]; exact m4 j y
      · rcases (show j = 8 ∨ j = 9 ∨ j = 10 by omega) with z | z | z <;> subst z
        · exact m1
        · exact m2
        · exact m3
  have h1' : (wLc V).toInt.toNat ∣ 1 := Nat.dvd_of_mul_dvd_mul_left c0 (by rw [Nat.mul_one]; exact hm)
  have h2 : (wLc V).toInt.toNat = 1 := Nat.dvd_one.mp h1'
  have p : 0 < (wLc V).toInt := qd.1
  exact nat64 (by omega) (by decide) (by rw [h2]; decide)
theorem wLo_low {V : qW} (hg : 0 < V.1.toInt) (ht : 0 ≤ V.2.1.toInt) (hs : 0 ≤ V.2.2.1.toInt) (hd : 0 ≤ V.2.2.2.1.toInt) (hl : ∀ j, j < 8 → 0 ≤ (V.2.2.2.2.1 j).toInt) : wLc (wLo V) = 1 := by
  have qd := qLc_dvd ht hs hd (g := V.1) (lev := V.2.2.2.2.1) hg hl 8 (Nat.le_refl _)
  refine low_of (a := V.1) (c := wLc V) (x := wH V) hg ?_ qd.1 (fun m => ?_) rfl ?_
  · intro j hj
    unfold wH
    rcases Nat.lt_or_ge j 8 with y | y
    · rw [if_pos y]; exact hl j y
    · rcases (show j = 8 ∨ j = 9 ∨ j = 10 by omega) with z | z | z <;> subst z
      · exact ht
      · exact hs
      · exact hd
  · rw [show (m ∣ (wLc V).toInt.toNat ↔ _) from qd.2 m]
    constructor
    · rintro ⟨h1, h2, h3, h4, h5⟩
      refine ⟨h1, fun j hj => ?_⟩
      rcases Nat.lt_or_ge j 8 with y | y
      · have e : wH V j = V.2.2.2.2.1 j := if_pos y
        rw [e]; exact h5 j y
      · rcases (show j = 8 ∨ j = 9 ∨ j = 10 by omega) with z | z | z <;> subst z
        · exact h2
        · exact h3
        · exact h4
    · rintro ⟨h1, h2⟩
      refine ⟨h1, h2 8 (by omega), h2 9 (by omega), h2 10 (by omega), fun j hj => ?_⟩
      have e : wH V j = V.2.2.2.2.1 j := if_pos hj
      rw [← e]; exact h2 j (by omega)
  · intro j hj
    unfold wLo wH
    rcases Nat.lt_or_ge j 8 with y | y
    · rw [if_pos y, if_pos y]
    · rcases (show j = 8 ∨ j = 9 ∨ j = 10 by omega) with z | z | z <;> subst z <;> rfl
theorem mom_nn {nv np : Nat} {T K : Int} {P : Nat → Nat → Int32} {W : qW} (hp : MPa nv np P) (hb : wBo W) (hW : wOk nv T K P W) (hT : T ≤ 40000) (hK : K ≤ 200000000) : 0 ≤ (wMm nv P W).2.1.toInt ∧ ∀ j, j < 8 → 0 ≤ ((wMm nv P W).1 j).toInt := by
  have o := (wT_ok hp hb hW hT hK).2.2 nv (Nat.le_refl _)
  rw [← wT3_m] at o
  have d : 0 ≤ W.2.2.2.1.toInt := hW.2.2.2.1
  refine ⟨Int.le_trans d o.2.1, fun j hj => ?_⟩
  rcases Nat.lt_or_ge j nv with y | y
  · exact (o.1.1 j y).1
  · rw [o.1.2 j y, i64_0]; omega
theorem wMom_low {nv np : Nat} {T K : Int} {P : Nat → Nat → Int32} {W : qW} (hp : MPa nv np P) (hb : wBo W) (hW : wOk nv T K P W) (hT : T ≤ 40000) (hK : K ≤ 200000000) : wLc (wMom nv P W) = 1 := by
  have n := mom_nn hp hb hW hT hK
  have hg : 1 ≤ W.1.toInt ∧ W.1.toInt ≤ 10000 := hW.1.1
  exact wLo_low (V := wMid W (wMm nv P W)) (by show 0 < W.1.toInt; omega) hW.2.1.1 hW.2.2.1.1 n.1 n.2
theorem wLo_id {V : qW} (h : wLc V = 1) : wLo V = V := by
  unfold wLo
  rw [h]
  have e : ∀ x : Int64, x / 1 = x := fun x => Int64.div_one
  rw [e, e, e, e]
  have ef : (fun j => V.2.2.2.2.1 j / (1 : Int64)) = V.2.2.2.2.1 := by funext j; exact e _
  rw [ef]
theorem adv_low {nv np : Nat} {T K : Int} {P : Nat → Nat → Int32} {W : qW} {sc tA tB : Int64} (hp : MPa nv np P) (hW : wOk nv T K P W) (hT : T ≤ 40000) (hK : K ≤ 200000000) (q1 : 1 ≤ sc.toInt) (q2 : sc.toInt ≤ 71400) (htB : tB = W.1 * sc) (a0 : 0 < tA.toInt) (a1 : tA.toInt ≤ 100000000)
    (hph : ∀ v, v < nv → 0 ≤ (W.2.2.2.2.1 v).toInt * tB.toInt + (wCh nv np P W v).toInt * tA.toInt * W.1.toInt) (W1 : qW) (hw : wPass nv np P W tA tB = some W1) : wLc W1 = 1 := by
  have bd := wBd_of hp hW hT hK
  have b := wR2_b hp W
  have hn8 := hp.1
  have hg : 1 ≤ W.1.toInt ∧ W.1.toInt ≤ 10000 := hW.1.1
  have hz : ∀ v, nv ≤ v → W.2.2.2.2.1 v = 0 := hW.1.2.2
  have hgq := mul_bd (a := W.1.toInt) (b := sc.toInt) (A := 10000) (B := 71400) (by omega) hg.2 (by omega) q2
  have eF : (W.1 * sc).toInt = W.1.toInt * sc.toInt := i64_mul (by omega) (by omega)
  have eB : tB.toInt = W.1.toInt * sc.toInt := by rw [htB, eF]
  have F0 : 0 < W.1.toInt * sc.toInt := Int.mul_pos (by omega) (by omega)
  generalize hch : wCh nv np P W = ch at *
  generalize hsr : wSr nv np P W = sr at *
  generalize hdr : wDr nv np P W = dr at *
  obtain ⟨e, g', b', d, a', e0, g0, b0, d0, a0', bq, eg, ea, eb, wab, wbe, wal, wdg, wdb⟩ := pass_w hg.1 hg.2 a0 q1 q2 eB
  have gq : g' * sc.toInt = d * b' := by
    have : e * (g' * sc.toInt) = e * (d * b') := by
      have h1 : e * (g' * sc.toInt) = W.1.toInt * sc.toInt := by rw [eg]; ac_rfl
      rw [h1, ← eB, eb]; ac_rfl
    exact Int.eq_of_mul_eq_mul_left (by omega) this
  -- the two rows of numbers
  have X : ∀ j, j < 11 → (cX W ch sr dr sc tA j).toInt = (wH W j).toInt * sc.toInt + (wRt ch sr dr j).toInt * tA.toInt := fun j hj => adv_num (by have := (bd j hj).1; omega) (bd j hj).1.2 (bd j hj).2.1 (bd j hj).2.2 q1 q2 (by omega) a1
  have aa : a' ≤ tA.toInt := by
    have : 1 * a' ≤ d * a' := Int.mul_le_mul_of_nonneg_right (by omega) (by omega)
    omega
  have gg : g' ≤ 10000 := by
    have : 1 * g' ≤ e * g' := Int.mul_le_mul_of_nonneg_right (by omega) (by omega)
    omega
  have Y : ∀ j, j < 11 → (wTh W ch sr dr (wAb tA tB) (wBe tA tB) (wAl W.1 tA tB) j).toInt = (wH W j).toInt * b' + (wRt ch sr dr j).toInt * a' * g' := by
    intro j hj
    rw [wTh_h]
    have n := then_num (had := wH W j) (rate := wRt ch sr dr j) (ab := wAb tA tB) (by have := (bd j hj).1; omega) (bd j hj).1.2 (bd j hj).2.1 (bd j hj).2.2 (by show 0 ≤ (tA / mD tA tB).toInt; omega) (by show (tA / mD tA tB).toInt ≤ _; omega) wdg (by omega) (by omega) wdb (by omega) gg
    have n1 := n.1
    rw [show (wAb tA tB).toInt = a' from wab] at n1
    exact n1
  have al0 : 0 < (wAl W.1 tA tB).toInt := by
    show 0 < (W.1 / mD W.1 (tB / mD tA tB) * (tB / mD tA tB)).toInt
    rw [wal]; exact Int.mul_pos g0 (Int.mul_pos e0 b0)
  have alg : (wAl W.1 tA tB).toInt = W.1.toInt * b' := by
    show (W.1 / mD W.1 (tB / mD tA tB) * (tB / mD tA tB)).toInt = _
    rw [wal, eg]; ac_rfl
  have XY : ∀ j, j < 11 → g' * (cX W ch sr dr sc tA j).toInt = d * (wTh W ch sr dr (wAb tA tB) (wBe tA tB) (wAl W.1 tA tB) j).toInt := by
    intro j hj
    rw [X j hj, Y j hj, ea, Int.mul_add, Int.mul_add]
    have h1 : g' * ((wH W j).toInt * sc.toInt) = (wH W j).toInt * (g' * sc.toInt) := by ac_rfl
    rw [h1, gq]
    congr 1 <;> ac_rfl
  have FA : g' * (W.1 * sc).toInt = d * (wAl W.1 tA tB).toInt := by
    rw [eF, alg]
    have h1 : g' * (W.1.toInt * sc.toInt) = W.1.toInt * (g' * sc.toInt) := by ac_rfl
    rw [h1, gq]; ac_rfl
  have Xn : ∀ j, j < 11 → 0 ≤ (cX W ch sr dr sc tA j).toInt := by
    intro j hj
    rcases Nat.lt_or_ge j nv with z | z
    · have h := hph j z
      rw [X j hj]
      unfold wH wRt
      rw [if_pos (by omega), if_pos (by omega), Int32.toInt_toInt64]
      rw [eB] at h
      have h2 : (W.2.2.2.2.1 j).toInt * (W.1.toInt * sc.toInt) + (ch j).toInt * tA.toInt * W.1.toInt = W.1.toInt * ((W.2.2.2.2.1 j).toInt * sc.toInt + (ch j).toInt * tA.toInt) := by
        rw [Int.mul_add]
        congr 1 <;> ac_rfl
      rw [h2] at h
      exact le_c (c := W.1.toInt) (by omega) (by rw [Int.mul_zero]; exact h)
    · have hb := bd j hj
      have rn : 0 ≤ (wRt ch sr dr j).toInt := by
        unfold wRt
        rcases Nat.lt_or_ge j 8 with q | q
        · rw [if_pos q, Int32.toInt_toInt64, b.2.1 j z, i32_0]; omega
        · rcases (show j = 8 ∨ j = 9 ∨ j = 10 by omega) with y | y | y <;> subst y
          · show 0 ≤ (1 : Int64).toInt
            decide
          · show 0 ≤ (Int32.toInt64 sr).toInt
            rw [Int32.toInt_toInt64]; exact b.2.2.2.1
          · show 0 ≤ (Int32.toInt64 dr).toInt
            rw [Int32.toInt_toInt64, ← hdr]; exact b.1.2.1
      rw [X j hj]
      have m1 := Int.mul_nonneg hb.1.1 (show 0 ≤ sc.toInt by omega)
      have m2 := Int.mul_nonneg rn (show 0 ≤ tA.toInt by omega)
      omega
  have Yn : ∀ j, j < 11 → 0 ≤ (wTh W ch sr dr (wAb tA tB) (wBe tA tB) (wAl W.1 tA tB) j).toInt := by
    intro j hj
    have h := Int.mul_nonneg (show 0 ≤ g' by omega) (Xn j hj)
    rw [XY j hj] at h
    exact le_c (c := d) d0 (by rw [Int.mul_zero]; exact h)
  have rd := wCm_dvd (ch := ch) (sr := sr) (dr := dr) al0 Yn 11 (Nat.le_refl _)
  unfold wPass wPas at hw
  rw [hch, hsr, hdr] at hw
  split at hw
  · cases hw
  · have e := Option.some.inj hw
    subst e
    refine low_of al0 Yn rd.1 rd.2 rfl ?_
    intro j hj
    unfold wPassed wH wTh
    by_cases q : j < 8
    · rw [if_pos q, if_pos q]
    · rw [if_neg q, if_neg q]
      by_cases q8 : j = 8
      · rw [if_pos q8, if_pos q8, if_neg (by omega), if_pos rfl]
      · rw [if_neg q8, if_neg q8]
        by_cases q9 : j = 9
        · rw [if_pos q9, if_pos q9]
          rfl
        · rw [if_neg q9, if_neg q9]
          rfl
theorem wTo_ph {nv np : Nat} {T K : Int} {PA : Nat → Nat → Int32} {W : qW} {u : Int64} (h : MPa nv np PA) (hW : wInv nv T K PA W) (hT : T ≤ 40000) (hK0 : 0 ≤ K) (hK : K ≤ 200000000) (u0 : 0 ≤ u.toInt) (u1 : u.toInt ≤ 10000) (hs : (wStep nv np PA u W).1 = 0) (hl : W.2.1 < u * W.1) : (0 < (u * W.1 - W.2.1).toInt ∧ (u * W.1 - W.2.1).toInt ≤ 100000000) ∧ ∀ v, v < nv → 0 ≤ (W.2.2.2.2.1 v).toInt * W.1.toInt + (wCh nv np PA W v).toInt * (u * W.1 - W.2.1).toInt * W.1.toInt := by
  have hg : 1 ≤ W.1.toInt ∧ W.1.toInt ≤ 10000 := hW.1.1.1
  have ht : 0 ≤ W.2.1.toInt := hW.1.2.1.1
  have f := wFar (t := W.2.1) hg hW.1.2.1 hT u0 u1
  rw [i64_lt, f.1] at hl
  obtain ⟨o, m⟩ := wNx_ok h hW.1
  have ph : ∀ v, v < nv → 0 ≤ (W.2.2.2.2.1 v).toInt * W.1.toInt + (wCh nv np PA W v).toInt * (u * W.1 - W.2.1).toInt * W.1.toInt ∧ (W.2.2.2.2.1 v).toInt * W.1.toInt + (wCh nv np PA W v).toInt * (u * W.1 - W.2.1).toInt * W.1.toInt ≤ (PA 54 v).toInt * W.1.toInt * W.1.toInt := by
    intro v hv
    rw [f.2.1]
    have hlv : 0 ≤ (W.2.2.2.2.1 v).toInt ∧ (W.2.2.2.2.1 v).toInt ≤ (PA 54 v).toInt * W.1.toInt := hW.1.1.2.1 v hv
    have key : 0 ≤ (W.2.2.2.2.1 v).toInt + (wCh nv np PA W v).toInt * (u.toInt * W.1.toInt - W.2.1.toInt) ∧ (W.2.2.2.2.1 v).toInt + (wCh nv np PA W v).toInt * (u.toInt * W.1.toInt - W.2.1.toInt) ≤ (PA 54 v).toInt * W.1.toInt := by
      have mv := m v hv
      obtain ⟨rs, na, nb, hN⟩ : ∃ rs na nb, wNx nv np PA W = (rs, na, nb) := ⟨_, _, _, rfl⟩
      rw [hN] at mv o
      generalize hc : (wCh nv np PA W v).toInt = c at *
      generalize hd : u.toInt * W.1.toInt - W.2.1.toInt = d at *
      rcases Int.lt_trichotomy c 0 with z | z | z
      · obtain ⟨r0, le⟩ := mv.2 z
        have r0 : rs = 0 := r0
        have le : na.toInt * (W.1.toInt * -c) ≤ (W.2.2.2.2.1 v).toInt * nb.toInt := le
        subst r0
        have hb : (u * W.1 - W.2.1) * nb < na * W.1 := by
          rcases Classical.em ((u * W.1 - W.2.1) * nb < na * W.1) with y | y
          · exact y
          · exfalso
            cases hp : wPass nv np PA W na nb with
            | none => rw [wStep_n hN y hp] at hs; exact absurd (show (-1 : Int32) = 0 from hs) (by decide)
            | some W1 => rw [wStep_y hN y hp] at hs; exact absurd (show (1 : Int32) = 0 from hs) (by decide)
        rw [wBehind h hW.1 hT hN u0 u1, hd] at hb
        obtain ⟨-, ⟨q, q1, q2, e⟩, -⟩ := wNext_ph h hW.1 hN
        have nb0 : 0 < nb.toInt := by rw [e]; exact Int.mul_pos (by omega) (by omega)
        have x1 : -c * (d * nb.toInt) ≤ -c * (na.toInt * W.1.toInt) := Int.mul_le_mul_of_nonneg_left (by omega) (by omega)
        have x2 : -c * (na.toInt * W.1.toInt) = na.toInt * (W.1.toInt * -c) := by ac_rfl
        have x3 : -c * (d * nb.toInt) = nb.toInt * (-c * d) := by ac_rfl
        have x4 : nb.toInt * (-c * d) ≤ nb.toInt * (W.2.2.2.2.1 v).toInt := by rw [Int.mul_comm nb.toInt (W.2.2.2.2.1 v).toInt]; omega
        have x5 := Int.le_of_mul_le_mul_left x4 nb0
        rw [Int.neg_mul] at x5
        have x6 : c * d ≤ 0 := Int.mul_nonpos_of_nonpos_of_nonneg (by omega) (by omega)
        omega
      · rw [z, Int.zero_mul]; omega
      · obtain ⟨r0, le⟩ := mv.1 z
        have r0 : rs = 0 := r0
        have le : na.toInt * (W.1.toInt * c) ≤ ((PA 54 v).toInt * W.1.toInt - (W.2.2.2.2.1 v).toInt) * nb.toInt := le
        subst r0
        have hb : (u * W.1 - W.2.1) * nb < na * W.1 := by
          rcases Classical.em ((u * W.1 - W.2.1) * nb < na * W.1) with y | y
          · exact y
          · exfalso
            cases hp : wPass nv np PA W na nb with
            | none => rw [wStep_n hN y hp] at hs; exact absurd (show (-1 : Int32) = 0 from hs) (by decide)
            | some W1 => rw [wStep_y hN y hp] at hs; exact absurd (show (1 : Int32) = 0 from hs) (by decide)
        rw [wBehind h hW.1 hT hN u0 u1, hd] at hb
        obtain ⟨-, ⟨q, q1, q2, e⟩, -⟩ := wNext_ph h hW.1 hN
        have nb0 : 0 < nb.toInt := by rw [e]; exact Int.mul_pos (by omega) (by omega)
        have x1 : c * (d * nb.toInt) ≤ c * (na.toInt * W.1.toInt) := Int.mul_le_mul_of_nonneg_left (by omega) (by omega)
        have x2 : c * (na.toInt * W.1.toInt) = na.toInt * (W.1.toInt * c) := by ac_rfl
        have x3 : c * (d * nb.toInt) = nb.toInt * (c * d) := by ac_rfl
        have x4 : nb.toInt * (c * d) ≤ nb.toInt * ((PA 54 v).toInt * W.1.toInt - (W.2.2.2.2.1 v).toInt) := by rw [Int.mul_comm nb.toInt ((PA 54 v).toInt * W.1.toInt - _)]; omega
        have x5 := Int.le_of_mul_le_mul_left x4 nb0
        have x6 : 0 ≤ c * d := Int.mul_nonneg (by omega) (by omega)
        omega
    have k1 := Int.mul_nonneg key.1 (show 0 ≤ W.1.toInt by omega)
    have k2 := Int.mul_le_mul_of_nonneg_right key.2 (show 0 ≤ W.1.toInt by omega)
    rw [Int.add_mul] at k1 k2
    exact ⟨k1, k2⟩
  exact ⟨⟨by omega, by omega⟩, fun v hv => (ph v hv).1⟩

theorem wTo_low {nv np : Nat} {T K : Int} {P : Nat → Nat → Int32} {W : qW} {u : Int64} (hp : MPa nv np P) (hW : wInv nv T K P W) (hT : T ≤ 40000) (hK0 : 0 ≤ K) (hK : K ≤ 200000000) (u0 : 0 ≤ u.toInt) (u1 : u.toInt ≤ 10000) (hs : (wStep nv np P u W).1 = 0) (hl : wLc W = 1) : wLc (wTo nv np P u W) = 1 := by
  unfold wTo
  by_cases c : W.2.1 < u * W.1
  · rw [if_pos c]
    have ph := wTo_ph hp hW hT hK0 hK u0 u1 hs c
    cases h : wPass nv np P W (u * W.1 - W.2.1) W.1 with
    | none => exact hl
    | some W1 => exact adv_low (sc := 1) hp hW.1 hT hK (by decide) (by decide) (Int64.mul_one _).symm ph.1.1 ph.1.2 ph.2 W1 h
  · rw [if_neg c]; exact hl
/-- the class's way to the moment u -/
theorem to_eq {nv np : Nat} {T K : Int} {P : Nat → Nat → Int32} {W : qW} {u : Int64} (hp : MPa nv np P) (hW : wInv nv T K P W) (hT : T ≤ 40000) (hK0 : 0 ≤ K) (hK : K ≤ 200000000) (u0 : 0 ≤ u.toInt) (u1 : u.toInt ≤ 10000) (hs : (wStep nv np P u W).1 = 0) (hl : wLc W = 1) (hb : ¬ u * W.1 < W.2.1) : wToB W (cAdv W (wCh nv np P W) (wSr nv np P W) (wDr nv np P W) nv 1 (u * W.1 - W.2.1)) = wTo nv np P u W := by
  unfold wTo
  by_cases c : W.2.1 < u * W.1
  · rw [if_pos c]
    have ph := wTo_ph hp hW hT hK0 hK u0 u1 hs c
    rw [adv_eq (sc := 1) (tB := W.1) hp hW.1 hT hK (by decide) (by decide) (Int64.mul_one _).symm ph.1.1 ph.1.2 ph.2]
  · rw [if_neg c]
    have e : u * W.1 = W.2.1 := by
      rw [i64_lt] at c hb
      exact Int64.toInt_inj.mp (by omega)
    rw [e, Int64.sub_self]
    have hg : 1 ≤ W.1.toInt ∧ W.1.toInt ≤ 10000 := hW.1.1.1
    rw [low_eq (ch := wCh nv np P W) (sr := wSr nv np P W) (dr := wDr nv np P W) hp.1 hg hW.1.2.1.1 hW.1.2.2.1.1 hW.1.2.2.2.1 (fun j hj => (hW.1.1.2.1 j hj).1) (fun j hj => hW.1.1.2.2 j hj), wLo_id hl]
    rfl
theorem cBeh {nv np : Nat} {T K : Int} {P : Nat → Nat → Int32} {W : qW} {u na nb gap sp : Int64} (hp : MPa nv np P) (hW : wOk nv T K P W) (hT : T ≤ 40000) (hN : wNx nv np P W = (0, na, nb)) (hC : cNx W.1 (wNx nv np P W) gap sp) (u0 : 0 ≤ u.toInt) (u1 : u.toInt ≤ 10000) : (u * (W.1 * sp) < W.2.1 * sp + gap) ↔ ((u * W.1 - W.2.1) * nb < na * W.1) := by
  rw [wBehind hp hW hT hN u0 u1]
  rw [hN] at hC
  rcases hC with ⟨a, -⟩ | ⟨-, e1, e2, s, g0, g1⟩
  · exact absurd a (by show ¬ (0 : Int32) = 1; decide)
  have e1 : gap = na := e1
  have e2 : nb = W.1 * sp := e2
  subst e1
  have hg : 1 ≤ W.1.toInt ∧ W.1.toInt ≤ 10000 := hW.1.1
  have ht : 0 ≤ W.2.1.toInt ∧ W.2.1.toInt ≤ T * W.1.toInt := hW.2.1
  have tg : T * W.1.toInt ≤ 40000 * W.1.toInt := Int.mul_le_mul_of_nonneg_right hT (by omega)
  have m1 := mul_bd (a := W.1.toInt) (b := sp.toInt) (A := 10000) (B := 71400) (by omega) hg.2 (by omega) s.2
  have x1 : (W.1 * sp).toInt = W.1.toInt * sp.toInt := i64_mul (by omega) (by omega)
  have m2 := mul_bd (a := u.toInt) (b := W.1.toInt * sp.toInt) (A := 10000) (B := 714000000) (by omega) u1 m1.1 (by omega)
  have x2 : (u * (W.1 * sp)).toInt = u.toInt * (W.1.toInt * sp.toInt) := by
    rw [i64_mul, x1] <;> rw [x1] <;> omega
  have m3 := mul_bd (a := W.2.1.toInt) (b := sp.toInt) (A := 400000000) (B := 71400) ht.1 (by omega) (by omega) s.2
  have x3 : (W.2.1 * sp).toInt = W.2.1.toInt * sp.toInt := i64_mul (by omega) (by omega)
  have x4 : (W.2.1 * sp + gap).toInt = W.2.1.toInt * sp.toInt + gap.toInt := by
    rw [i64_add, x3] <;> rw [x3] <;> omega
  rw [i64_lt, x2, x4, show nb = W.1 * sp from e2, x1]
  have y1 : (u.toInt * W.1.toInt - W.2.1.toInt) * (W.1.toInt * sp.toInt) = W.1.toInt * (u.toInt * (W.1.toInt * sp.toInt) - W.2.1.toInt * sp.toInt) := by
    rw [Int.sub_mul, Int.mul_sub]
    congr 1 <;> ac_rfl
  rw [y1, Int.mul_comm gap.toInt W.1.toInt]
  constructor
  · intro h
    exact Int.mul_lt_mul_of_pos_left (by omega) (by omega)
  · intro h
    have := Int.lt_of_mul_lt_mul_left h (by omega)
    omega
/-! events kept: the moment in lowest terms -/
def rAb (t g : Int64) : Int64 := t / mD t g
def rBe (t g : Int64) : Int64 := g / mD t g
theorem rAb_q {t g c : Int64} (ht : 0 ≤ t.toInt) (hg : 0 < g.toInt) (hc : 0 < c.toInt) (d1 : c.toInt ∣ t.toInt) (d2 : c.toInt ∣ g.toInt) : (t / c) / cGc (t / c) (g / c) = rAb t g ∧ (g / c) / cGc (t / c) (g / c) = rBe t g := by
  have hn : ∀ y : Int64, 0 ≤ y.toInt → c.toInt ∣ y.toInt → 0 ≤ (y / c).toInt ∧ y.toInt.toNat = c.toInt.toNat * (y / c).toInt.toNat := by
    rintro y hy ⟨z, hz⟩
    have e2 : (y / c).toInt = z := by rw [i64_div hy hc, hz, Int.mul_ediv_cancel_left _ (by omega)]
    have z0 : 0 ≤ z := by
      by_cases q : z < 0
      · have := Int.mul_neg_of_pos_of_neg hc q
        omega
      · omega
    rw [e2]
    refine ⟨z0, ?_⟩
    rw [hz, Int.toNat_mul (by omega) z0]
  have a := hn t ht d1
  have b := hn g (by omega) d2
  have c0 : 0 < c.toInt.toNat := by omega
  have g0 : 0 < (g / c).toInt := by
    rcases Int.lt_or_eq_of_le b.1 with y | y
    · exact y
    · have : (g / c).toInt.toNat = 0 := by omega
      rw [this, Nat.mul_zero] at b
      omega
  have e1 := cGc_n (a := t / c) (b := g / c) a.1 g0
  have e2 := mD_gcd (a := t) (b := g) (by omega) (by omega)
  rw [show t.toInt.natAbs = t.toInt.toNat by omega] at e2
  rw [a.2, b.2, Nat.gcd_mul_left] at e2
  have gp : 0 < Nat.gcd (t / c).toInt.toNat (g / c).toInt.toNat := Nat.gcd_pos_of_pos_right _ (by omega)
  have n1 : (cGc (t / c) (g / c)).toInt.toNat = Nat.gcd (t / c).toInt.toNat (g / c).toInt.toNat := by rw [e1, Int.toNat_natCast]
  have n2 : (mD t g).toInt.toNat = c.toInt.toNat * Nat.gcd (t / c).toInt.toNat (g / c).toInt.toNat := by rw [e2, Int.toNat_natCast]
  have p1 : 0 < (cGc (t / c) (g / c)).toInt := by rw [e1]; exact Int.natCast_pos.mpr gp
  have p2 : 0 < (mD t g).toInt := by rw [e2]; exact Int.natCast_pos.mpr (Nat.mul_pos c0 gp)
  constructor
  · show _ = t / mD t g
    exact quo64 a.1 ht p1 p2 (by rw [n1, n2, a.2, Nat.mul_div_mul_left _ _ c0])
  · show _ = g / mD t g
    exact quo64 b.1 (by omega) p1 p2 (by rw [n1, n2, b.2, Nat.mul_div_mul_left _ _ c0])
theorem rAb_c {t g : Int64} (ht : 0 ≤ t.toInt) (hg : 0 < g.toInt) : t / cGc t g = rAb t g ∧ g / cGc t g = rBe t g := by
  have e1 := cGc_n (a := t) (b := g) ht hg
  have e2 := mD_gcd (a := t) (b := g) (by omega) (by omega)
  rw [show t.toInt.natAbs = t.toInt.toNat by omega] at e2
  have e : cGc t g = mD t g := Int64.toInt_inj.mp (e1.trans e2.symm)
  rw [e]
  exact ⟨rfl, rfl⟩
/-- the class's log holds what the reference's does -/
def cLr (L : qLog) (f4 f5 f6 f7 : Nat → Int32) : Prop := ∀ i, i < L.1 → i < 400 → f4 i = L.2.1 i ∧ f5 i = L.2.2.1 i ∧ f6 i = Int64.toInt32 (rAb (L.2.2.2.1 i) (L.2.2.2.2.1 i)) ∧ f7 i = Int64.toInt32 (rBe (L.2.2.2.1 i) (L.2.2.2.2.1 i))
def cLg (L : qLog) (I A : Nat → Nat → Int32) : Prop := I 33 0 = nI L.1 ∧ cLr L (A 34) (A 35) (A 36) (A 37)
theorem lg_n {L : qLog} {f4 f5 f6 f7 : Nat → Int32} {t g : Int64} {so a c : Int32} (h : cLr L f4 f5 f6 f7) (hl : 400 ≤ L.1) : cLr (qNote 1 t g so L a c) f4 f5 f6 f7 := by
  unfold qNote
  rw [if_neg (fun q => absurd q.2 (by omega))]
  intro i h1 h2
  exact h i (by omega) h2
theorem lg_y {L : qLog} {f4 f5 f6 f7 x4 x5 x6 x7 : Nat → Int32} {t g : Int64} {so a c p q : Int32} (h : cLr L f4 f5 f6 f7) (hl : L.1 < 400) (e4 : x4 = upd f4 L.1 a) (e5 : x5 = upd f5 L.1 c) (e6 : x6 = upd f6 L.1 p) (e7 : x7 = upd f7 L.1 q) (hp : p = Int64.toInt32 (rAb t g)) (hq : q = Int64.toInt32 (rBe t g)) : cLr (qNote 1 t g so L a c) x4 x5 x6 x7 := by
  unfold qNote
  rw [if_pos ⟨by decide, hl⟩, e4, e5, e6, e7]
  intro i h1 h2
  show upd f4 L.1 a i = upd L.2.1 L.1 a i ∧ upd f5 L.1 c i = upd L.2.2.1 L.1 c i ∧ upd f6 L.1 p i = Int64.toInt32 (rAb (vp_updL L.2.2.2.1 L.1 t i) (vp_updL L.2.2.2.2.1 L.1 g i)) ∧ upd f7 L.1 q i = Int64.toInt32 (rBe (vp_updL L.2.2.2.1 L.1 t i) (vp_updL L.2.2.2.2.1 L.1 g i))
  by_cases e : i = L.1
  · rw [e, upd_s, upd_s, upd_s, upd_s, upd_s, upd_s, vpL_s, vpL_s]
    exact ⟨rfl, rfl, hp, hq⟩
  · rw [upd_o e, upd_o e, upd_o e, upd_o e, upd_o e, upd_o e, vpL_o e, vpL_o e]
    have h1 : i < L.1 + 1 := h1
    exact h i (by omega) h2
theorem take_s {e : List (Int32 × Int32)} {i : Nat} (h : i < e.length) : e.take (i + 1) = e.take i ++ [lA e i] := by
  rw [List.take_succ, List.getElem?_eq_getElem h]
  unfold lA
  rw [List.getElem?_eq_getElem h]
  rfl
theorem notes_t {t g : Int64} {so : Int32} {L L1 : qLog} {e : List (Int32 × Int32)} {i : Nat} (h : i < e.length) (hE : qNotes 1 t g so L (e.take i) = L1) : qNotes 1 t g so L (e.take (i + 1)) = qNote 1 t g so L1 (lA e i).1 (lA e i).2 := by
  rw [take_s h, ← hE, ← qNotes_s]
theorem notes_l {rec : Int32} {t g : Int64} {so : Int32} {L L1 : qLog} {e : List (Int32 × Int32)} {i : Nat} (hE : qNotes rec t g so L (e.take i) = L1) : L1.1 ≤ L.1 + i := by
  rw [← hE, qNotes_1, List.length_take]
  omega
def fHp (b k j : Nat) : Bool := decide (k = b ∧ j = 12)
theorem fHp_w (b : Nat) : ∀ j, j ≤ 6 → ¬ j = 4 → fHp b (b + 1) j = false := by
  intro j _ _
  simp only [fHp, decide_eq_false_iff_not]
  omega
theorem p0_w (b : Nat) : ∀ k, 2 ≤ k → (k ≤ 10 ∨ (b + 2 ≤ k ∧ k ≤ b + 4)) → p0 k = false := fun _ _ _ => rfl
theorem fHp_Se (b : Nat) : ∀ k j, fSe b k j = false → fHp b k j = false := by
  intro k j h
  simp only [fHp, fSe, decide_eq_false_iff_not] at h ⊢
  omega
theorem p0_any {p : Nat → Bool} : ∀ k, p k = false → p0 k = false := fun _ _ => rfl
def fLt (k j : Nat) : Bool := decide (k = 33 ∧ j = 0)
def pLt (k : Nat) : Bool := decide (34 ≤ k ∧ k ≤ 37)
def fCg (k j : Nat) : Bool := decide ((k = 0 ∧ j = 7) ∨ (k = 11 ∧ (6 ≤ j)) ∨ k = 12 ∧ (j ≤ 3 ∨ j = 5 ∨ j = 6) ∨ (k = 33 ∧ j = 0))
def pCg (k : Nat) : Bool := decide ((13 ≤ k ∧ k ≤ 21 ∧ ¬ k = 15) ∨ (34 ≤ k ∧ k ≤ 37))
theorem fLt_Cg : ∀ k j, fCg k j = false → fLt k j = false := by
  intro k j h
  simp only [fLt, fCg, decide_eq_false_iff_not] at h ⊢
  omega
theorem pLt_Cg : ∀ k, pCg k = false → pLt k = false := by
  intro k h
  simp only [pLt, pCg, decide_eq_false_iff_not] at h ⊢
  omega
theorem fSe_Cg : ∀ k j, fCg k j = false → fSe 11 k j = false := by
  intro k j h
  simp only [fSe, fCg, decide_eq_false_iff_not] at h ⊢
  omega
theorem pSe_Cg : ∀ k, pCg k = false → pSe 11 k = false := by
  intro k h
  simp only [pSe, pCg, decide_eq_false_iff_not] at h ⊢
  omega
theorem fCs_Cg : ∀ k j, fCg k j = false → fCs 11 k j = false := by
  intro k j h
  simp only [fCs, fCg, decide_eq_false_iff_not] at h ⊢
  omega
theorem pCr_Cg : ∀ k, pCg k = false → pCr 11 k = false := by
  intro k h
  simp only [pCr, pCg, decide_eq_false_iff_not] at h ⊢
  omega
theorem fCa_Cg : ∀ k j, fCg k j = false → fCa 11 k j = false := by
  intro k j h
  simp only [fCa, fCg, decide_eq_false_iff_not] at h ⊢
  omega
theorem pCa_Cg : ∀ k, pCg k = false → pCa 11 k = false := by
  intro k h
  simp only [pCa, pCg, decide_eq_false_iff_not] at h ⊢
  omega
theorem fLt_w : ∀ j, j ≤ 6 → ¬ j = 4 → fLt (11 + 1) j = false := by
  intro j _ _
  simp only [fLt, decide_eq_false_iff_not]
  omega
theorem pLt_w : ∀ k, 2 ≤ k → (k ≤ 10 ∨ (11 + 2 ≤ k ∧ k ≤ 11 + 4)) → pLt k = false := by
  intro k _ _
  simp only [pLt, decide_eq_false_iff_not]
  omega
theorem cLg.k {pf : Nat → Nat → Bool} {pa : Nat → Bool} {L : qLog} {I I1 : Nat → Nat → Int32} {G G1 : Nat → Nat → Int64} {A A1 : Nat → Nat → Int32} {B B1 : Nat → Nat → Int64} (K : KQ pf pa I G A B I1 G1 A1 B1) (h0 : pf 33 0 = false) (h4 : pa 34 = false) (h5 : pa 35 = false) (h6 : pa 36 = false) (h7 : pa 37 = false) (h : cLg L I A) : cLg L I1 A1 := by
  refine ⟨(K.1 33 0 h0).trans h.1, ?_⟩
  rw [K.2.2.1 34 h4, K.2.2.1 35 h5, K.2.2.1 36 h6, K.2.2.1 37 h7]
  exact h.2
set_option maxRecDepth 100000 in
set_option maxHeartbeats 0 in
theorem cx_step_11 (ro : UInt32 → Nat × (Nat → Int32)) (nv np : Nat) (P : Nat → Nat → Int32) (W : qW) (T T2 K : Int) (I : Nat → Nat → Int32) (G : Nat → Nat → Int64) (A : Nat → Nat → Int32) (B : Nat → Nat → Int64) (hR : cRS 11 nv np P W I G A B) (hp : MPa nv np P) (hb : wBo W) (hW : wOk nv T K P W) (hT : T ≤ 40000) (hT2 : T2 ≤ 40000) (hK : K ≤ 200000000) (hRt : cRel 11 I A (wR2 nv np P W) nv ∧ I 11 6 = wSr nv np P W) (na nb : Int64) (hN : wNx nv np P W = (0, na, nb)) (hC : cNx W.1 (wNx nv np P W) (G 11 8) (G 11 9)) (hps : ∀ W1, wPass nv np P W na nb = some W1 → wOk nv T2 K P W1 ∧ W1.2.2.2.2.2 = W.2.2.2.2.2) : zWp ro 66 0 [(0, .ref 11)] [] (hS I G A B) 0 0 (fun r h1 => ∃ I2 G2 A2 B2, h1 = hS I2 G2 A2 B2 ∧ KQ (fSe 11) (pSe 11) I G A B I2 G2 A2 B2 ∧ ((r = some (.int 0) ∧ wPass nv np P W na nb = none ∧ cRS 11 nv np P W I2 G2 A2 B2 ∧ cHp 11 I2 A2 []) ∨ (r = some (.int 1) ∧ ∃ W1, wPass nv np P W na nb = some W1 ∧ cRS 11 nv np P (wMom nv P W1) I2 G2 A2 B2 ∧ cHp 11 I2 A2 (wEv nv P W1)))) := by
  have ph := wNext_ph hp hW hN
  have ae : cAdv W (wCh nv np P W) (wSr nv np P W) (wDr nv np P W) nv (G 11 9) (G 11 8) = wPass nv np P W na nb := by
    have hC2 := hC
    rw [hN] at hC2
    rcases hC2 with ⟨a, -⟩ | ⟨-, e1, e2, s, g0, g1⟩
    · exact absurd a (by show ¬ (0 : Int32) = 1; decide)
    have e1 : G 11 8 = na := e1
    have e2 : nb = W.1 * G 11 9 := e2
    have hg : 1 ≤ W.1.toInt ∧ W.1.toInt ≤ 10000 := hW.1.1
    rw [e1, adv_eq (tB := nb) hp hW hT hK s.1 s.2 e2 ph.1.1 (by omega) (fun v hv => (ph.2.2 v hv).1)]
  refine zw_aload_n 1 f66_0 rfl rfl ?_
  refine zw_iconst 0 2 f66_1 rfl (by decide +kernel) ?_
  refine zw_put _ 5 f66_2 rfl g66_161_10 (hb_11 _ _ _ _) rfl (Nat.le_of_ble_eq_true rfl) (by decide +kernel) (hi_11_12 _ _ _ _ _) ?_
  refine zw_aload_n 6 f66_5 rfl rfl ?_
  refine zw_aload_n 7 f66_6 rfl rfl ?_
  refine zw_getG (G 11 9) 10 f66_7 rfl g66_119_10 (hb_11 _ _ _ _) rfl rfl ?_
  refine zw_aload_n 11 f66_10 rfl rfl ?_
  refine zw_getG (G 11 8) 14 f66_11 rfl g66_116_10 (hb_11 _ _ _ _) rfl rfl ?_
  refine zw_virtual_i 17 0 0 [.ref 11, .long (G 11 9), .long (G 11 8)] [(0, .ref 11), (1, .long (G 11 9)), (3, .long (G 11 8))] f66_14 rfl n66_164 k66_164_10 rfl (hb_11 _ _ _ _) (by decide +kernel) (Nat.le_of_ble_eq_true rfl) rfl rfl (by decide +kernel) (by decide +kernel) rfl (Nat.le_of_ble_eq_true rfl) rfl ?_
  have hR0 := hR.k (show KQ (fHp 11) p0 I G A B _ G A B from KQ.i (k := 11) (j := 12) (v := 0) rfl KQ.rf) ⟨rfl, rfl⟩ (fHp_w 11) (p0_w 11)
  refine zWp.mono (cx_adv_11 ro nv np P W _ _ _ _ hR0 hp (wCh nv np P W) (wSr nv np P W) (wDr nv np P W) hRt.1.2.2.1 hRt.2 hRt.1.2.1 (G 11 9) (G 11 8)) ?_
  rw [ae]
  rintro r h1 ⟨I2, G2, A2, B2, rfl, K2, (⟨rfl, hn, hR2⟩ | ⟨rfl, hs, hR2⟩)⟩
  · refine ⟨_, rfl, ?_⟩
    refine zw_if_ne_f 20 22 f66_17 (by decide +kernel) rfl (by decide +kernel) ?_
    refine zw_iconst 0 21 f66_20 rfl (by decide +kernel) ?_
    refine zw_zreturn f66_21 r66 u66 (by decide +kernel) ?_
    exact ⟨_, _, _, _, rfl, (KQ.tr (KQ.i rfl KQ.rf) (KQ.wk K2 (fCa_Se 11) (pCa_Se 11))), Or.inl ⟨rfl, hn, hR2, ⟨(K2.1 11 12 rfl), fun i hi => absurd hi (by simp only [List.length_nil]; omega)⟩⟩⟩
  · refine ⟨_, rfl, ?_⟩
    refine zw_if_ne_t 22 f66_17 (by decide +kernel) (by decide +kernel) ?_
    refine zw_aload_n 23 f66_22 rfl rfl ?_
    refine zw_virtual_v 26 0 0 [.ref 11] [(0, .ref 11)] f66_23 rfl n66_168 k66_168_10 rfl (hb_11 _ _ _ _) (by decide +kernel) (Nat.le_of_ble_eq_true rfl) rfl rfl (by decide +kernel) (by decide +kernel) rfl (Nat.le_of_ble_eq_true rfl) rfl ?_
    obtain ⟨w1, w2⟩ := hps _ hs
    have hb1 : wBo (cAdvd W (wCh nv np P W) (wSr nv np P W) (wDr nv np P W) nv (G 11 9) (G 11 8) (cCm W (wCh nv np P W) (wSr nv np P W) (wDr nv np P W) (G 11 9) (G 11 8) nv)) := hb
    refine zWp.mono (cx_settle_11 ro nv np P _ T2 K _ _ _ _ hR2 hp hb1 w1 hT2 hK) ?_
    rintro r h1 ⟨I3, G3, A3, B3, rfl, K3, ⟨hR3, hH3⟩, rfl⟩
    refine ⟨rfl, ?_⟩
    refine zw_iconst 1 27 f66_26 rfl (by decide +kernel) ?_
    refine zw_zreturn f66_27 r66 u66 (by decide +kernel) ?_
    exact ⟨_, _, _, _, rfl, (KQ.tr (KQ.tr (KQ.i rfl KQ.rf) (KQ.wk K2 (fCa_Se 11) (pCa_Se 11))) K3), Or.inr ⟨rfl, _, hs, hR3, hH3⟩⟩
set_option maxRecDepth 100000 in
set_option maxHeartbeats 0 in
theorem cx_to_11 (ro : UInt32 → Nat × (Nat → Int32)) (nv np : Nat) (P : Nat → Nat → Int32) (W : qW) (T K : Int) (I : Nat → Nat → Int32) (G : Nat → Nat → Int64) (A : Nat → Nat → Int32) (B : Nat → Nat → Int64) (hR : cRS 11 nv np P W I G A B) (hp : MPa nv np P) (hb : wBo W) (hW : wInv nv T K P W) (hT : T ≤ 40000) (hK0 : 0 ≤ K) (hK : K ≤ 200000000) (hRt : cRel 11 I A (wR2 nv np P W) nv ∧ I 11 6 = wSr nv np P W) (u : Int32) (u0 : 0 ≤ (Int32.toInt64 u).toInt) (u1 : (Int32.toInt64 u).toInt ≤ 10000) (hs : (wStep nv np P (Int32.toInt64 u) W).1 = 0) (hl : wLc W = 1) (hu : ¬ Int32.toInt64 u * W.1 < W.2.1) : zWp ro 67 0 [(0, .ref 11), (1, .int u)] [] (hS I G A B) 0 0 (fun r h1 => ∃ I2 G2 A2 B2, h1 = hS I2 G2 A2 B2 ∧ KQ (fCa 11) (pCa 11) I G A B I2 G2 A2 B2 ∧ cRS 11 nv np P (wTo nv np P (Int32.toInt64 u) W) I2 G2 A2 B2 ∧ r = none) := by
  refine zw_aload_n 1 f67_0 rfl rfl ?_
  refine zw_lconst 1 2 f67_1 rfl (by decide +kernel) ?_
  refine zw_iload_n 3 f67_2 rfl rfl ?_
  refine zw_i2l (Int32.toInt64 u) 4 f67_3 rfl rfl ?_
  refine zw_aload_n 5 f67_4 rfl rfl ?_
  refine zw_getfield 8 f67_5 rfl g67_12_10 (hb_11 _ _ _ _) rfl ?_
  refine zw_getG W.1 11 f67_8 rfl g67_109_9 (hb_12 _ _ _ _) rfl hR.2.2.1.1 ?_
  refine zw_lmul ((Int32.toInt64 u) * W.1) 12 f67_11 rfl rfl ?_
  refine zw_aload_n 13 f67_12 rfl rfl ?_
  refine zw_getfield 16 f67_13 rfl g67_12_10 (hb_11 _ _ _ _) rfl ?_
  refine zw_getG W.2.1 19 f67_16 rfl g67_151_9 (hb_12 _ _ _ _) rfl hR.2.2.1.2.1 ?_
  refine zw_lsub (((Int32.toInt64 u) * W.1) - W.2.1) 20 f67_19 rfl rfl ?_
  refine zw_virtual_i 23 0 0 [.ref 11, .long 1, .long (((Int32.toInt64 u) * W.1) - W.2.1)] [(0, .ref 11), (1, .long 1), (3, .long (((Int32.toInt64 u) * W.1) - W.2.1))] f67_20 rfl n67_164 k67_164_10 rfl (hb_11 _ _ _ _) (by decide +kernel) (Nat.le_of_ble_eq_true rfl) rfl rfl (by decide +kernel) (by decide +kernel) rfl (Nat.le_of_ble_eq_true rfl) rfl ?_
  refine zWp.mono (cx_adv_11 ro nv np P W _ _ _ _ hR hp (wCh nv np P W) (wSr nv np P W) (wDr nv np P W) hRt.1.2.2.1 hRt.2 hRt.1.2.1 1 (Int32.toInt64 u * W.1 - W.2.1)) ?_
  rintro r h1 ⟨I2, G2, A2, B2, rfl, K2, hc⟩
  have hR2 : cRS 11 nv np P (wTo nv np P (Int32.toInt64 u) W) I2 G2 A2 B2 := by
    rw [← to_eq hp hW hT hK0 hK u0 u1 hs hl hu]
    rcases hc with ⟨-, hn, h⟩ | ⟨-, hn, h⟩
    · rw [hn]; exact h
    · rw [hn]; exact h
  have hr : ∃ v : Int32, r = some (.int v) := hc.elim (fun q => ⟨_, q.1⟩) (fun q => ⟨_, q.1⟩)
  obtain ⟨rv, rfl⟩ := hr
  refine ⟨_, rfl, ?_⟩
  refine zw_pop 24 f67_23 rfl rfl ?_
  refine zw_vreturn f67_24 r67 u67 ?_
  exact ⟨_, _, _, _, rfl, K2, hR2, rfl⟩
set_option maxRecDepth 100000 in
set_option maxHeartbeats 0 in
theorem lcx_take (ro : UInt32 → Nat × (Nat → Int32)) (I : Nat → Nat → Int32) (G : Nat → Nat → Int64) (A : Nat → Nat → Int32) (B : Nat → Nat → Int64) (t1 g1 t g : Int64) (so : Int32) (L : qLog) (ev : List (Int32 × Int32)) (ht1 : G 12 1 = t1) (hg1 : G 12 0 = g1) (hra : t1 / cGc t1 g1 = rAb t g) (hrb : g1 / cGc t1 g1 = rBe t g) (hH : cHp 11 I A ev) (h8 : ev.length ≤ 8) (hL : cLg L I A) (hn : L.1 < 1000000000) : ∀ (n i : Nat) (ls : List (Nat × Value)) (I1 : Nat → Nat → Int32) (G1 : Nat → Nat → Int64) (A1 : Nat → Nat → Int32) (B1 : Nat → Nat → Int64) (L1 : qLog), KQ fLt pLt I G A B I1 G1 A1 B1 → qNotes 1 t g so L (ev.take i) = L1 → cLg L1 I1 A1 → i ≤ ev.length → ev.length + 1 ≤ i + n → zld ls 0 = some (.ref 33) → zld ls 1 = some (.ref 11) → zld ls 2 = some (.int (nI i)) → zWp ro 10 2 ls [] (hS I1 G1 A1 B1) 0 0 (fun r h1 => ∃ I2 G2 A2 B2, h1 = hS I2 G2 A2 B2 ∧ KQ fLt pLt I G A B I2 G2 A2 B2 ∧ cLg (qNotes 1 t g so L ev) I2 A2 ∧ r = none) := by
  intro n
  induction n with
  | zero =>
    intro i ls I1 G1 A1 B1 L1 _ _ _ a b
    exact absurd b (by omega)
  | succ n ih =>
    intro i ls I1 G1 A1 B1 L1 K0 hE hG hi1 hi2 h0 h1 h2
    have hl1 := notes_l hE
    refine zw_iload_n 3 f10_2 rfl h2 ?_
    refine zw_aload_n 4 f10_3 rfl h1 ?_
    refine zw_getI (nI ev.length) 7 f10_4 rfl g10_24_10 (hb_11 _ _ _ _) rfl ((K0.1 11 12 rfl).trans hH.1) ?_
    refine zw_ic_ge 10 126 f10_7 (by decide +kernel) rfl (fun hc1 => ?_) (fun hc1 => ?_)
    · have hn_hc1 : ev.length ≤ i := zn_ge (by omega) (by omega) hc1
      refine zw_vreturn f10_126 r10 u10 ?_
      have hi : i = ev.length := by omega
      rw [hi, List.take_length] at hE
      rw [hE]
      exact ⟨_, _, _, _, rfl, K0, hG, rfl⟩
    · have hn_hc1 : i < ev.length := zn_lt (by omega) (by omega) hc1
      refine zw_iload_n 11 f10_10 rfl h2 ?_
      refine zw_bipush 8 13 f10_11 rfl (by decide +kernel) ?_
      refine zw_ic_ge 16 126 f10_13 (by decide +kernel) rfl (fun hc2 => ?_) (fun hc2 => ?_)
      · have hn_hc2 : 8 ≤ i := zn_ge (by omega) (by omega) hc2
        refine zw_vreturn f10_126 r10 u10 ?_
        have hi : i = ev.length := by omega
        rw [hi, List.take_length] at hE
        rw [hE]
        exact ⟨_, _, _, _, rfl, K0, hG, rfl⟩
      · have hn_hc2 : i < 8 := zn_lt (by omega) (by omega) hc2
        refine zw_aload_n 17 f10_16 rfl h0 ?_
        refine zw_getI (nI L1.1) 20 f10_17 rfl g10_30_3 (hb_33 _ _ _ _) rfl hG.1 ?_
        refine zw_sipush 400 23 f10_20 rfl (by decide +kernel) ?_
        refine zw_ic_ge 26 110 f10_23 (by decide +kernel) rfl (fun hc3 => ?_) (fun hc3 => ?_)
        · have hn_hc3 : 400 ≤ L1.1 := zn_ge (by omega) (by omega) hc3
          refine zw_aload_n 111 f10_110 rfl h0 ?_
          refine zw_dup 112 f10_111 rfl rfl ?_
          refine zw_getI (nI L1.1) 115 f10_112 rfl g10_30_3 (hb_33 _ _ _ _) rfl hG.1 ?_
          refine zw_iconst 1 116 f10_115 rfl (by decide +kernel) ?_
          refine zw_iadd (nI (L1.1 + 1)) 117 f10_116 rfl (nI_add _ 1) ?_
          refine zw_put _ 120 f10_117 rfl g10_30_3 (hb_33 _ _ _ _) rfl (Nat.le_of_ble_eq_true rfl) (by decide +kernel) (hi_33_0 _ _ _ _ _) ?_
          refine zw_iinc (nI (i + 1)) _ 123 f10_120 rfl h2 (by decide +kernel) (nI_1 _) rfl ?_
          refine zw_goto 2 f10_123 (by decide +kernel) ?_
          have E := notes_t (t := t) (g := g) (so := so) (L := L) (L1 := L1) (e := ev) (i := i) (by omega) hE
          exact ih (i + 1) _ _ _ _ _ _ (KQ.i rfl K0) E ⟨(show _ = nI _ by rw [qNote_1]; rfl), (lg_n hG.2 (by omega))⟩ (by omega) (by omega) (zl1_ne rfl rfl h0) (zl1_ne rfl rfl h1) zl1_eq
        · have hn_hc3 : L1.1 < 400 := zn_lt (by omega) (by omega) hc3
          refine zw_aload_n 27 f10_26 rfl h0 ?_
          refine zw_getfield 30 f10_27 rfl g10_9_3 (hb_33 _ _ _ _) rfl ?_
          refine zw_aload_n 31 f10_30 rfl h0 ?_
          refine zw_getI (nI L1.1) 34 f10_31 rfl g10_30_3 (hb_33 _ _ _ _) rfl hG.1 ?_
          refine zw_aload_n 35 f10_34 rfl h1 ?_
          refine zw_getfield 38 f10_35 rfl g10_33_10 (hb_11 _ _ _ _) rfl ?_
          refine zw_iload_n 39 f10_38 rfl h2 ?_
          refine zw_iaload i (lA ev i).1 40 f10_39 rfl (hb_20 _ _ _ _) (nI_clamp (by omega)) (nI_pos (by omega)) (by omega) ((congrFun (K0.2.2.1 20 rfl) i).trans (hH.2 i (by omega)).1) ?_
          refine zw_ast L1.1 _ 41 f10_40 rfl (hb_34 _ _ _ _) (nI_clamp (by omega)) (nI_pos (by omega)) (by omega) (ha_34 _ _ _ _ _) ?_
          refine zw_aload_n 42 f10_41 rfl h0 ?_
          refine zw_getfield 45 f10_42 rfl g10_15_3 (hb_33 _ _ _ _) rfl ?_
          refine zw_aload_n 46 f10_45 rfl h0 ?_
          refine zw_getI (nI L1.1) 49 f10_46 rfl g10_30_3 (hb_33 _ _ _ _) rfl hG.1 ?_
          refine zw_aload_n 50 f10_49 rfl h1 ?_
          refine zw_getfield 53 f10_50 rfl g10_36_10 (hb_11 _ _ _ _) rfl ?_
          refine zw_iload_n 54 f10_53 rfl h2 ?_
          refine zw_iaload i (lA ev i).2 55 f10_54 rfl (hb_21 _ _ _ _) (nI_clamp (by omega)) (nI_pos (by omega)) (by omega) ((congrFun (K0.2.2.1 21 rfl) i).trans (hH.2 i (by omega)).2) ?_
          refine zw_ast L1.1 _ 56 f10_55 rfl (hb_35 _ _ _ _) (nI_clamp (by omega)) (nI_pos (by omega)) (by omega) (ha_35 _ _ _ _ _) ?_
          refine zw_aload_n 57 f10_56 rfl h0 ?_
          refine zw_getfield 60 f10_57 rfl g10_18_3 (hb_33 _ _ _ _) rfl ?_
          refine zw_aload_n 61 f10_60 rfl h0 ?_
          refine zw_getI (nI L1.1) 64 f10_61 rfl g10_30_3 (hb_33 _ _ _ _) rfl hG.1 ?_
          refine zw_aload_n 65 f10_64 rfl h1 ?_
          refine zw_getfield 68 f10_65 rfl g10_39_10 (hb_11 _ _ _ _) rfl ?_
          refine zw_getG t1 71 f10_68 rfl g10_43_9 (hb_12 _ _ _ _) rfl ((K0.2.1 12 1 rfl).trans ht1) ?_
          refine zw_aload_n 72 f10_71 rfl h1 ?_
          refine zw_getfield 75 f10_72 rfl g10_39_10 (hb_11 _ _ _ _) rfl ?_
          refine zw_getG g1 78 f10_75 rfl g10_49_9 (hb_12 _ _ _ _) rfl ((K0.2.1 12 0 rfl).trans hg1) ?_
          refine zw_static_l 81 0 0 [.long t1, .long g1] [.int (nI L1.1), .ref 36] [(0, .long t1), (2, .long g1)] f10_78 rfl k10_52_99 rfl (by decide +kernel) (Nat.le_of_ble_eq_true rfl) (Nat.le_of_ble_eq_true rfl) rfl rfl (by decide +kernel) (by decide +kernel) rfl (Nat.le_of_ble_eq_true rfl) rfl ?_
          refine zw_lload_n 1 f116_0 rfl rfl ?_
          refine zw_lload_n 2 f116_1 rfl rfl ?_
          refine zw_static_l 5 0 0 [.long t1, .long g1] [] [(0, .long t1), (2, .long g1)] f116_2 rfl k116_336_99 rfl (by decide +kernel) (Nat.le_of_ble_eq_true rfl) (Nat.le_of_ble_eq_true rfl) rfl rfl (by decide +kernel) (by decide +kernel) rfl (Nat.le_of_ble_eq_true rfl) rfl ?_
          refine zWp.mono (cx_gcd ro _ t1 g1) ?_
          rintro r h1 ⟨rfl, rfl⟩
          refine ⟨_, rfl, ?_⟩
          refine zw_lstore _ 7 f116_5 rfl (by decide +kernel) rfl ?_
          refine zw_lload 9 f116_7 rfl zl2_eq ?_
          refine zw_lconst 0 10 f116_9 rfl (by decide +kernel) ?_
          refine zw_lcmp (lg_cmp (cGc t1 g1) 0) 11 f116_10 rfl rfl ?_
          refine zw_if_ne_t 18 f116_11 (by decide +kernel) (fun q => cGc_ne0 ((lg_cmp_eq _ _).mp q)) ?_
          refine zw_lload_n 19 f116_18 rfl (zl2_ne rfl rfl rfl) ?_
          refine zw_lload 21 f116_19 rfl zl2_eq ?_
          refine zw_ldiv (t1 / (cGc t1 g1)) 22 f116_21 rfl cGc_ne0 rfl ?_
          refine zw_lreturn f116_22 r116 u116 ⟨_, rfl, ?_⟩
          refine zw_l2i (Int64.toInt32 (t1 / (cGc t1 g1))) 82 f10_81 rfl rfl ?_
          refine zw_ast L1.1 _ 83 f10_82 rfl (hb_36 _ _ _ _) (nI_clamp (by omega)) (nI_pos (by omega)) (by omega) (ha_36 _ _ _ _ _) ?_
          refine zw_aload_n 84 f10_83 rfl h0 ?_
          refine zw_getfield 87 f10_84 rfl g10_21_3 (hb_33 _ _ _ _) rfl ?_
          refine zw_aload_n 88 f10_87 rfl h0 ?_
          refine zw_getI (nI L1.1) 91 f10_88 rfl g10_30_3 (hb_33 _ _ _ _) rfl hG.1 ?_
          refine zw_aload_n 92 f10_91 rfl h1 ?_
          refine zw_getfield 95 f10_92 rfl g10_39_10 (hb_11 _ _ _ _) rfl ?_
          refine zw_getG t1 98 f10_95 rfl g10_43_9 (hb_12 _ _ _ _) rfl ((K0.2.1 12 1 rfl).trans ht1) ?_
          refine zw_aload_n 99 f10_98 rfl h1 ?_
          refine zw_getfield 102 f10_99 rfl g10_39_10 (hb_11 _ _ _ _) rfl ?_
          refine zw_getG g1 105 f10_102 rfl g10_49_9 (hb_12 _ _ _ _) rfl ((K0.2.1 12 0 rfl).trans hg1) ?_
          refine zw_static_l 108 0 0 [.long t1, .long g1] [.int (nI L1.1), .ref 37] [(0, .long t1), (2, .long g1)] f10_105 rfl k10_56_99 rfl (by decide +kernel) (Nat.le_of_ble_eq_true rfl) (Nat.le_of_ble_eq_true rfl) rfl rfl (by decide +kernel) (by decide +kernel) rfl (Nat.le_of_ble_eq_true rfl) rfl ?_
          refine zw_lload_n 1 f117_0 rfl rfl ?_
          refine zw_lload_n 2 f117_1 rfl rfl ?_
          refine zw_static_l 5 0 0 [.long t1, .long g1] [] [(0, .long t1), (2, .long g1)] f117_2 rfl k117_336_99 rfl (by decide +kernel) (Nat.le_of_ble_eq_true rfl) (Nat.le_of_ble_eq_true rfl) rfl rfl (by decide +kernel) (by decide +kernel) rfl (Nat.le_of_ble_eq_true rfl) rfl ?_
          refine zWp.mono (cx_gcd ro _ t1 g1) ?_
          rintro r h1 ⟨rfl, rfl⟩
          refine ⟨_, rfl, ?_⟩
          refine zw_lstore _ 7 f117_5 rfl (by decide +kernel) rfl ?_
          refine zw_lload 9 f117_7 rfl zl2_eq ?_
          refine zw_lconst 0 10 f117_9 rfl (by decide +kernel) ?_
          refine zw_lcmp (lg_cmp (cGc t1 g1) 0) 11 f117_10 rfl rfl ?_
          refine zw_if_ne_t 18 f117_11 (by decide +kernel) (fun q => cGc_ne0 ((lg_cmp_eq _ _).mp q)) ?_
          refine zw_lload_n 19 f117_18 rfl (zl2_ne rfl rfl rfl) ?_
          refine zw_lload 21 f117_19 rfl zl2_eq ?_
          refine zw_ldiv (g1 / (cGc t1 g1)) 22 f117_21 rfl cGc_ne0 rfl ?_
          refine zw_lreturn f117_22 r117 u117 ⟨_, rfl, ?_⟩
          refine zw_l2i (Int64.toInt32 (g1 / (cGc t1 g1))) 109 f10_108 rfl rfl ?_
          refine zw_ast L1.1 _ 110 f10_109 rfl (hb_37 _ _ _ _) (nI_clamp (by omega)) (nI_pos (by omega)) (by omega) (ha_37 _ _ _ _ _) ?_
          refine zw_aload_n 111 f10_110 rfl h0 ?_
          refine zw_dup 112 f10_111 rfl rfl ?_
          refine zw_getI (nI L1.1) 115 f10_112 rfl g10_30_3 (hb_33 _ _ _ _) rfl hG.1 ?_
          refine zw_iconst 1 116 f10_115 rfl (by decide +kernel) ?_
          refine zw_iadd (nI (L1.1 + 1)) 117 f10_116 rfl (nI_add _ 1) ?_
          refine zw_put _ 120 f10_117 rfl g10_30_3 (hb_33 _ _ _ _) rfl (Nat.le_of_ble_eq_true rfl) (by decide +kernel) (hi_33_0 _ _ _ _ _) ?_
          refine zw_iinc (nI (i + 1)) _ 123 f10_120 rfl h2 (by decide +kernel) (nI_1 _) rfl ?_
          refine zw_goto 2 f10_123 (by decide +kernel) ?_
          have E := notes_t (t := t) (g := g) (so := so) (L := L) (L1 := L1) (e := ev) (i := i) (by omega) hE
          exact ih (i + 1) _ _ _ _ _ _ (KQ.i rfl (KQ.a rfl (KQ.a rfl (KQ.a rfl (KQ.a rfl K0))))) E ⟨(show _ = nI _ by rw [qNote_1]; rfl), (lg_y hG.2 (by omega) (rfl) (rfl) (rfl) (rfl) (congrArg Int64.toInt32 hra) (congrArg Int64.toInt32 hrb))⟩ (by omega) (by omega) (zl1_ne rfl rfl h0) (zl1_ne rfl rfl h1) zl1_eq
set_option maxRecDepth 100000 in
set_option maxHeartbeats 0 in
theorem cx_take (ro : UInt32 → Nat × (Nat → Int32)) (I : Nat → Nat → Int32) (G : Nat → Nat → Int64) (A : Nat → Nat → Int32) (B : Nat → Nat → Int64) (t1 g1 t g : Int64) (so : Int32) (L : qLog) (ev : List (Int32 × Int32)) (ht1 : G 12 1 = t1) (hg1 : G 12 0 = g1) (hra : t1 / cGc t1 g1 = rAb t g) (hrb : g1 / cGc t1 g1 = rBe t g) (hH : cHp 11 I A ev) (h8 : ev.length ≤ 8) (hL : cLg L I A) (hn : L.1 < 1000000000) : zWp ro 10 0 [(0, .ref 33), (1, .ref 11)] [] (hS I G A B) 0 0 (fun r h1 => ∃ I2 G2 A2 B2, h1 = hS I2 G2 A2 B2 ∧ KQ fLt pLt I G A B I2 G2 A2 B2 ∧ cLg (qNotes 1 t g so L ev) I2 A2 ∧ r = none) := by
  refine zw_iconst 0 1 f10_0 rfl (by decide +kernel) ?_
  refine zw_istore_n _ 2 f10_1 rfl (by decide +kernel) rfl ?_
  exact lcx_take ro I G A B t1 g1 t g so L ev ht1 hg1 hra hrb hH h8 hL hn (ev.length + 1) 0 _ _ _ _ _ L KQ.rf rfl hL (by omega) (by omega) (zl1_ne rfl rfl rfl) (zl1_ne rfl rfl rfl) zl1_eq
theorem nx_of {N : Int32 × Int64 × Int64} (h : N.1 = 0) : ∃ na nb, N = (0, na, nb) := ⟨N.2.1, N.2.2, by rw [← h]⟩
theorem nI_150 {n : Nat} (h : n < 1000) (e : nI n = 150) : n = 150 := by
  have := congrArg Int32.toInt e
  rw [nI_toInt (by omega)] at this
  have e2 : (150 : Int32).toInt = 150 := by decide
  omega
theorem nI_l150 {n : Nat} (h : n ≤ 150) (e : ¬ nI n = 150) : n < 150 := by
  rcases Nat.lt_or_ge n 150 with q | q
  · exact q
  · exact absurd (by rw [show n = 150 by omega]; rfl) e
theorem go_to {nv np : Nat} {P : Nat → Nat → Int32} {so : Int32} {u : Int64} {n0 n : Nat} {W : qW} {L : qLog} (h : (wStep nv np P u W).1 = 0) : wGoX nv np P u n0 (wGo nv np P 1 so u n W L) = (0, nI L.1 - nI n0, wTo nv np P u W, L) := by
  have e : wGo nv np P 1 so u n W L = (0, W, L) := by
    cases n with
    | zero => rw [wGo, if_pos h]
    | succ n => rw [wGo, if_neg (by rw [h]; decide), h]
  rw [e]
  exact if_neg (by show ¬ (0 : Int32) = -1; decide)
theorem go_sp {nv np : Nat} {P : Nat → Nat → Int32} {so : Int32} {u : Int64} {n0 n : Nat} {W : qW} {L : qLog} (h : (wStep nv np P u W).1 = -1) : wGoX nv np P u n0 (wGo nv np P 1 so u n W L) = (4, -1, W, L) := by
  have e : wGo nv np P 1 so u n W L = (-1, W, L) := by
    cases n with
    | zero => rw [wGo, if_neg (by rw [h]; decide)]
    | succ n => rw [wGo, if_neg (by rw [h]; decide), h]
  rw [e]
  exact if_pos rfl
theorem go_z {nv np : Nat} {P : Nat → Nat → Int32} {so : Int32} {u : Int64} {n0 : Nat} {W : qW} {L : qLog} (h : ¬ (wStep nv np P u W).1 = 0) : wGoX nv np P u n0 (wGo nv np P 1 so u 0 W L) = (4, -1, W, L) := by
  have e : wGo nv np P 1 so u 0 W L = (-1, W, L) := by rw [wGo, if_neg h]
  rw [e]
  exact if_pos rfl
/-- the moment of the events, told behind them -/
theorem mom_t {nv np : Nat} {T K : Int} {P : Nat → Nat → Int32} {W : qW} (hp : MPa nv np P) (hb : wBo W) (hW : wOk nv T K P W) (hT : T ≤ 40000) (hK : K ≤ 200000000) : (wMom nv P W).2.1 / cGc (wMom nv P W).2.1 (wMom nv P W).1 = rAb W.2.1 W.1 ∧ (wMom nv P W).1 / cGc (wMom nv P W).2.1 (wMom nv P W).1 = rBe W.2.1 W.1 ∧ (wEv nv P W).length ≤ 8 := by
  have n := mom_nn hp hb hW hT hK
  have hg : 1 ≤ W.1.toInt ∧ W.1.toInt ≤ 10000 := hW.1.1
  have c := qLc_num (t := W.2.1) (sp := W.2.2.1) (dr := (wMm nv P W).2.1) (g := W.1) (lev := (wMm nv P W).1) hW.2.1.1 hW.2.2.1.1 n.1 (by omega) n.2 8 (Nat.le_refl _)
  have q := rAb_q (t := W.2.1) (g := W.1) hW.2.1.1 (by omega) c.1 c.2.2.1 c.2.1
  refine ⟨q.1, q.2, ?_⟩
  have l := (wT_len (nv := nv) (P := P) (W := W)).2.2 nv
  have s := qN_sum (kind := P 53) nv
  have h8 := hp.1
  exact Nat.le_trans l (Nat.le_trans s h8)
theorem mom_u {nv np : Nat} {T K : Int} {P : Nat → Nat → Int32} {W : qW} {u : Int64} (hp : MPa nv np P) (hb : wBo W) (hW : wOk nv T K P W) (hT : T ≤ 40000) (hK : K ≤ 200000000) (h : W.2.1.toInt ≤ u.toInt * W.1.toInt) : ¬ u * (wMom nv P W).1 < (wMom nv P W).2.1 ∨ ¬ (0 ≤ u.toInt ∧ u.toInt ≤ 10000) := by
  by_cases hu : 0 ≤ u.toInt ∧ u.toInt ≤ 10000
  · left
    have n := mom_nn hp hb hW hT hK
    have hg : 1 ≤ W.1.toInt ∧ W.1.toInt ≤ 10000 := hW.1.1
    have c := qLc_num (t := W.2.1) (sp := W.2.2.1) (dr := (wMm nv P W).2.1) (g := W.1) (lev := (wMm nv P W).1) hW.2.1.1 hW.2.2.1.1 n.1 (by omega) n.2 8 (Nat.le_refl _)
    show ¬ u * (W.1 / wLowC W (wMm nv P W)) < W.2.1 / wLowC W (wMm nv P W)
    obtain ⟨c0, ⟨x, hx⟩, ⟨y, hy⟩, -⟩ := c
    change 0 < (wLowC W (wMm nv P W)).toInt at c0
    change W.1.toInt = (wLowC W (wMm nv P W)).toInt * x at hx
    change W.2.1.toInt = (wLowC W (wMm nv P W)).toInt * y at hy
    have e1 : (W.1 / wLowC W (wMm nv P W)).toInt = x := by rw [i64_div (by omega) c0, hx, Int.mul_ediv_cancel_left _ (by omega)]
    have e2 : (W.2.1 / wLowC W (wMm nv P W)).toInt = y := by rw [i64_div (show 0 ≤ W.2.1.toInt from hW.2.1.1) c0, hy, Int.mul_ediv_cancel_left _ (by omega)]
    have x0 : 0 ≤ x ∧ x ≤ 10000 := by
      have d := Int.ediv_le_self (wLowC W (wMm nv P W)).toInt (show 0 ≤ W.1.toInt by omega)
      have d0 := Int.ediv_nonneg (show 0 ≤ W.1.toInt by omega) (Int.le_of_lt c0)
      rw [← i64_div (by omega) c0, e1] at d d0
      omega
    have m := mul_bd (a := u.toInt) (b := x) (A := 10000) (B := 10000) hu.1 hu.2 x0.1 x0.2
    have e3 : (u * (W.1 / wLowC W (wMm nv P W))).toInt = u.toInt * x := by rw [i64_mul, e1] <;> rw [e1] <;> omega
    rw [i64_lt, e3, e2]
    rw [hx, hy] at h
    have h2 : (wLowC W (wMm nv P W)).toInt * y ≤ (wLowC W (wMm nv P W)).toInt * (u.toInt * x) := by
      rw [Int.mul_left_comm]; exact h
    have := Int.le_of_mul_le_mul_left h2 c0
    omega
  · exact Or.inr hu
theorem pass_u {nv np : Nat} {T K : Int} {P : Nat → Nat → Int32} {W W1 : qW} {na nb u : Int64} (hp : MPa nv np P) (hW : wOk nv T K P W) (hT : T ≤ 40000) (hK0 : 0 ≤ K) (hK : K ≤ 200000000) (hN : wNx nv np P W = (0, na, nb)) (hb : ¬ (u * W.1 - W.2.1) * nb < na * W.1) (hw : wPass nv np P W na nb = some W1) (u0 : 0 ≤ u.toInt) (u1 : u.toInt ≤ 10000) : W1.2.1.toInt ≤ u.toInt * W1.1.toInt := by
  have a := ((wStep_pass (T := T) (T2 := u.toInt) hp hW hT hK0 hK (Or.inr ⟨u0, u1, Int.le_refl _⟩) hN hb).2.2.2 W1 hw).1
  exact a.2.1.2
set_option maxRecDepth 100000 in
set_option maxHeartbeats 0 in
theorem lcx_go (ro : UInt32 → Nat × (Nat → Int32)) (nv np : Nat) (P : Nat → Nat → Int32) (W : qW) (L : qLog) (K : Int) (so u : Int32) (I : Nat → Nat → Int32) (G : Nat → Nat → Int64) (A : Nat → Nat → Int32) (B : Nat → Nat → Int64) (hR : cRS 11 nv np P W I G A B) (hp : MPa nv np P) (hq : qOw nv np P) (hW : wInv nv 10000 K P W) (hlw : wLc W = 1) (hL : cLg L I A) (hK0 : 0 ≤ K) (hK : K ≤ 199000000) (hn : L.1 < 900000000) (u0 : 0 ≤ (Int32.toInt64 u).toInt) (u1 : (Int32.toInt64 u).toInt ≤ 10000) : ∀ (n m : Nat) (ls : List (Nat × Value)) (I1 : Nat → Nat → Int32) (G1 : Nat → Nat → Int64) (A1 : Nat → Nat → Int32) (B1 : Nat → Nat → Int64) (W1 : qW) (L1 : qLog), KQ fCg pCg I G A B I1 G1 A1 B1 → cRS 11 nv np P W1 I1 G1 A1 B1 → wInv nv 10000 (K + 1600 * m) P W1 → wLc W1 = 1 → cLg L1 I1 A1 → ¬ (Int32.toInt64 u) * W1.1 < W1.2.1 → L1.1 ≤ L.1 + 24 * m → m + n = 150 → zld ls 0 = some (.ref 0) → zld ls 1 = some (.int u) → zld ls 2 = some (.int (nI L.1)) → zld ls 3 = some (.int (nI m)) → zWp ro 87 34 ls [] (hS I1 G1 A1 B1) 0 0 (fun r h1 => ∃ I2 G2 A2 B2, h1 = hS I2 G2 A2 B2 ∧ KQ fCg pCg I G A B I2 G2 A2 B2 ∧ cRS 11 nv np P (wGoX nv np P (Int32.toInt64 u) L.1 (wGo nv np P 1 so (Int32.toInt64 u) n W1 L1)).2.2.1 I2 G2 A2 B2 ∧ cLg (wGoX nv np P (Int32.toInt64 u) L.1 (wGo nv np P 1 so (Int32.toInt64 u) n W1 L1)).2.2.2 I2 A2 ∧ r = some (.int (wGoX nv np P (Int32.toInt64 u) L.1 (wGo nv np P 1 so (Int32.toInt64 u) n W1 L1)).2.1)) := by
  intro n
  induction n using Nat.strongRecOn with
  | _ n ih =>
    intro m ls I1 G1 A1 B1 W1 L1 K0 hR1 hW1 hl1 hG hu1 hn1 hm h0 h1 h2 h3
    refine zw_iload_n 35 f87_34 rfl h3 ?_
    refine zw_sipush 150 38 f87_35 rfl (by decide +kernel) ?_
    refine zw_ic_gt_f 41 131 f87_38 (by decide +kernel) rfl (nI_n150g (by omega)) ?_
    refine zw_aload_n 42 f87_41 rfl h0 ?_
    refine zw_getfield 45 f87_42 rfl g87_21_11 (hb_0 _ _ _ _) rfl ?_
    refine zw_virtual_v 48 0 0 [.ref 11] [(0, .ref 11)] f87_45 rfl n87_167 k87_167_10 rfl (hb_11 _ _ _ _) (by decide +kernel) (Nat.le_of_ble_eq_true rfl) rfl rfl (by decide +kernel) (by decide +kernel) rfl (Nat.le_of_ble_eq_true rfl) rfl ?_
    refine zWp.mono (cx_seek_11 ro nv np P W1 10000 (K + 1600 * m) _ _ _ _ hR1 hp hW1.2.1 hq hW1.1) ?_
    rintro r h1 ⟨I_s, G_s, A_s, B_s, rfl, K_s, hRt, hC, rfl⟩
    refine ⟨rfl, ?_⟩
    have hR2 := hR1.k K_s ⟨rfl, rfl⟩ (fCs_w 11) (pCr_w 11 (by omega))
    have hG2 := hG.k K_s rfl rfl rfl rfl rfl
    refine zw_aload_n 49 f87_48 rfl h0 ?_
    refine zw_getfield 52 f87_49 rfl g87_21_11 (hb_0 _ _ _ _) rfl ?_
    refine zw_virtual_i 55 0 0 [.ref 11] [(0, .ref 11)] f87_52 rfl n87_170 k87_170_10 rfl (hb_11 _ _ _ _) (by decide +kernel) (Nat.le_of_ble_eq_true rfl) rfl rfl (by decide +kernel) (by decide +kernel) rfl (Nat.le_of_ble_eq_true rfl) rfl ?_
    refine zw_aload_n 1 f58_0 rfl rfl ?_
    refine zw_getG (G_s 11 9) 4 f58_1 rfl g58_119_10 (hb_11 _ _ _ _) rfl rfl ?_
    refine zw_lconst 0 5 f58_4 rfl (by decide +kernel) ?_
    refine zw_lcmp (lg_cmp (G_s 11 9) 0) 6 f58_5 rfl rfl ?_
    refine zw_if_ne 9 13 f58_6 (by decide +kernel) rfl (fun hc2 => ?_) (fun hc2 => ?_)
    · refine zw_iconst 0 14 f58_13 rfl (by decide +kernel) ?_
      refine zw_zreturn f58_14 r58 u58 (by decide +kernel) ⟨_, rfl, ?_⟩
      refine zw_if_ne_f 58 69 f87_55 (by decide +kernel) rfl (by decide +kernel) ?_
      refine zw_aload_n 59 f87_58 rfl h0 ?_
      refine zw_getfield 62 f87_59 rfl g87_21_11 (hb_0 _ _ _ _) rfl ?_
      refine zw_iload_n 63 f87_62 rfl h1 ?_
      refine zw_virtual_i 66 0 0 [.ref 11, .int u] [(0, .ref 11), (1, .int u)] f87_63 rfl n87_174 k87_174_10 rfl (hb_11 _ _ _ _) (by decide +kernel) (Nat.le_of_ble_eq_true rfl) rfl rfl (by decide +kernel) (by decide +kernel) rfl (Nat.le_of_ble_eq_true rfl) rfl ?_
      refine zw_aload_n 1 f61_0 rfl rfl ?_
      refine zw_virtual_l 4 0 0 [.ref 11] [(0, .ref 11)] f61_1 rfl n61_154 k61_154_10 rfl (hb_11 _ _ _ _) (by decide +kernel) (Nat.le_of_ble_eq_true rfl) rfl rfl (by decide +kernel) (by decide +kernel) rfl (Nat.le_of_ble_eq_true rfl) rfl ?_
      refine zw_aload_n 1 f59_0 rfl rfl ?_
      refine zw_getfield 4 f59_1 rfl g59_12_10 (hb_11 _ _ _ _) rfl ?_
      refine zw_getG W1.2.1 7 f59_4 rfl g59_151_9 (hb_12 _ _ _ _) rfl hR2.2.2.1.2.1 ?_
      refine zw_aload_n 8 f59_7 rfl rfl ?_
      refine zw_getG (G_s 11 9) 11 f59_8 rfl g59_119_10 (hb_11 _ _ _ _) rfl rfl ?_
      refine zw_lmul (W1.2.1 * (G_s 11 9)) 12 f59_11 rfl rfl ?_
      refine zw_aload_n 13 f59_12 rfl rfl ?_
      refine zw_getG (G_s 11 8) 16 f59_13 rfl g59_116_10 (hb_11 _ _ _ _) rfl rfl ?_
      refine zw_ladd ((W1.2.1 * (G_s 11 9)) + (G_s 11 8)) 17 f59_16 rfl rfl ?_
      refine zw_lreturn f59_17 r59 u59 ⟨_, rfl, ?_⟩
      refine zw_iload_n 5 f61_4 rfl rfl ?_
      refine zw_i2l (Int32.toInt64 u) 6 f61_5 rfl rfl ?_
      refine zw_aload_n 7 f61_6 rfl rfl ?_
      refine zw_virtual_l 10 0 0 [.ref 11] [(0, .ref 11)] f61_7 rfl n61_158 k61_158_10 rfl (hb_11 _ _ _ _) (by decide +kernel) (Nat.le_of_ble_eq_true rfl) rfl rfl (by decide +kernel) (by decide +kernel) rfl (Nat.le_of_ble_eq_true rfl) rfl ?_
      refine zw_aload_n 1 f60_0 rfl rfl ?_
      refine zw_getfield 4 f60_1 rfl g60_12_10 (hb_11 _ _ _ _) rfl ?_
      refine zw_getG W1.1 7 f60_4 rfl g60_109_9 (hb_12 _ _ _ _) rfl hR2.2.2.1.1 ?_
      refine zw_aload_n 8 f60_7 rfl rfl ?_
      refine zw_getG (G_s 11 9) 11 f60_8 rfl g60_119_10 (hb_11 _ _ _ _) rfl rfl ?_
      refine zw_lmul (W1.1 * (G_s 11 9)) 12 f60_11 rfl rfl ?_
      refine zw_lreturn f60_12 r60 u60 ⟨_, rfl, ?_⟩
      refine zw_lmul ((Int32.toInt64 u) * (W1.1 * (G_s 11 9))) 11 f61_10 rfl rfl ?_
      refine zw_lcmp (lg_cmp ((W1.2.1 * (G_s 11 9)) + (G_s 11 8)) ((Int32.toInt64 u) * (W1.1 * (G_s 11 9)))) 12 f61_11 rfl rfl ?_
      refine zw_if_le 15 19 f61_12 (by decide +kernel) rfl (fun hc3 => ?_) (fun hc3 => ?_)
      · refine zw_iconst 0 20 f61_19 rfl (by decide +kernel) ?_
        refine zw_zreturn f61_20 r61 u61 (by decide +kernel) ⟨_, rfl, ?_⟩
        refine zw_if_eq_t 91 f87_66 (by decide +kernel) (by decide +kernel) ?_
        refine zw_iload_n 92 f87_91 rfl h3 ?_
        refine zw_sipush 150 95 f87_92 rfl (by decide +kernel) ?_
        refine zw_ic_eq 98 108 f87_95 (by decide +kernel) rfl (fun hc4 => ?_) (fun hc4 => ?_)
        · have hm150 : m = 150 := nI_150 (by omega) hc4
          refine zw_aload_n 109 f87_108 rfl h0 ?_
          refine zw_iconst 4 110 f87_109 rfl (by decide +kernel) ?_
          refine zw_virtual_i 113 0 0 [.ref 0, .int 4] [(0, .ref 0), (1, .int 4)] f87_110 rfl n87_78 k87_78_11 rfl (hb_0 _ _ _ _) (by decide +kernel) (Nat.le_of_ble_eq_true rfl) rfl rfl (by decide +kernel) (by decide +kernel) rfl (Nat.le_of_ble_eq_true rfl) rfl ?_
          refine zw_aload_n 1 f105_0 rfl rfl ?_
          refine zw_iload_n 2 f105_1 rfl rfl ?_
          refine zw_put _ 5 f105_2 rfl g105_70_11 (hb_0 _ _ _ _) rfl (Nat.le_of_ble_eq_true rfl) (by decide +kernel) (hi_0_7 _ _ _ _ _) ?_
          refine zw_iconst (-1) 6 f105_5 rfl (by decide +kernel) ?_
          refine zw_ireturn f105_6 r105 u105 ⟨_, rfl, ?_⟩
          refine zw_ireturn f87_113 r87 u87 ?_
          have hn0 : n = 0 := by omega
          obtain ⟨na, nb, hN⟩ := nx_of (cNx_n hC (fun q => hc2 ((lg_cmp_eq _ _).mpr q)))
          have hnb : ¬ ((Int32.toInt64 u) * W1.1 - W1.2.1) * nb < na * W1.1 := fun q => (Int64.not_lt.mpr ((lg_cmp_le _ _).mp hc3)) ((cBeh hp hW1.1 (by omega) hN hC u0 u1).mpr q)
          have EX : wGoX nv np P (Int32.toInt64 u) L.1 (wGo nv np P 1 so (Int32.toInt64 u) n W1 L1) = (4, -1, W1, L1) := by rw [hn0]; exact go_z (wStep_c hN hnb)
          rw [EX]
          exact ⟨_, _, _, _, rfl, (KQ.i rfl (KQ.tr K0 (KQ.wk K_s fCs_Cg pCr_Cg))), hR2.k (show KQ (fun k j => decide (k = 0 ∧ j = 7)) p0 _ _ _ _ _ _ _ _ from KQ.i (k := 0) (j := 7) (v := 4) rfl KQ.rf) ⟨rfl, rfl⟩ (fun j _ _ => by simp) (p0_w 11), hG2, rfl⟩
        · have hm150 : m < 150 := nI_l150 (by omega) hc4
          refine zw_aload_n 99 f87_98 rfl h0 ?_
          refine zw_getfield 102 f87_99 rfl g87_21_11 (hb_0 _ _ _ _) rfl ?_
          refine zw_virtual_i 105 0 0 [.ref 11] [(0, .ref 11)] f87_102 rfl n87_184 k87_184_10 rfl (hb_11 _ _ _ _) (by decide +kernel) (Nat.le_of_ble_eq_true rfl) rfl rfl (by decide +kernel) (by decide +kernel) rfl (Nat.le_of_ble_eq_true rfl) rfl ?_
          obtain ⟨na, nb, hN⟩ := nx_of (cNx_n hC (fun q => hc2 ((lg_cmp_eq _ _).mpr q)))
          have hnb : ¬ ((Int32.toInt64 u) * W1.1 - W1.2.1) * nb < na * W1.1 := fun q => (Int64.not_lt.mpr ((lg_cmp_le _ _).mp hc3)) ((cBeh hp hW1.1 (by omega) hN hC u0 u1).mpr q)
          have hps := (wStep_pass (T := 10000) (T2 := 10000) hp hW1.1 (by omega) (by omega) (by omega) (Or.inr ⟨u0, u1, u1⟩) hN hnb).2.2.2
          refine zWp.mono (cx_step_11 ro nv np P W1 10000 10000 (K + 1600 * m) _ _ _ _ hR2 hp hW1.2.1 hW1.1 (by omega) (by omega) (by omega) hRt na nb hN hC hps) ?_
          rintro r h1 ⟨I_t, G_t, A_t, B_t, rfl, K_t, (⟨rfl, hpn, hR3, -⟩ | ⟨rfl, W2, hpn, hR3, hH3⟩)⟩
          · refine ⟨_, rfl, ?_⟩
            have hG3 := hG2.k K_t rfl rfl rfl rfl rfl
            have hs1 : wStep nv np P (Int32.toInt64 u) W1 = (-1, W1, 0, 0, []) := wStep_n hN hnb hpn
            refine zw_if_ne_f 108 114 f87_105 (by decide +kernel) rfl (by decide +kernel) ?_
            refine zw_aload_n 109 f87_108 rfl h0 ?_
            refine zw_iconst 4 110 f87_109 rfl (by decide +kernel) ?_
            refine zw_virtual_i 113 0 0 [.ref 0, .int 4] [(0, .ref 0), (1, .int 4)] f87_110 rfl n87_78 k87_78_11 rfl (hb_0 _ _ _ _) (by decide +kernel) (Nat.le_of_ble_eq_true rfl) rfl rfl (by decide +kernel) (by decide +kernel) rfl (Nat.le_of_ble_eq_true rfl) rfl ?_
            refine zw_aload_n 1 f105_0 rfl rfl ?_
            refine zw_iload_n 2 f105_1 rfl rfl ?_
            refine zw_put _ 5 f105_2 rfl g105_70_11 (hb_0 _ _ _ _) rfl (Nat.le_of_ble_eq_true rfl) (by decide +kernel) (hi_0_7 _ _ _ _ _) ?_
            refine zw_iconst (-1) 6 f105_5 rfl (by decide +kernel) ?_
            refine zw_ireturn f105_6 r105 u105 ⟨_, rfl, ?_⟩
            refine zw_ireturn f87_113 r87 u87 ?_
            have EX : wGoX nv np P (Int32.toInt64 u) L.1 (wGo nv np P 1 so (Int32.toInt64 u) n W1 L1) = (4, -1, W1, L1) := go_sp (by rw [hs1])
            rw [EX]
            exact ⟨_, _, _, _, rfl, (KQ.i rfl (KQ.tr (KQ.tr K0 (KQ.wk K_s fCs_Cg pCr_Cg)) (KQ.wk K_t fSe_Cg pSe_Cg))), hR3.k (show KQ (fun k j => decide (k = 0 ∧ j = 7)) p0 _ _ _ _ _ _ _ _ from KQ.i (k := 0) (j := 7) (v := 4) rfl KQ.rf) ⟨rfl, rfl⟩ (fun j _ _ => by simp) (p0_w 11), hG3, rfl⟩
          · refine ⟨_, rfl, ?_⟩
            have hG3 := hG2.k K_t rfl rfl rfl rfl rfl
            have hs1 : wStep nv np P (Int32.toInt64 u) W1 = (1, wMom nv P W2, W2.2.1, W2.1, wEv nv P W2) := wStep_y hN hnb hpn
            refine zw_if_ne_t 114 f87_105 (by decide +kernel) (by decide +kernel) ?_
            refine zw_aload_n 115 f87_114 rfl h0 ?_
            refine zw_getfield 118 f87_115 rfl g87_31_11 (hb_0 _ _ _ _) rfl ?_
            refine zw_aload_n 119 f87_118 rfl h0 ?_
            refine zw_getfield 122 f87_119 rfl g87_21_11 (hb_0 _ _ _ _) rfl ?_
            refine zw_virtual_v 125 0 0 [.ref 33, .ref 11] [(0, .ref 33), (1, .ref 11)] f87_122 rfl n87_187 k87_187_3 rfl (hb_33 _ _ _ _) (by decide +kernel) (Nat.le_of_ble_eq_true rfl) rfl rfl (by decide +kernel) (by decide +kernel) rfl (Nat.le_of_ble_eq_true rfl) rfl ?_
            have hw2 := hps W2 hpn
            have hb2 : wBo W2 := by unfold wBo; rw [hw2.2]; exact hW1.2.1
            have hq2 := mom_t hp hb2 hw2.1 (by omega) (by omega)
            refine zWp.mono (cx_take ro _ _ _ _ _ _ W2.2.1 W2.1 so L1 (wEv nv P W2) hR3.2.2.1.2.1 hR3.2.2.1.1 hq2.1 hq2.2.1 hH3 hq2.2.2 hG3 (by omega)) ?_
            rintro r h1 ⟨I_u, G_u, A_u, B_u, rfl, K_u, hG4, rfl⟩
            refine ⟨rfl, ?_⟩
            have hR4 := hR3.k K_u ⟨rfl, rfl⟩ fLt_w pLt_w
            refine zw_iinc (nI (m + 1)) _ 128 f87_125 rfl h3 (by decide +kernel) (nI_1 _) rfl ?_
            refine zw_goto 34 f87_128 (by decide +kernel) ?_
            have st := wStep_inv (T := 10000) (T2 := 10000) (u := (Int32.toInt64 u)) hp hW1 (by omega) (by omega) (by omega) (by omega) (Or.inr ⟨u0, u1, u1⟩)
            rw [hs1] at st
            obtain ⟨-, w3, w4⟩ := st.resolve_left (fun q => q.elim (fun z => absurd (congrArg (fun y => y.1) z) (by show ¬ (1 : Int32) = 0; decide)) (fun z => absurd (congrArg (fun y => y.1) z) (by show ¬ (1 : Int32) = -1; decide)))
            cases n with
            | zero => exact absurd hm (by omega)
            | succ n =>
              have EG : wGo nv np P 1 so (Int32.toInt64 u) (n + 1) W1 L1 = wGo nv np P 1 so (Int32.toInt64 u) n (wMom nv P W2) (qNotes 1 W2.2.1 W2.1 so L1 (wEv nv P W2)) := by
                rw [wGo, hs1]
                exact if_pos rfl
              rw [EG]
              exact ih n (by omega) (m + 1) _ _ _ _ _ _ _ (KQ.tr (KQ.tr (KQ.tr K0 (KQ.wk K_s fCs_Cg pCr_Cg)) (KQ.wk K_t fSe_Cg pSe_Cg)) (KQ.wk K_u fLt_Cg pLt_Cg)) hR4 (w3.mo (by omega) (by omega)) (wMom_low hp hb2 hw2.1 (by omega) (by omega)) hG4 ((mom_u hp hb2 hw2.1 (by omega) (by omega) (pass_u hp hW1.1 (by omega) (by omega) (by omega) hN hnb hpn u0 u1)).resolve_right (fun q => q ⟨u0, u1⟩)) (by rw [qNotes_1]; have : (wEv nv P W2).length ≤ 24 := w4; omega) (by omega) (zl1_ne rfl rfl h0) (zl1_ne rfl rfl h1) (zl1_ne rfl rfl h2) zl1_eq
      · refine zw_iconst 1 16 f61_15 rfl (by decide +kernel) ?_
        refine zw_goto 20 f61_16 (by decide +kernel) ?_
        refine zw_zreturn f61_20 r61 u61 (by decide +kernel) ⟨_, rfl, ?_⟩
        refine zw_if_eq_f 69 91 f87_66 (by decide +kernel) rfl (by decide +kernel) ?_
        refine zw_aload_n 70 f87_69 rfl h0 ?_
        refine zw_getfield 73 f87_70 rfl g87_21_11 (hb_0 _ _ _ _) rfl ?_
        refine zw_iload_n 74 f87_73 rfl h1 ?_
        refine zw_virtual_v 77 0 0 [.ref 11, .int u] [(0, .ref 11), (1, .int u)] f87_74 rfl n87_177 k87_177_10 rfl (hb_11 _ _ _ _) (by decide +kernel) (Nat.le_of_ble_eq_true rfl) rfl rfl (by decide +kernel) (by decide +kernel) rfl (Nat.le_of_ble_eq_true rfl) rfl ?_
        obtain ⟨na, nb, hN⟩ := nx_of (cNx_n hC (fun q => hc2 ((lg_cmp_eq _ _).mpr q)))
        have hs0 : wStep nv np P (Int32.toInt64 u) W1 = (0, W1, 0, 0, []) := wStep_b hN ((cBeh hp hW1.1 (by omega) hN hC u0 u1).mp (Int64.not_le.mp (fun q => hc3 ((lg_cmp_le _ _).mpr q))))
        refine zWp.mono (cx_to_11 ro nv np P W1 10000 (K + 1600 * m) _ _ _ _ hR2 hp hW1.2.1 hW1 (by omega) (by omega) (by omega) hRt u u0 u1 (by rw [hs0]) hl1 hu1) ?_
        rintro r h1 ⟨I_t, G_t, A_t, B_t, rfl, K_t, hR3, rfl⟩
        refine ⟨rfl, ?_⟩
        have hG3 := hG2.k K_t rfl rfl rfl rfl rfl
        refine zw_aload_n 78 f87_77 rfl h0 ?_
        refine zw_aload_n 79 f87_78 rfl h0 ?_
        refine zw_getfield 82 f87_79 rfl g87_31_11 (hb_0 _ _ _ _) rfl ?_
        refine zw_getI (nI L1.1) 85 f87_82 rfl g87_164_3 (hb_33 _ _ _ _) rfl hG3.1 ?_
        refine zw_iload_n 86 f87_85 rfl h2 ?_
        refine zw_isub ((nI L1.1) - (nI L.1)) 87 f87_86 rfl rfl ?_
        refine zw_virtual_i 90 0 0 [.ref 0, .int ((nI L1.1) - (nI L.1))] [(0, .ref 0), (1, .int ((nI L1.1) - (nI L.1)))] f87_87 rfl n87_181 k87_181_11 rfl (hb_0 _ _ _ _) (by decide +kernel) (Nat.le_of_ble_eq_true rfl) rfl rfl (by decide +kernel) (by decide +kernel) rfl (Nat.le_of_ble_eq_true rfl) rfl ?_
        refine zw_aload_n 1 f106_0 rfl rfl ?_
        refine zw_iconst 0 2 f106_1 rfl (by decide +kernel) ?_
        refine zw_put _ 5 f106_2 rfl g106_70_11 (hb_0 _ _ _ _) rfl (Nat.le_of_ble_eq_true rfl) (by decide +kernel) (hi_0_7 _ _ _ _ _) ?_
        refine zw_iload_n 6 f106_5 rfl rfl ?_
        refine zw_ireturn f106_6 r106 u106 ⟨_, rfl, ?_⟩
        refine zw_ireturn f87_90 r87 u87 ?_
        have EX : wGoX nv np P (Int32.toInt64 u) L.1 (wGo nv np P 1 so (Int32.toInt64 u) n W1 L1) = (0, nI L1.1 - nI L.1, wTo nv np P (Int32.toInt64 u) W1, L1) := go_to (by rw [hs0])
        rw [EX]
        exact ⟨_, _, _, _, rfl, (KQ.i rfl (KQ.tr (KQ.tr K0 (KQ.wk K_s fCs_Cg pCr_Cg)) (KQ.wk K_t fCa_Cg pCa_Cg))), hR3.k (show KQ (fun k j => decide (k = 0 ∧ j = 7)) p0 _ _ _ _ _ _ _ _ from KQ.i (k := 0) (j := 7) (v := 0) rfl KQ.rf) ⟨rfl, rfl⟩ (fun j _ _ => by simp) (p0_w 11), hG3, rfl⟩
    · refine zw_iconst 1 10 f58_9 rfl (by decide +kernel) ?_
      refine zw_goto 14 f58_10 (by decide +kernel) ?_
      refine zw_zreturn f58_14 r58 u58 (by decide +kernel) ⟨_, rfl, ?_⟩
      refine zw_if_ne_t 69 f87_55 (by decide +kernel) (by decide +kernel) ?_
      refine zw_aload_n 70 f87_69 rfl h0 ?_
      refine zw_getfield 73 f87_70 rfl g87_21_11 (hb_0 _ _ _ _) rfl ?_
      refine zw_iload_n 74 f87_73 rfl h1 ?_
      refine zw_virtual_v 77 0 0 [.ref 11, .int u] [(0, .ref 11), (1, .int u)] f87_74 rfl n87_177 k87_177_10 rfl (hb_11 _ _ _ _) (by decide +kernel) (Nat.le_of_ble_eq_true rfl) rfl rfl (by decide +kernel) (by decide +kernel) rfl (Nat.le_of_ble_eq_true rfl) rfl ?_
      have hs0 : wStep nv np P (Int32.toInt64 u) W1 = (0, W1, 0, 0, []) := wStep_r (cNx_r hC ((lg_cmp_eq _ _).mp (Decidable.of_not_not hc2)))
      refine zWp.mono (cx_to_11 ro nv np P W1 10000 (K + 1600 * m) _ _ _ _ hR2 hp hW1.2.1 hW1 (by omega) (by omega) (by omega) hRt u u0 u1 (by rw [hs0]) hl1 hu1) ?_
      rintro r h1 ⟨I_t, G_t, A_t, B_t, rfl, K_t, hR3, rfl⟩
      refine ⟨rfl, ?_⟩
      have hG3 := hG2.k K_t rfl rfl rfl rfl rfl
      refine zw_aload_n 78 f87_77 rfl h0 ?_
      refine zw_aload_n 79 f87_78 rfl h0 ?_
      refine zw_getfield 82 f87_79 rfl g87_31_11 (hb_0 _ _ _ _) rfl ?_
      refine zw_getI (nI L1.1) 85 f87_82 rfl g87_164_3 (hb_33 _ _ _ _) rfl hG3.1 ?_
      refine zw_iload_n 86 f87_85 rfl h2 ?_
      refine zw_isub ((nI L1.1) - (nI L.1)) 87 f87_86 rfl rfl ?_
      refine zw_virtual_i 90 0 0 [.ref 0, .int ((nI L1.1) - (nI L.1))] [(0, .ref 0), (1, .int ((nI L1.1) - (nI L.1)))] f87_87 rfl n87_181 k87_181_11 rfl (hb_0 _ _ _ _) (by decide +kernel) (Nat.le_of_ble_eq_true rfl) rfl rfl (by decide +kernel) (by decide +kernel) rfl (Nat.le_of_ble_eq_true rfl) rfl ?_
      refine zw_aload_n 1 f106_0 rfl rfl ?_
      refine zw_iconst 0 2 f106_1 rfl (by decide +kernel) ?_
      refine zw_put _ 5 f106_2 rfl g106_70_11 (hb_0 _ _ _ _) rfl (Nat.le_of_ble_eq_true rfl) (by decide +kernel) (hi_0_7 _ _ _ _ _) ?_
      refine zw_iload_n 6 f106_5 rfl rfl ?_
      refine zw_ireturn f106_6 r106 u106 ⟨_, rfl, ?_⟩
      refine zw_ireturn f87_90 r87 u87 ?_
      have EX : wGoX nv np P (Int32.toInt64 u) L.1 (wGo nv np P 1 so (Int32.toInt64 u) n W1 L1) = (0, nI L1.1 - nI L.1, wTo nv np P (Int32.toInt64 u) W1, L1) := go_to (by rw [hs0])
      rw [EX]
      exact ⟨_, _, _, _, rfl, (KQ.i rfl (KQ.tr (KQ.tr K0 (KQ.wk K_s fCs_Cg pCr_Cg)) (KQ.wk K_t fCa_Cg pCa_Cg))), hR3.k (show KQ (fun k j => decide (k = 0 ∧ j = 7)) p0 _ _ _ _ _ _ _ _ from KQ.i (k := 0) (j := 7) (v := 0) rfl KQ.rf) ⟨rfl, rfl⟩ (fun j _ _ => by simp) (p0_w 11), hG3, rfl⟩
set_option maxRecDepth 100000 in
set_option maxHeartbeats 0 in
theorem cx_go (ro : UInt32 → Nat × (Nat → Int32)) (nv np : Nat) (P : Nat → Nat → Int32) (W : qW) (L : qLog) (K : Int) (so u : Int32) (I : Nat → Nat → Int32) (G : Nat → Nat → Int64) (A : Nat → Nat → Int32) (B : Nat → Nat → Int64) (hR : cRS 11 nv np P W I G A B) (hp : MPa nv np P) (hq : qOw nv np P) (hW : wInv nv 10000 K P W) (hlw : wLc W = 1) (hL : cLg L I A) (hK0 : 0 ≤ K) (hK : K ≤ 199000000) (hn : L.1 < 900000000) : zWp ro 87 0 [(0, .ref 0), (1, .int u)] [] (hS I G A B) 0 0 (fun r h1 => ∃ I2 G2 A2 B2, h1 = hS I2 G2 A2 B2 ∧ KQ fCg pCg I G A B I2 G2 A2 B2 ∧ cRS 11 nv np P (wGoR nv np P 1 so u W L).2.2.1 I2 G2 A2 B2 ∧ cLg (wGoR nv np P 1 so u W L).2.2.2 I2 A2 ∧ r = some (.int (wGoR nv np P 1 so u W L).2.1)) := by
  refine zw_iload_n 1 f87_0 rfl rfl ?_
  refine zw_sipush 10000 4 f87_1 rfl (by decide +kernel) ?_
  refine zw_ic_gt 7 18 f87_4 (by decide +kernel) rfl (fun hc1 => ?_) (fun hc1 => ?_)
  · refine zw_aload_n 19 f87_18 rfl rfl ?_
    refine zw_iconst 1 20 f87_19 rfl (by decide +kernel) ?_
    refine zw_virtual_i 23 0 0 [.ref 0, .int 1] [(0, .ref 0), (1, .int 1)] f87_20 rfl n87_78 k87_78_11 rfl (hb_0 _ _ _ _) (by decide +kernel) (Nat.le_of_ble_eq_true rfl) rfl rfl (by decide +kernel) (by decide +kernel) rfl (Nat.le_of_ble_eq_true rfl) rfl ?_
    refine zw_aload_n 1 f105_0 rfl rfl ?_
    refine zw_iload_n 2 f105_1 rfl rfl ?_
    refine zw_put _ 5 f105_2 rfl g105_70_11 (hb_0 _ _ _ _) rfl (Nat.le_of_ble_eq_true rfl) (by decide +kernel) (hi_0_7 _ _ _ _ _) ?_
    refine zw_iconst (-1) 6 f105_5 rfl (by decide +kernel) ?_
    refine zw_ireturn f105_6 r105 u105 ⟨_, rfl, ?_⟩
    refine zw_ireturn f87_23 r87 u87 ?_
    exact ⟨_, _, _, _, rfl, (KQ.i rfl KQ.rf), by rw [show wGoR nv np P 1 so u W L = (1, -1, W, L) from if_pos (Or.inl hc1)]; exact ⟨hR.k (show KQ (fun k j => decide (k = 0 ∧ j = 7)) p0 I G A B _ G A B from KQ.i (k := 0) (j := 7) (v := 1) rfl KQ.rf) ⟨rfl, rfl⟩ (fun j _ _ => by simp) (p0_w 11), hL, rfl⟩⟩
  · refine zw_aload_n 8 f87_7 rfl rfl ?_
    refine zw_getfield 11 f87_8 rfl g87_21_11 (hb_0 _ _ _ _) rfl ?_
    refine zw_iload_n 12 f87_11 rfl rfl ?_
    refine zw_virtual_i 15 0 0 [.ref 11, .int u] [(0, .ref 11), (1, .int u)] f87_12 rfl n87_161 k87_161_10 rfl (hb_11 _ _ _ _) (by decide +kernel) (Nat.le_of_ble_eq_true rfl) rfl rfl (by decide +kernel) (by decide +kernel) rfl (Nat.le_of_ble_eq_true rfl) rfl ?_
    refine zw_aload_n 1 f62_0 rfl rfl ?_
    refine zw_getfield 4 f62_1 rfl g62_12_10 (hb_11 _ _ _ _) rfl ?_
    refine zw_getG W.2.1 7 f62_4 rfl g62_151_9 (hb_12 _ _ _ _) rfl hR.2.2.1.2.1 ?_
    refine zw_iload_n 8 f62_7 rfl rfl ?_
    refine zw_i2l (Int32.toInt64 u) 9 f62_8 rfl rfl ?_
    refine zw_aload_n 10 f62_9 rfl rfl ?_
    refine zw_getfield 13 f62_10 rfl g62_12_10 (hb_11 _ _ _ _) rfl ?_
    refine zw_getG W.1 16 f62_13 rfl g62_109_9 (hb_12 _ _ _ _) rfl hR.2.2.1.1 ?_
    refine zw_lmul ((Int32.toInt64 u) * W.1) 17 f62_16 rfl rfl ?_
    refine zw_lcmp (lg_cmp W.2.1 ((Int32.toInt64 u) * W.1)) 18 f62_17 rfl rfl ?_
    refine zw_if_le 21 25 f62_18 (by decide +kernel) rfl (fun hc2 => ?_) (fun hc2 => ?_)
    · refine zw_iconst 0 26 f62_25 rfl (by decide +kernel) ?_
      refine zw_zreturn f62_26 r62 u62 (by decide +kernel) ⟨_, rfl, ?_⟩
      refine zw_if_eq_t 24 f87_15 (by decide +kernel) (by decide +kernel) ?_
      refine zw_aload_n 25 f87_24 rfl rfl ?_
      refine zw_getfield 28 f87_25 rfl g87_31_11 (hb_0 _ _ _ _) rfl ?_
      refine zw_getI (nI L.1) 31 f87_28 rfl g87_164_3 (hb_33 _ _ _ _) rfl hL.1 ?_
      refine zw_istore_n _ 32 f87_31 rfl (by decide +kernel) rfl ?_
      refine zw_iconst 0 33 f87_32 rfl (by decide +kernel) ?_
      refine zw_istore_n _ 34 f87_33 rfl (by decide +kernel) rfl ?_
      have cu := wGo_u hW.1 hc1 (Int64.not_lt.mpr ((lg_cmp_le _ _).mp hc2))
      rw [show wGoR nv np P 1 so u W L = wGoX nv np P (Int32.toInt64 u) L.1 (wGo nv np P 1 so (Int32.toInt64 u) 150 W L) from if_neg (fun q => q.elim hc1 (Int64.not_lt.mpr ((lg_cmp_le _ _).mp hc2)))]
      exact lcx_go ro nv np P W L K so u I G A B hR hp hq hW hlw hL hK0 hK hn cu.1 cu.2 150 0 _ _ _ _ _ W L KQ.rf hR (hW.mo (by omega) (by omega)) hlw hL (Int64.not_lt.mpr ((lg_cmp_le _ _).mp hc2)) (by omega) (by omega) (zl1_ne rfl rfl (zl1_ne rfl rfl rfl)) (zl1_ne rfl rfl (zl1_ne rfl rfl rfl)) (zl1_ne rfl rfl zl1_eq) zl1_eq
    · refine zw_iconst 1 22 f62_21 rfl (by decide +kernel) ?_
      refine zw_goto 26 f62_22 (by decide +kernel) ?_
      refine zw_zreturn f62_26 r62 u62 (by decide +kernel) ⟨_, rfl, ?_⟩
      refine zw_if_eq_f 18 24 f87_15 (by decide +kernel) rfl (by decide +kernel) ?_
      refine zw_aload_n 19 f87_18 rfl rfl ?_
      refine zw_iconst 1 20 f87_19 rfl (by decide +kernel) ?_
      refine zw_virtual_i 23 0 0 [.ref 0, .int 1] [(0, .ref 0), (1, .int 1)] f87_20 rfl n87_78 k87_78_11 rfl (hb_0 _ _ _ _) (by decide +kernel) (Nat.le_of_ble_eq_true rfl) rfl rfl (by decide +kernel) (by decide +kernel) rfl (Nat.le_of_ble_eq_true rfl) rfl ?_
      refine zw_aload_n 1 f105_0 rfl rfl ?_
      refine zw_iload_n 2 f105_1 rfl rfl ?_
      refine zw_put _ 5 f105_2 rfl g105_70_11 (hb_0 _ _ _ _) rfl (Nat.le_of_ble_eq_true rfl) (by decide +kernel) (hi_0_7 _ _ _ _ _) ?_
      refine zw_iconst (-1) 6 f105_5 rfl (by decide +kernel) ?_
      refine zw_ireturn f105_6 r105 u105 ⟨_, rfl, ?_⟩
      refine zw_ireturn f87_23 r87 u87 ?_
      exact ⟨_, _, _, _, rfl, (KQ.i rfl KQ.rf), by rw [show wGoR nv np P 1 so u W L = (1, -1, W, L) from if_pos (Or.inr (Int64.not_le.mp (fun q => hc2 ((lg_cmp_le _ _).mpr q))))]; exact ⟨hR.k (show KQ (fun k j => decide (k = 0 ∧ j = 7)) p0 I G A B _ G A B from KQ.i (k := 0) (j := 7) (v := 1) rfl KQ.rf) ⟨rfl, rfl⟩ (fun j _ _ => by simp) (p0_w 11), hL, rfl⟩⟩
