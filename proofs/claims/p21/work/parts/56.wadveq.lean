/-! ===== one passing of a time ===== -/
theorem quo64 {x y c r : Int64} (hx : 0 ≤ x.toInt) (hy : 0 ≤ y.toInt) (hc : 0 < c.toInt) (hr : 0 < r.toInt) (h : x.toInt.toNat / c.toInt.toNat = y.toInt.toNat / r.toInt.toNat) : x / c = y / r := by
  apply Int64.toInt_inj.mp
  rw [i64_div hx hc, i64_div hy hr, ← nn_nat hx, ← nn_nat hy, ← nn_nat (x := c) (by omega), ← nn_nat (x := r) (by omega), ← Int.natCast_ediv, ← Int.natCast_ediv, h]
theorem adv_eq {nv np : Nat} {T K : Int} {P : Nat → Nat → Int32} {W : qW} {sc tA tB : Int64} (hp : MPa nv np P) (hW : wOk nv T K P W) (hT : T ≤ 40000) (hK : K ≤ 200000000) (q1 : 1 ≤ sc.toInt) (q2 : sc.toInt ≤ 71400) (htB : tB = W.1 * sc) (a0 : 0 < tA.toInt) (a1 : tA.toInt ≤ 100000000)
    (hph : ∀ v, v < nv → 0 ≤ (W.2.2.2.2.1 v).toInt * tB.toInt + (wCh nv np P W v).toInt * tA.toInt * W.1.toInt) : cAdv W (wCh nv np P W) (wSr nv np P W) (wDr nv np P W) nv sc tA = wPass nv np P W tA tB := by
  have bd := wBd_of hp hW hT hK
  have b := wR2_b hp W
  have hn8 := hp.1
  have hg : 1 ≤ W.1.toInt ∧ W.1.toInt ≤ 10000 := hW.1.1
  have hz : ∀ v, nv ≤ v → W.2.2.2.2.1 v = 0 := hW.1.2.2
  have hgq := mul_bd (a := W.1.toInt) (b := sc.toInt) (A := 10000) (B := 71400) (by omega) hg.2 (by omega) q2
  have eF : (W.1 * sc).toInt = W.1.toInt * sc.toInt := i64_mul (by omega) (by omega)
  have eB : tB.toInt = W.1.toInt * sc.toInt := by rw [htB, eF]
  have F0 : 0 < W.1.toInt * sc.toInt := Int.mul_pos (by omega) (by omega)
  generalize hch : wCh nv np P W = ch at *
  generalize hsr : wSr nv np P W = sr at *
  generalize hdr : wDr nv np P W = dr at *
  obtain ⟨e, g', b', d, a', e0, g0, b0, d0, a0', bq, eg, ea, eb, wab, wbe, wal, wdg, wdb⟩ := pass_w hg.1 hg.2 a0 q1 q2 eB
  have gq : g' * sc.toInt = d * b' := by
    have : e * (g' * sc.toInt) = e * (d * b') := by
      have h1 : e * (g' * sc.toInt) = W.1.toInt * sc.toInt := by rw [eg]; ac_rfl
      rw [h1, ← eB, eb]; ac_rfl
    exact Int.eq_of_mul_eq_mul_left (by omega) this
  -- the two rows of numbers
  have X : ∀ j, j < 11 → (cX W ch sr dr sc tA j).toInt = (wH W j).toInt * sc.toInt + (wRt ch sr dr j).toInt * tA.toInt := fun j hj => adv_num (by have := (bd j hj).1; omega) (bd j hj).1.2 (bd j hj).2.1 (bd j hj).2.2 q1 q2 (by omega) a1
  have aa : a' ≤ tA.toInt := by
    have : 1 * a' ≤ d * a' := Int.mul_le_mul_of_nonneg_right (by omega) (by omega)
    omega
  have gg : g' ≤ 10000 := by
    have : 1 * g' ≤ e * g' := Int.mul_le_mul_of_nonneg_right (by omega) (by omega)
    omega
  have Y : ∀ j, j < 11 → (wTh W ch sr dr (wAb tA tB) (wBe tA tB) (wAl W.1 tA tB) j).toInt = (wH W j).toInt * b' + (wRt ch sr dr j).toInt * a' * g' := by
    intro j hj
    rw [wTh_h]
    have n := then_num (had := wH W j) (rate := wRt ch sr dr j) (ab := wAb tA tB) (by have := (bd j hj).1; omega) (bd j hj).1.2 (bd j hj).2.1 (bd j hj).2.2 (by show 0 ≤ (tA / mD tA tB).toInt; omega) (by show (tA / mD tA tB).toInt ≤ _; omega) wdg (by omega) (by omega) wdb (by omega) gg
    have n1 := n.1
    rw [show (wAb tA tB).toInt = a' from wab] at n1
    exact n1
  have al0 : 0 < (wAl W.1 tA tB).toInt := by
    show 0 < (W.1 / mD W.1 (tB / mD tA tB) * (tB / mD tA tB)).toInt
    rw [wal]; exact Int.mul_pos g0 (Int.mul_pos e0 b0)
  have alg : (wAl W.1 tA tB).toInt = W.1.toInt * b' := by
    show (W.1 / mD W.1 (tB / mD tA tB) * (tB / mD tA tB)).toInt = _
    rw [wal, eg]; ac_rfl
  have XY : ∀ j, j < 11 → g' * (cX W ch sr dr sc tA j).toInt = d * (wTh W ch sr dr (wAb tA tB) (wBe tA tB) (wAl W.1 tA tB) j).toInt := by
    intro j hj
    rw [X j hj, Y j hj, ea, Int.mul_add, Int.mul_add]
    have h1 : g' * ((wH W j).toInt * sc.toInt) = (wH W j).toInt * (g' * sc.toInt) := by ac_rfl
    rw [h1, gq]
    congr 1 <;> ac_rfl
  have FA : g' * (W.1 * sc).toInt = d * (wAl W.1 tA tB).toInt := by
    rw [eF, alg]
    have h1 : g' * (W.1.toInt * sc.toInt) = W.1.toInt * (g' * sc.toInt) := by ac_rfl
    rw [h1, gq]; ac_rfl
  have Xn : ∀ j, j < 11 → 0 ≤ (cX W ch sr dr sc tA j).toInt := by
    intro j hj
    rcases Nat.lt_or_ge j nv with z | z
    · have h := hph j z
      rw [X j hj]
      unfold wH wRt
      rw [if_pos (by omega), if_pos (by omega), Int32.toInt_toInt64]
      rw [eB] at h
      have h2 : (W.2.2.2.2.1 j).toInt * (W.1.toInt * sc.toInt) + (ch j).toInt * tA.toInt * W.1.toInt = W.1.toInt * ((W.2.2.2.2.1 j).toInt * sc.toInt + (ch j).toInt * tA.toInt) := by
        rw [Int.mul_add]
        congr 1 <;> ac_rfl
      rw [h2] at h
      exact le_c (c := W.1.toInt) (by omega) (by rw [Int.mul_zero]; exact h)
    · have hb := bd j hj
      have rn : 0 ≤ (wRt ch sr dr j).toInt := by
        unfold wRt
        rcases Nat.lt_or_ge j 8 with q | q
        · rw [if_pos q, Int32.toInt_toInt64, b.2.1 j z, i32_0]; omega
        · rcases (show j = 8 ∨ j = 9 ∨ j = 10 by omega) with y | y | y <;> subst y
          · show 0 ≤ (1 : Int64).toInt
            decide
          · show 0 ≤ (Int32.toInt64 sr).toInt
            rw [Int32.toInt_toInt64]; exact b.2.2.2.1
          · show 0 ≤ (Int32.toInt64 dr).toInt
            rw [Int32.toInt_toInt64, ← hdr]; exact b.1.2.1
      rw [X j hj]
      have m1 := Int.mul_nonneg hb.1.1 (show 0 ≤ sc.toInt by omega)
      have m2 := Int.mul_nonneg rn (show 0 ≤ tA.toInt by omega)
      omega
  have Yn : ∀ j, j < 11 → 0 ≤ (wTh W ch sr dr (wAb tA tB) (wBe tA tB) (wAl W.1 tA tB) j).toInt := by
    intro j hj
    have h := Int.mul_nonneg (show 0 ≤ g' by omega) (Xn j hj)
    rw [XY j hj] at h
    exact le_c (c := d) d0 (by rw [Int.mul_zero]; exact h)
  have cd := cCm_dvd (ch := ch) (sr := sr) (dr := dr) (sc := sc) (wy := tA) hn8 (by rw [eF]; exact F0) Xn nv (Nat.le_refl _)
  have rd := wCm_dvd (ch := ch) (sr := sr) (dr := dr) al0 Yn 11 (Nat.le_refl _)
  have Xz : ∀ j, nv ≤ j → j < 8 → (cX W ch sr dr sc tA j).toInt.toNat = 0 := by
    intro j h1 h2
    rw [X j (by omega)]
    unfold wH wRt
    rw [if_pos h2, if_pos h2, hz j h1, b.2.1 j h1, Int32.toInt_toInt64, i64_0, i32_0]
    simp
  have hc : (cCm W ch sr dr sc tA nv).toInt.toNat = gl ((W.1 * sc).toInt.toNat :: (List.range 11).map (fun j => (cX W ch sr dr sc tA j).toInt.toNat)) := by
    apply gl_ext
    intro m
    rw [cd.2 m]
    constructor
    · rintro ⟨h0, h8, h9, h10, hl⟩ x hx
      rcases List.mem_cons.mp hx with rfl | hx
      · exact h0
      · obtain ⟨j, hj, rfl⟩ := List.mem_map.mp hx
        have hj := List.mem_range.mp hj
        rcases Nat.lt_or_ge j nv with z | z
        · exact hl j z
        · rcases Nat.lt_or_ge j 8 with y | y
          · rw [Xz j z y]; exact Nat.dvd_zero _
          · rcases (show j = 8 ∨ j = 9 ∨ j = 10 by omega) with q | q | q <;> subst q
            · exact h8
            · exact h9
            · exact h10
    · intro h
      have g : ∀ j, j < 11 → m ∣ (cX W ch sr dr sc tA j).toInt.toNat := fun j hj => h _ (List.mem_cons_of_mem _ (List.mem_map.mpr ⟨j, List.mem_range.mpr hj, rfl⟩))
      exact ⟨h _ List.mem_cons_self, g 8 (by omega), g 9 (by omega), g 10 (by omega), fun j hj => g j (by omega)⟩
  have hr : (wCm W ch sr dr (wAb tA tB) (wBe tA tB) (wAl W.1 tA tB) 11).toInt.toNat = gl ((wAl W.1 tA tB).toInt.toNat :: (List.range 11).map (fun j => (wTh W ch sr dr (wAb tA tB) (wBe tA tB) (wAl W.1 tA tB) j).toInt.toNat)) := by
    apply gl_ext
    intro m
    rw [rd.2 m]
    constructor
    · rintro ⟨h0, hl⟩ x hx
      rcases List.mem_cons.mp hx with rfl | hx
      · exact h0
      · obtain ⟨j, hj, rfl⟩ := List.mem_map.mp hx
        exact hl j (List.mem_range.mp hj)
    · intro h
      exact ⟨h _ List.mem_cons_self, fun j hj => h _ (List.mem_cons_of_mem _ (List.mem_map.mpr ⟨j, List.mem_range.mpr hj, rfl⟩))⟩
  have nat_eq : ∀ x y : Int64, 0 ≤ x.toInt → 0 ≤ y.toInt → g' * x.toInt = d * y.toInt → g'.toNat * x.toInt.toNat = d.toNat * y.toInt.toNat := by
    intro x y hx hy h
    have h2 : ((g'.toNat * x.toInt.toNat : Nat) : Int) = ((d.toNat * y.toInt.toNat : Nat) : Int) := by
      rw [Int.natCast_mul, Int.natCast_mul, nn_nat hx, nn_nat hy, Int.toNat_of_nonneg (show 0 ≤ g' by omega), Int.toNat_of_nonneg (show 0 ≤ d by omega), h]
    exact Int.ofNat.inj h2
  have hm : ((W.1 * sc).toInt.toNat :: (List.range 11).map (fun j => (cX W ch sr dr sc tA j).toInt.toNat)).map (fun x => g'.toNat * x) = ((wAl W.1 tA tB).toInt.toNat :: (List.range 11).map (fun j => (wTh W ch sr dr (wAb tA tB) (wBe tA tB) (wAl W.1 tA tB) j).toInt.toNat)).map (fun y => d.toNat * y) := by
    rw [List.map_cons, List.map_cons, List.map_map, List.map_map]
    exact List.cons_eq_cons.mpr ⟨nat_eq _ _ (by rw [eF]; omega) (by omega) FA, List.map_congr_left (fun j hj => nat_eq _ _ (Xn j (List.mem_range.mp hj)) (Yn j (List.mem_range.mp hj)) (XY j (List.mem_range.mp hj)))⟩
  have quo : ∀ x y : Int64, 0 ≤ x.toInt → 0 ≤ y.toInt → g' * x.toInt = d * y.toInt → (cCm W ch sr dr sc tA nv).toInt.toNat ∣ x.toInt.toNat → (wCm W ch sr dr (wAb tA tB) (wBe tA tB) (wAl W.1 tA tB) 11).toInt.toNat ∣ y.toInt.toNat → x / cCm W ch sr dr sc tA nv = y / wCm W ch sr dr (wAb tA tB) (wBe tA tB) (wAl W.1 tA tB) 11 := by
    intro x y hx hy h d1 d2
    exact quo64 hx hy cd.1 rd.1 (gl_quo (p := g'.toNat) (d := d.toNat) (by omega) (by omega) hc hr hm (by have := rd.1; omega) (nat_eq x y hx hy h) d1 d2)
  have cself := (cd.2 _).mp (Nat.dvd_refl _)
  have rself := (rd.2 _).mp (Nat.dvd_refl _)
  have qF := quo _ _ (by rw [eF]; omega) (by omega) FA cself.1 rself.1
  have q8 := quo _ _ (Xn 8 (by omega)) (Yn 8 (by omega)) (XY 8 (by omega)) cself.2.1 (rself.2 8 (by omega))
  have q9 := quo _ _ (Xn 9 (by omega)) (Yn 9 (by omega)) (XY 9 (by omega)) cself.2.2.1 (rself.2 9 (by omega))
  have q10 := quo _ _ (Xn 10 (by omega)) (Yn 10 (by omega)) (XY 10 (by omega)) cself.2.2.2.1 (rself.2 10 (by omega))
  have ql : (fun j => if j < nv then (W.2.2.2.2.1 j * sc + Int32.toInt64 (ch j) * tA) / cCm W ch sr dr sc tA nv else W.2.2.2.2.1 j) = fun j => mThen W.1 (W.2.2.2.2.1 j) (Int32.toInt64 (ch j)) (wAb tA tB) (wBe tA tB) (wAl W.1 tA tB) / wCm W ch sr dr (wAb tA tB) (wBe tA tB) (wAl W.1 tA tB) 11 := by
    funext j
    by_cases c : j < nv
    · rw [if_pos c]
      have q := quo _ _ (Xn j (by omega)) (Yn j (by omega)) (XY j (by omega)) (cself.2.2.2.2 j c) (rself.2 j (by omega))
      rw [wTh_h] at q
      unfold cX wH wRt at q
      rw [if_pos (by omega), if_pos (by omega)] at q
      exact q
    · rw [if_neg c, hz j (by omega), b.2.1 j (by omega)]
      exact mThen_z.symm
  have e8 : cX W ch sr dr sc tA 8 = W.2.1 * sc + tA := by
    show W.2.1 * sc + 1 * tA = _
    rw [Int64.one_mul]
  rw [e8] at q8
  unfold cAdv wPass
  rw [hch, hsr, hdr]
  unfold wPas
  rw [qF]
  by_cases c : 10000 < wAl W.1 tA tB / wCm W ch sr dr (wAb tA tB) (wBe tA tB) (wAl W.1 tA tB) 11
  · rw [if_pos c, if_pos c]
  · rw [if_neg c, if_neg c]
    unfold cAdvd wPassed
    rw [qF, q8, ← q9, ← q10, ql]
    rfl
