/-! ===== the class's and the reference's passing of a time are one ===== -/
def wH (W : qW) (j : Nat) : Int64 := if j < 8 then W.2.2.2.2.1 j else if j = 8 then W.2.1 else if j = 9 then W.2.2.1 else W.2.2.2.1
def wRt (ch : Nat → Int32) (sr dr : Int32) (j : Nat) : Int64 := if j < 8 then Int32.toInt64 (ch j) else if j = 8 then 1 else if j = 9 then Int32.toInt64 sr else Int32.toInt64 dr
theorem wTh_h {W : qW} {ch : Nat → Int32} {sr dr : Int32} {ab be al : Int64} {j : Nat} : wTh W ch sr dr ab be al j = mThen W.1 (wH W j) (wRt ch sr dr j) ab be al := by
  unfold wTh wH wRt
  by_cases h : j < 8
  · rw [if_pos h, if_pos h, if_pos h]
  · rw [if_neg h, if_neg h, if_neg h]
    by_cases h8 : j = 8
    · rw [if_pos h8, if_pos h8, if_pos h8]
    · rw [if_neg h8, if_neg h8, if_neg h8]
      by_cases h9 : j = 9
      · rw [if_pos h9, if_pos h9, if_pos h9]
      · rw [if_neg h9, if_neg h9, if_neg h9]
def cX (W : qW) (ch : Nat → Int32) (sr dr : Int32) (sc wy : Int64) (j : Nat) : Int64 := wH W j * sc + wRt ch sr dr j * wy
theorem adv_num {h r sc wy : Int64} (h1 : -60000000000000 ≤ h.toInt) (h2 : h.toInt ≤ 60000000000000) (r1 : -143080 ≤ r.toInt) (r2 : r.toInt ≤ 143080) (q1 : 1 ≤ sc.toInt) (q2 : sc.toInt ≤ 71400) (a0 : 0 ≤ wy.toInt) (a1 : wy.toInt ≤ 100000000) : (h * sc + r * wy).toInt = h.toInt * sc.toInt + r.toInt * wy.toInt := by
  have m1 := abs_mul h1 h2 (show 0 ≤ sc.toInt by omega) q2
  have m2 := abs_mul r1 r2 a0 a1
  have e1 : (h * sc).toInt = h.toInt * sc.toInt := i64_mul (by omega) (by omega)
  have e2 : (r * wy).toInt = r.toInt * wy.toInt := i64_mul (by omega) (by omega)
  rw [i64_add, e1, e2] <;> rw [e1, e2] <;> omega
/-- bounds of what there is and of its rates -/
def wBd (W : qW) (ch : Nat → Int32) (sr dr : Int32) : Prop := ∀ j, j < 11 → (0 ≤ (wH W j).toInt ∧ (wH W j).toInt ≤ 60000000000000) ∧ -143080 ≤ (wRt ch sr dr j).toInt ∧ (wRt ch sr dr j).toInt ≤ 143080
theorem wBd_of {nv np : Nat} {T K : Int} {P : Nat → Nat → Int32} {W : qW} (hp : MPa nv np P) (hW : wOk nv T K P W) (hT : T ≤ 40000) (hK : K ≤ 200000000) : wBd W (wCh nv np P W) (wSr nv np P W) (wDr nv np P W) := by
  have b := wR2_b hp W
  obtain ⟨⟨hg, hl, hz⟩, ht, hs, hd⟩ := hW
  have g0 : 1 ≤ W.1.toInt ∧ W.1.toInt ≤ 10000 := hg
  have t0 : 0 ≤ W.2.1.toInt ∧ W.2.1.toInt ≤ T * W.1.toInt := ht
  have s0 : 0 ≤ W.2.2.1.toInt ∧ W.2.2.1.toInt ≤ 280 * W.2.1.toInt := hs
  have d0 : 0 ≤ W.2.2.2.1.toInt ∧ W.2.2.2.1.toInt ≤ 143080 * W.2.1.toInt + K * W.1.toInt := hd
  have tg : T * W.1.toInt ≤ 40000 * W.1.toInt := Int.mul_le_mul_of_nonneg_right hT (by omega)
  have kg : K * W.1.toInt ≤ 200000000 * W.1.toInt := Int.mul_le_mul_of_nonneg_right hK (by omega)
  intro j hj
  unfold wH wRt
  rcases Nat.lt_or_ge j 8 with q | q
  · rw [if_pos q, if_pos q, Int32.toInt_toInt64]
    rcases Nat.lt_or_ge j nv with z | z
    · have l : 0 ≤ (W.2.2.2.2.1 j).toInt ∧ (W.2.2.2.2.1 j).toInt ≤ (P 54 j).toInt * W.1.toInt := hl j z
      have m := mBrim (a := P 54 j) (g := W.1) ⟨by have := (hp.2.2.1 j z).1; omega, (hp.2.2.1 j z).1.2⟩ g0
      have c := b.2.2.1 j z
      unfold mChOk at c
      omega
    · have lz : W.2.2.2.2.1 j = 0 := hz j z
      rw [lz, b.2.1 j z, i64_0, i32_0]; omega
  · rcases (show j = 8 ∨ j = 9 ∨ j = 10 by omega) with z | z | z <;> subst z
    · show (0 ≤ W.2.1.toInt ∧ W.2.1.toInt ≤ 60000000000000) ∧ -143080 ≤ (1 : Int64).toInt ∧ (1 : Int64).toInt ≤ 143080
      have : (1 : Int64).toInt = 1 := by decide
      omega
    · show (0 ≤ W.2.2.1.toInt ∧ W.2.2.1.toInt ≤ 60000000000000) ∧ -143080 ≤ (Int32.toInt64 (wSr nv np P W)).toInt ∧ (Int32.toInt64 (wSr nv np P W)).toInt ≤ 143080
      rw [Int32.toInt_toInt64]
      have := b.2.2.2
      omega
    · show (0 ≤ W.2.2.2.1.toInt ∧ W.2.2.2.1.toInt ≤ 60000000000000) ∧ -143080 ≤ (Int32.toInt64 (wDr nv np P W)).toInt ∧ (Int32.toInt64 (wDr nv np P W)).toInt ≤ 143080
      rw [Int32.toInt_toInt64]
      have := b.1.2
      unfold wDr
      omega
theorem nn_nat {x : Int64} (h : 0 ≤ x.toInt) : ((x.toInt.toNat : Nat) : Int) = x.toInt := Int.toNat_of_nonneg h
theorem cGc_dvd {a b : Int64} (ha : 0 ≤ a.toInt) (hb : 0 < b.toInt) : 0 < (cGc a b).toInt ∧ ∀ m : Nat, m ∣ (cGc a b).toInt.toNat ↔ (m ∣ a.toInt.toNat ∧ m ∣ b.toInt.toNat) := by
  have e := cGc_n ha hb
  have p : 0 < Nat.gcd a.toInt.toNat b.toInt.toNat := Nat.gcd_pos_of_pos_right _ (by omega)
  refine ⟨by omega, fun m => ?_⟩
  rw [e, Int.toNat_natCast, Nat.dvd_gcd_iff]
theorem mD_dvd2 {a b : Int64} (ha : 0 ≤ a.toInt) (hb : 0 < b.toInt) : 0 < (mD a b).toInt ∧ ∀ m : Nat, m ∣ (mD a b).toInt.toNat ↔ (m ∣ a.toInt.toNat ∧ m ∣ b.toInt.toNat) := by
  have e := mD_gcd (a := a) (b := b) (by omega) (by omega)
  rw [show a.toInt.natAbs = a.toInt.toNat by omega] at e
  have p : 0 < Nat.gcd a.toInt.toNat b.toInt.toNat := Nat.gcd_pos_of_pos_right _ (by omega)
  refine ⟨by omega, fun m => ?_⟩
  rw [e, Int.toNat_natCast, Nat.dvd_gcd_iff]
/-- divisors of the reference's chain -/
theorem wCm_dvd {W : qW} {ch : Nat → Int32} {sr dr : Int32} {ab be al : Int64} (ha : 0 < al.toInt) (hy : ∀ j, j < 11 → 0 ≤ (wTh W ch sr dr ab be al j).toInt) : ∀ k, k ≤ 11 → 0 < (wCm W ch sr dr ab be al k).toInt ∧ ∀ m : Nat, m ∣ (wCm W ch sr dr ab be al k).toInt.toNat ↔ (m ∣ al.toInt.toNat ∧ ∀ j, j < k → m ∣ (wTh W ch sr dr ab be al j).toInt.toNat)
  | 0, _ => ⟨ha, fun m => ⟨fun h => ⟨h, fun j hj => absurd hj (by omega)⟩, fun h => h.1⟩⟩
  | k + 1, hk => by
    have ih := wCm_dvd ha hy k (by omega)
    have d := mD_dvd2 (hy k (by omega)) ih.1
    show 0 < (mD (wTh W ch sr dr ab be al k) (wCm W ch sr dr ab be al k)).toInt ∧ _
    refine ⟨d.1, fun m => (d.2 m).trans ⟨fun h => ⟨((ih.2 m).mp h.2).1, fun j hj => ?_⟩, fun h => ⟨h.2 k (by omega), (ih.2 m).mpr ⟨h.1, fun j hj => h.2 j (by omega)⟩⟩⟩⟩
    by_cases e : j = k
    · rw [e]; exact h.1
    · exact ((ih.2 m).mp h.2).2 j (by omega)
/-- divisors of the class's chain -/
theorem cCm_dvd {W : qW} {ch : Nat → Int32} {sr dr : Int32} {sc wy : Int64} {nv : Nat} (hn : nv ≤ 8) (ha : 0 < (W.1 * sc).toInt) (hx : ∀ j, j < 11 → 0 ≤ (cX W ch sr dr sc wy j).toInt) : ∀ k, k ≤ nv → 0 < (cCm W ch sr dr sc wy k).toInt ∧ ∀ m : Nat, m ∣ (cCm W ch sr dr sc wy k).toInt.toNat ↔ (m ∣ (W.1 * sc).toInt.toNat ∧ m ∣ (cX W ch sr dr sc wy 8).toInt.toNat ∧ m ∣ (cX W ch sr dr sc wy 9).toInt.toNat ∧ m ∣ (cX W ch sr dr sc wy 10).toInt.toNat ∧ ∀ j, j < k → m ∣ (cX W ch sr dr sc wy j).toInt.toNat)
  | 0, _ => by
    have e8 : cX W ch sr dr sc wy 8 = W.2.1 * sc + wy := by
      show W.2.1 * sc + 1 * wy = _
      rw [Int64.one_mul]
    have e9 : cX W ch sr dr sc wy 9 = W.2.2.1 * sc + Int32.toInt64 sr * wy := rfl
    have e10 : cX W ch sr dr sc wy 10 = W.2.2.2.1 * sc + Int32.toInt64 dr * wy := rfl
    have h8 := hx 8 (by omega)
    have h9 := hx 9 (by omega)
    have h10 := hx 10 (by omega)
    rw [e8] at h8
    rw [e9] at h9
    rw [e10] at h10
    rw [e8, e9, e10, cCm, cC2]
    have d1 := cGc_dvd h8 ha
    have d2 := cGc_dvd h9 d1.1
    have d3 := cGc_dvd h10 d2.1
    refine ⟨d3.1, fun m => ?_⟩
    refine (d3.2 m).trans ⟨fun h => ?_, fun h => ?_⟩
    · have q := (d2.2 m).mp h.2
      have r := (d1.2 m).mp q.2
      exact ⟨r.2, r.1, q.1, h.1, fun j hj => absurd hj (by omega)⟩
    · exact ⟨h.2.2.2.1, (d2.2 m).mpr ⟨h.2.2.1, (d1.2 m).mpr ⟨h.2.1, h.1⟩⟩⟩
  | k + 1, hk => by
    have ih := cCm_dvd hn ha hx k (by omega)
    by_cases c : 1 < cCm W ch sr dr sc wy k
    · rw [cCm_y c]
      have ek : cX W ch sr dr sc wy k = W.2.2.2.2.1 k * sc + Int32.toInt64 (ch k) * wy := by
        unfold cX wH wRt
        rw [if_pos (by omega), if_pos (by omega)]
      have hk0 := hx k (by omega)
      rw [ek] at hk0
      have d := cGc_dvd hk0 ih.1
      refine ⟨d.1, fun m => (d.2 m).trans ⟨fun h => ?_, fun h => ?_⟩⟩
      · have q := (ih.2 m).mp h.2
        refine ⟨q.1, q.2.1, q.2.2.1, q.2.2.2.1, fun j hj => ?_⟩
        by_cases e : j = k
        · rw [e, ek]; exact h.1
        · exact q.2.2.2.2 j (by omega)
      · refine ⟨?_, (ih.2 m).mpr ⟨h.1, h.2.1, h.2.2.1, h.2.2.2.1, fun j hj => h.2.2.2.2 j (by omega)⟩⟩
        have := h.2.2.2.2 k (by omega)
        rw [ek] at this; exact this
    · have e : cCm W ch sr dr sc wy (k + 1) = cCm W ch sr dr sc wy k := by rw [cCm, if_neg c]
      rw [e]
      have one : (cCm W ch sr dr sc wy k).toInt.toNat = 1 := by
        rw [i64_lt] at c
        have e1 : (1 : Int64).toInt = 1 := by decide
        have := ih.1
        omega
      refine ⟨ih.1, fun m => ⟨fun h => ?_, fun h => (ih.2 m).mpr ⟨h.1, h.2.1, h.2.2.1, h.2.2.2.1, fun j hj => h.2.2.2.2 j (by omega)⟩⟩⟩
      have m1 : m = 1 := by rw [one] at h; exact Nat.dvd_one.mp h
      subst m1
      exact ⟨Nat.one_dvd _, Nat.one_dvd _, Nat.one_dvd _, Nat.one_dvd _, fun j hj => Nat.one_dvd _⟩
