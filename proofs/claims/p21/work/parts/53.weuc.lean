/-! ===== Euclid in 200 steps ===== -/
theorem rem_nat {x y : Int64} (hx : 0 ≤ x.toInt) (h0 : 0 ≤ y.toInt) (hy : ¬ y = 0) : (x - x / y * y).toInt = ((x.toInt.toNat % y.toInt.toNat : Nat) : Int) := by
  rw [i64_rem x y hy, Int.tmod_eq_emod_of_nonneg hx, Int.natCast_emod, Int.toNat_of_nonneg hx, Int.toNat_of_nonneg h0]
theorem mDv_z {n : Nat} {x : Int64} : mDv n x 0 = x := by
  cases n with
  | zero => rfl
  | succ n => exact if_pos rfl
theorem i64_pos {y : Int64} (h : 0 ≤ y.toInt) (hy : ¬ y = 0) : 0 < y.toInt.toNat := by
  have : ¬ y.toInt = 0 := fun q => hy (Int64.toInt_inj.mp (q.trans i64_0.symm))
  omega
theorem mDv_log : ∀ (k n : Nat) (x y : Int64), 0 ≤ x.toInt → 0 ≤ y.toInt → y.toInt.toNat < 2 ^ k → 2 * k ≤ n → (mDv n x y).toInt = (Nat.gcd x.toInt.toNat y.toInt.toNat : Int)
  | 0, n, x, y, hx, hy, hk, _ => by
    have y0 : y = 0 := Int64.toInt_inj.mp (by rw [i64_0]; rw [Nat.pow_zero] at hk; omega)
    rw [y0, mDv_z, show (0 : Int64).toInt.toNat = 0 by decide, Nat.gcd_zero_right]; omega
  | k + 1, n, x, y, hx, hy, hk, hn => by
    obtain ⟨m, rfl⟩ : ∃ m, n = m + 2 := ⟨n - 2, by omega⟩
    by_cases y0 : y = 0
    · rw [y0, mDv_z, show (0 : Int64).toInt.toNat = 0 by decide, Nat.gcd_zero_right]; omega
    have hyp := i64_pos hy y0
    have e1 := rem_nat hx hy y0
    have rl := Nat.mod_lt x.toInt.toNat hyp
    rw [mDv, if_neg y0]
    generalize x - x / y * y = r at e1 ⊢
    have er : r.toInt.toNat = x.toInt.toNat % y.toInt.toNat := by rw [e1, Int.toNat_natCast]
    have hr : 0 ≤ r.toInt := by rw [e1]; exact Int.natCast_nonneg _
    have g1 : Nat.gcd x.toInt.toNat y.toInt.toNat = Nat.gcd y.toInt.toNat r.toInt.toNat := by
      rw [er, Nat.gcd_comm x.toInt.toNat, Nat.gcd_rec y.toInt.toNat, Nat.gcd_comm]
    by_cases r0 : r = 0
    · rw [g1, r0, mDv_z, show (0 : Int64).toInt.toNat = 0 by decide, Nat.gcd_zero_right]; omega
    have hrp := i64_pos hr r0
    have e2 := rem_nat hy hr r0
    have sl := Nat.mod_lt y.toInt.toNat hrp
    rw [mDv, if_neg r0]
    generalize y - y / r * r = s at e2 ⊢
    have es : s.toInt.toNat = y.toInt.toNat % r.toInt.toNat := by rw [e2, Int.toNat_natCast]
    have hs : 0 ≤ s.toInt := by rw [e2]; exact Int.natCast_nonneg _
    have sd : y.toInt.toNat % r.toInt.toNat + r.toInt.toNat ≤ y.toInt.toNat := by
      have d := Nat.mod_add_div y.toInt.toNat r.toInt.toNat
      have q1 : 1 ≤ y.toInt.toNat / r.toInt.toNat := Nat.div_pos (by omega) hrp
      have q2 : r.toInt.toNat * 1 ≤ r.toInt.toNat * (y.toInt.toNat / r.toInt.toNat) := Nat.mul_le_mul_left _ q1
      omega
    have pw : 2 ^ (k + 1) = 2 * 2 ^ k := Nat.pow_succ'
    rw [g1, mDv_log k m r s hr hs (by rw [es]; omega) (by omega), es]
    rw [Nat.gcd_comm y.toInt.toNat, Nat.gcd_rec r.toInt.toNat y.toInt.toNat, Nat.gcd_comm]
def cGn (n : Nat) (a b : Int64) : Int64 := if mDv n a b = 0 then 1 else mDv n a b
def cGc (a b : Int64) : Int64 := cGn 200 a b
theorem cGc_n {a b : Int64} (ha : 0 ≤ a.toInt) (hb : 0 < b.toInt) : (cGc a b).toInt = (Nat.gcd a.toInt.toNat b.toInt.toNat : Int) := by
  have hl := Int64.toInt_lt b
  have h := mDv_log 63 200 a b ha (by omega) (by omega) (by omega)
  have p : 0 < Nat.gcd a.toInt.toNat b.toInt.toNat := Nat.gcd_pos_of_pos_right _ (by omega)
  unfold cGc cGn
  rw [if_neg (fun z => by rw [z, i64_0] at h; omega)]
  exact h
/-! ===== divisors of a row of numbers ===== -/
def gl : List Nat → Nat
  | [] => 0
  | x :: l => Nat.gcd x (gl l)
theorem gl_dvd {m : Nat} : ∀ l : List Nat, m ∣ gl l ↔ ∀ x ∈ l, m ∣ x
  | [] => by
    show m ∣ 0 ↔ _
    simp
  | x :: l => by
    show m ∣ Nat.gcd x (gl l) ↔ _
    rw [Nat.dvd_gcd_iff, gl_dvd l]
    simp
theorem gl_ext {c : Nat} {l : List Nat} (h : ∀ m, m ∣ c ↔ ∀ x ∈ l, m ∣ x) : c = gl l :=
  Nat.dvd_antisymm ((gl_dvd l).mpr ((h c).mp (Nat.dvd_refl _))) ((h (gl l)).mpr ((gl_dvd l).mp (Nat.dvd_refl _)))
theorem gl_mul {k : Nat} : ∀ l : List Nat, gl (l.map (fun x => k * x)) = k * gl l
  | [] => rfl
  | x :: l => by
    show Nat.gcd (k * x) (gl (l.map (fun x => k * x))) = k * Nat.gcd x (gl l)
    rw [gl_mul l, Nat.gcd_mul_left]
/-- two rows in one ratio have the same quotients by their divisors -/
theorem gl_quo {p d c r x y : Nat} {l l2 : List Nat} (hp : 0 < p) (hd : 0 < d) (hc : c = gl l) (hr : r = gl l2) (hm : l.map (fun x => p * x) = l2.map (fun y => d * y)) (hr0 : 0 < r) (hx : p * x = d * y) (cx : c ∣ x) (ry : r ∣ y) : x / c = y / r := by
  have e : p * c = d * r := by rw [hc, hr, ← gl_mul, ← gl_mul, hm]
  obtain ⟨u, hu⟩ := cx
  obtain ⟨v, hv⟩ := ry
  have c0 : 0 < c := by
    rcases Nat.eq_zero_or_pos c with z | z
    · rw [z, Nat.mul_zero] at e
      have := Nat.mul_pos hd hr0
      omega
    · exact z
  have q : p * c * u = p * c * v := by
    rw [Nat.mul_assoc, ← hu, hx, hv, e]; ac_rfl
  have uv : u = v := Nat.eq_of_mul_eq_mul_left (Nat.mul_pos hp c0) q
  rw [hu, hv, uv, Nat.mul_div_cancel_left _ c0, Nat.mul_div_cancel_left _ hr0]
