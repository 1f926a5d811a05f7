/-! ===== hands at the reference ===== -/
def qV (n : Nat) (a : Int32) : Prop := a.toNatClampNeg < n ∧ a = nI a.toNatClampNeg
theorem qV.of {n : Nat} {a : Int32} (hn : n < 100) (h0 : ¬ a < 0) (h1 : ¬ nI n - 1 < a) : qV n a := ix_lt hn h0 h1
theorem qV.n0 {n : Nat} {a : Int32} (hn : n < 100) (h0 : a < 0) : ¬ qV n a := by
  rintro ⟨h1, h2⟩
  rw [h2, i32_lt, nI_toInt (by omega), i32_0] at h0
  omega
theorem qV.n1 {n : Nat} {a : Int32} (hn : n < 100) (h0 : nI n - 1 < a) : ¬ qV n a := by
  rintro ⟨h1, h2⟩
  have e1 : (1 : Int32).toInt = 1 := by decide
  have e2 := nI_toInt (n := n) (by omega)
  have e3 : (nI n - 1 : Int32).toInt = n - 1 := by rw [i32_sub, e2, e1] <;> rw [e2, e1] <;> omega
  rw [h2, i32_lt, nI_toInt (by omega), e3] at h0
  omega
theorem qV.ofc {n : Nat} {a : Int32} (hn : n < 100) (h0 : ¬ a < 0) (h1 : ¬ nI n ≤ a) : qV n a := by
  rw [i32_lt, i32_0] at h0
  rw [Int32.le_iff_toInt_le, nI_toInt (by omega)] at h1
  have e4 : a.toNatClampNeg = a.toInt.toNat := rfl
  refine ⟨by omega, ?_⟩
  apply Int32.toInt_inj.mp
  rw [nI_toInt (by omega)]
  omega
theorem qV.n2 {n : Nat} {a : Int32} (hn : n < 100) (h0 : nI n ≤ a) : ¬ qV n a := by
  rintro ⟨h1, h2⟩
  rw [h2, Int32.le_iff_toInt_le, nI_toInt (by omega), nI_toInt (by omega)] at h0
  omega
theorem qV.n3 {n m : Nat} {a N : Int32} (hn : n ≤ m) (hm : m < 100) (hN : N.toInt = m) (h0 : N ≤ a) : ¬ qV n a := by
  rintro ⟨h1, h2⟩
  rw [h2, Int32.le_iff_toInt_le, nI_toInt (by omega)] at h0
  omega
theorem qV.nm {n : Nat} : ¬ qV n (-1) := by
  rintro ⟨h1, h2⟩
  exact absurd h2 (by decide)
/-- a place that lies below -/
def qD (n : Nat) (a b : Int32) : Prop := b = -1 ∨ (qV n b ∧ ¬ b ≤ a)
def qRg (a lo hi : Int32) : Prop := ¬ a < lo ∧ ¬ hi < a
theorem mTo.mono {n m lo : Nat} {x : Int32} (h : mTo n lo x) (hm : n ≤ m) : mTo m lo x := h.elim Or.inl (fun ⟨t, a, b, c⟩ => Or.inr ⟨t, a, by omega, c⟩)
theorem qD.to {n : Nat} {a b : Int32} (hn : n < 100) (ha : qV n a) (h : qD n a b) : mTo n (a.toNatClampNeg + 1) b := by
  rcases h with h | ⟨h1, h2⟩
  · exact Or.inl h
  · refine Or.inr ⟨b.toNatClampNeg, ?_, h1.1, h1.2⟩
    rw [Int32.le_iff_toInt_le, h1.2, ha.2, nI_toInt (by have := h1.1; omega), nI_toInt (by have := ha.1; omega)] at h2
    omega
theorem qD.to0 {n : Nat} {a b : Int32} (h : qD n a b) : mTo n 0 b := by
  rcases h with h | ⟨h1, h2⟩
  · exact Or.inl h
  · exact Or.inr ⟨b.toNatClampNeg, Nat.zero_le _, h1.1, h1.2⟩
theorem qRg.i {a lo hi : Int32} {l h : Int} (hl : lo.toInt = l) (hh : hi.toInt = h) (q : qRg a lo hi) : l ≤ a.toInt ∧ a.toInt ≤ h := by
  obtain ⟨q1, q2⟩ := q
  rw [i32_lt] at q1 q2
  omega
section ZMP
variable {nv np : Nat} {A A' : Nat → Nat → Int32}
theorem upd_c {f : Nat → Int32} {P : Int32 → Prop} {k v : Nat} {x : Int32} (hx : v = k → P x) (hf : ¬ v = k → P (f v)) : P (upd f k x v) := by
  by_cases e : v = k
  · rw [e, upd_s]; exact hx e
  · rw [upd_o e]; exact hf e
theorem MPa.vs {b hi : Int32} (h : MPa nv np A) (h8 : nv < 8) (hb : 1 ≤ b.toInt ∧ b.toInt ≤ 200) (hh : hi = 0 ∨ hi = b) (e4 : A' 54 = upd (A 54) nv b) (e5 : A' 55 = upd (A 55) nv hi) (e6 : A' 56 = upd (A 56) nv 0) (e7 : A' 57 = upd (A 57) nv (-1)) (e8 : A' 58 = upd (A 58) nv (-1)) (e9 : A' 59 = upd (A 59) nv (-1)) (e0 : A' 60 = A 60) (e1 : A' 61 = A 61) (e2 : A' 62 = A 62) : MPa (nv + 1) np A' := by
  refine ⟨by omega, h.2.1, fun v hv => ?_, fun p hp => ?_⟩
  · unfold mPv
    rw [e4, e5, e6, e7, e8, e9]
    by_cases e : v = nv
    · subst e
      rw [upd_s, upd_s, upd_s, upd_s, upd_s, upd_s]
      refine ⟨hb, ?_, by rw [i32_0]; omega, Or.inl rfl, Or.inl rfl, Or.inl rfl⟩
      rcases hh with hh | hh
      · rw [hh, i32_0]; omega
      · rw [hh]; omega
    · rw [upd_o e, upd_o e, upd_o e, upd_o e, upd_o e, upd_o e]
      obtain ⟨a, b, c, d, f, g⟩ := h.2.2.1 v (by omega)
      exact ⟨a, b, c, d, f.mono (by omega), g.mono (by omega)⟩
  · unfold mPp
    rw [e0, e1, e2]
    obtain ⟨a, b, c⟩ := h.2.2.2 p hp
    refine ⟨a.mono (by omega), b, c.elim Or.inl (fun ⟨f, f1, f2, f3⟩ => Or.inr ⟨f, by omega, f2, f3.mono (by omega)⟩)⟩
theorem MPa.v1 {w : Nat} (h : MPa nv np A) (hw : w < nv) (hv : mPv nv np A' w) (e : ∀ k, 54 ≤ k → k ≤ 59 → ∀ v, ¬ v = w → A' k v = A k v) (e0 : A' 60 = A 60) (e1 : A' 61 = A 61) (e2 : A' 62 = A 62) : MPa nv np A' := by
  refine ⟨h.1, h.2.1, fun v hv2 => ?_, fun p hp => ?_⟩
  · by_cases z : v = w
    · rw [z]; exact hv
    · unfold mPv
      rw [e 54 (by omega) (by omega) v z, e 55 (by omega) (by omega) v z, e 56 (by omega) (by omega) v z, e 57 (by omega) (by omega) v z, e 58 (by omega) (by omega) v z, e 59 (by omega) (by omega) v z]
      exact h.2.2.1 v hv2
  · unfold mPp
    rw [e0, e1, e2]
    exact h.2.2.2 p hp
theorem MPa.mk {w : Nat} {hi lo : Int32} (h : MPa nv np A) (hw : w < nv) (hh : 1 ≤ hi.toInt ∧ hi.toInt ≤ (A 54 w).toInt) (hl : 0 ≤ lo.toInt ∧ lo.toInt ≤ hi.toInt) (e5 : A' 55 = upd (A 55) w hi) (e6 : A' 56 = upd (A 56) w lo) (ee : ∀ k, ¬ k = 55 → ¬ k = 56 → A' k = A k) : MPa nv np A' := by
  refine h.v1 hw ?_ (fun k k1 k2 v hv => ?_) (ee 60 (by omega) (by omega)) (ee 61 (by omega) (by omega)) (ee 62 (by omega) (by omega))
  · obtain ⟨a, b, c, d⟩ := h.2.2.1 w hw
    unfold mPv
    rw [e5, e6, upd_s, upd_s, ee 54 (by omega) (by omega), ee 57 (by omega) (by omega), ee 58 (by omega) (by omega), ee 59 (by omega) (by omega)]
    exact ⟨a, ⟨by omega, hh.2⟩, ⟨hl.1, by omega⟩, d⟩
  · by_cases z : k = 55
    · rw [z, e5, upd_o hv]
    · by_cases y : k = 56
      · rw [y, e6, upd_o hv]
      · rw [ee k z y]
theorem MPa.ow {w : Nat} {x : Int32} (h : MPa nv np A) (hw : w < nv) (hx : mTo np 0 x) (e7 : A' 57 = upd (A 57) w x) (ee : ∀ k, ¬ k = 57 → A' k = A k) : MPa nv np A' := by
  refine h.v1 hw ?_ (fun k k1 k2 v hv => ?_) (ee 60 (by omega)) (ee 61 (by omega)) (ee 62 (by omega))
  · obtain ⟨a, b, c, d, e, f⟩ := h.2.2.1 w hw
    unfold mPv
    rw [e7, upd_s, ee 54 (by omega), ee 55 (by omega), ee 56 (by omega), ee 58 (by omega), ee 59 (by omega)]
    exact ⟨a, b, c, hx, e, f⟩
  · by_cases z : k = 57
    · rw [z, e7, upd_o hv]
    · rw [ee k z]
theorem MPa.ti {w : Nat} {x : Int32} (h : MPa nv np A) (hw : w < nv) (hx : mTo nv (w + 1) x) (e7 : A' 58 = upd (A 58) w x) (ee : ∀ k, ¬ k = 58 → A' k = A k) : MPa nv np A' := by
  refine h.v1 hw ?_ (fun k k1 k2 v hv => ?_) (ee 60 (by omega)) (ee 61 (by omega)) (ee 62 (by omega))
  · obtain ⟨a, b, c, d, e, f⟩ := h.2.2.1 w hw
    unfold mPv
    rw [e7, upd_s, ee 54 (by omega), ee 55 (by omega), ee 56 (by omega), ee 57 (by omega), ee 59 (by omega)]
    exact ⟨a, b, c, d, hx, f⟩
  · by_cases z : k = 58
    · rw [z, e7, upd_o hv]
    · rw [ee k z]
theorem MPa.ov {w : Nat} {x : Int32} (h : MPa nv np A) (hw : w < nv) (hx : mTo nv (w + 1) x) (e7 : A' 59 = upd (A 59) w x) (ee : ∀ k, ¬ k = 59 → A' k = A k) : MPa nv np A' := by
  refine h.v1 hw ?_ (fun k k1 k2 v hv => ?_) (ee 60 (by omega)) (ee 61 (by omega)) (ee 62 (by omega))
  · obtain ⟨a, b, c, d, e, f⟩ := h.2.2.1 w hw
    unfold mPv
    rw [e7, upd_s, ee 54 (by omega), ee 55 (by omega), ee 56 (by omega), ee 57 (by omega), ee 58 (by omega)]
    exact ⟨a, b, c, d, e, hx⟩
  · by_cases z : k = 59
    · rw [z, e7, upd_o hv]
    · rw [ee k z]
theorem MPa.pi {f t a : Int32} (h : MPa nv np A) (h14 : np < 14) (ha : 1 ≤ a.toInt ∧ a.toInt ≤ 20) (ht : mTo nv 0 t) (hf : f = -1 ∨ ∃ w, w < nv ∧ f = nI w ∧ mTo nv (w + 1) t) (e0 : A' 60 = upd (A 60) np f) (e1 : A' 61 = upd (A 61) np t) (e2 : A' 62 = upd (A 62) np a) (ee : ∀ k, k ≤ 59 → A' k = A k) : MPa nv (np + 1) A' := by
  refine ⟨h.1, by omega, fun v hv => ?_, fun p hp => ?_⟩
  · unfold mPv
    rw [ee 54 (by omega), ee 55 (by omega), ee 56 (by omega), ee 57 (by omega), ee 58 (by omega), ee 59 (by omega)]
    obtain ⟨a, b, c, d, g⟩ := h.2.2.1 v hv
    exact ⟨a, b, c, d.mono (by omega), g⟩
  · unfold mPp
    rw [e0, e1, e2]
    by_cases z : p = np
    · rw [z, upd_s, upd_s, upd_s]; exact ⟨ht, ha, hf⟩
    · rw [upd_o z, upd_o z, upd_o z]; exact h.2.2.2 p (by omega)
theorem MPa.am {p : Nat} {x : Int32} (h : MPa nv np A) (hx : 1 ≤ x.toInt ∧ x.toInt ≤ 20) (e2 : A' 62 = upd (A 62) p x) (ee : ∀ k, ¬ k = 62 → A' k = A k) : MPa nv np A' := by
  refine (h.x (q := p) hx).pe (fun k k1 k2 => ?_)
  unfold PAx updA
  by_cases z : k = 62
  · rw [z, e2, if_pos rfl]
  · rw [ee k z, if_neg z]
theorem wInv.pa {T K : Int} {W : qW} (h : wInv nv T K A W) (e : A' 54 = A 54) : wInv nv T K A' W := ⟨MW.pa h.1 e, h.2⟩
theorem wInv.vs {T K : Int} {W : qW} {b : Int32} (h : wInv nv T K A W) (hb : 1 ≤ b.toInt) (e4 : A' 54 = upd (A 54) nv b) : wInv (nv + 1) T K A' W := by
  obtain ⟨⟨⟨a, b1, c⟩, d⟩, e⟩ := h
  refine ⟨⟨⟨a, fun v hv => ?_, fun v hv => c v (by omega)⟩, d⟩, e⟩
  rw [e4]
  by_cases z : v = nv
  · rw [z, upd_s, c nv (Nat.le_refl _), i64_0]
    exact ⟨by omega, Int.mul_nonneg (by omega) (by omega)⟩
  · rw [upd_o z]; exact b1 v (by omega)
/-- poured by hand -/
def wFill (brim over : Nat → Int32) (w n : Int32) (W : qW) : qW := (W.1, W.2.1, W.2.2.1, (qPour brim over W.1 9 W.2.2.2.2.1 W.2.2.2.1 w (Int32.toInt64 n * W.1)).2, (qPour brim over W.1 9 W.2.2.2.2.1 W.2.2.2.1 w (Int32.toInt64 n * W.1)).1, W.2.2.2.2.2)
theorem wInv.fi {T K : Int} {W : qW} {w n : Int32} (hp : MPa nv np A) (h : wInv nv T K A W) (hT : T ≤ 40000) (hK : K ≤ 200000000) (hn : 1 ≤ n.toInt ∧ n.toInt ≤ 1000) (hw : mTo nv 0 w) : wInv nv T (K + 1000) A (wFill (A 54) (A 59) w n W) := by
  obtain ⟨⟨⟨a, b1, c⟩, d1, d2, d3⟩, e1, e2⟩ := h
  have hg : 1 ≤ W.1.toInt ∧ W.1.toInt ≤ 10000 := a
  have t0 : 0 ≤ W.2.1.toInt ∧ W.2.1.toInt ≤ T * W.1.toInt := d1
  have r0 : 0 ≤ W.2.2.2.1.toInt ∧ W.2.2.2.1.toInt ≤ 143080 * W.2.1.toInt + K * W.1.toInt := d3
  have tg : T * W.1.toInt ≤ 40000 * W.1.toInt := Int.mul_le_mul_of_nonneg_right hT (by omega)
  have kg : K * W.1.toInt ≤ 200000000 * W.1.toInt := Int.mul_le_mul_of_nonneg_right hK (by omega)
  have m := mul_bd (a := n.toInt) (b := W.1.toInt) (A := 1000) (B := 10000) (by omega) hn.2 (by omega) hg.2
  have em : (Int32.toInt64 n * W.1).toInt = n.toInt * W.1.toInt := by
    rw [i64_mul, Int32.toInt_toInt64] <;> rw [Int32.toInt_toInt64] <;> omega
  have nk : n.toInt * W.1.toInt ≤ 1000 * W.1.toInt := Int.mul_le_mul_of_nonneg_right hn.2 (by omega)
  have q := qPour_ok (nv := nv) (brim := A 54) (over := A 59) (g := W.1) hp.1 ⟨hg, fun v hv => (hp.2.2.1 v hv).1, fun v hv => (hp.2.2.1 v hv).2.2.2.2.2⟩ 9 0 W.2.2.2.2.1 W.2.2.2.1 w (Int32.toInt64 n * W.1) ⟨b1, c⟩ hw (by have := hp.1; omega) (by omega) (by omega) r0.1 (by omega)
  refine ⟨⟨⟨a, q.1.1, q.1.2⟩, d1, d2, ?_⟩, e1, e2⟩
  show 0 ≤ (qPour (A 54) (A 59) W.1 9 W.2.2.2.2.1 W.2.2.2.1 w (Int32.toInt64 n * W.1)).2.toInt ∧ (qPour (A 54) (A 59) W.1 9 W.2.2.2.2.1 W.2.2.2.1 w (Int32.toInt64 n * W.1)).2.toInt ≤ 143080 * W.2.1.toInt + (K + 1000) * W.1.toInt
  rw [Int.add_mul]
  have q1 := q.2.1
  have q2 := q.2.2
  omega
def wOpn (p : Nat) (x : Int32) (W : qW) : qW := (W.1, W.2.1, W.2.2.1, W.2.2.2.1, W.2.2.2.2.1, W.2.2.2.2.2.1, upd W.2.2.2.2.2.2.1 p x, W.2.2.2.2.2.2.2)
theorem wInv.op {T K : Int} {W : qW} {p : Nat} {x : Int32} (h : wInv nv T K A W) (hp : p < 14) (hx : x = 0 ∨ x = 1) : wInv nv T K A (wOpn p x W) := ⟨h.1, ⟨upd_bo h.2.1.1 hx, h.2.1.2⟩, ⟨upd_z h.2.2.1 hp, h.2.2.2⟩⟩
end ZMP
def fHn (k j : Nat) : Bool := decide (k = 52 ∧ (j = 0 ∨ j = 8 ∨ (12 ≤ j ∧ j ≤ 15) ∨ j = 20 ∨ j = 21 ∨ j = 27 ∨ j = 39 ∨ j = 42))
def pHn (k : Nat) : Bool := decide (53 ≤ k ∧ k ≤ 70)
theorem fMo_Hn : ∀ k j, fHn k j = false → fMo k j = false := by
  intro k j h
  simp only [fMo, fHn, decide_eq_false_iff_not] at h ⊢
  omega
theorem pM1_Hn : ∀ k, pHn k = false → pM1 k = false := by
  intro k h
  simp only [pM1, pHn, decide_eq_false_iff_not] at h ⊢
  omega
theorem fW_Hn : ∀ k j, fHn k j = false → fW k j = false := by
  intro k j h
  simp only [fW, fHn, decide_eq_false_iff_not] at h ⊢
  omega
theorem p63_Hn : ∀ k, pHn k = false → p63 k = false := by
  intro k h
  simp only [p63, pHn, decide_eq_false_iff_not] at h ⊢
  omega
theorem wOpn_r {nv np : Nat} {PA : Nat → Nat → Int32} {W : qW} {L : qLog} {I : Nat → Nat → Int32} {G G1 : Nat → Nat → Int64} {A A1 : Nat → Nat → Int32} {B B1 : Nat → Nat → Int64} {p : Nat} {x : Int32} (h : mRS nv np PA W L I G A B) (h1 : G1 52 12 = G 52 12) (h2 : G1 52 13 = G 52 13) (h3 : G1 52 14 = G 52 14) (h4 : G1 52 15 = G 52 15) (h5 : B1 63 = B 63) (h6 : A1 65 = A 65) (h7 : A1 64 = upd (A 64) p x) (h8 : A1 66 = A 66) : wR G1 A1 B1 = wOpn p x W := by
  rw [← h.2.2.1]
  unfold wR wOpn
  rw [h1, h2, h3, h4, h5, h6, h7, h8]
theorem nI_8 {n : Nat} (h : n < 100) (e : nI n = 8) : n = 8 := by
  have := congrArg Int32.toInt e
  rw [nI_toInt (by omega)] at this
  have e1 : (8 : Int32).toInt = 8 := by decide
  omega
theorem nI_l8 {n : Nat} (h : n ≤ 8) (e : ¬ nI n = 8) : n < 8 := by
  rcases Nat.lt_or_ge n 8 with q | q
  · exact q
  · exact absurd (show nI n = 8 by rw [show n = 8 by omega]; decide) e
theorem nI_l14 {n : Nat} (h : n ≤ 14) (e : ¬ nI n = 14) : n < 14 := by
  rcases Nat.lt_or_ge n 14 with q | q
  · exact q
  · exact absurd (show nI n = 14 by rw [show n = 14 by omega]; decide) e
theorem nI_14 {n : Nat} (h : n < 100) (e : nI n = 14) : n = 14 := by
  have := congrArg Int32.toInt e
  rw [nI_toInt (by omega)] at this
  have e1 : (14 : Int32).toInt = 14 := by decide
  omega
theorem qLow {b c : Int32} (h : qRg c 0 (b - 1)) (hb : 1 ≤ b.toInt) (hb2 : b.toInt ≤ 1000) : 0 ≤ c.toInt ∧ c.toInt ≤ b.toInt := by
  have e1 : (1 : Int32).toInt = 1 := by decide
  have e3 : (b - 1 : Int32).toInt = b.toInt - 1 := by rw [i32_sub, e1] <;> rw [e1] <;> omega
  have := qRg.i (l := 0) (h := b.toInt - 1) i32_0 e3 h
  omega
set_option maxRecDepth 100000 in
set_option maxHeartbeats 0 in
theorem mm_hand (ro : UInt32 → Nat × (Nat → Int32)) (nv np : Nat) (PA : Nat → Nat → Int32) (W : qW) (L : qLog) (I : Nat → Nat → Int32) (G : Nat → Nat → Int64) (A : Nat → Nat → Int32) (B : Nat → Nat → Int64) (K : Int) (v : Int32) (hR : mRS nv np PA W L I G A B) (hp : MPa nv np PA) (hW : wInv nv 10000 K PA W) (hK : K ≤ 200000000) (hn : L.1 < 1000000000) : zWp ro 140 0 [(0, .ref 52), (1, .int v)] [] (hS I G A B) 0 0 (fun r h1 => ∃ I2 G2 A2 B2, h1 = hS I2 G2 A2 B2 ∧ KQ fHn pHn I G A B I2 G2 A2 B2 ∧ mRS nv np PA (wMom nv PA W) (qNotes (I 52 22) W.2.1 W.1 (I 52 41) L (wEv nv PA W)) I2 G2 A2 B2 ∧ r = some (.int v)) := by
  refine zw_aload_n 1 f140_0 rfl rfl ?_
  refine zw_virtual_v 4 0 0 [.ref 52] [(0, .ref 52)] f140_1 rfl n140_202 k140_202_12 rfl (hb_52 _ _ _ _) (by decide +kernel) (Nat.le_of_ble_eq_true rfl) rfl rfl (by decide +kernel) (by decide +kernel) rfl (Nat.le_of_ble_eq_true rfl) rfl ?_
  refine zWp.mono (mm_momentW ro nv np PA W L _ _ _ _ hR hp hW (by omega) hK hn) ?_
  rintro r h1 ⟨I_1, G_1, A_1, B_1, rfl, K_1, R_1, rfl⟩
  refine ⟨rfl, ?_⟩
  refine zw_aload_n 5 f140_4 rfl rfl ?_
  refine zw_iload_n 6 f140_5 rfl rfl ?_
  refine zw_virtual_i 9 0 0 [.ref 52, .int v] [(0, .ref 52), (1, .int v)] f140_6 rfl n140_205 k140_205_12 rfl (hb_52 _ _ _ _) (by decide +kernel) (Nat.le_of_ble_eq_true rfl) rfl rfl (by decide +kernel) (by decide +kernel) rfl (Nat.le_of_ble_eq_true rfl) rfl ?_
  refine zw_aload_n 1 f122_0 rfl rfl ?_
  refine zw_iconst 0 2 f122_1 rfl (by decide +kernel) ?_
  refine zw_put _ 5 f122_2 rfl g122_111_12 (hb_52 _ _ _ _) rfl (Nat.le_of_ble_eq_true rfl) (by decide +kernel) (hi_52_27 _ _ _ _ _) ?_
  refine zw_iload_n 6 f122_5 rfl rfl ?_
  refine zw_ireturn f122_6 r122 u122 ⟨_, rfl, ?_⟩
  refine zw_ireturn f140_9 r140 u140 ?_
  exact ⟨_, _, _, _, rfl, (KQ.i rfl (KQ.tr KQ.rf (KQ.wk K_1 fMo_Hn pM1_Hn))), (R_1.k (pf := fun k j => decide (k = 52 ∧ j = 27)) (pa := fun _ => false) (KQ.i rfl KQ.rf) f27_R (fun _ _ _ => rfl)), rfl⟩
