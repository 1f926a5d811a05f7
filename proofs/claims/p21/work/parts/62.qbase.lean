/-! ===== questions, exact: what both sides answer ===== -/
noncomputable def cI {α : Type} (p : Prop) (x y : α) : α := @ite α p (Classical.propDecidable p) x y
theorem cI_y {α : Type} {p : Prop} {x y : α} (h : p) : cI p x y = x := if_pos h
theorem cI_n {α : Type} {p : Prop} {x y : α} (h : ¬ p) : cI p x y = y := if_neg h
theorem sw_ne {a j : Int32} {n : Int} (h : a.toInt < 0 ∨ n < a.toInt) (hj : 0 ≤ j.toInt ∧ j.toInt ≤ n) : ¬ a = j := by
  intro e
  rw [e] at h
  omega
theorem rg_ne {b j : Int32} {n : Int32} (h : b < 0 ∨ n < b) (hj : ¬ j < 0 ∧ ¬ n < j) : ¬ b = j := by
  intro e
  rw [e] at h
  exact h.elim hj.1 hj.2
theorem b_1of {b : Int32} (h : qRg b 0 1) (h0 : ¬ b = 0) : b = 1 := by
  have q := qRg.i (l := 0) (h := 1) (by decide) (by decide) h
  have e : ¬ b.toInt = 0 := fun z => h0 (Int32.toInt_inj.mp (z.trans (by decide)))
  exact Int32.toInt_inj.mp ((show b.toInt = 1 by omega).trans (by decide))
theorem b_2of {b : Int32} (h : b - 2 = 0) : b = 2 := by
  have : b - 2 + 2 = 0 + 2 := by rw [h]
  rw [Int32.sub_add_cancel] at this
  exact this.trans (by decide)
theorem b_3of {b : Int32} (h : qRg b 0 3) (h0 : ¬ b = 0) (h1 : ¬ b = 1) (h2 : ¬ b - 2 = 0) : b = 3 := by
  have q := qRg.i (l := 0) (h := 3) (by decide) (by decide) h
  have e0 : ¬ b.toInt = 0 := fun z => h0 (Int32.toInt_inj.mp (z.trans (by decide)))
  have e1 : ¬ b.toInt = 1 := fun z => h1 (Int32.toInt_inj.mp (z.trans (by decide)))
  have e2 : ¬ b.toInt = 2 := fun z => h2 (by rw [show b = 2 from Int32.toInt_inj.mp (z.trans (by decide))]; decide)
  exact Int32.toInt_inj.mp ((show b.toInt = 3 by omega).trans (by decide))
theorem k02y {x : Int32} (h : qRg x 0 4) (h1 : ¬ x = 1) (h3 : ¬ x = 3) (h4 : ¬ x = 4) : x = 0 ∨ x = 2 := by
  rcases k5 h with e | e | e | e | e
  · exact Or.inl e
  · exact absurd e h1
  · exact Or.inr e
  · exact absurd e h3
  · exact absurd e h4
def fNe (k j : Nat) : Bool := decide ((k = 0 ∧ j = 7) ∨ (k = 11 ∧ 6 ≤ j ∧ j ≤ 9))
def pNe (k : Nat) : Bool := decide (16 ≤ k ∧ k ≤ 19)
theorem fNe_52 : ∀ k j, 52 ≤ k → fNe k j = false := by
  intro k j h
  simp only [fNe, decide_eq_false_iff_not]
  omega
theorem pNe_52 : ∀ k, 52 ≤ k → pNe k = false := by
  intro k h
  simp only [pNe, decide_eq_false_iff_not]
  omega
theorem fCr_Ne : ∀ k j, fNe k j = false → fCr 11 k j = false := by
  intro k j h
  simp only [fCr, fNe, decide_eq_false_iff_not] at h ⊢
  omega
theorem pCr_Ne : ∀ k, pNe k = false → pCr 11 k = false := by
  intro k h
  simp only [pCr, pNe, decide_eq_false_iff_not] at h ⊢
  omega
theorem fCs_Ne : ∀ k j, fNe k j = false → fCs 11 k j = false := by
  intro k j h
  simp only [fCs, fNe, decide_eq_false_iff_not] at h ⊢
  omega
theorem fR_R : ∀ j, (j = 0 ∨ j = 8 ∨ (12 ≤ j ∧ j ≤ 15) ∨ j = 20 ∨ j = 42) → fR 52 j = false := by
  intro j h
  simp only [fR, decide_eq_false_iff_not]
  omega
theorem pR_R : ∀ k, 53 ≤ k → k ≤ 70 → pR k = false := by
  intro k h1 h2
  simp only [pR, decide_eq_false_iff_not]
  omega
section ZRW
variable (ro : UInt32 → Nat × (Nat → Int32)) (nv np : Nat) (PA : Nat → Nat → Int32) (W : qW) (L : qLog) (I : Nat → Nat → Int32) (G : Nat → Nat → Int64) (A : Nat → Nat → Int32) (B : Nat → Nat → Int64)
theorem mm_ratesW (hR : mRS nv np PA W L I G A B) (hp : MPa nv np PA) (hb : wBo W) : zWp ro 129 0 [(0, .ref 52)] [] (hS I G A B) 0 0 (fun r h1 => ∃ I2 G2 A2 B2, h1 = hS I2 G2 A2 B2 ∧ KQ fR pR I G A B I2 G2 A2 B2 ∧ mRS nv np PA W L I2 G2 A2 B2 ∧ qRt nv np PA W I2 A2 ∧ r = none) := by
  refine zWp.mono (mm_rates ro nv np I G A B (hR.mp hp) (hR.mb hb)) ?_
  rintro r h1 ⟨I2, G2, A2, B2, rfl, K, ⟨hr, hs⟩, rfl⟩
  have e := hR.2.2.1
  have x2 : mR2s nv np G A B nv = wR2 nv np PA W := by
    rw [← e]; exact (wR2_pe (W := wR G A B) hR.2.1)
  have x3 : mSr nv np A = wSr nv np PA W := by
    rw [← e]; exact (wSr_pe (W := wR G A B) hR.2.1)
  rw [x2] at hr
  rw [x3] at hs
  exact ⟨I2, G2, A2, B2, rfl, K, hR.k K fR_R pR_R, ⟨hr.2.2.1, hs, hr.2.1, hr.2.2.2⟩, rfl⟩
end ZRW
theorem mRn_w {nv np p : Nat} {PA : Nat → Nat → Int32} {W : qW} {L : qLog} {I : Nat → Nat → Int32} {G : Nat → Nat → Int64} {A : Nat → Nat → Int32} {B : Nat → Nat → Int64} (hR : mRS nv np PA W L I G A B) : mRn nv A p = wRun nv PA W p := by
  unfold mRn wRun
  rw [hR.2.1 53 (by omega) (by omega), hR.2.1 57 (by omega) (by omega), hR.sip, hR.opn]
def qE (L : qLog) (a : Int32) : Prop := ¬ a < 0 ∧ ¬ nI L.1 ≤ a ∧ ¬ 400 ≤ a
theorem qE_lt {L : qLog} {a : Int32} (hn : L.1 < 900000000) (h0 : ¬ a < 0) (h1 : ¬ nI L.1 ≤ a) (h2 : ¬ 400 ≤ a) : a.toNatClampNeg < L.1 ∧ a.toNatClampNeg < 400 := by
  have e4 : (400 : Int32).toInt = 400 := by decide
  have e6 : a.toNatClampNeg = a.toInt.toNat := rfl
  rw [i32_lt, i32_0] at h0
  rw [Int32.le_iff_toInt_le, nI_toInt (by omega)] at h1
  rw [Int32.le_iff_toInt_le, e4] at h2
  omega
theorem qE_of {L : qLog} {a : Int32} (hn : L.1 < 900000000) (h0 : ¬ a < 0) (h : ¬ 400 ≤ a ∧ a.toNatClampNeg < L.1 ∧ a.toNatClampNeg < 400) : qE L a := by
  refine ⟨h0, fun q => ?_, h.1⟩
  have e6 : a.toNatClampNeg = a.toInt.toNat := rfl
  rw [Int32.le_iff_toInt_le, nI_toInt (by omega)] at q
  omega
theorem qE_n1 {L : qLog} {a : Int32} (hn : L.1 < 900000000) (h : nI L.1 - 1 < a) : ¬ qE L a := by
  rintro ⟨-, q, -⟩
  apply q
  have e1 : (1 : Int32).toInt = 1 := by decide
  have e2 := nI_toInt (n := L.1) (by omega)
  have e3 : (nI L.1 - 1 : Int32).toInt = L.1 - 1 := by rw [i32_sub, e2, e1] <;> rw [e2, e1] <;> omega
  rw [i32_lt, e3] at h
  rw [Int32.le_iff_toInt_le, e2]
  omega
theorem qE_n2 {L : qLog} {a : Int32} (h : 399 < a) : ¬ qE L a := by
  rintro ⟨-, -, q⟩
  apply q
  have e4 : (400 : Int32).toInt = 400 := by decide
  have e5 : (399 : Int32).toInt = 399 := by decide
  rw [i32_lt, e5] at h
  rw [Int32.le_iff_toInt_le, e4]
  omega
