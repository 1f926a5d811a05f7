/-! ===== what the class does at a moment is what the reference does ===== -/
theorem qInc {a left d : Int64} {b : Int32} {g : Int64} (hg : 1 ≤ g.toInt ∧ g.toInt ≤ 10000) (hb : 1 ≤ b.toInt ∧ b.toInt ≤ 200) (ha : 0 ≤ a.toInt ∧ a.toInt ≤ b.toInt * g.toInt) (hl : 0 ≤ left.toInt ∧ left.toInt ≤ 100000000) (hd : (d = left ∧ left ≤ Int32.toInt64 b * g - a) ∨ (d = Int32.toInt64 b * g - a ∧ Int32.toInt64 b * g - a < left)) :
    a + left - qL2 (a + left - Int32.toInt64 b * g) = a + d ∧ qL2 (a + left - Int32.toInt64 b * g) = left - d := by
  obtain ⟨i1, i2, i3, i4, i5, i6⟩ := qIn hg hb ha hl
  have hm := mBrim (a := b) (g := g) ⟨by omega, hb.2⟩ hg
  have e5 : (Int32.toInt64 b * g - a).toInt = b.toInt * g.toInt - a.toInt := by
    rw [i64_sub, hm.1] <;> rw [hm.1] <;> omega
  rcases hd with ⟨hd, hc⟩ | ⟨hd, hc⟩
  · rw [Int64.le_iff_toInt_le, e5] at hc
    have z : (qL2 (a + left - Int32.toInt64 b * g)).toInt = 0 := by rcases i6 with h | h <;> omega
    have e : (a + left).toInt = a.toInt + left.toInt := i64_add (by omega) (by omega)
    subst hd
    constructor
    · apply Int64.toInt_inj.mp
      rw [i3, e]; omega
    · apply Int64.toInt_inj.mp
      rw [z, Int64.sub_self, i64_0]
  · rw [i64_lt, e5] at hc
    have z : a.toInt + left.toInt - (qL2 (a + left - Int32.toInt64 b * g)).toInt = b.toInt * g.toInt := by rcases i6 with h | h <;> omega
    have e : (a + (Int32.toInt64 b * g - a)).toInt = b.toInt * g.toInt := by
      rw [i64_add (by rw [e5]; omega) (by rw [e5]; omega), e5]; omega
    have e6 : (left - (Int32.toInt64 b * g - a)).toInt = left.toInt - (b.toInt * g.toInt - a.toInt) := by
      rw [i64_sub, e5] <;> rw [e5] <;> omega
    subst hd
    constructor
    · apply Int64.toInt_inj.mp
      rw [i3, e, z]
    · apply Int64.toInt_inj.mp
      rw [e6]; omega
def fCp (b k j : Nat) : Bool := decide (k = b + 1 ∧ j = 3)
def fSe (b k j : Nat) : Bool := decide ((k = b ∧ j = 12) ∨ (k = b + 1 ∧ (j ≤ 3 ∨ j = 5 ∨ j = 6)))
def pSe (b k : Nat) : Bool := decide (k = b + 2 ∨ k = b + 3 ∨ k = b + 9 ∨ k = b + 10)
theorem fCp_Se (b : Nat) : ∀ k j, fSe b k j = false → fCp b k j = false := by
  intro k j h
  simp only [fCp, fSe, decide_eq_false_iff_not] at h ⊢
  omega
theorem fCa_Se (b : Nat) : ∀ k j, fSe b k j = false → fCa b k j = false := by
  intro k j h
  simp only [fCa, fSe, decide_eq_false_iff_not] at h ⊢
  omega
theorem pCa_Se (b : Nat) : ∀ k, pSe b k = false → pCa b k = false := by
  intro k h
  simp only [pCa, pSe, decide_eq_false_iff_not] at h ⊢
  omega
/-! the events of a moment: at most one a vessel -/
def lA (e : List (Int32 × Int32)) (i : Nat) : Int32 × Int32 := (e[i]?).getD (0, 0)
theorem lA_l {e : List (Int32 × Int32)} {x : Int32 × Int32} {i : Nat} (h : i < e.length) : lA (e ++ [x]) i = lA e i := by
  unfold lA
  rw [List.getElem?_append_left h]
theorem lA_e {e : List (Int32 × Int32)} {x : Int32 × Int32} : lA (e ++ [x]) e.length = x := by
  unfold lA
  rw [List.getElem?_append_right (Nat.le_refl _), Nat.sub_self]
  rfl
theorem len_s {e : List (Int32 × Int32)} {x : Int32 × Int32} : (e ++ [x]).length = e.length + 1 := by
  rw [List.length_append]; rfl
/-- what happened at the works b -/
def cHp (b : Nat) (I A : Nat → Nat → Int32) (e : List (Int32 × Int32)) : Prop := I b 12 = nI e.length ∧ ∀ i, i < e.length → A (b + 9) i = (lA e i).1 ∧ A (b + 10) i = (lA e i).2
theorem hp_s {f g f2 g2 : Nat → Int32} {e : List (Int32 × Int32)} {x y : Int32} (h : ∀ i, i < e.length → f i = (lA e i).1 ∧ g i = (lA e i).2) (hf : f2 = upd f e.length x) (hg : g2 = upd g e.length y) : ∀ i, i < (e ++ [(x, y)]).length → f2 i = (lA (e ++ [(x, y)]) i).1 ∧ g2 i = (lA (e ++ [(x, y)]) i).2 := by
  intro i hi
  rw [len_s] at hi
  rw [hf, hg]
  by_cases q : i = e.length
  · rw [q, lA_e, upd_s, upd_s]; exact ⟨rfl, rfl⟩
  · rw [lA_l (by omega), upd_o q, upd_o q]; exact h i (by omega)
def qN (s : Int32 → Prop) [DecidablePred s] (kind : Nat → Int32) : Nat → Nat
  | 0 => 0
  | k + 1 => qN s kind k + if s (kind k) then 1 else 0
theorem qN_y {s : Int32 → Prop} [DecidablePred s] {kind : Nat → Int32} {k : Nat} (h : s (kind k)) : qN s kind (k + 1) = qN s kind k + 1 := by rw [qN, if_pos h]
theorem qN_le {s : Int32 → Prop} [DecidablePred s] {kind : Nat → Int32} {k : Nat} : qN s kind k ≤ qN s kind (k + 1) := by rw [qN]; omega
theorem qN_mo {s : Int32 → Prop} [DecidablePred s] {kind : Nat → Int32} {k : Nat} : ∀ m, k ≤ m → qN s kind k ≤ qN s kind m
  | 0, h => by rw [show k = 0 by omega]; exact Nat.le_refl _
  | m + 1, h => by
    by_cases e : k = m + 1
    · rw [e]; exact Nat.le_refl _
    · exact Nat.le_trans (qN_mo m (by omega)) qN_le
abbrev s2 (x : Int32) : Prop := x = 2
abbrev s1 (x : Int32) : Prop := x = 1
abbrev s34 (x : Int32) : Prop := x = 3 ∨ x = 4
theorem qN_sum {kind : Nat → Int32} : ∀ k, qN s2 kind k + qN s1 kind k + qN s34 kind k ≤ k
  | 0 => Nat.le_refl _
  | k + 1 => by
    have ih := qN_sum (kind := kind) k
    have e1 : ¬ ((2 : Int32) = 1) := by decide
    have e2 : ¬ ((2 : Int32) = 3 ∨ (2 : Int32) = 4) := by decide
    have e3 : ¬ ((1 : Int32) = 3 ∨ (1 : Int32) = 4) := by decide
    rw [qN, qN, qN]
    by_cases a : kind k = 2
    · rw [a, if_pos rfl, if_neg e1, if_neg e2]; omega
    · rw [if_neg a]
      by_cases c : kind k = 1
      · rw [c, if_pos rfl, if_neg e3]; omega
      · rw [if_neg c]
        split <;> omega
section ZLN
variable {kind brim high low own tip over : Nat → Int32} {g : Int64} {m : qM}
theorem tip_len : ∀ k, (qIt (qTip1 kind brim tip over g) m k).2.2.2.2.2.length ≤ m.2.2.2.2.2.length + qN s2 kind k
  | 0 => Nat.le_add_right _ _
  | k + 1 => by
    have ih := tip_len k
    rw [qIt_s]
    generalize qIt (qTip1 kind brim tip over g) m k = z at ih ⊢
    by_cases c : kind k = 2
    · rw [qN_y (s := s2) c]
      unfold qTip1
      split
      · show (_ ++ [_]).length ≤ _
        rw [len_s]; omega
      · omega
    · rw [qTip1_a c]
      exact Nat.le_trans ih (Nat.add_le_add_left qN_le _)
theorem sip_len : ∀ k, (qIt (qSip1 kind high g) m k).2.2.2.2.2.length ≤ m.2.2.2.2.2.length + qN s1 kind k
  | 0 => Nat.le_add_right _ _
  | k + 1 => by
    have ih := sip_len k
    rw [qIt_s]
    generalize qIt (qSip1 kind high g) m k = z at ih ⊢
    by_cases c : kind k = 1
    · rw [qN_y (s := s1) c]
      unfold qSip1
      split
      · show (_ ++ [_]).length ≤ _
        rw [len_s]; omega
      · split
        · show (_ ++ [_]).length ≤ _
          rw [len_s]; omega
        · omega
    · rw [qSip1_a c]
      exact Nat.le_trans ih (Nat.add_le_add_left qN_le _)
theorem flo_len : ∀ k, (qIt (qFlo1 kind high low own g) m k).2.2.2.2.2.length ≤ m.2.2.2.2.2.length + qN s34 kind k
  | 0 => Nat.le_add_right _ _
  | k + 1 => by
    have ih := flo_len k
    rw [qIt_s]
    generalize qIt (qFlo1 kind high low own g) m k = z at ih ⊢
    by_cases c : kind k = 3 ∨ kind k = 4
    · rw [qN_y (s := s34) c]
      unfold qFlo1
      split
      · unfold qFlo2
        split
        · show (_ ++ [_]).length ≤ _
          rw [len_s]; omega
        · split
          · show (_ ++ [_]).length ≤ _
            rw [len_s]; omega
          · omega
      · omega
    · rw [qFlo1_a (fun q => c (Or.inl q)) (fun q => c (Or.inr q))]
      exact Nat.le_trans ih (Nat.add_le_add_left qN_le _)
end ZLN
/-! the three rounds of a moment over a water -/
def wM0 (W : qW) : qM := (W.2.2.2.2.1, W.2.2.2.1, W.2.2.2.2.2.1, W.2.2.2.2.2.2.1, W.2.2.2.2.2.2.2, [])
def wT1 (P : Nat → Nat → Int32) (W : qW) : Nat → qM := qIt (qTip1 (P 53) (P 54) (P 58) (P 59) W.1) (wM0 W)
def wT2 (nv : Nat) (P : Nat → Nat → Int32) (W : qW) : Nat → qM := qIt (qSip1 (P 53) (P 55) W.1) (wT1 P W nv)
def wT3 (nv : Nat) (P : Nat → Nat → Int32) (W : qW) : Nat → qM := qIt (qFlo1 (P 53) (P 55) (P 56) (P 57) W.1) (wT2 nv P W nv)
theorem wT3_m {nv : Nat} {P : Nat → Nat → Int32} {W : qW} : wMm nv P W = wT3 nv P W nv := rfl
def wMid (W : qW) (m : qM) : qW := (W.1, W.2.1, W.2.2.1, m.2.1, m.1, m.2.2.1, m.2.2.2.1, m.2.2.2.2.1)
section ZWT
variable {nv np : Nat} {T K : Int} {P : Nat → Nat → Int32} {W : qW}
theorem wT_ok (hp : MPa nv np P) (hb : wBo W) (hW : wOk nv T K P W) (hT : T ≤ 40000) (hK : K ≤ 200000000) :
    (∀ k, k ≤ nv → qOk nv (P 54) W.1 W.2.2.2.1.toInt (200 * k) k (wT1 P W k)) ∧ (∀ k, k ≤ nv → qOk nv (P 54) W.1 W.2.2.2.1.toInt (200 * nv) (nv + k) (wT2 nv P W k)) ∧ ∀ k, k ≤ nv → qOk nv (P 54) W.1 W.2.2.2.1.toInt (200 * nv) (nv + nv + k) (wT3 nv P W k) := by
  obtain ⟨⟨hg, hlv, hlz⟩, ht, hsp, hdn⟩ := hW
  have hn8 := hp.1
  have hnp := hp.2.1
  change 1 ≤ W.1.toInt ∧ W.1.toInt ≤ 10000 at hg
  change 0 ≤ W.2.1.toInt ∧ W.2.1.toInt ≤ T * W.1.toInt at ht
  change 0 ≤ W.2.2.2.1.toInt ∧ W.2.2.2.1.toInt ≤ 143080 * W.2.1.toInt + K * W.1.toInt at hdn
  have tg : T * W.1.toInt ≤ 40000 * W.1.toInt := Int.mul_le_mul_of_nonneg_right hT (by omega)
  have kg : K * W.1.toInt ≤ 200000000 * W.1.toInt := Int.mul_le_mul_of_nonneg_right hK (by omega)
  have h0 : qOk nv (P 54) W.1 W.2.2.2.1.toInt 0 0 (wM0 W) := ⟨⟨hlv, hlz⟩, Int.le_refl _, by show W.2.2.2.1.toInt ≤ _; omega, ⟨hb.1, hb.2⟩, Nat.le_refl _⟩
  have hpl : qPl nv (P 54) (P 59) W.1 := ⟨hg, fun v hv => (hp.2.2.1 v hv).1, fun v hv => (hp.2.2.1 v hv).2.2.2.2.2⟩
  have h1 := qTip_ok (kind := P 53) hn8 hpl (tip := P 58) (fun v hv => (hp.2.2.1 v hv).2.2.2.2.1) hdn.1 (by omega) h0
  have h2 := qSip_ok (kind := P 53) (high := P 55) (h1 nv (Nat.le_refl _))
  have h3 := qFlo_ok (kind := P 53) (high := P 55) (low := P 56) hnp (fun v hv => (hp.2.2.1 v hv).2.2.2.1) (h2 nv (Nat.le_refl _))
  exact ⟨h1, h2, h3⟩
theorem wT_len : (∀ k, (wT1 P W k).2.2.2.2.2.length ≤ qN s2 (P 53) k) ∧ (∀ k, (wT2 nv P W k).2.2.2.2.2.length ≤ qN s2 (P 53) nv + qN s1 (P 53) k) ∧ ∀ k, (wT3 nv P W k).2.2.2.2.2.length ≤ qN s2 (P 53) nv + qN s1 (P 53) nv + qN s34 (P 53) k := by
  have h1 : ∀ k, (wT1 P W k).2.2.2.2.2.length ≤ qN s2 (P 53) k := fun k => by have := tip_len (kind := P 53) (brim := P 54) (tip := P 58) (over := P 59) (g := W.1) (m := wM0 W) k; simp only [wM0, List.length_nil, Nat.zero_add] at this; exact this
  have h2 : ∀ k, (wT2 nv P W k).2.2.2.2.2.length ≤ qN s2 (P 53) nv + qN s1 (P 53) k := fun k => Nat.le_trans (sip_len k) (Nat.add_le_add_right (h1 nv) _)
  exact ⟨h1, h2, fun k => Nat.le_trans (flo_len k) (Nat.add_le_add_right (h2 nv) _)⟩
end ZWT
/-! no time passes: lowest terms -/
theorem qLc_dvd {t sp dr g : Int64} {lev : Nat → Int64} (ht : 0 ≤ t.toInt) (hs : 0 ≤ sp.toInt) (hd : 0 ≤ dr.toInt) (hg : 0 < g.toInt) (hl : ∀ j, j < 8 → 0 ≤ (lev j).toInt) : ∀ k, k ≤ 8 → 0 < (qLc t sp dr g lev k).toInt ∧ ∀ m : Nat, m ∣ (qLc t sp dr g lev k).toInt.toNat ↔ (m ∣ g.toInt.toNat ∧ m ∣ t.toInt.toNat ∧ m ∣ sp.toInt.toNat ∧ m ∣ dr.toInt.toNat ∧ ∀ j, j < k → m ∣ (lev j).toInt.toNat)
  | 0, _ => by
    have a := mD_dvd2 hd hg
    have b := mD_dvd2 hs a.1
    have c := mD_dvd2 ht b.1
    refine ⟨c.1, fun m => ?_⟩
    rw [qLc, c.2, b.2, a.2]
    constructor
    · rintro ⟨h1, h2, h3, h4⟩; exact ⟨h4, h1, h2, h3, fun j hj => absurd hj (by omega)⟩
    · rintro ⟨h1, h2, h3, h4, -⟩; exact ⟨h2, h3, h4, h1⟩
  | k + 1, hk => by
    have ih := qLc_dvd ht hs hd hg hl k (by omega)
    have a := mD_dvd2 (hl k (by omega)) ih.1
    refine ⟨a.1, fun m => ?_⟩
    rw [qLc, a.2, ih.2]
    constructor
    · rintro ⟨h1, h2, h3, h4, h5, h6⟩
      refine ⟨h2, h3, h4, h5, fun j hj => ?_⟩
      by_cases e : j = k
      · rw [e]; exact h1
      · exact h6 j (by omega)
    · rintro ⟨h1, h2, h3, h4, h5⟩
      exact ⟨h5 k (by omega), h1, h2, h3, h4, fun j hj => h5 j (by omega)⟩
theorem cX_z {W : qW} {ch : Nat → Int32} {sr dr : Int32} {j : Nat} : cX W ch sr dr 1 0 j = wH W j := by
  unfold cX
  rw [Int64.mul_one, Int64.mul_zero, Int64.add_zero]
theorem nat64 {x y : Int64} (hx : 0 ≤ x.toInt) (hy : 0 ≤ y.toInt) (h : x.toInt.toNat = y.toInt.toNat) : x = y := by
  apply Int64.toInt_inj.mp
  rw [← nn_nat hx, ← nn_nat hy, h]
theorem div_z {c : Int64} : (0 : Int64) / c = 0 := Int64.zero_div
def wLc (V : qW) : Int64 := qLc V.2.1 V.2.2.1 V.2.2.2.1 V.1 V.2.2.2.2.1 8
def wLo (V : qW) : qW := (V.1 / wLc V, V.2.1 / wLc V, V.2.2.1 / wLc V, V.2.2.2.1 / wLc V, fun j => V.2.2.2.2.1 j / wLc V, V.2.2.2.2.2)
theorem low_eq {V : qW} {ch : Nat → Int32} {sr dr : Int32} {nv : Nat} (hn : nv ≤ 8) (hg : 1 ≤ V.1.toInt ∧ V.1.toInt ≤ 10000) (ht : 0 ≤ V.2.1.toInt) (hs : 0 ≤ V.2.2.1.toInt) (hd : 0 ≤ V.2.2.2.1.toInt) (hl : ∀ j, j < nv → 0 ≤ (V.2.2.2.2.1 j).toInt) (hz : ∀ j, nv ≤ j → V.2.2.2.2.1 j = 0) : cAdv V ch sr dr nv 1 0 = some (wLo V) := by
  have hl8 : ∀ j, j < 8 → 0 ≤ (V.2.2.2.2.1 j).toInt := by
    intro j hj
    rcases Nat.lt_or_ge j nv with q | q
    · exact hl j q
    · rw [hz j q, i64_0]; omega
  have hx : ∀ j, j < 11 → 0 ≤ (cX V ch sr dr 1 0 j).toInt := by
    intro j hj
    rw [cX_z]
    unfold wH
    rcases Nat.lt_or_ge j 8 with q | q
    · rw [if_pos q]; exact hl8 j q
    · rw [if_neg (by omega)]
      rcases (show j = 8 ∨ j = 9 ∨ j = 10 by omega) with y | y | y <;> subst y
      · exact ht
      · exact hs
      · exact hd
  have m1 : V.1 * 1 = V.1 := Int64.mul_one _
  have cd := cCm_dvd (ch := ch) (sr := sr) (dr := dr) (sc := 1) (wy := 0) hn (by rw [m1]; omega) hx nv (Nat.le_refl _)
  have qd := qLc_dvd ht hs hd (g := V.1) (lev := V.2.2.2.2.1) (by omega) hl8 8 (Nat.le_refl _)
  have e8 : wH V 8 = V.2.1 := rfl
  have e9 : wH V 9 = V.2.2.1 := rfl
  have e10 : wH V 10 = V.2.2.2.1 := rfl
  have ej : ∀ j, j < 8 → wH V j = V.2.2.2.2.1 j := fun j hj => if_pos hj
  have hc : cCm V ch sr dr 1 0 nv = wLc V := by
    refine nat64 (by omega) (Int.le_of_lt qd.1) ?_
    apply Nat.dvd_antisymm
    · refine (qd.2 _).mpr ?_
      obtain ⟨h0, h8, h9, h10, hl⟩ := (cd.2 _).mp (Nat.dvd_refl _)
      rw [cX_z] at h8 h9 h10
      rw [m1] at h0
      refine ⟨h0, h8, h9, h10, fun j hj => ?_⟩
      rcases Nat.lt_or_ge j nv with q | q
      · have := hl j q
        rw [cX_z, ej j hj] at this
        exact this
      · rw [hz j q, i64_0]; exact Nat.dvd_zero _
    · refine (cd.2 _).mpr ?_
      obtain ⟨h0, h8, h9, h10, hl⟩ := (qd.2 _).mp (Nat.dvd_refl _)
      rw [cX_z, cX_z, cX_z, m1]
      refine ⟨h0, h8, h9, h10, fun j hj => ?_⟩
      rw [cX_z, ej j (by omega)]
      exact hl j (by omega)
  unfold cAdv
  rw [hc, m1]
  have lt : ¬ 10000 < V.1 / wLc V := by
    rw [i64_lt, i64_div (by omega) (show 0 < (wLc V).toInt from qd.1), show (10000 : Int64).toInt = 10000 by decide]
    have := Int.ediv_le_self (wLc V).toInt (show 0 ≤ V.1.toInt by omega)
    omega
  rw [if_neg lt]
  unfold cAdvd wLo
  have er : ∀ x y : Int64, x * 1 + y * 0 = x := fun x y => by rw [Int64.mul_one, Int64.mul_zero, Int64.add_zero]
  have er2 : V.2.1 * 1 + 0 = V.2.1 := by rw [Int64.mul_one, Int64.add_zero]
  rw [m1, er2, er, er]
  have ef : (fun j => if j < nv then (V.2.2.2.2.1 j * 1 + Int32.toInt64 (ch j) * 0) / wLc V else V.2.2.2.2.1 j) = fun j => V.2.2.2.2.1 j / wLc V := by
    funext j
    by_cases c : j < nv
    · rw [if_pos c, er]
    · rw [if_neg c, hz j (by omega), div_z]
  rw [ef]
theorem mid_low {nv np : Nat} {T K : Int} {P : Nat → Nat → Int32} {W : qW} {m : qM} {c : Int} {n : Nat} {ch : Nat → Int32} {sr dr : Int32} (hp : MPa nv np P) (hW : wOk nv T K P W) (hm : qOk nv (P 54) W.1 W.2.2.2.1.toInt c n m) : cAdv (wMid W m) ch sr dr nv 1 0 = some (wLow W m) := by
  obtain ⟨⟨hg, hlv, hlz⟩, ht, hsp, hdn⟩ := hW
  obtain ⟨⟨l1, l2⟩, d1, -⟩ := hm
  change 0 ≤ W.2.2.2.1.toInt ∧ _ at hdn
  exact low_eq (V := wMid W m) hp.1 hg ht.1 hsp.1 (by show 0 ≤ m.2.1.toInt; omega) (fun j hj => (l1 j hj).1) l2
theorem k34n {x : Int32} (h : x = 3) : ¬ x = 4 := by rw [h]; decide
theorem cnt_u {nv k : Nat} {kind c c1 : Nat → Int32} {x y : Int32} (h : ∀ v, (v < nv → kind v = 4) → c1 v = c v) (hk : k < nv) (hxy : kind k = 4 → x = y) : ∀ v, (v < nv → kind v = 4) → upd c1 k x v = upd c k y v := by
  intro v hv
  by_cases e : v = k
  · rw [e, upd_s, upd_s]; exact hxy (e ▸ hv (by omega))
  · rw [upd_o e, upd_o e]; exact h v hv
theorem fullk {b : Int32} {g x : Int64} (hb : 1 ≤ b.toInt ∧ b.toInt ≤ 200) (hg : 1 ≤ g.toInt ∧ g.toInt ≤ 10000) (hx : 0 ≤ x.toInt ∧ x.toInt ≤ b.toInt * g.toInt) (h : ¬ x < Int32.toInt64 b * g) : x = Int32.toInt64 b * g := by
  have m := mBrim (a := b) (g := g) ⟨by omega, hb.2⟩ hg
  rw [i64_lt, m.1] at h
  apply Int64.toInt_inj.mp
  rw [m.1]; omega
set_option maxRecDepth 100000 in
set_option maxHeartbeats 0 in
theorem lcx_pour11 (ro : UInt32 → Nat × (Nat → Int32)) (nv np : Nat) (P : Nat → Nat → Int32) (I : Nat → Nat → Int32) (G : Nat → Nat → Int64) (A : Nat → Nat → Int32) (B : Nat → Nat → Int64) (hp : MPa nv np P) (g dr : Int64) (hg1 : 1 ≤ g.toInt ∧ g.toInt ≤ 10000) (hnv : I 1 0 = nI nv) (hbr : A 3 = P 54) (hov : A 8 = P 59) (hg : G 12 0 = g) : ∀ (n i lo : Nat) (ls : List (Nat × Value)) (I1 : Nat → Nat → Int32) (G1 : Nat → Nat → Int64) (A1 : Nat → Nat → Int32) (B1 : Nat → Nat → Int64) (lev : Nat → Int64) (w : Int32) (left : Int64), KQ (fCp 11) (pCa 11) I G A B I1 G1 A1 B1 → G1 12 3 = dr → B1 13 = lev → qLv nv (P 54) g lev → mTo nv lo w → i ≤ lo → i ≤ 8 → i + n = 9 → 0 ≤ left.toInt → left.toInt ≤ 100000000 → zld ls 0 = some (.ref 11) → zld ls 4 = some (.int w) → zld ls 5 = some (.long left) → zld ls 7 = some (.int (nI i)) → zWp ro 72 9 ls [] (hS I1 G1 A1 B1) 0 0 (fun r h1 => ∃ I2 G2 A2 B2, h1 = hS I2 G2 A2 B2 ∧ KQ (fCp 11) (pCa 11) I G A B I2 G2 A2 B2 ∧ (B2 13 = (qPour (P 54) (P 59) g n lev dr w left).1 ∧ G2 12 3 = (qPour (P 54) (P 59) g n lev dr w left).2) ∧ r = none) := by
  have h8 := hp.1
  intro n
  induction n with
  | zero =>
    intro i lo ls I1 G1 A1 B1 lev w left K hd hl hlv hw h1 h2 h3
    exact absurd h3 (by omega)
  | succ n ih =>
    intro i lo ls I1 G1 A1 B1 lev w left K hd hl hlv hw hi1 hi2 hi3 hl0 hl1 h0 h4 h5 h7
    rcases hw with hw | ⟨t, ht1, ht2, hw⟩ <;> subst hw
    · refine zw_iload 11 f72_9 rfl h7 ?_
      refine zw_bipush 8 13 f72_11 rfl (by decide +kernel) ?_
      refine zw_ic_ge 16 112 f72_13 (by decide +kernel) rfl (fun hc1 => ?_) (fun hc1 => ?_)
      · have hn_hc1 : 8 ≤ i := zn_ge (by omega) (by omega) hc1
        refine zw_aload_n 113 f72_112 rfl h0 ?_
        refine zw_getfield 116 f72_113 rfl g72_12_10 (hb_11 _ _ _ _) rfl ?_
        refine zw_dup 117 f72_116 rfl rfl ?_
        refine zw_getG dr 120 f72_117 rfl g72_180_9 (hb_12 _ _ _ _) rfl hd ?_
        refine zw_lload 122 f72_120 rfl h5 ?_
        refine zw_ladd (dr + left) 123 f72_122 rfl rfl ?_
        refine zw_put _ 126 f72_123 rfl g72_180_9 (hb_12 _ _ _ _) rfl (Nat.le_of_ble_eq_true rfl) (by decide +kernel) (hg_12_3 _ _ _ _ _) ?_
        refine zw_vreturn f72_126 r72 u72 ?_
        rw [(qPour_m rfl)]
        exact ⟨_, _, _, _, rfl, (KQ.g rfl K), ⟨hl, rfl⟩, rfl⟩
      · have hn_hc1 : i < 8 := zn_lt (by omega) (by omega) hc1
        refine zw_lload 18 f72_16 rfl h5 ?_
        refine zw_lconst 0 19 f72_18 rfl (by decide +kernel) ?_
        refine zw_lcmp (lg_cmp left 0) 20 f72_19 rfl rfl ?_
        refine zw_if_le 23 112 f72_20 (by decide +kernel) rfl (fun hc2 => ?_) (fun hc2 => ?_)
        · refine zw_aload_n 113 f72_112 rfl h0 ?_
          refine zw_getfield 116 f72_113 rfl g72_12_10 (hb_11 _ _ _ _) rfl ?_
          refine zw_dup 117 f72_116 rfl rfl ?_
          refine zw_getG dr 120 f72_117 rfl g72_180_9 (hb_12 _ _ _ _) rfl hd ?_
          refine zw_lload 122 f72_120 rfl h5 ?_
          refine zw_ladd (dr + left) 123 f72_122 rfl rfl ?_
          refine zw_put _ 126 f72_123 rfl g72_180_9 (hb_12 _ _ _ _) rfl (Nat.le_of_ble_eq_true rfl) (by decide +kernel) (hg_12_3 _ _ _ _ _) ?_
          refine zw_vreturn f72_126 r72 u72 ?_
          rw [(qPour_m rfl)]
          exact ⟨_, _, _, _, rfl, (KQ.g rfl K), ⟨hl, rfl⟩, rfl⟩
        · refine zw_aload_n 24 f72_23 rfl h0 ?_
          refine zw_getfield 27 f72_24 rfl g72_37_10 (hb_11 _ _ _ _) rfl ?_
          refine zw_iload 29 f72_27 rfl h4 ?_
          refine zw_virtual_i 32 0 0 [.ref 1, .int (-1)] [(0, .ref 1), (1, .int (-1))] f72_29 rfl n72_103 k72_103_4 rfl (hb_1 _ _ _ _) (by decide +kernel) (Nat.le_of_ble_eq_true rfl) rfl rfl (by decide +kernel) (by decide +kernel) rfl (Nat.le_of_ble_eq_true rfl) rfl ?_
          refine zw_iload_n 1 f13_0 rfl rfl ?_
          refine zw_if_lt_t 22 f13_1 (by decide +kernel) (by decide +kernel) ?_
          refine zw_iconst 0 23 f13_22 rfl (by decide +kernel) ?_
          refine zw_zreturn f13_23 r13 u13 (by decide +kernel) ⟨_, rfl, ?_⟩
          refine zw_if_eq_t 112 f72_32 (by decide +kernel) (by decide +kernel) ?_
          refine zw_aload_n 113 f72_112 rfl h0 ?_
          refine zw_getfield 116 f72_113 rfl g72_12_10 (hb_11 _ _ _ _) rfl ?_
          refine zw_dup 117 f72_116 rfl rfl ?_
          refine zw_getG dr 120 f72_117 rfl g72_180_9 (hb_12 _ _ _ _) rfl hd ?_
          refine zw_lload 122 f72_120 rfl h5 ?_
          refine zw_ladd (dr + left) 123 f72_122 rfl rfl ?_
          refine zw_put _ 126 f72_123 rfl g72_180_9 (hb_12 _ _ _ _) rfl (Nat.le_of_ble_eq_true rfl) (by decide +kernel) (hg_12_3 _ _ _ _ _) ?_
          refine zw_vreturn f72_126 r72 u72 ?_
          rw [(qPour_m rfl)]
          exact ⟨_, _, _, _, rfl, (KQ.g rfl K), ⟨hl, rfl⟩, rfl⟩
    · refine zw_iload 11 f72_9 rfl h7 ?_
      refine zw_bipush 8 13 f72_11 rfl (by decide +kernel) ?_
      refine zw_ic_ge 16 112 f72_13 (by decide +kernel) rfl (fun hc1 => ?_) (fun hc1 => ?_)
      · have hn_hc1 : 8 ≤ i := zn_ge (by omega) (by omega) hc1
        refine zw_aload_n 113 f72_112 rfl h0 ?_
        refine zw_getfield 116 f72_113 rfl g72_12_10 (hb_11 _ _ _ _) rfl ?_
        refine zw_dup 117 f72_116 rfl rfl ?_
        refine zw_getG dr 120 f72_117 rfl g72_180_9 (hb_12 _ _ _ _) rfl hd ?_
        refine zw_lload 122 f72_120 rfl h5 ?_
        refine zw_ladd (dr + left) 123 f72_122 rfl rfl ?_
        refine zw_put _ 126 f72_123 rfl g72_180_9 (hb_12 _ _ _ _) rfl (Nat.le_of_ble_eq_true rfl) (by decide +kernel) (hg_12_3 _ _ _ _ _) ?_
        refine zw_vreturn f72_126 r72 u72 ?_
        exact absurd ht2 (by omega)
      · have hn_hc1 : i < 8 := zn_lt (by omega) (by omega) hc1
        refine zw_lload 18 f72_16 rfl h5 ?_
        refine zw_lconst 0 19 f72_18 rfl (by decide +kernel) ?_
        refine zw_lcmp (lg_cmp left 0) 20 f72_19 rfl rfl ?_
        refine zw_if_le 23 112 f72_20 (by decide +kernel) rfl (fun hc2 => ?_) (fun hc2 => ?_)
        · refine zw_aload_n 113 f72_112 rfl h0 ?_
          refine zw_getfield 116 f72_113 rfl g72_12_10 (hb_11 _ _ _ _) rfl ?_
          refine zw_dup 117 f72_116 rfl rfl ?_
          refine zw_getG dr 120 f72_117 rfl g72_180_9 (hb_12 _ _ _ _) rfl hd ?_
          refine zw_lload 122 f72_120 rfl h5 ?_
          refine zw_ladd (dr + left) 123 f72_122 rfl rfl ?_
          refine zw_put _ 126 f72_123 rfl g72_180_9 (hb_12 _ _ _ _) rfl (Nat.le_of_ble_eq_true rfl) (by decide +kernel) (hg_12_3 _ _ _ _ _) ?_
          refine zw_vreturn f72_126 r72 u72 ?_
          rw [(qPour_z (Int64.not_lt.mpr ((lg_cmp_le _ _).mp hc2)))]
          exact ⟨_, _, _, _, rfl, (KQ.g rfl K), ⟨hl, rfl⟩, rfl⟩
        · refine zw_aload_n 24 f72_23 rfl h0 ?_
          refine zw_getfield 27 f72_24 rfl g72_37_10 (hb_11 _ _ _ _) rfl ?_
          refine zw_iload 29 f72_27 rfl h4 ?_
          refine zw_virtual_i 32 0 0 [.ref 1, .int (nI t)] [(0, .ref 1), (1, .int (nI t))] f72_29 rfl n72_103 k72_103_4 rfl (hb_1 _ _ _ _) (by decide +kernel) (Nat.le_of_ble_eq_true rfl) rfl rfl (by decide +kernel) (by decide +kernel) rfl (Nat.le_of_ble_eq_true rfl) rfl ?_
          refine zw_iload_n 1 f13_0 rfl rfl ?_
          refine zw_if_lt_f 4 22 f13_1 (by decide +kernel) rfl (nI_pos (by omega)) ?_
          refine zw_iload_n 5 f13_4 rfl rfl ?_
          refine zw_aload_n 6 f13_5 rfl rfl ?_
          refine zw_getI (nI nv) 9 f13_6 rfl g13_39_4 (hb_1 _ _ _ _) rfl ((K.1 1 0 rfl).trans hnv) ?_
          refine zw_ic_ge_f 12 22 f13_9 (by decide +kernel) rfl (fun q => absurd (zn_ge (a := nv) (b := t) (by omega) (by omega) q) (by omega)) ?_
          refine zw_iload_n 13 f13_12 rfl rfl ?_
          refine zw_bipush 8 15 f13_13 rfl (by decide +kernel) ?_
          refine zw_ic_ge_f 18 22 f13_15 (by decide +kernel) rfl (fun q => absurd (zn_ge (a := 8) (b := t) (by omega) (by omega) q) (by omega)) ?_
          refine zw_iconst 1 19 f13_18 rfl (by decide +kernel) ?_
          refine zw_goto 23 f13_19 (by decide +kernel) ?_
          refine zw_zreturn f13_23 r13 u13 (by decide +kernel) ⟨_, rfl, ?_⟩
          refine zw_if_eq_f 35 112 f72_32 (by decide +kernel) rfl (by decide +kernel) ?_
          refine zw_lload 37 f72_35 rfl h5 ?_
          refine zw_aload_n 38 f72_37 rfl h0 ?_
          refine zw_getfield 41 f72_38 rfl g72_37_10 (hb_11 _ _ _ _) rfl ?_
          refine zw_getfield 44 f72_41 rfl g72_106_4 (hb_1 _ _ _ _) rfl ?_
          refine zw_iload 46 f72_44 rfl h4 ?_
          refine zw_iaload t (P 54 t) 47 f72_46 rfl (hb_3 _ _ _ _) (nI_clamp (by omega)) (nI_pos (by omega)) (by omega) (congrFun (((K.2.2.1 3 rfl).trans hbr)) t) ?_
          refine zw_i2l (Int32.toInt64 (P 54 t)) 48 f72_47 rfl rfl ?_
          refine zw_aload_n 49 f72_48 rfl h0 ?_
          refine zw_getfield 52 f72_49 rfl g72_12_10 (hb_11 _ _ _ _) rfl ?_
          refine zw_getG g 55 f72_52 rfl g72_109_9 (hb_12 _ _ _ _) rfl ((K.2.1 12 0 rfl).trans hg) ?_
          refine zw_lmul ((Int32.toInt64 (P 54 t)) * g) 56 f72_55 rfl rfl ?_
          refine zw_aload_n 57 f72_56 rfl h0 ?_
          refine zw_getfield 60 f72_57 rfl g72_12_10 (hb_11 _ _ _ _) rfl ?_
          refine zw_getfield 63 f72_60 rfl g72_87_9 (hb_12 _ _ _ _) rfl ?_
          refine zw_iload 65 f72_63 rfl h4 ?_
          refine zw_laload t (lev t) 66 f72_65 rfl (hb_13 _ _ _ _) (nI_clamp (by omega)) (nI_pos (by omega)) (by omega) (congrFun (hl) t) ?_
          refine zw_lsub (((Int32.toInt64 (P 54 t)) * g) - (lev t)) 67 f72_66 rfl rfl ?_
          refine zw_static_l 70 0 0 [.long left, .long (((Int32.toInt64 (P 54 t)) * g) - (lev t))] [] [(0, .long left), (2, .long (((Int32.toInt64 (P 54 t)) * g) - (lev t)))] f72_67 rfl k72_206_99 rfl (by decide +kernel) (Nat.le_of_ble_eq_true rfl) (Nat.le_of_ble_eq_true rfl) rfl rfl (by decide +kernel) (by decide +kernel) rfl (Nat.le_of_ble_eq_true rfl) rfl ?_
          refine zw_lload_n 1 f188_0 rfl rfl ?_
          refine zw_lload_n 2 f188_1 rfl rfl ?_
          refine zw_lcmp (lg_cmp left (((Int32.toInt64 (P 54 t)) * g) - (lev t))) 3 f188_2 rfl rfl ?_
          refine zw_if_gt 6 10 f188_3 (by decide +kernel) rfl (fun hc3 => ?_) (fun hc3 => ?_)
          · refine zw_lload_n 11 f188_10 rfl rfl ?_
            refine zw_lreturn f188_11 r188 u188 ⟨_, rfl, ?_⟩
            refine zw_lstore _ 72 f72_70 rfl (by decide +kernel) rfl ?_
            refine zw_aload_n 73 f72_72 rfl (zl2_ne rfl rfl h0) ?_
            refine zw_getfield 76 f72_73 rfl g72_12_10 (hb_11 _ _ _ _) rfl ?_
            refine zw_getfield 79 f72_76 rfl g72_87_9 (hb_12 _ _ _ _) rfl ?_
            refine zw_iload 81 f72_79 rfl (zl2_ne rfl rfl h4) ?_
            refine zw_dup2 82 f72_81 rfl rfl rfl ?_
            refine zw_laload t (lev t) 83 f72_82 rfl (hb_13 _ _ _ _) (nI_clamp (by omega)) (nI_pos (by omega)) (by omega) (congrFun (hl) t) ?_
            refine zw_lload 85 f72_83 rfl zl2_eq ?_
            refine zw_ladd ((lev t) + (((Int32.toInt64 (P 54 t)) * g) - (lev t))) 86 f72_85 rfl rfl ?_
            refine zw_lst t _ 87 f72_86 rfl (hb_13 _ _ _ _) (nI_clamp (by omega)) (nI_pos (by omega)) (by omega) (ha_13 _ _ _ _ _) ?_
            refine zw_lload 89 f72_87 rfl (zl2_ne rfl rfl h5) ?_
            refine zw_lload 91 f72_89 rfl zl2_eq ?_
            refine zw_lsub (left - (((Int32.toInt64 (P 54 t)) * g) - (lev t))) 92 f72_91 rfl rfl ?_
            refine zw_lstore _ 94 f72_92 rfl (by decide +kernel) rfl ?_
            refine zw_aload_n 95 f72_94 rfl (zl2_ne rfl rfl (zl2_ne rfl rfl h0)) ?_
            refine zw_getfield 98 f72_95 rfl g72_37_10 (hb_11 _ _ _ _) rfl ?_
            refine zw_getfield 101 f72_98 rfl g72_100_4 (hb_1 _ _ _ _) rfl ?_
            refine zw_iload 103 f72_101 rfl (zl2_ne rfl rfl (zl2_ne rfl rfl h4)) ?_
            refine zw_iaload t (P 59 t) 104 f72_103 rfl (hb_8 _ _ _ _) (nI_clamp (by omega)) (nI_pos (by omega)) (by omega) (congrFun (((K.2.2.1 8 rfl).trans hov)) t) ?_
            refine zw_istore _ 106 f72_104 rfl (by decide +kernel) rfl ?_
            refine zw_iinc (nI (i + 1)) _ 109 f72_106 rfl (zl1_ne rfl rfl (zl2_ne rfl rfl (zl2_ne rfl rfl h7))) (by decide +kernel) (nI_1 _) rfl ?_
            refine zw_goto 9 f72_109 (by decide +kernel) ?_
            have lv := hlv.1 t ht2
            have br := (hp.2.2.1 t ht2).1
            have Q := qInc (a := lev t) (left := left) (d := (((Int32.toInt64 (P 54 t)) * g) - (lev t))) (b := P 54 t) (g := g) hg1 br lv ⟨hl0, hl1⟩ (Or.inr ⟨rfl, ((lg_cmp_gt _ _).mp hc3)⟩)
            have N := qIn (a := lev t) (left := left) (b := P 54 t) (g := g) hg1 br lv ⟨hl0, hl1⟩
            have E := qPour_y (brim := P 54) (over := P 59) (g := g) (n := n) (lev := lev) (dr := dr) (left := left) (w := nI t) (t := t) rfl (by omega) (Int64.not_le.mp (fun q => hc2 ((lg_cmp_le _ _).mpr q)))
            rw [vpL_2] at E
            have N4 := N.2.2.2.1
            have N5 := N.2.2.2.2.1
            rw [← N.2.2.1, Q.1] at N4 N5
            have N1 := N.1
            have N2 := N.2.1
            rw [Q.2] at N1 N2
            rw [Q.1, Q.2] at E
            rw [E]
            exact ih (i + 1) (t + 1) _ _ _ _ _ _ _ _ (KQ.b rfl K) hd (congrArg (fun z => vp_updL z t ((lev t) + (((Int32.toInt64 (P 54 t)) * g) - (lev t)))) (hl)) (hlv.u ht2 N5 N4) (hp.2.2.1 t ht2).2.2.2.2.2 (by omega) (by omega) (by omega) N1 (by omega) (zl1_ne rfl rfl (zl1_ne rfl rfl (zl2_ne rfl rfl (zl2_ne rfl rfl h0)))) (zl1_ne rfl rfl zl1_eq) (zl1_ne rfl rfl (zl1_ne rfl rfl zl2_eq)) zl1_eq
          · refine zw_lload_n 7 f188_6 rfl rfl ?_
            refine zw_goto 11 f188_7 (by decide +kernel) ?_
            refine zw_lreturn f188_11 r188 u188 ⟨_, rfl, ?_⟩
            refine zw_lstore _ 72 f72_70 rfl (by decide +kernel) rfl ?_
            refine zw_aload_n 73 f72_72 rfl (zl2_ne rfl rfl h0) ?_
            refine zw_getfield 76 f72_73 rfl g72_12_10 (hb_11 _ _ _ _) rfl ?_
            refine zw_getfield 79 f72_76 rfl g72_87_9 (hb_12 _ _ _ _) rfl ?_
            refine zw_iload 81 f72_79 rfl (zl2_ne rfl rfl h4) ?_
            refine zw_dup2 82 f72_81 rfl rfl rfl ?_
            refine zw_laload t (lev t) 83 f72_82 rfl (hb_13 _ _ _ _) (nI_clamp (by omega)) (nI_pos (by omega)) (by omega) (congrFun (hl) t) ?_
            refine zw_lload 85 f72_83 rfl zl2_eq ?_
            refine zw_ladd ((lev t) + left) 86 f72_85 rfl rfl ?_
            refine zw_lst t _ 87 f72_86 rfl (hb_13 _ _ _ _) (nI_clamp (by omega)) (nI_pos (by omega)) (by omega) (ha_13 _ _ _ _ _) ?_
            refine zw_lload 89 f72_87 rfl (zl2_ne rfl rfl h5) ?_
            refine zw_lload 91 f72_89 rfl zl2_eq ?_
            refine zw_lsub (left - left) 92 f72_91 rfl rfl ?_
            refine zw_lstore _ 94 f72_92 rfl (by decide +kernel) rfl ?_
            refine zw_aload_n 95 f72_94 rfl (zl2_ne rfl rfl (zl2_ne rfl rfl h0)) ?_
            refine zw_getfield 98 f72_95 rfl g72_37_10 (hb_11 _ _ _ _) rfl ?_
            refine zw_getfield 101 f72_98 rfl g72_100_4 (hb_1 _ _ _ _) rfl ?_
            refine zw_iload 103 f72_101 rfl (zl2_ne rfl rfl (zl2_ne rfl rfl h4)) ?_
            refine zw_iaload t (P 59 t) 104 f72_103 rfl (hb_8 _ _ _ _) (nI_clamp (by omega)) (nI_pos (by omega)) (by omega) (congrFun (((K.2.2.1 8 rfl).trans hov)) t) ?_
            refine zw_istore _ 106 f72_104 rfl (by decide +kernel) rfl ?_
            refine zw_iinc (nI (i + 1)) _ 109 f72_106 rfl (zl1_ne rfl rfl (zl2_ne rfl rfl (zl2_ne rfl rfl h7))) (by decide +kernel) (nI_1 _) rfl ?_
            refine zw_goto 9 f72_109 (by decide +kernel) ?_
            have lv := hlv.1 t ht2
            have br := (hp.2.2.1 t ht2).1
            have Q := qInc (a := lev t) (left := left) (d := left) (b := P 54 t) (g := g) hg1 br lv ⟨hl0, hl1⟩ (Or.inl ⟨rfl, (Int64.not_lt.mp (fun q => hc3 ((lg_cmp_gt _ _).mpr q)))⟩)
            have N := qIn (a := lev t) (left := left) (b := P 54 t) (g := g) hg1 br lv ⟨hl0, hl1⟩
            have E := qPour_y (brim := P 54) (over := P 59) (g := g) (n := n) (lev := lev) (dr := dr) (left := left) (w := nI t) (t := t) rfl (by omega) (Int64.not_le.mp (fun q => hc2 ((lg_cmp_le _ _).mpr q)))
            rw [vpL_2] at E
            have N4 := N.2.2.2.1
            have N5 := N.2.2.2.2.1
            rw [← N.2.2.1, Q.1] at N4 N5
            have N1 := N.1
            have N2 := N.2.1
            rw [Q.2] at N1 N2
            rw [Q.1, Q.2] at E
            rw [E]
            exact ih (i + 1) (t + 1) _ _ _ _ _ _ _ _ (KQ.b rfl K) hd (congrArg (fun z => vp_updL z t ((lev t) + left)) (hl)) (hlv.u ht2 N5 N4) (hp.2.2.1 t ht2).2.2.2.2.2 (by omega) (by omega) (by omega) N1 (by omega) (zl1_ne rfl rfl (zl1_ne rfl rfl (zl2_ne rfl rfl (zl2_ne rfl rfl h0)))) (zl1_ne rfl rfl zl1_eq) (zl1_ne rfl rfl (zl1_ne rfl rfl zl2_eq)) zl1_eq
set_option maxRecDepth 100000 in
set_option maxHeartbeats 0 in
theorem cx_pour_11 (ro : UInt32 → Nat × (Nat → Int32)) (nv np : Nat) (P : Nat → Nat → Int32) (I : Nat → Nat → Int32) (G : Nat → Nat → Int64) (A : Nat → Nat → Int32) (B : Nat → Nat → Int64) (hp : MPa nv np P) (g dr : Int64) (hg1 : 1 ≤ g.toInt ∧ g.toInt ≤ 10000) (hnv : I 1 0 = nI nv) (hbr : A 3 = P 54) (hov : A 8 = P 59) (hg : G 12 0 = g) (lev : Nat → Int64) (hl : B 13 = lev) (hd : G 12 3 = dr) (hlv : qLv nv (P 54) g lev) (w : Int32) (left : Int64) (hw : mTo nv 0 w) (hl0 : 0 ≤ left.toInt) (hl1 : left.toInt ≤ 100000000) : zWp ro 72 0 [(0, .ref 11), (1, .int w), (2, .long left)] [] (hS I G A B) 0 0 (fun r h1 => ∃ I2 G2 A2 B2, h1 = hS I2 G2 A2 B2 ∧ KQ (fCp 11) (pCa 11) I G A B I2 G2 A2 B2 ∧ (B2 13 = (qPour (P 54) (P 59) g 9 lev dr w left).1 ∧ G2 12 3 = (qPour (P 54) (P 59) g 9 lev dr w left).2) ∧ r = none) := by
  have h8 := hp.1
  refine zw_iload_n 1 f72_0 rfl rfl ?_
  refine zw_istore _ 3 f72_1 rfl (by decide +kernel) rfl ?_
  refine zw_lload_n 4 f72_3 rfl (zl1_ne rfl rfl rfl) ?_
  refine zw_lstore _ 6 f72_4 rfl (by decide +kernel) rfl ?_
  refine zw_iconst 0 7 f72_6 rfl (by decide +kernel) ?_
  refine zw_istore _ 9 f72_7 rfl (by decide +kernel) rfl ?_
  exact lcx_pour11 ro nv np P I G A B hp g dr hg1 hnv hbr hov hg 9 0 0 _ _ _ _ _ lev w left KQ.rf hd hl hlv hw (by omega) (by omega) (by omega) hl0 hl1 (zl1_ne rfl rfl (zl2_ne rfl rfl (zl1_ne rfl rfl rfl))) (zl1_ne rfl rfl (zl2_ne rfl rfl zl1_eq)) (zl1_ne rfl rfl zl2_eq) zl1_eq
set_option maxRecDepth 100000 in
set_option maxHeartbeats 0 in
theorem lcx_se11_87 (ro : UInt32 → Nat × (Nat → Int32)) (nv np : Nat) (P : Nat → Nat → Int32) (W : qW) (T K : Int) (I : Nat → Nat → Int32) (G : Nat → Nat → Int64) (A : Nat → Nat → Int32) (B : Nat → Nat → Int64) (hR : cRS 11 nv np P W I G A B) (hp : MPa nv np P) (hb : wBo W) (hW : wOk nv T K P W) (hT : T ≤ 40000) (hK : K ≤ 200000000) : ∀ (n k : Nat) (ls : List (Nat × Value)) (I1 : Nat → Nat → Int32) (G1 : Nat → Nat → Int64) (A1 : Nat → Nat → Int32) (B1 : Nat → Nat → Int64) (lev : Nat → Int64) (dr : Int64) (sip opn cnt : Nat → Int32) (ev : List (Int32 × Int32)), KQ (fSe 11) (pSe 11) I G A B I1 G1 A1 B1 → wT3 nv P W k = (lev, dr, sip, opn, cnt, ev) → cRS 11 nv np P (wMid W (lev, dr, sip, opn, cnt, ev)) I1 G1 A1 B1 → cHp 11 I1 A1 ev → zld ls 0 = some (.ref 11) → zld ls 1 = some (.int (nI k)) → k ≤ nv → nv + 1 ≤ k + n → zWp ro 70 87 ls [] (hS I1 G1 A1 B1) 0 0 (fun r h1 => ∃ I2 G2 A2 B2, h1 = hS I2 G2 A2 B2 ∧ KQ (fSe 11) (pSe 11) I G A B I2 G2 A2 B2 ∧ (cRS 11 nv np P (wMom nv P W) I2 G2 A2 B2 ∧ cHp 11 I2 A2 (wEv nv P W)) ∧ r = none) := by
  have h8 := hp.1
  have h14 := hp.2.1
  have hg : 1 ≤ W.1.toInt ∧ W.1.toInt ≤ 10000 := hW.1.1
  have tok := wT_ok hp hb hW hT hK
  have tln := wT_len (nv := nv) (P := P) (W := W)
  have tsum := qN_sum (kind := P 53) nv
  intro n
  induction n with
  | zero =>
    intro k ls I1 G1 A1 B1 lev dr sip opn cnt ev _ _ _ _ _ _ a b
    exact absurd b (by omega)
  | succ n ih =>
    intro k ls I1 G1 A1 B1 lev dr sip opn cnt ev K0 hm hR1 hH h0 h1 hk1 hk2
    have hO := tok.2.2 k hk1
    have hLn := tln.2.2 k
    rw [hm] at hO hLn
    change ev.length ≤ _ at hLn
    have hbm : wBo (wMid W (lev, dr, sip, opn, cnt, ev)) := ⟨hO.2.2.2.1.1, hO.2.2.2.1.2⟩
    refine zw_iload_n 88 f70_87 rfl h1 ?_
    refine zw_aload_n 89 f70_88 rfl h0 ?_
    refine zw_getfield 92 f70_89 rfl g70_37_10 (hb_11 _ _ _ _) rfl ?_
    refine zw_getI (nI nv) 95 f70_92 rfl g70_80_4 (hb_1 _ _ _ _) rfl hR1.1.1 ?_
    refine zw_ic_ge 98 109 f70_95 (by decide +kernel) rfl (fun hc1 => ?_) (fun hc1 => ?_)
    · have hn_hc1 : nv ≤ k := zn_ge (by omega) (by omega) hc1
      refine zw_aload_n 110 f70_109 rfl h0 ?_
      refine zw_lconst 1 111 f70_110 rfl (by decide +kernel) ?_
      refine zw_lconst 0 112 f70_111 rfl (by decide +kernel) ?_
      refine zw_virtual_i 115 0 0 [.ref 11, .long 1, .long 0] [(0, .ref 11), (1, .long 1), (3, .long 0)] f70_112 rfl n70_164 k70_164_10 rfl (hb_11 _ _ _ _) (by decide +kernel) (Nat.le_of_ble_eq_true rfl) rfl rfl (by decide +kernel) (by decide +kernel) rfl (Nat.le_of_ble_eq_true rfl) rfl ?_
      have hk : k = nv := by omega
      rw [hk] at hm
      have EM : wMm nv P W = (lev, dr, sip, opn, cnt, ev) := hm
      refine zWp.mono (cx_adv_11 ro nv np P (wMid W (lev, dr, sip, opn, cnt, ev)) I1 G1 A1 B1 hR1 hp (A1 17) (I1 11 6) (I1 11 7) (fun _ _ => rfl) rfl rfl 1 0) ?_
      rintro r h1 ⟨I2, G2, A2, B2, rfl, K2, hc⟩
      have hlow := mid_low (ch := A1 17) (sr := I1 11 6) (dr := I1 11 7) hp hW hO
      rcases hc with ⟨-, hn, -⟩ | ⟨rfl, hs, hR2⟩
      · rw [hlow] at hn; exact absurd hn (by intro q; cases q)
      rw [hlow] at hs
      have hs2 := Option.some.inj hs
      rw [← hs2] at hR2
      refine ⟨_, rfl, ?_⟩
      refine zw_pop 116 f70_115 rfl rfl ?_
      refine zw_vreturn f70_116 r70 u70 ?_
      refine ⟨_, _, _, _, rfl, (KQ.tr K0 (KQ.wk K2 (fCa_Se 11) (pCa_Se 11))), ⟨?_, ?_⟩, rfl⟩
      · unfold wMom; rw [EM]; exact hR2
      · unfold wEv; rw [EM]
        exact ⟨(K2.1 _ _ rfl).trans hH.1, fun i hi => ⟨(congrFun (K2.2.2.1 _ rfl) i).trans (hH.2 i hi).1, (congrFun (K2.2.2.1 _ rfl) i).trans (hH.2 i hi).2⟩⟩
    · have hn_hc1 : k < nv := zn_lt (by omega) (by omega) hc1
      refine zw_aload_n 99 f70_98 rfl h0 ?_
      refine zw_iload_n 100 f70_99 rfl h1 ?_
      refine zw_virtual_v 103 0 0 [.ref 11, .int (nI k)] [(0, .ref 11), (1, .int (nI k))] f70_100 rfl n70_193 k70_193_10 rfl (hb_11 _ _ _ _) (by decide +kernel) (Nat.le_of_ble_eq_true rfl) rfl rfl (by decide +kernel) (by decide +kernel) rfl (Nat.le_of_ble_eq_true rfl) rfl ?_
      refine zw_aload_n 1 f74_0 rfl rfl ?_
      refine zw_iload_n 2 f74_1 rfl rfl ?_
      refine zw_iconst 1 3 f74_2 rfl (by decide +kernel) ?_
      refine zw_virtual_i 6 0 0 [.ref 11, .int (nI k), .int 1] [(0, .ref 11), (1, .int (nI k)), (2, .int 1)] f74_3 rfl n74_135 k74_135_10 rfl (hb_11 _ _ _ _) (by decide +kernel) (Nat.le_of_ble_eq_true rfl) rfl rfl (by decide +kernel) (by decide +kernel) rfl (Nat.le_of_ble_eq_true rfl) rfl ?_
      refine zw_aload_n 1 f56_0 rfl rfl ?_
      refine zw_getfield 4 f56_1 rfl g56_37_10 (hb_11 _ _ _ _) rfl ?_
      refine zw_iload_n 5 f56_4 rfl rfl ?_
      refine zw_virtual_i 8 0 0 [.ref 1, .int (nI k)] [(0, .ref 1), (1, .int (nI k))] f56_5 rfl n56_145 k56_145_4 rfl (hb_1 _ _ _ _) (by decide +kernel) (Nat.le_of_ble_eq_true rfl) rfl rfl (by decide +kernel) (by decide +kernel) rfl (Nat.le_of_ble_eq_true rfl) rfl ?_
      refine zw_iload_n 1 f17_0 rfl rfl ?_
      refine zw_if_lt_f 4 22 f17_1 (by decide +kernel) rfl (nI_pos (by omega)) ?_
      refine zw_iload_n 5 f17_4 rfl rfl ?_
      refine zw_aload_n 6 f17_5 rfl rfl ?_
      refine zw_getI (nI nv) 9 f17_6 rfl g17_39_4 (hb_1 _ _ _ _) rfl hR1.1.1 ?_
      refine zw_ic_ge_f 12 22 f17_9 (by decide +kernel) rfl hc1 ?_
      refine zw_iload_n 13 f17_12 rfl rfl ?_
      refine zw_bipush 8 15 f17_13 rfl (by decide +kernel) ?_
      refine zw_ic_ge_f 18 22 f17_15 (by decide +kernel) rfl (fun q => absurd (zn_ge (a := 8) (b := k) (by omega) (by omega) q) (by omega)) ?_
      refine zw_iconst 1 19 f17_18 rfl (by decide +kernel) ?_
      refine zw_goto 23 f17_19 (by decide +kernel) ?_
      refine zw_istore_n _ 24 f17_23 rfl (by decide +kernel) rfl ?_
      refine zw_iload_n 25 f17_24 rfl zl1_eq ?_
      refine zw_if_eq_f 28 52 f17_25 (by decide +kernel) rfl (by decide +kernel) ?_
      refine zw_aload_n 29 f17_28 rfl (zl1_ne rfl rfl rfl) ?_
      refine zw_getfield 32 f17_29 rfl g17_9_4 (hb_1 _ _ _ _) rfl ?_
      refine zw_iload_n 33 f17_32 rfl (zl1_ne rfl rfl rfl) ?_
      refine zw_iaload k (P 53 k) 34 f17_33 rfl (hb_2 _ _ _ _) (nI_clamp (by omega)) (nI_pos (by omega)) (by omega) (congrFun ((hR1.2.1 53 (by omega) (by omega))) k) ?_
      refine zw_iconst 3 35 f17_34 rfl (by decide +kernel) ?_
      refine zw_ic_eq 38 48 f17_35 (by decide +kernel) rfl (fun hc2 => ?_) (fun hc2 => ?_)
      · have eY := qN_y (kind := P 53) (k := k) (show s34 (P 53 k) from Or.inl hc2)
        have eM := qN_mo (s := s34) (kind := P 53) (k := k + 1) nv (by omega)
        have he8 : ev.length < 8 := by omega
        refine zw_iconst 1 49 f17_48 rfl (by decide +kernel) ?_
        refine zw_goto 53 f17_49 (by decide +kernel) ?_
        refine zw_zreturn f17_53 r17 u17 (by decide +kernel) ⟨_, rfl, ?_⟩
        refine zw_if_eq_f 11 23 f56_8 (by decide +kernel) rfl (by decide +kernel) ?_
        refine zw_aload_n 12 f56_11 rfl rfl ?_
        refine zw_getfield 15 f56_12 rfl g56_37_10 (hb_11 _ _ _ _) rfl ?_
        refine zw_getfield 18 f56_15 rfl g56_148_4 (hb_1 _ _ _ _) rfl ?_
        refine zw_iload_n 19 f56_18 rfl rfl ?_
        rcases (hp.2.2.1 k (by omega)).2.2.2.1 with t3q | ⟨t3, t3l, t3n, t3q⟩
        · refine zw_iaload k (-1) 20 f56_19 rfl (hb_6 _ _ _ _) (nI_clamp (by omega)) (nI_pos (by omega)) (by omega) ((congrFun (hR1.2.1 57 (by omega) (by omega)) k).trans t3q) ?_
          refine zw_goto 24 f56_20 (by decide +kernel) ?_
          refine zw_istore_n _ 25 f56_24 rfl (by decide +kernel) rfl ?_
          refine zw_iload_n 26 f56_25 rfl zl1_eq ?_
          refine zw_iconst (-1) 27 f56_26 rfl (by decide +kernel) ?_
          refine zw_ic_eq_t 46 f56_27 (by decide +kernel) (by decide +kernel) ?_
          refine zw_iconst 0 47 f56_46 rfl (by decide +kernel) ?_
          refine zw_zreturn f56_47 r56 u56 (by decide +kernel) ⟨_, rfl, ?_⟩
          refine zw_if_eq_t 79 f74_6 (by decide +kernel) (by decide +kernel) ?_
          refine zw_aload_n 80 f74_79 rfl rfl ?_
          refine zw_iload_n 81 f74_80 rfl rfl ?_
          refine zw_iconst 0 82 f74_81 rfl (by decide +kernel) ?_
          refine zw_virtual_i 85 0 0 [.ref 11, .int (nI k), .int 0] [(0, .ref 11), (1, .int (nI k)), (2, .int 0)] f74_82 rfl n74_135 k74_135_10 rfl (hb_11 _ _ _ _) (by decide +kernel) (Nat.le_of_ble_eq_true rfl) rfl rfl (by decide +kernel) (by decide +kernel) rfl (Nat.le_of_ble_eq_true rfl) rfl ?_
          refine zw_aload_n 1 f56_0 rfl rfl ?_
          refine zw_getfield 4 f56_1 rfl g56_37_10 (hb_11 _ _ _ _) rfl ?_
          refine zw_iload_n 5 f56_4 rfl rfl ?_
          refine zw_virtual_i 8 0 0 [.ref 1, .int (nI k)] [(0, .ref 1), (1, .int (nI k))] f56_5 rfl n56_145 k56_145_4 rfl (hb_1 _ _ _ _) (by decide +kernel) (Nat.le_of_ble_eq_true rfl) rfl rfl (by decide +kernel) (by decide +kernel) rfl (Nat.le_of_ble_eq_true rfl) rfl ?_
          refine zw_iload_n 1 f17_0 rfl rfl ?_
          refine zw_if_lt_f 4 22 f17_1 (by decide +kernel) rfl (nI_pos (by omega)) ?_
          refine zw_iload_n 5 f17_4 rfl rfl ?_
          refine zw_aload_n 6 f17_5 rfl rfl ?_
          refine zw_getI (nI nv) 9 f17_6 rfl g17_39_4 (hb_1 _ _ _ _) rfl hR1.1.1 ?_
          refine zw_ic_ge_f 12 22 f17_9 (by decide +kernel) rfl hc1 ?_
          refine zw_iload_n 13 f17_12 rfl rfl ?_
          refine zw_bipush 8 15 f17_13 rfl (by decide +kernel) ?_
          refine zw_ic_ge_f 18 22 f17_15 (by decide +kernel) rfl (fun q => absurd (zn_ge (a := 8) (b := k) (by omega) (by omega) q) (by omega)) ?_
          refine zw_iconst 1 19 f17_18 rfl (by decide +kernel) ?_
          refine zw_goto 23 f17_19 (by decide +kernel) ?_
          refine zw_istore_n _ 24 f17_23 rfl (by decide +kernel) rfl ?_
          refine zw_iload_n 25 f17_24 rfl zl1_eq ?_
          refine zw_if_eq_f 28 52 f17_25 (by decide +kernel) rfl (by decide +kernel) ?_
          refine zw_aload_n 29 f17_28 rfl (zl1_ne rfl rfl rfl) ?_
          refine zw_getfield 32 f17_29 rfl g17_9_4 (hb_1 _ _ _ _) rfl ?_
          refine zw_iload_n 33 f17_32 rfl (zl1_ne rfl rfl rfl) ?_
          refine zw_iaload k (P 53 k) 34 f17_33 rfl (hb_2 _ _ _ _) (nI_clamp (by omega)) (nI_pos (by omega)) (by omega) (congrFun ((hR1.2.1 53 (by omega) (by omega))) k) ?_
          refine zw_iconst 3 35 f17_34 rfl (by decide +kernel) ?_
          refine zw_ic_eq_t 48 f17_35 (by decide +kernel) hc2 ?_
          refine zw_iconst 1 49 f17_48 rfl (by decide +kernel) ?_
          refine zw_goto 53 f17_49 (by decide +kernel) ?_
          refine zw_zreturn f17_53 r17 u17 (by decide +kernel) ⟨_, rfl, ?_⟩
          refine zw_if_eq_f 11 23 f56_8 (by decide +kernel) rfl (by decide +kernel) ?_
          refine zw_aload_n 12 f56_11 rfl rfl ?_
          refine zw_getfield 15 f56_12 rfl g56_37_10 (hb_11 _ _ _ _) rfl ?_
          refine zw_getfield 18 f56_15 rfl g56_148_4 (hb_1 _ _ _ _) rfl ?_
          refine zw_iload_n 19 f56_18 rfl rfl ?_
          refine zw_iaload k (-1) 20 f56_19 rfl (hb_6 _ _ _ _) (nI_clamp (by omega)) (nI_pos (by omega)) (by omega) ((congrFun (hR1.2.1 57 (by omega) (by omega)) k).trans t3q) ?_
          refine zw_goto 24 f56_20 (by decide +kernel) ?_
          refine zw_istore_n _ 25 f56_24 rfl (by decide +kernel) rfl ?_
          refine zw_iload_n 26 f56_25 rfl zl1_eq ?_
          refine zw_iconst (-1) 27 f56_26 rfl (by decide +kernel) ?_
          refine zw_ic_eq_t 46 f56_27 (by decide +kernel) (by decide +kernel) ?_
          refine zw_iconst 0 47 f56_46 rfl (by decide +kernel) ?_
          refine zw_zreturn f56_47 r56 u56 (by decide +kernel) ⟨_, rfl, ?_⟩
          refine zw_if_eq_t 142 f74_85 (by decide +kernel) (by decide +kernel) ?_
          refine zw_vreturn f74_142 r74 u74 ⟨rfl, ?_⟩
          refine zw_iinc (nI (k + 1)) _ 106 f70_103 rfl h1 (by decide +kernel) (nI_1 _) rfl ?_
          refine zw_goto 87 f70_106 (by decide +kernel) ?_
          have E : wT3 nv P W (k + 1) = (lev, dr, sip, opn, cnt, ev) := by
            show qFlo1 (P 53) (P 55) (P 56) (P 57) W.1 k (wT3 nv P W k) = _
            rw [hm]
            exact qFlo1_b t3q
          exact ih (k + 1) _ _ _ _ _ _ _ _ _ _ _ K0 E hR1 hH (zl1_ne rfl rfl h0) zl1_eq (by omega) (by omega)
        · refine zw_iaload k (nI t3) 20 f56_19 rfl (hb_6 _ _ _ _) (nI_clamp (by omega)) (nI_pos (by omega)) (by omega) ((congrFun (hR1.2.1 57 (by omega) (by omega)) k).trans t3q) ?_
          refine zw_goto 24 f56_20 (by decide +kernel) ?_
          refine zw_istore_n _ 25 f56_24 rfl (by decide +kernel) rfl ?_
          refine zw_iload_n 26 f56_25 rfl zl1_eq ?_
          refine zw_iconst (-1) 27 f56_26 rfl (by decide +kernel) ?_
          refine zw_ic_eq_f 30 46 f56_27 (by decide +kernel) rfl (nI_nem (by omega)) ?_
          refine zw_aload_n 31 f56_30 rfl (zl1_ne rfl rfl rfl) ?_
          refine zw_getfield 34 f56_31 rfl g56_12_10 (hb_11 _ _ _ _) rfl ?_
          refine zw_iload_n 35 f56_34 rfl zl1_eq ?_
          refine zw_virtual_i 38 0 0 [.ref 12, .int (nI t3)] [(0, .ref 12), (1, .int (nI t3))] f56_35 rfl n56_47 k56_47_9 rfl (hb_12 _ _ _ _) (by decide +kernel) (Nat.le_of_ble_eq_true rfl) rfl rfl (by decide +kernel) (by decide +kernel) rfl (Nat.le_of_ble_eq_true rfl) rfl ?_
          refine zWp.mono (cx_isOpen_11 ro nv np P (wMid W (lev, dr, sip, opn, cnt, ev)) _ _ _ _ hR1 hp hbm t3 (by omega)) ?_
          rintro r h1 ⟨rfl, rfl⟩
          refine ⟨_, rfl, ?_⟩
          refine zw_iload_n 39 f56_38 rfl (zl1_ne rfl rfl rfl) ?_
          refine zw_ic_ne 42 46 f56_39 (by decide +kernel) rfl (fun hc4 => ?_) (fun hc4 => ?_)
          · refine zw_iconst 0 47 f56_46 rfl (by decide +kernel) ?_
            refine zw_zreturn f56_47 r56 u56 (by decide +kernel) ⟨_, rfl, ?_⟩
            refine zw_if_eq_t 79 f74_6 (by decide +kernel) (by decide +kernel) ?_
            refine zw_aload_n 80 f74_79 rfl rfl ?_
            refine zw_iload_n 81 f74_80 rfl rfl ?_
            refine zw_iconst 0 82 f74_81 rfl (by decide +kernel) ?_
            refine zw_virtual_i 85 0 0 [.ref 11, .int (nI k), .int 0] [(0, .ref 11), (1, .int (nI k)), (2, .int 0)] f74_82 rfl n74_135 k74_135_10 rfl (hb_11 _ _ _ _) (by decide +kernel) (Nat.le_of_ble_eq_true rfl) rfl rfl (by decide +kernel) (by decide +kernel) rfl (Nat.le_of_ble_eq_true rfl) rfl ?_
            refine zw_aload_n 1 f56_0 rfl rfl ?_
            refine zw_getfield 4 f56_1 rfl g56_37_10 (hb_11 _ _ _ _) rfl ?_
            refine zw_iload_n 5 f56_4 rfl rfl ?_
            refine zw_virtual_i 8 0 0 [.ref 1, .int (nI k)] [(0, .ref 1), (1, .int (nI k))] f56_5 rfl n56_145 k56_145_4 rfl (hb_1 _ _ _ _) (by decide +kernel) (Nat.le_of_ble_eq_true rfl) rfl rfl (by decide +kernel) (by decide +kernel) rfl (Nat.le_of_ble_eq_true rfl) rfl ?_
            refine zw_iload_n 1 f17_0 rfl rfl ?_
            refine zw_if_lt_f 4 22 f17_1 (by decide +kernel) rfl (nI_pos (by omega)) ?_
            refine zw_iload_n 5 f17_4 rfl rfl ?_
            refine zw_aload_n 6 f17_5 rfl rfl ?_
            refine zw_getI (nI nv) 9 f17_6 rfl g17_39_4 (hb_1 _ _ _ _) rfl hR1.1.1 ?_
            refine zw_ic_ge_f 12 22 f17_9 (by decide +kernel) rfl hc1 ?_
            refine zw_iload_n 13 f17_12 rfl rfl ?_
            refine zw_bipush 8 15 f17_13 rfl (by decide +kernel) ?_
            refine zw_ic_ge_f 18 22 f17_15 (by decide +kernel) rfl (fun q => absurd (zn_ge (a := 8) (b := k) (by omega) (by omega) q) (by omega)) ?_
            refine zw_iconst 1 19 f17_18 rfl (by decide +kernel) ?_
            refine zw_goto 23 f17_19 (by decide +kernel) ?_
            refine zw_istore_n _ 24 f17_23 rfl (by decide +kernel) rfl ?_
            refine zw_iload_n 25 f17_24 rfl zl1_eq ?_
            refine zw_if_eq_f 28 52 f17_25 (by decide +kernel) rfl (by decide +kernel) ?_
            refine zw_aload_n 29 f17_28 rfl (zl1_ne rfl rfl rfl) ?_
            refine zw_getfield 32 f17_29 rfl g17_9_4 (hb_1 _ _ _ _) rfl ?_
            refine zw_iload_n 33 f17_32 rfl (zl1_ne rfl rfl rfl) ?_
            refine zw_iaload k (P 53 k) 34 f17_33 rfl (hb_2 _ _ _ _) (nI_clamp (by omega)) (nI_pos (by omega)) (by omega) (congrFun ((hR1.2.1 53 (by omega) (by omega))) k) ?_
            refine zw_iconst 3 35 f17_34 rfl (by decide +kernel) ?_
            refine zw_ic_eq_t 48 f17_35 (by decide +kernel) hc2 ?_
            refine zw_iconst 1 49 f17_48 rfl (by decide +kernel) ?_
            refine zw_goto 53 f17_49 (by decide +kernel) ?_
            refine zw_zreturn f17_53 r17 u17 (by decide +kernel) ⟨_, rfl, ?_⟩
            refine zw_if_eq_f 11 23 f56_8 (by decide +kernel) rfl (by decide +kernel) ?_
            refine zw_aload_n 12 f56_11 rfl rfl ?_
            refine zw_getfield 15 f56_12 rfl g56_37_10 (hb_11 _ _ _ _) rfl ?_
            refine zw_getfield 18 f56_15 rfl g56_148_4 (hb_1 _ _ _ _) rfl ?_
            refine zw_iload_n 19 f56_18 rfl rfl ?_
            refine zw_iaload k (nI t3) 20 f56_19 rfl (hb_6 _ _ _ _) (nI_clamp (by omega)) (nI_pos (by omega)) (by omega) ((congrFun (hR1.2.1 57 (by omega) (by omega)) k).trans t3q) ?_
            refine zw_goto 24 f56_20 (by decide +kernel) ?_
            refine zw_istore_n _ 25 f56_24 rfl (by decide +kernel) rfl ?_
            refine zw_iload_n 26 f56_25 rfl zl1_eq ?_
            refine zw_iconst (-1) 27 f56_26 rfl (by decide +kernel) ?_
            refine zw_ic_eq_f 30 46 f56_27 (by decide +kernel) rfl (nI_nem (by omega)) ?_
            refine zw_aload_n 31 f56_30 rfl (zl1_ne rfl rfl rfl) ?_
            refine zw_getfield 34 f56_31 rfl g56_12_10 (hb_11 _ _ _ _) rfl ?_
            refine zw_iload_n 35 f56_34 rfl zl1_eq ?_
            refine zw_virtual_i 38 0 0 [.ref 12, .int (nI t3)] [(0, .ref 12), (1, .int (nI t3))] f56_35 rfl n56_47 k56_47_9 rfl (hb_12 _ _ _ _) (by decide +kernel) (Nat.le_of_ble_eq_true rfl) rfl rfl (by decide +kernel) (by decide +kernel) rfl (Nat.le_of_ble_eq_true rfl) rfl ?_
            refine zWp.mono (cx_isOpen_11 ro nv np P (wMid W (lev, dr, sip, opn, cnt, ev)) _ _ _ _ hR1 hp hbm t3 (by omega)) ?_
            rintro r h1 ⟨rfl, rfl⟩
            refine ⟨_, rfl, ?_⟩
            refine zw_iload_n 39 f56_38 rfl (zl1_ne rfl rfl rfl) ?_
            refine zw_ic_ne_f 42 46 f56_39 (by decide +kernel) rfl (fun q => q ((hbm.1 _ (by omega)).resolve_right hc4)) ?_
            refine zw_iconst 1 43 f56_42 rfl (by decide +kernel) ?_
            refine zw_goto 47 f56_43 (by decide +kernel) ?_
            refine zw_zreturn f56_47 r56 u56 (by decide +kernel) ⟨_, rfl, ?_⟩
            refine zw_if_eq_f 88 142 f74_85 (by decide +kernel) rfl (by decide +kernel) ?_
            refine zw_aload_n 89 f74_88 rfl rfl ?_
            refine zw_getfield 92 f74_89 rfl g74_12_10 (hb_11 _ _ _ _) rfl ?_
            refine zw_getfield 95 f74_92 rfl g74_87_9 (hb_12 _ _ _ _) rfl ?_
            refine zw_iload_n 96 f74_95 rfl rfl ?_
            refine zw_laload k (lev k) 97 f74_96 rfl (hb_13 _ _ _ _) (nI_clamp (by omega)) (nI_pos (by omega)) (by omega) (congrFun (hR1.2.2.2.1) k) ?_
            refine zw_aload_n 98 f74_97 rfl rfl ?_
            refine zw_getfield 101 f74_98 rfl g74_37_10 (hb_11 _ _ _ _) rfl ?_
            refine zw_getfield 104 f74_101 rfl g74_142_4 (hb_1 _ _ _ _) rfl ?_
            refine zw_iload_n 105 f74_104 rfl rfl ?_
            refine zw_iaload k (P 56 k) 106 f74_105 rfl (hb_5 _ _ _ _) (nI_clamp (by omega)) (nI_pos (by omega)) (by omega) (congrFun ((hR1.2.1 56 (by omega) (by omega))) k) ?_
            refine zw_i2l (Int32.toInt64 (P 56 k)) 107 f74_106 rfl rfl ?_
            refine zw_aload_n 108 f74_107 rfl rfl ?_
            refine zw_getfield 111 f74_108 rfl g74_12_10 (hb_11 _ _ _ _) rfl ?_
            refine zw_getG W.1 114 f74_111 rfl g74_109_9 (hb_12 _ _ _ _) rfl hR1.2.2.1.1 ?_
            refine zw_lmul ((Int32.toInt64 (P 56 k)) * W.1) 115 f74_114 rfl rfl ?_
            refine zw_lcmp (lg_cmp (lev k) ((Int32.toInt64 (P 56 k)) * W.1)) 116 f74_115 rfl rfl ?_
            refine zw_if_gt 119 142 f74_116 (by decide +kernel) rfl (fun hc5 => ?_) (fun hc5 => ?_)
            · refine zw_vreturn f74_142 r74 u74 ⟨rfl, ?_⟩
              refine zw_iinc (nI (k + 1)) _ 106 f70_103 rfl h1 (by decide +kernel) (nI_1 _) rfl ?_
              refine zw_goto 87 f70_106 (by decide +kernel) ?_
              have E : wT3 nv P W (k + 1) = (lev, dr, sip, opn, cnt, ev) := by
                show qFlo1 (P 53) (P 55) (P 56) (P 57) W.1 k (wT3 nv P W k) = _
                rw [hm]
                exact (qFlo1_o (Or.inl hc2) t3q (by omega)).trans (qFlo2_c ((hbm.1 _ (by omega)).resolve_right hc4) (Int64.not_le.mpr ((lg_cmp_gt _ _).mp hc5)))
              exact ih (k + 1) _ _ _ _ _ _ _ _ _ _ _ K0 E hR1 hH (zl1_ne rfl rfl h0) zl1_eq (by omega) (by omega)
            · refine zw_aload_n 120 f74_119 rfl rfl ?_
              refine zw_getfield 123 f74_120 rfl g74_12_10 (hb_11 _ _ _ _) rfl ?_
              refine zw_aload_n 124 f74_123 rfl rfl ?_
              refine zw_getfield 127 f74_124 rfl g74_37_10 (hb_11 _ _ _ _) rfl ?_
              refine zw_getfield 130 f74_127 rfl g74_148_4 (hb_1 _ _ _ _) rfl ?_
              refine zw_iload_n 131 f74_130 rfl rfl ?_
              refine zw_iaload k (nI t3) 132 f74_131 rfl (hb_6 _ _ _ _) (nI_clamp (by omega)) (nI_pos (by omega)) (by omega) ((congrFun (hR1.2.1 57 (by omega) (by omega)) k).trans t3q) ?_
              refine zw_iconst 1 133 f74_132 rfl (by decide +kernel) ?_
              refine zw_virtual_v 136 0 0 [.ref 12, .int (nI t3), .int 1] [(0, .ref 12), (1, .int (nI t3)), (2, .int 1)] f74_133 rfl n74_212 k74_212_9 rfl (hb_12 _ _ _ _) (by decide +kernel) (Nat.le_of_ble_eq_true rfl) rfl rfl (by decide +kernel) (by decide +kernel) rfl (Nat.le_of_ble_eq_true rfl) rfl ?_
              refine zw_aload_n 1 f44_0 rfl rfl ?_
              refine zw_iload_n 2 f44_1 rfl rfl ?_
              refine zw_if_eq_f 5 16 f44_2 (by decide +kernel) rfl (by decide +kernel) ?_
              refine zw_aload_n 6 f44_5 rfl rfl ?_
              refine zw_getI (I1 12 5) 9 f44_6 rfl g44_38_9 (hb_12 _ _ _ _) rfl rfl ?_
              refine zw_iconst 1 10 f44_9 rfl (by decide +kernel) ?_
              refine zw_iload_n 11 f44_10 rfl rfl ?_
              refine zw_ishl (1 <<< ((nI t3) &&& 31)) 12 f44_11 rfl rfl ?_
              refine zw_ior ((I1 12 5) ||| (1 <<< ((nI t3) &&& 31))) 13 f44_12 rfl rfl ?_
              refine zw_goto 26 f44_13 (by decide +kernel) ?_
              refine zw_put _ 29 f44_26 rfl g44_38_9 (hb_12 _ _ _ _) rfl (Nat.le_of_ble_eq_true rfl) (by decide +kernel) (hi_12_5 _ _ _ _ _) ?_
              refine zw_vreturn f44_29 r44 u44 ⟨rfl, ?_⟩
              refine zw_aload_n 137 f74_136 rfl rfl ?_
              refine zw_iconst 5 138 f74_137 rfl (by decide +kernel) ?_
              refine zw_iload_n 139 f74_138 rfl rfl ?_
              refine zw_virtual_v 142 0 0 [.ref 11, .int 5, .int (nI k)] [(0, .ref 11), (1, .int 5), (2, .int (nI k))] f74_139 rfl n74_203 k74_203_10 rfl (hb_11 _ _ _ _) (by decide +kernel) (Nat.le_of_ble_eq_true rfl) rfl rfl (by decide +kernel) (by decide +kernel) rfl (Nat.le_of_ble_eq_true rfl) rfl ?_
              refine zw_aload_n 1 f75_0 rfl rfl ?_
              refine zw_getI (nI ev.length) 4 f75_1 rfl g75_161_10 (hb_11 _ _ _ _) rfl hH.1 ?_
              refine zw_bipush 8 6 f75_4 rfl (by decide +kernel) ?_
              refine zw_ic_ge_f 9 39 f75_6 (by decide +kernel) rfl (fun q => absurd (zn_ge (a := 8) (b := ev.length) (by omega) (by omega) q) (by omega)) ?_
              refine zw_aload_n 10 f75_9 rfl rfl ?_
              refine zw_getfield 13 f75_10 rfl g75_31_10 (hb_11 _ _ _ _) rfl ?_
              refine zw_aload_n 14 f75_13 rfl rfl ?_
              refine zw_getI (nI ev.length) 17 f75_14 rfl g75_161_10 (hb_11 _ _ _ _) rfl hH.1 ?_
              refine zw_iload_n 18 f75_17 rfl rfl ?_
              refine zw_ast ev.length _ 19 f75_18 rfl (hb_20 _ _ _ _) (nI_clamp (by omega)) (nI_pos (by omega)) (by omega) (ha_20 _ _ _ _ _) ?_
              refine zw_aload_n 20 f75_19 rfl rfl ?_
              refine zw_getfield 23 f75_20 rfl g75_34_10 (hb_11 _ _ _ _) rfl ?_
              refine zw_aload_n 24 f75_23 rfl rfl ?_
              refine zw_getI (nI ev.length) 27 f75_24 rfl g75_161_10 (hb_11 _ _ _ _) rfl hH.1 ?_
              refine zw_iload_n 28 f75_27 rfl rfl ?_
              refine zw_ast ev.length _ 29 f75_28 rfl (hb_21 _ _ _ _) (nI_clamp (by omega)) (nI_pos (by omega)) (by omega) (ha_21 _ _ _ _ _) ?_
              refine zw_aload_n 30 f75_29 rfl rfl ?_
              refine zw_dup 31 f75_30 rfl rfl ?_
              refine zw_getI (nI ev.length) 34 f75_31 rfl g75_161_10 (hb_11 _ _ _ _) rfl hH.1 ?_
              refine zw_iconst 1 35 f75_34 rfl (by decide +kernel) ?_
              refine zw_iadd (nI (ev.length + 1)) 36 f75_35 rfl (nI_add _ 1) ?_
              refine zw_put _ 39 f75_36 rfl g75_161_10 (hb_11 _ _ _ _) rfl (Nat.le_of_ble_eq_true rfl) (by decide +kernel) (hi_11_12 _ _ _ _ _) ?_
              refine zw_vreturn f75_39 r75 u75 ⟨rfl, ?_⟩
              refine zw_vreturn f74_142 r74 u74 ⟨rfl, ?_⟩
              refine zw_iinc (nI (k + 1)) _ 106 f70_103 rfl h1 (by decide +kernel) (nI_1 _) rfl ?_
              refine zw_goto 87 f70_106 (by decide +kernel) ?_
              have E : wT3 nv P W (k + 1) = (lev, dr, sip, (upd opn t3 1), cnt, (ev ++ [(5, nI k)])) := by
                show qFlo1 (P 53) (P 55) (P 56) (P 57) W.1 k (wT3 nv P W k) = _
                rw [hm]
                exact (qFlo1_o (Or.inl hc2) t3q (by omega)).trans (qFlo2_z ((hbm.1 _ (by omega)).resolve_right hc4) (Int64.not_lt.mp (fun q => hc5 ((lg_cmp_gt _ _).mpr q))))
              exact ih (k + 1) _ _ _ _ _ _ _ _ _ _ _ (KQ.i rfl (KQ.a rfl (KQ.a rfl (KQ.i rfl K0)))) E ⟨⟨hR1.1.1, hR1.1.2⟩, PE.of10 ((hR1.2.1 53 (by omega) (by omega))) ((hR1.2.1 54 (by omega) (by omega))) ((hR1.2.1 55 (by omega) (by omega))) ((hR1.2.1 56 (by omega) (by omega))) ((hR1.2.1 57 (by omega) (by omega))) ((hR1.2.1 58 (by omega) (by omega))) ((hR1.2.1 59 (by omega) (by omega))) ((hR1.2.1 60 (by omega) (by omega))) ((hR1.2.1 61 (by omega) (by omega))) ((hR1.2.1 62 (by omega) (by omega))), ⟨hR1.2.2.1.1, hR1.2.2.1.2.1, hR1.2.2.1.2.2.1, hR1.2.2.1.2.2.2⟩, hR1.2.2.2.1, hR1.2.2.2.2.1, ((bOf_set (by omega) (by omega)).trans (congrArg (fun z => upd z t3 1) hR1.2.2.2.2.2.1)), hR1.2.2.2.2.2.2⟩ ⟨(show _ = nI _ by rw [len_s]; rfl), hp_s hH.2 rfl rfl⟩ (zl1_ne rfl rfl h0) zl1_eq (by omega) (by omega)
          · refine zw_iconst 1 43 f56_42 rfl (by decide +kernel) ?_
            refine zw_goto 47 f56_43 (by decide +kernel) ?_
            refine zw_zreturn f56_47 r56 u56 (by decide +kernel) ⟨_, rfl, ?_⟩
            refine zw_if_eq_f 9 79 f74_6 (by decide +kernel) rfl (by decide +kernel) ?_
            refine zw_aload_n 10 f74_9 rfl rfl ?_
            refine zw_getfield 13 f74_10 rfl g74_12_10 (hb_11 _ _ _ _) rfl ?_
            refine zw_getfield 16 f74_13 rfl g74_87_9 (hb_12 _ _ _ _) rfl ?_
            refine zw_iload_n 17 f74_16 rfl rfl ?_
            refine zw_laload k (lev k) 18 f74_17 rfl (hb_13 _ _ _ _) (nI_clamp (by omega)) (nI_pos (by omega)) (by omega) (congrFun (hR1.2.2.2.1) k) ?_
            refine zw_aload_n 19 f74_18 rfl rfl ?_
            refine zw_getfield 22 f74_19 rfl g74_37_10 (hb_11 _ _ _ _) rfl ?_
            refine zw_getfield 25 f74_22 rfl g74_139_4 (hb_1 _ _ _ _) rfl ?_
            refine zw_iload_n 26 f74_25 rfl rfl ?_
            refine zw_iaload k (P 55 k) 27 f74_26 rfl (hb_4 _ _ _ _) (nI_clamp (by omega)) (nI_pos (by omega)) (by omega) (congrFun ((hR1.2.1 55 (by omega) (by omega))) k) ?_
            refine zw_i2l (Int32.toInt64 (P 55 k)) 28 f74_27 rfl rfl ?_
            refine zw_aload_n 29 f74_28 rfl rfl ?_
            refine zw_getfield 32 f74_29 rfl g74_12_10 (hb_11 _ _ _ _) rfl ?_
            refine zw_getG W.1 35 f74_32 rfl g74_109_9 (hb_12 _ _ _ _) rfl hR1.2.2.1.1 ?_
            refine zw_lmul ((Int32.toInt64 (P 55 k)) * W.1) 36 f74_35 rfl rfl ?_
            refine zw_lcmp (lg_cmp (lev k) ((Int32.toInt64 (P 55 k)) * W.1)) 37 f74_36 rfl rfl ?_
            refine zw_if_lt 40 142 f74_37 (by decide +kernel) rfl (fun hc6 => ?_) (fun hc6 => ?_)
            · refine zw_vreturn f74_142 r74 u74 ⟨rfl, ?_⟩
              refine zw_iinc (nI (k + 1)) _ 106 f70_103 rfl h1 (by decide +kernel) (nI_1 _) rfl ?_
              refine zw_goto 87 f70_106 (by decide +kernel) ?_
              have E : wT3 nv P W (k + 1) = (lev, dr, sip, opn, cnt, ev) := by
                show qFlo1 (P 53) (P 55) (P 56) (P 57) W.1 k (wT3 nv P W k) = _
                rw [hm]
                exact (qFlo1_o (Or.inl hc2) t3q (by omega)).trans (qFlo2_b (fun z => absurd (z.symm.trans (Decidable.of_not_not hc4)) (by decide)) (Int64.not_le.mpr ((lg_cmp_lt _ _).mp hc6)))
              exact ih (k + 1) _ _ _ _ _ _ _ _ _ _ _ K0 E hR1 hH (zl1_ne rfl rfl h0) zl1_eq (by omega) (by omega)
            · refine zw_aload_n 41 f74_40 rfl rfl ?_
              refine zw_getfield 44 f74_41 rfl g74_12_10 (hb_11 _ _ _ _) rfl ?_
              refine zw_aload_n 45 f74_44 rfl rfl ?_
              refine zw_getfield 48 f74_45 rfl g74_37_10 (hb_11 _ _ _ _) rfl ?_
              refine zw_getfield 51 f74_48 rfl g74_148_4 (hb_1 _ _ _ _) rfl ?_
              refine zw_iload_n 52 f74_51 rfl rfl ?_
              refine zw_iaload k (nI t3) 53 f74_52 rfl (hb_6 _ _ _ _) (nI_clamp (by omega)) (nI_pos (by omega)) (by omega) ((congrFun (hR1.2.1 57 (by omega) (by omega)) k).trans t3q) ?_
              refine zw_iconst 0 54 f74_53 rfl (by decide +kernel) ?_
              refine zw_virtual_v 57 0 0 [.ref 12, .int (nI t3), .int 0] [(0, .ref 12), (1, .int (nI t3)), (2, .int 0)] f74_54 rfl n74_212 k74_212_9 rfl (hb_12 _ _ _ _) (by decide +kernel) (Nat.le_of_ble_eq_true rfl) rfl rfl (by decide +kernel) (by decide +kernel) rfl (Nat.le_of_ble_eq_true rfl) rfl ?_
              refine zw_aload_n 1 f44_0 rfl rfl ?_
              refine zw_iload_n 2 f44_1 rfl rfl ?_
              refine zw_if_eq_t 16 f44_2 (by decide +kernel) (by decide +kernel) ?_
              refine zw_aload_n 17 f44_16 rfl rfl ?_
              refine zw_getI (I1 12 5) 20 f44_17 rfl g44_38_9 (hb_12 _ _ _ _) rfl rfl ?_
              refine zw_iconst 1 21 f44_20 rfl (by decide +kernel) ?_
              refine zw_iload_n 22 f44_21 rfl rfl ?_
              refine zw_ishl (1 <<< ((nI t3) &&& 31)) 23 f44_22 rfl rfl ?_
              refine zw_iconst (-1) 24 f44_23 rfl (by decide +kernel) ?_
              refine zw_ixor ((1 <<< ((nI t3) &&& 31)) ^^^ (-1)) 25 f44_24 rfl rfl ?_
              refine zw_iand ((I1 12 5) &&& ((1 <<< ((nI t3) &&& 31)) ^^^ (-1))) 26 f44_25 rfl rfl ?_
              refine zw_put _ 29 f44_26 rfl g44_38_9 (hb_12 _ _ _ _) rfl (Nat.le_of_ble_eq_true rfl) (by decide +kernel) (hi_12_5 _ _ _ _ _) ?_
              refine zw_vreturn f44_29 r44 u44 ⟨rfl, ?_⟩
              refine zw_aload_n 58 f74_57 rfl rfl ?_
              refine zw_getfield 61 f74_58 rfl g74_12_10 (hb_11 _ _ _ _) rfl ?_
              refine zw_getfield 64 f74_61 rfl g74_215_9 (hb_12 _ _ _ _) rfl ?_
              refine zw_iload_n 65 f74_64 rfl rfl ?_
              refine zw_dup2 66 f74_65 rfl rfl rfl ?_
              refine zw_iaload k (A1 14 k) 67 f74_66 rfl (hb_14 _ _ _ _) (nI_clamp (by omega)) (nI_pos (by omega)) (by omega) rfl ?_
              refine zw_iconst 1 68 f74_67 rfl (by decide +kernel) ?_
              refine zw_iadd ((A1 14 k) + 1) 69 f74_68 rfl rfl ?_
              refine zw_ast k _ 70 f74_69 rfl (hb_14 _ _ _ _) (nI_clamp (by omega)) (nI_pos (by omega)) (by omega) (ha_14 _ _ _ _ _) ?_
              refine zw_aload_n 71 f74_70 rfl rfl ?_
              refine zw_iconst 4 72 f74_71 rfl (by decide +kernel) ?_
              refine zw_iload_n 73 f74_72 rfl rfl ?_
              refine zw_virtual_v 76 0 0 [.ref 11, .int 4, .int (nI k)] [(0, .ref 11), (1, .int 4), (2, .int (nI k))] f74_73 rfl n74_203 k74_203_10 rfl (hb_11 _ _ _ _) (by decide +kernel) (Nat.le_of_ble_eq_true rfl) rfl rfl (by decide +kernel) (by decide +kernel) rfl (Nat.le_of_ble_eq_true rfl) rfl ?_
              refine zw_aload_n 1 f75_0 rfl rfl ?_
              refine zw_getI (nI ev.length) 4 f75_1 rfl g75_161_10 (hb_11 _ _ _ _) rfl hH.1 ?_
              refine zw_bipush 8 6 f75_4 rfl (by decide +kernel) ?_
              refine zw_ic_ge_f 9 39 f75_6 (by decide +kernel) rfl (fun q => absurd (zn_ge (a := 8) (b := ev.length) (by omega) (by omega) q) (by omega)) ?_
              refine zw_aload_n 10 f75_9 rfl rfl ?_
              refine zw_getfield 13 f75_10 rfl g75_31_10 (hb_11 _ _ _ _) rfl ?_
              refine zw_aload_n 14 f75_13 rfl rfl ?_
              refine zw_getI (nI ev.length) 17 f75_14 rfl g75_161_10 (hb_11 _ _ _ _) rfl hH.1 ?_
              refine zw_iload_n 18 f75_17 rfl rfl ?_
              refine zw_ast ev.length _ 19 f75_18 rfl (hb_20 _ _ _ _) (nI_clamp (by omega)) (nI_pos (by omega)) (by omega) (ha_20 _ _ _ _ _) ?_
              refine zw_aload_n 20 f75_19 rfl rfl ?_
              refine zw_getfield 23 f75_20 rfl g75_34_10 (hb_11 _ _ _ _) rfl ?_
              refine zw_aload_n 24 f75_23 rfl rfl ?_
              refine zw_getI (nI ev.length) 27 f75_24 rfl g75_161_10 (hb_11 _ _ _ _) rfl hH.1 ?_
              refine zw_iload_n 28 f75_27 rfl rfl ?_
              refine zw_ast ev.length _ 29 f75_28 rfl (hb_21 _ _ _ _) (nI_clamp (by omega)) (nI_pos (by omega)) (by omega) (ha_21 _ _ _ _ _) ?_
              refine zw_aload_n 30 f75_29 rfl rfl ?_
              refine zw_dup 31 f75_30 rfl rfl ?_
              refine zw_getI (nI ev.length) 34 f75_31 rfl g75_161_10 (hb_11 _ _ _ _) rfl hH.1 ?_
              refine zw_iconst 1 35 f75_34 rfl (by decide +kernel) ?_
              refine zw_iadd (nI (ev.length + 1)) 36 f75_35 rfl (nI_add _ 1) ?_
              refine zw_put _ 39 f75_36 rfl g75_161_10 (hb_11 _ _ _ _) rfl (Nat.le_of_ble_eq_true rfl) (by decide +kernel) (hi_11_12 _ _ _ _ _) ?_
              refine zw_vreturn f75_39 r75 u75 ⟨rfl, ?_⟩
              refine zw_goto 142 f74_76 (by decide +kernel) ?_
              refine zw_vreturn f74_142 r74 u74 ⟨rfl, ?_⟩
              refine zw_iinc (nI (k + 1)) _ 106 f70_103 rfl h1 (by decide +kernel) (nI_1 _) rfl ?_
              refine zw_goto 87 f70_106 (by decide +kernel) ?_
              have E : wT3 nv P W (k + 1) = (lev, dr, sip, (upd opn t3 0), (upd cnt k (cnt k + 0)), (ev ++ [(4, nI k)])) := by
                show qFlo1 (P 53) (P 55) (P 56) (P 57) W.1 k (wT3 nv P W k) = _
                rw [hm]
                exact (qFlo1_o (Or.inl hc2) t3q (by omega)).trans (qFlo2_y (fun z => absurd (z.symm.trans (Decidable.of_not_not hc4)) (by decide)) (Int64.not_lt.mp (fun q => hc6 ((lg_cmp_lt _ _).mpr q))) (if_neg (k34n hc2)))
              exact ih (k + 1) _ _ _ _ _ _ _ _ _ _ _ (KQ.i rfl (KQ.a rfl (KQ.a rfl (KQ.a rfl (KQ.i rfl K0))))) E ⟨⟨hR1.1.1, hR1.1.2⟩, PE.of10 ((hR1.2.1 53 (by omega) (by omega))) ((hR1.2.1 54 (by omega) (by omega))) ((hR1.2.1 55 (by omega) (by omega))) ((hR1.2.1 56 (by omega) (by omega))) ((hR1.2.1 57 (by omega) (by omega))) ((hR1.2.1 58 (by omega) (by omega))) ((hR1.2.1 59 (by omega) (by omega))) ((hR1.2.1 60 (by omega) (by omega))) ((hR1.2.1 61 (by omega) (by omega))) ((hR1.2.1 62 (by omega) (by omega))), ⟨hR1.2.2.1.1, hR1.2.2.1.2.1, hR1.2.2.1.2.2.1, hR1.2.2.1.2.2.2⟩, hR1.2.2.2.1, hR1.2.2.2.2.1, ((bOf_clr (by omega) (by omega)).trans (congrArg (fun z => upd z t3 0) hR1.2.2.2.2.2.1)), (cnt_u hR1.2.2.2.2.2.2 (by omega) (fun q4 => absurd q4 (k34n hc2)))⟩ ⟨(show _ = nI _ by rw [len_s]; rfl), hp_s hH.2 rfl rfl⟩ (zl1_ne rfl rfl h0) zl1_eq (by omega) (by omega)
      · refine zw_aload_n 39 f17_38 rfl (zl1_ne rfl rfl rfl) ?_
        refine zw_getfield 42 f17_39 rfl g17_9_4 (hb_1 _ _ _ _) rfl ?_
        refine zw_iload_n 43 f17_42 rfl (zl1_ne rfl rfl rfl) ?_
        refine zw_iaload k (P 53 k) 44 f17_43 rfl (hb_2 _ _ _ _) (nI_clamp (by omega)) (nI_pos (by omega)) (by omega) (congrFun ((hR1.2.1 53 (by omega) (by omega))) k) ?_
        refine zw_iconst 4 45 f17_44 rfl (by decide +kernel) ?_
        refine zw_ic_ne 48 52 f17_45 (by decide +kernel) rfl (fun hc7 => ?_) (fun hc7 => ?_)
        · refine zw_iconst 0 53 f17_52 rfl (by decide +kernel) ?_
          refine zw_zreturn f17_53 r17 u17 (by decide +kernel) ⟨_, rfl, ?_⟩
          refine zw_if_eq_t 23 f56_8 (by decide +kernel) (by decide +kernel) ?_
          refine zw_iconst (-1) 24 f56_23 rfl (by decide +kernel) ?_
          refine zw_istore_n _ 25 f56_24 rfl (by decide +kernel) rfl ?_
          refine zw_iload_n 26 f56_25 rfl zl1_eq ?_
          refine zw_iconst (-1) 27 f56_26 rfl (by decide +kernel) ?_
          refine zw_ic_eq_t 46 f56_27 (by decide +kernel) (by decide +kernel) ?_
          refine zw_iconst 0 47 f56_46 rfl (by decide +kernel) ?_
          refine zw_zreturn f56_47 r56 u56 (by decide +kernel) ⟨_, rfl, ?_⟩
          refine zw_if_eq_t 79 f74_6 (by decide +kernel) (by decide +kernel) ?_
          refine zw_aload_n 80 f74_79 rfl rfl ?_
          refine zw_iload_n 81 f74_80 rfl rfl ?_
          refine zw_iconst 0 82 f74_81 rfl (by decide +kernel) ?_
          refine zw_virtual_i 85 0 0 [.ref 11, .int (nI k), .int 0] [(0, .ref 11), (1, .int (nI k)), (2, .int 0)] f74_82 rfl n74_135 k74_135_10 rfl (hb_11 _ _ _ _) (by decide +kernel) (Nat.le_of_ble_eq_true rfl) rfl rfl (by decide +kernel) (by decide +kernel) rfl (Nat.le_of_ble_eq_true rfl) rfl ?_
          refine zw_aload_n 1 f56_0 rfl rfl ?_
          refine zw_getfield 4 f56_1 rfl g56_37_10 (hb_11 _ _ _ _) rfl ?_
          refine zw_iload_n 5 f56_4 rfl rfl ?_
          refine zw_virtual_i 8 0 0 [.ref 1, .int (nI k)] [(0, .ref 1), (1, .int (nI k))] f56_5 rfl n56_145 k56_145_4 rfl (hb_1 _ _ _ _) (by decide +kernel) (Nat.le_of_ble_eq_true rfl) rfl rfl (by decide +kernel) (by decide +kernel) rfl (Nat.le_of_ble_eq_true rfl) rfl ?_
          refine zw_iload_n 1 f17_0 rfl rfl ?_
          refine zw_if_lt_f 4 22 f17_1 (by decide +kernel) rfl (nI_pos (by omega)) ?_
          refine zw_iload_n 5 f17_4 rfl rfl ?_
          refine zw_aload_n 6 f17_5 rfl rfl ?_
          refine zw_getI (nI nv) 9 f17_6 rfl g17_39_4 (hb_1 _ _ _ _) rfl hR1.1.1 ?_
          refine zw_ic_ge_f 12 22 f17_9 (by decide +kernel) rfl hc1 ?_
          refine zw_iload_n 13 f17_12 rfl rfl ?_
          refine zw_bipush 8 15 f17_13 rfl (by decide +kernel) ?_
          refine zw_ic_ge_f 18 22 f17_15 (by decide +kernel) rfl (fun q => absurd (zn_ge (a := 8) (b := k) (by omega) (by omega) q) (by omega)) ?_
          refine zw_iconst 1 19 f17_18 rfl (by decide +kernel) ?_
          refine zw_goto 23 f17_19 (by decide +kernel) ?_
          refine zw_istore_n _ 24 f17_23 rfl (by decide +kernel) rfl ?_
          refine zw_iload_n 25 f17_24 rfl zl1_eq ?_
          refine zw_if_eq_f 28 52 f17_25 (by decide +kernel) rfl (by decide +kernel) ?_
          refine zw_aload_n 29 f17_28 rfl (zl1_ne rfl rfl rfl) ?_
          refine zw_getfield 32 f17_29 rfl g17_9_4 (hb_1 _ _ _ _) rfl ?_
          refine zw_iload_n 33 f17_32 rfl (zl1_ne rfl rfl rfl) ?_
          refine zw_iaload k (P 53 k) 34 f17_33 rfl (hb_2 _ _ _ _) (nI_clamp (by omega)) (nI_pos (by omega)) (by omega) (congrFun ((hR1.2.1 53 (by omega) (by omega))) k) ?_
          refine zw_iconst 3 35 f17_34 rfl (by decide +kernel) ?_
          refine zw_ic_eq_f 38 48 f17_35 (by decide +kernel) rfl hc2 ?_
          refine zw_aload_n 39 f17_38 rfl (zl1_ne rfl rfl rfl) ?_
          refine zw_getfield 42 f17_39 rfl g17_9_4 (hb_1 _ _ _ _) rfl ?_
          refine zw_iload_n 43 f17_42 rfl (zl1_ne rfl rfl rfl) ?_
          refine zw_iaload k (P 53 k) 44 f17_43 rfl (hb_2 _ _ _ _) (nI_clamp (by omega)) (nI_pos (by omega)) (by omega) (congrFun ((hR1.2.1 53 (by omega) (by omega))) k) ?_
          refine zw_iconst 4 45 f17_44 rfl (by decide +kernel) ?_
          refine zw_ic_ne_t 52 f17_45 (by decide +kernel) hc7 ?_
          refine zw_iconst 0 53 f17_52 rfl (by decide +kernel) ?_
          refine zw_zreturn f17_53 r17 u17 (by decide +kernel) ⟨_, rfl, ?_⟩
          refine zw_if_eq_t 23 f56_8 (by decide +kernel) (by decide +kernel) ?_
          refine zw_iconst (-1) 24 f56_23 rfl (by decide +kernel) ?_
          refine zw_istore_n _ 25 f56_24 rfl (by decide +kernel) rfl ?_
          refine zw_iload_n 26 f56_25 rfl zl1_eq ?_
          refine zw_iconst (-1) 27 f56_26 rfl (by decide +kernel) ?_
          refine zw_ic_eq_t 46 f56_27 (by decide +kernel) (by decide +kernel) ?_
          refine zw_iconst 0 47 f56_46 rfl (by decide +kernel) ?_
          refine zw_zreturn f56_47 r56 u56 (by decide +kernel) ⟨_, rfl, ?_⟩
          refine zw_if_eq_t 142 f74_85 (by decide +kernel) (by decide +kernel) ?_
          refine zw_vreturn f74_142 r74 u74 ⟨rfl, ?_⟩
          refine zw_iinc (nI (k + 1)) _ 106 f70_103 rfl h1 (by decide +kernel) (nI_1 _) rfl ?_
          refine zw_goto 87 f70_106 (by decide +kernel) ?_
          have E : wT3 nv P W (k + 1) = (lev, dr, sip, opn, cnt, ev) := by
            show qFlo1 (P 53) (P 55) (P 56) (P 57) W.1 k (wT3 nv P W k) = _
            rw [hm]
            exact qFlo1_a hc2 hc7
          exact ih (k + 1) _ _ _ _ _ _ _ _ _ _ _ K0 E hR1 hH (zl1_ne rfl rfl h0) zl1_eq (by omega) (by omega)
        · have eY := qN_y (kind := P 53) (k := k) (show s34 (P 53 k) from Or.inr (Decidable.of_not_not hc7))
          have eM := qN_mo (s := s34) (kind := P 53) (k := k + 1) nv (by omega)
          have he8 : ev.length < 8 := by omega
          refine zw_iconst 1 49 f17_48 rfl (by decide +kernel) ?_
          refine zw_goto 53 f17_49 (by decide +kernel) ?_
          refine zw_zreturn f17_53 r17 u17 (by decide +kernel) ⟨_, rfl, ?_⟩
          refine zw_if_eq_f 11 23 f56_8 (by decide +kernel) rfl (by decide +kernel) ?_
          refine zw_aload_n 12 f56_11 rfl rfl ?_
          refine zw_getfield 15 f56_12 rfl g56_37_10 (hb_11 _ _ _ _) rfl ?_
          refine zw_getfield 18 f56_15 rfl g56_148_4 (hb_1 _ _ _ _) rfl ?_
          refine zw_iload_n 19 f56_18 rfl rfl ?_
          rcases (hp.2.2.1 k (by omega)).2.2.2.1 with t8q | ⟨t8, t8l, t8n, t8q⟩
          · refine zw_iaload k (-1) 20 f56_19 rfl (hb_6 _ _ _ _) (nI_clamp (by omega)) (nI_pos (by omega)) (by omega) ((congrFun (hR1.2.1 57 (by omega) (by omega)) k).trans t8q) ?_
            refine zw_goto 24 f56_20 (by decide +kernel) ?_
            refine zw_istore_n _ 25 f56_24 rfl (by decide +kernel) rfl ?_
            refine zw_iload_n 26 f56_25 rfl zl1_eq ?_
            refine zw_iconst (-1) 27 f56_26 rfl (by decide +kernel) ?_
            refine zw_ic_eq_t 46 f56_27 (by decide +kernel) (by decide +kernel) ?_
            refine zw_iconst 0 47 f56_46 rfl (by decide +kernel) ?_
            refine zw_zreturn f56_47 r56 u56 (by decide +kernel) ⟨_, rfl, ?_⟩
            refine zw_if_eq_t 79 f74_6 (by decide +kernel) (by decide +kernel) ?_
            refine zw_aload_n 80 f74_79 rfl rfl ?_
            refine zw_iload_n 81 f74_80 rfl rfl ?_
            refine zw_iconst 0 82 f74_81 rfl (by decide +kernel) ?_
            refine zw_virtual_i 85 0 0 [.ref 11, .int (nI k), .int 0] [(0, .ref 11), (1, .int (nI k)), (2, .int 0)] f74_82 rfl n74_135 k74_135_10 rfl (hb_11 _ _ _ _) (by decide +kernel) (Nat.le_of_ble_eq_true rfl) rfl rfl (by decide +kernel) (by decide +kernel) rfl (Nat.le_of_ble_eq_true rfl) rfl ?_
            refine zw_aload_n 1 f56_0 rfl rfl ?_
            refine zw_getfield 4 f56_1 rfl g56_37_10 (hb_11 _ _ _ _) rfl ?_
            refine zw_iload_n 5 f56_4 rfl rfl ?_
            refine zw_virtual_i 8 0 0 [.ref 1, .int (nI k)] [(0, .ref 1), (1, .int (nI k))] f56_5 rfl n56_145 k56_145_4 rfl (hb_1 _ _ _ _) (by decide +kernel) (Nat.le_of_ble_eq_true rfl) rfl rfl (by decide +kernel) (by decide +kernel) rfl (Nat.le_of_ble_eq_true rfl) rfl ?_
            refine zw_iload_n 1 f17_0 rfl rfl ?_
            refine zw_if_lt_f 4 22 f17_1 (by decide +kernel) rfl (nI_pos (by omega)) ?_
            refine zw_iload_n 5 f17_4 rfl rfl ?_
            refine zw_aload_n 6 f17_5 rfl rfl ?_
            refine zw_getI (nI nv) 9 f17_6 rfl g17_39_4 (hb_1 _ _ _ _) rfl hR1.1.1 ?_
            refine zw_ic_ge_f 12 22 f17_9 (by decide +kernel) rfl hc1 ?_
            refine zw_iload_n 13 f17_12 rfl rfl ?_
            refine zw_bipush 8 15 f17_13 rfl (by decide +kernel) ?_
            refine zw_ic_ge_f 18 22 f17_15 (by decide +kernel) rfl (fun q => absurd (zn_ge (a := 8) (b := k) (by omega) (by omega) q) (by omega)) ?_
            refine zw_iconst 1 19 f17_18 rfl (by decide +kernel) ?_
            refine zw_goto 23 f17_19 (by decide +kernel) ?_
            refine zw_istore_n _ 24 f17_23 rfl (by decide +kernel) rfl ?_
            refine zw_iload_n 25 f17_24 rfl zl1_eq ?_
            refine zw_if_eq_f 28 52 f17_25 (by decide +kernel) rfl (by decide +kernel) ?_
            refine zw_aload_n 29 f17_28 rfl (zl1_ne rfl rfl rfl) ?_
            refine zw_getfield 32 f17_29 rfl g17_9_4 (hb_1 _ _ _ _) rfl ?_
            refine zw_iload_n 33 f17_32 rfl (zl1_ne rfl rfl rfl) ?_
            refine zw_iaload k (P 53 k) 34 f17_33 rfl (hb_2 _ _ _ _) (nI_clamp (by omega)) (nI_pos (by omega)) (by omega) (congrFun ((hR1.2.1 53 (by omega) (by omega))) k) ?_
            refine zw_iconst 3 35 f17_34 rfl (by decide +kernel) ?_
            refine zw_ic_eq_f 38 48 f17_35 (by decide +kernel) rfl hc2 ?_
            refine zw_aload_n 39 f17_38 rfl (zl1_ne rfl rfl rfl) ?_
            refine zw_getfield 42 f17_39 rfl g17_9_4 (hb_1 _ _ _ _) rfl ?_
            refine zw_iload_n 43 f17_42 rfl (zl1_ne rfl rfl rfl) ?_
            refine zw_iaload k (P 53 k) 44 f17_43 rfl (hb_2 _ _ _ _) (nI_clamp (by omega)) (nI_pos (by omega)) (by omega) (congrFun ((hR1.2.1 53 (by omega) (by omega))) k) ?_
            refine zw_iconst 4 45 f17_44 rfl (by decide +kernel) ?_
            refine zw_ic_ne_f 48 52 f17_45 (by decide +kernel) rfl hc7 ?_
            refine zw_iconst 1 49 f17_48 rfl (by decide +kernel) ?_
            refine zw_goto 53 f17_49 (by decide +kernel) ?_
            refine zw_zreturn f17_53 r17 u17 (by decide +kernel) ⟨_, rfl, ?_⟩
            refine zw_if_eq_f 11 23 f56_8 (by decide +kernel) rfl (by decide +kernel) ?_
            refine zw_aload_n 12 f56_11 rfl rfl ?_
            refine zw_getfield 15 f56_12 rfl g56_37_10 (hb_11 _ _ _ _) rfl ?_
            refine zw_getfield 18 f56_15 rfl g56_148_4 (hb_1 _ _ _ _) rfl ?_
            refine zw_iload_n 19 f56_18 rfl rfl ?_
            refine zw_iaload k (-1) 20 f56_19 rfl (hb_6 _ _ _ _) (nI_clamp (by omega)) (nI_pos (by omega)) (by omega) ((congrFun (hR1.2.1 57 (by omega) (by omega)) k).trans t8q) ?_
            refine zw_goto 24 f56_20 (by decide +kernel) ?_
            refine zw_istore_n _ 25 f56_24 rfl (by decide +kernel) rfl ?_
            refine zw_iload_n 26 f56_25 rfl zl1_eq ?_
            refine zw_iconst (-1) 27 f56_26 rfl (by decide +kernel) ?_
            refine zw_ic_eq_t 46 f56_27 (by decide +kernel) (by decide +kernel) ?_
            refine zw_iconst 0 47 f56_46 rfl (by decide +kernel) ?_
            refine zw_zreturn f56_47 r56 u56 (by decide +kernel) ⟨_, rfl, ?_⟩
            refine zw_if_eq_t 142 f74_85 (by decide +kernel) (by decide +kernel) ?_
            refine zw_vreturn f74_142 r74 u74 ⟨rfl, ?_⟩
            refine zw_iinc (nI (k + 1)) _ 106 f70_103 rfl h1 (by decide +kernel) (nI_1 _) rfl ?_
            refine zw_goto 87 f70_106 (by decide +kernel) ?_
            have E : wT3 nv P W (k + 1) = (lev, dr, sip, opn, cnt, ev) := by
              show qFlo1 (P 53) (P 55) (P 56) (P 57) W.1 k (wT3 nv P W k) = _
              rw [hm]
              exact qFlo1_b t8q
            exact ih (k + 1) _ _ _ _ _ _ _ _ _ _ _ K0 E hR1 hH (zl1_ne rfl rfl h0) zl1_eq (by omega) (by omega)
          · refine zw_iaload k (nI t8) 20 f56_19 rfl (hb_6 _ _ _ _) (nI_clamp (by omega)) (nI_pos (by omega)) (by omega) ((congrFun (hR1.2.1 57 (by omega) (by omega)) k).trans t8q) ?_
            refine zw_goto 24 f56_20 (by decide +kernel) ?_
            refine zw_istore_n _ 25 f56_24 rfl (by decide +kernel) rfl ?_
            refine zw_iload_n 26 f56_25 rfl zl1_eq ?_
            refine zw_iconst (-1) 27 f56_26 rfl (by decide +kernel) ?_
            refine zw_ic_eq_f 30 46 f56_27 (by decide +kernel) rfl (nI_nem (by omega)) ?_
            refine zw_aload_n 31 f56_30 rfl (zl1_ne rfl rfl rfl) ?_
            refine zw_getfield 34 f56_31 rfl g56_12_10 (hb_11 _ _ _ _) rfl ?_
            refine zw_iload_n 35 f56_34 rfl zl1_eq ?_
            refine zw_virtual_i 38 0 0 [.ref 12, .int (nI t8)] [(0, .ref 12), (1, .int (nI t8))] f56_35 rfl n56_47 k56_47_9 rfl (hb_12 _ _ _ _) (by decide +kernel) (Nat.le_of_ble_eq_true rfl) rfl rfl (by decide +kernel) (by decide +kernel) rfl (Nat.le_of_ble_eq_true rfl) rfl ?_
            refine zWp.mono (cx_isOpen_11 ro nv np P (wMid W (lev, dr, sip, opn, cnt, ev)) _ _ _ _ hR1 hp hbm t8 (by omega)) ?_
            rintro r h1 ⟨rfl, rfl⟩
            refine ⟨_, rfl, ?_⟩
            refine zw_iload_n 39 f56_38 rfl (zl1_ne rfl rfl rfl) ?_
            refine zw_ic_ne 42 46 f56_39 (by decide +kernel) rfl (fun hc9 => ?_) (fun hc9 => ?_)
            · refine zw_iconst 0 47 f56_46 rfl (by decide +kernel) ?_
              refine zw_zreturn f56_47 r56 u56 (by decide +kernel) ⟨_, rfl, ?_⟩
              refine zw_if_eq_t 79 f74_6 (by decide +kernel) (by decide +kernel) ?_
              refine zw_aload_n 80 f74_79 rfl rfl ?_
              refine zw_iload_n 81 f74_80 rfl rfl ?_
              refine zw_iconst 0 82 f74_81 rfl (by decide +kernel) ?_
              refine zw_virtual_i 85 0 0 [.ref 11, .int (nI k), .int 0] [(0, .ref 11), (1, .int (nI k)), (2, .int 0)] f74_82 rfl n74_135 k74_135_10 rfl (hb_11 _ _ _ _) (by decide +kernel) (Nat.le_of_ble_eq_true rfl) rfl rfl (by decide +kernel) (by decide +kernel) rfl (Nat.le_of_ble_eq_true rfl) rfl ?_
              refine zw_aload_n 1 f56_0 rfl rfl ?_
              refine zw_getfield 4 f56_1 rfl g56_37_10 (hb_11 _ _ _ _) rfl ?_
              refine zw_iload_n 5 f56_4 rfl rfl ?_
              refine zw_virtual_i 8 0 0 [.ref 1, .int (nI k)] [(0, .ref 1), (1, .int (nI k))] f56_5 rfl n56_145 k56_145_4 rfl (hb_1 _ _ _ _) (by decide +kernel) (Nat.le_of_ble_eq_true rfl) rfl rfl (by decide +kernel) (by decide +kernel) rfl (Nat.le_of_ble_eq_true rfl) rfl ?_
              refine zw_iload_n 1 f17_0 rfl rfl ?_
              refine zw_if_lt_f 4 22 f17_1 (by decide +kernel) rfl (nI_pos (by omega)) ?_
              refine zw_iload_n 5 f17_4 rfl rfl ?_
              refine zw_aload_n 6 f17_5 rfl rfl ?_
              refine zw_getI (nI nv) 9 f17_6 rfl g17_39_4 (hb_1 _ _ _ _) rfl hR1.1.1 ?_
              refine zw_ic_ge_f 12 22 f17_9 (by decide +kernel) rfl hc1 ?_
              refine zw_iload_n 13 f17_12 rfl rfl ?_
              refine zw_bipush 8 15 f17_13 rfl (by decide +kernel) ?_
              refine zw_ic_ge_f 18 22 f17_15 (by decide +kernel) rfl (fun q => absurd (zn_ge (a := 8) (b := k) (by omega) (by omega) q) (by omega)) ?_
              refine zw_iconst 1 19 f17_18 rfl (by decide +kernel) ?_
              refine zw_goto 23 f17_19 (by decide +kernel) ?_
              refine zw_istore_n _ 24 f17_23 rfl (by decide +kernel) rfl ?_
              refine zw_iload_n 25 f17_24 rfl zl1_eq ?_
              refine zw_if_eq_f 28 52 f17_25 (by decide +kernel) rfl (by decide +kernel) ?_
              refine zw_aload_n 29 f17_28 rfl (zl1_ne rfl rfl rfl) ?_
              refine zw_getfield 32 f17_29 rfl g17_9_4 (hb_1 _ _ _ _) rfl ?_
              refine zw_iload_n 33 f17_32 rfl (zl1_ne rfl rfl rfl) ?_
              refine zw_iaload k (P 53 k) 34 f17_33 rfl (hb_2 _ _ _ _) (nI_clamp (by omega)) (nI_pos (by omega)) (by omega) (congrFun ((hR1.2.1 53 (by omega) (by omega))) k) ?_
              refine zw_iconst 3 35 f17_34 rfl (by decide +kernel) ?_
              refine zw_ic_eq_f 38 48 f17_35 (by decide +kernel) rfl hc2 ?_
              refine zw_aload_n 39 f17_38 rfl (zl1_ne rfl rfl rfl) ?_
              refine zw_getfield 42 f17_39 rfl g17_9_4 (hb_1 _ _ _ _) rfl ?_
              refine zw_iload_n 43 f17_42 rfl (zl1_ne rfl rfl rfl) ?_
              refine zw_iaload k (P 53 k) 44 f17_43 rfl (hb_2 _ _ _ _) (nI_clamp (by omega)) (nI_pos (by omega)) (by omega) (congrFun ((hR1.2.1 53 (by omega) (by omega))) k) ?_
              refine zw_iconst 4 45 f17_44 rfl (by decide +kernel) ?_
              refine zw_ic_ne_f 48 52 f17_45 (by decide +kernel) rfl hc7 ?_
              refine zw_iconst 1 49 f17_48 rfl (by decide +kernel) ?_
              refine zw_goto 53 f17_49 (by decide +kernel) ?_
              refine zw_zreturn f17_53 r17 u17 (by decide +kernel) ⟨_, rfl, ?_⟩
              refine zw_if_eq_f 11 23 f56_8 (by decide +kernel) rfl (by decide +kernel) ?_
              refine zw_aload_n 12 f56_11 rfl rfl ?_
              refine zw_getfield 15 f56_12 rfl g56_37_10 (hb_11 _ _ _ _) rfl ?_
              refine zw_getfield 18 f56_15 rfl g56_148_4 (hb_1 _ _ _ _) rfl ?_
              refine zw_iload_n 19 f56_18 rfl rfl ?_
              refine zw_iaload k (nI t8) 20 f56_19 rfl (hb_6 _ _ _ _) (nI_clamp (by omega)) (nI_pos (by omega)) (by omega) ((congrFun (hR1.2.1 57 (by omega) (by omega)) k).trans t8q) ?_
              refine zw_goto 24 f56_20 (by decide +kernel) ?_
              refine zw_istore_n _ 25 f56_24 rfl (by decide +kernel) rfl ?_
              refine zw_iload_n 26 f56_25 rfl zl1_eq ?_
              refine zw_iconst (-1) 27 f56_26 rfl (by decide +kernel) ?_
              refine zw_ic_eq_f 30 46 f56_27 (by decide +kernel) rfl (nI_nem (by omega)) ?_
              refine zw_aload_n 31 f56_30 rfl (zl1_ne rfl rfl rfl) ?_
              refine zw_getfield 34 f56_31 rfl g56_12_10 (hb_11 _ _ _ _) rfl ?_
              refine zw_iload_n 35 f56_34 rfl zl1_eq ?_
              refine zw_virtual_i 38 0 0 [.ref 12, .int (nI t8)] [(0, .ref 12), (1, .int (nI t8))] f56_35 rfl n56_47 k56_47_9 rfl (hb_12 _ _ _ _) (by decide +kernel) (Nat.le_of_ble_eq_true rfl) rfl rfl (by decide +kernel) (by decide +kernel) rfl (Nat.le_of_ble_eq_true rfl) rfl ?_
              refine zWp.mono (cx_isOpen_11 ro nv np P (wMid W (lev, dr, sip, opn, cnt, ev)) _ _ _ _ hR1 hp hbm t8 (by omega)) ?_
              rintro r h1 ⟨rfl, rfl⟩
              refine ⟨_, rfl, ?_⟩
              refine zw_iload_n 39 f56_38 rfl (zl1_ne rfl rfl rfl) ?_
              refine zw_ic_ne_f 42 46 f56_39 (by decide +kernel) rfl (fun q => q ((hbm.1 _ (by omega)).resolve_right hc9)) ?_
              refine zw_iconst 1 43 f56_42 rfl (by decide +kernel) ?_
              refine zw_goto 47 f56_43 (by decide +kernel) ?_
              refine zw_zreturn f56_47 r56 u56 (by decide +kernel) ⟨_, rfl, ?_⟩
              refine zw_if_eq_f 88 142 f74_85 (by decide +kernel) rfl (by decide +kernel) ?_
              refine zw_aload_n 89 f74_88 rfl rfl ?_
              refine zw_getfield 92 f74_89 rfl g74_12_10 (hb_11 _ _ _ _) rfl ?_
              refine zw_getfield 95 f74_92 rfl g74_87_9 (hb_12 _ _ _ _) rfl ?_
              refine zw_iload_n 96 f74_95 rfl rfl ?_
              refine zw_laload k (lev k) 97 f74_96 rfl (hb_13 _ _ _ _) (nI_clamp (by omega)) (nI_pos (by omega)) (by omega) (congrFun (hR1.2.2.2.1) k) ?_
              refine zw_aload_n 98 f74_97 rfl rfl ?_
              refine zw_getfield 101 f74_98 rfl g74_37_10 (hb_11 _ _ _ _) rfl ?_
              refine zw_getfield 104 f74_101 rfl g74_142_4 (hb_1 _ _ _ _) rfl ?_
              refine zw_iload_n 105 f74_104 rfl rfl ?_
              refine zw_iaload k (P 56 k) 106 f74_105 rfl (hb_5 _ _ _ _) (nI_clamp (by omega)) (nI_pos (by omega)) (by omega) (congrFun ((hR1.2.1 56 (by omega) (by omega))) k) ?_
              refine zw_i2l (Int32.toInt64 (P 56 k)) 107 f74_106 rfl rfl ?_
              refine zw_aload_n 108 f74_107 rfl rfl ?_
              refine zw_getfield 111 f74_108 rfl g74_12_10 (hb_11 _ _ _ _) rfl ?_
              refine zw_getG W.1 114 f74_111 rfl g74_109_9 (hb_12 _ _ _ _) rfl hR1.2.2.1.1 ?_
              refine zw_lmul ((Int32.toInt64 (P 56 k)) * W.1) 115 f74_114 rfl rfl ?_
              refine zw_lcmp (lg_cmp (lev k) ((Int32.toInt64 (P 56 k)) * W.1)) 116 f74_115 rfl rfl ?_
              refine zw_if_gt 119 142 f74_116 (by decide +kernel) rfl (fun hc10 => ?_) (fun hc10 => ?_)
              · refine zw_vreturn f74_142 r74 u74 ⟨rfl, ?_⟩
                refine zw_iinc (nI (k + 1)) _ 106 f70_103 rfl h1 (by decide +kernel) (nI_1 _) rfl ?_
                refine zw_goto 87 f70_106 (by decide +kernel) ?_
                have E : wT3 nv P W (k + 1) = (lev, dr, sip, opn, cnt, ev) := by
                  show qFlo1 (P 53) (P 55) (P 56) (P 57) W.1 k (wT3 nv P W k) = _
                  rw [hm]
                  exact (qFlo1_o (Or.inr (Decidable.of_not_not hc7)) t8q (by omega)).trans (qFlo2_c ((hbm.1 _ (by omega)).resolve_right hc9) (Int64.not_le.mpr ((lg_cmp_gt _ _).mp hc10)))
                exact ih (k + 1) _ _ _ _ _ _ _ _ _ _ _ K0 E hR1 hH (zl1_ne rfl rfl h0) zl1_eq (by omega) (by omega)
              · refine zw_aload_n 120 f74_119 rfl rfl ?_
                refine zw_getfield 123 f74_120 rfl g74_12_10 (hb_11 _ _ _ _) rfl ?_
                refine zw_aload_n 124 f74_123 rfl rfl ?_
                refine zw_getfield 127 f74_124 rfl g74_37_10 (hb_11 _ _ _ _) rfl ?_
                refine zw_getfield 130 f74_127 rfl g74_148_4 (hb_1 _ _ _ _) rfl ?_
                refine zw_iload_n 131 f74_130 rfl rfl ?_
                refine zw_iaload k (nI t8) 132 f74_131 rfl (hb_6 _ _ _ _) (nI_clamp (by omega)) (nI_pos (by omega)) (by omega) ((congrFun (hR1.2.1 57 (by omega) (by omega)) k).trans t8q) ?_
                refine zw_iconst 1 133 f74_132 rfl (by decide +kernel) ?_
                refine zw_virtual_v 136 0 0 [.ref 12, .int (nI t8), .int 1] [(0, .ref 12), (1, .int (nI t8)), (2, .int 1)] f74_133 rfl n74_212 k74_212_9 rfl (hb_12 _ _ _ _) (by decide +kernel) (Nat.le_of_ble_eq_true rfl) rfl rfl (by decide +kernel) (by decide +kernel) rfl (Nat.le_of_ble_eq_true rfl) rfl ?_
                refine zw_aload_n 1 f44_0 rfl rfl ?_
                refine zw_iload_n 2 f44_1 rfl rfl ?_
                refine zw_if_eq_f 5 16 f44_2 (by decide +kernel) rfl (by decide +kernel) ?_
                refine zw_aload_n 6 f44_5 rfl rfl ?_
                refine zw_getI (I1 12 5) 9 f44_6 rfl g44_38_9 (hb_12 _ _ _ _) rfl rfl ?_
                refine zw_iconst 1 10 f44_9 rfl (by decide +kernel) ?_
                refine zw_iload_n 11 f44_10 rfl rfl ?_
                refine zw_ishl (1 <<< ((nI t8) &&& 31)) 12 f44_11 rfl rfl ?_
                refine zw_ior ((I1 12 5) ||| (1 <<< ((nI t8) &&& 31))) 13 f44_12 rfl rfl ?_
                refine zw_goto 26 f44_13 (by decide +kernel) ?_
                refine zw_put _ 29 f44_26 rfl g44_38_9 (hb_12 _ _ _ _) rfl (Nat.le_of_ble_eq_true rfl) (by decide +kernel) (hi_12_5 _ _ _ _ _) ?_
                refine zw_vreturn f44_29 r44 u44 ⟨rfl, ?_⟩
                refine zw_aload_n 137 f74_136 rfl rfl ?_
                refine zw_iconst 5 138 f74_137 rfl (by decide +kernel) ?_
                refine zw_iload_n 139 f74_138 rfl rfl ?_
                refine zw_virtual_v 142 0 0 [.ref 11, .int 5, .int (nI k)] [(0, .ref 11), (1, .int 5), (2, .int (nI k))] f74_139 rfl n74_203 k74_203_10 rfl (hb_11 _ _ _ _) (by decide +kernel) (Nat.le_of_ble_eq_true rfl) rfl rfl (by decide +kernel) (by decide +kernel) rfl (Nat.le_of_ble_eq_true rfl) rfl ?_
                refine zw_aload_n 1 f75_0 rfl rfl ?_
                refine zw_getI (nI ev.length) 4 f75_1 rfl g75_161_10 (hb_11 _ _ _ _) rfl hH.1 ?_
                refine zw_bipush 8 6 f75_4 rfl (by decide +kernel) ?_
                refine zw_ic_ge_f 9 39 f75_6 (by decide +kernel) rfl (fun q => absurd (zn_ge (a := 8) (b := ev.length) (by omega) (by omega) q) (by omega)) ?_
                refine zw_aload_n 10 f75_9 rfl rfl ?_
                refine zw_getfield 13 f75_10 rfl g75_31_10 (hb_11 _ _ _ _) rfl ?_
                refine zw_aload_n 14 f75_13 rfl rfl ?_
                refine zw_getI (nI ev.length) 17 f75_14 rfl g75_161_10 (hb_11 _ _ _ _) rfl hH.1 ?_
                refine zw_iload_n 18 f75_17 rfl rfl ?_
                refine zw_ast ev.length _ 19 f75_18 rfl (hb_20 _ _ _ _) (nI_clamp (by omega)) (nI_pos (by omega)) (by omega) (ha_20 _ _ _ _ _) ?_
                refine zw_aload_n 20 f75_19 rfl rfl ?_
                refine zw_getfield 23 f75_20 rfl g75_34_10 (hb_11 _ _ _ _) rfl ?_
                refine zw_aload_n 24 f75_23 rfl rfl ?_
                refine zw_getI (nI ev.length) 27 f75_24 rfl g75_161_10 (hb_11 _ _ _ _) rfl hH.1 ?_
                refine zw_iload_n 28 f75_27 rfl rfl ?_
                refine zw_ast ev.length _ 29 f75_28 rfl (hb_21 _ _ _ _) (nI_clamp (by omega)) (nI_pos (by omega)) (by omega) (ha_21 _ _ _ _ _) ?_
                refine zw_aload_n 30 f75_29 rfl rfl ?_
                refine zw_dup 31 f75_30 rfl rfl ?_
                refine zw_getI (nI ev.length) 34 f75_31 rfl g75_161_10 (hb_11 _ _ _ _) rfl hH.1 ?_
                refine zw_iconst 1 35 f75_34 rfl (by decide +kernel) ?_
                refine zw_iadd (nI (ev.length + 1)) 36 f75_35 rfl (nI_add _ 1) ?_
                refine zw_put _ 39 f75_36 rfl g75_161_10 (hb_11 _ _ _ _) rfl (Nat.le_of_ble_eq_true rfl) (by decide +kernel) (hi_11_12 _ _ _ _ _) ?_
                refine zw_vreturn f75_39 r75 u75 ⟨rfl, ?_⟩
                refine zw_vreturn f74_142 r74 u74 ⟨rfl, ?_⟩
                refine zw_iinc (nI (k + 1)) _ 106 f70_103 rfl h1 (by decide +kernel) (nI_1 _) rfl ?_
                refine zw_goto 87 f70_106 (by decide +kernel) ?_
                have E : wT3 nv P W (k + 1) = (lev, dr, sip, (upd opn t8 1), cnt, (ev ++ [(5, nI k)])) := by
                  show qFlo1 (P 53) (P 55) (P 56) (P 57) W.1 k (wT3 nv P W k) = _
                  rw [hm]
                  exact (qFlo1_o (Or.inr (Decidable.of_not_not hc7)) t8q (by omega)).trans (qFlo2_z ((hbm.1 _ (by omega)).resolve_right hc9) (Int64.not_lt.mp (fun q => hc10 ((lg_cmp_gt _ _).mpr q))))
                exact ih (k + 1) _ _ _ _ _ _ _ _ _ _ _ (KQ.i rfl (KQ.a rfl (KQ.a rfl (KQ.i rfl K0)))) E ⟨⟨hR1.1.1, hR1.1.2⟩, PE.of10 ((hR1.2.1 53 (by omega) (by omega))) ((hR1.2.1 54 (by omega) (by omega))) ((hR1.2.1 55 (by omega) (by omega))) ((hR1.2.1 56 (by omega) (by omega))) ((hR1.2.1 57 (by omega) (by omega))) ((hR1.2.1 58 (by omega) (by omega))) ((hR1.2.1 59 (by omega) (by omega))) ((hR1.2.1 60 (by omega) (by omega))) ((hR1.2.1 61 (by omega) (by omega))) ((hR1.2.1 62 (by omega) (by omega))), ⟨hR1.2.2.1.1, hR1.2.2.1.2.1, hR1.2.2.1.2.2.1, hR1.2.2.1.2.2.2⟩, hR1.2.2.2.1, hR1.2.2.2.2.1, ((bOf_set (by omega) (by omega)).trans (congrArg (fun z => upd z t8 1) hR1.2.2.2.2.2.1)), hR1.2.2.2.2.2.2⟩ ⟨(show _ = nI _ by rw [len_s]; rfl), hp_s hH.2 rfl rfl⟩ (zl1_ne rfl rfl h0) zl1_eq (by omega) (by omega)
            · refine zw_iconst 1 43 f56_42 rfl (by decide +kernel) ?_
              refine zw_goto 47 f56_43 (by decide +kernel) ?_
              refine zw_zreturn f56_47 r56 u56 (by decide +kernel) ⟨_, rfl, ?_⟩
              refine zw_if_eq_f 9 79 f74_6 (by decide +kernel) rfl (by decide +kernel) ?_
              refine zw_aload_n 10 f74_9 rfl rfl ?_
              refine zw_getfield 13 f74_10 rfl g74_12_10 (hb_11 _ _ _ _) rfl ?_
              refine zw_getfield 16 f74_13 rfl g74_87_9 (hb_12 _ _ _ _) rfl ?_
              refine zw_iload_n 17 f74_16 rfl rfl ?_
              refine zw_laload k (lev k) 18 f74_17 rfl (hb_13 _ _ _ _) (nI_clamp (by omega)) (nI_pos (by omega)) (by omega) (congrFun (hR1.2.2.2.1) k) ?_
              refine zw_aload_n 19 f74_18 rfl rfl ?_
              refine zw_getfield 22 f74_19 rfl g74_37_10 (hb_11 _ _ _ _) rfl ?_
              refine zw_getfield 25 f74_22 rfl g74_139_4 (hb_1 _ _ _ _) rfl ?_
              refine zw_iload_n 26 f74_25 rfl rfl ?_
              refine zw_iaload k (P 55 k) 27 f74_26 rfl (hb_4 _ _ _ _) (nI_clamp (by omega)) (nI_pos (by omega)) (by omega) (congrFun ((hR1.2.1 55 (by omega) (by omega))) k) ?_
              refine zw_i2l (Int32.toInt64 (P 55 k)) 28 f74_27 rfl rfl ?_
              refine zw_aload_n 29 f74_28 rfl rfl ?_
              refine zw_getfield 32 f74_29 rfl g74_12_10 (hb_11 _ _ _ _) rfl ?_
              refine zw_getG W.1 35 f74_32 rfl g74_109_9 (hb_12 _ _ _ _) rfl hR1.2.2.1.1 ?_
              refine zw_lmul ((Int32.toInt64 (P 55 k)) * W.1) 36 f74_35 rfl rfl ?_
              refine zw_lcmp (lg_cmp (lev k) ((Int32.toInt64 (P 55 k)) * W.1)) 37 f74_36 rfl rfl ?_
              refine zw_if_lt 40 142 f74_37 (by decide +kernel) rfl (fun hc11 => ?_) (fun hc11 => ?_)
              · refine zw_vreturn f74_142 r74 u74 ⟨rfl, ?_⟩
                refine zw_iinc (nI (k + 1)) _ 106 f70_103 rfl h1 (by decide +kernel) (nI_1 _) rfl ?_
                refine zw_goto 87 f70_106 (by decide +kernel) ?_
                have E : wT3 nv P W (k + 1) = (lev, dr, sip, opn, cnt, ev) := by
                  show qFlo1 (P 53) (P 55) (P 56) (P 57) W.1 k (wT3 nv P W k) = _
                  rw [hm]
                  exact (qFlo1_o (Or.inr (Decidable.of_not_not hc7)) t8q (by omega)).trans (qFlo2_b (fun z => absurd (z.symm.trans (Decidable.of_not_not hc9)) (by decide)) (Int64.not_le.mpr ((lg_cmp_lt _ _).mp hc11)))
                exact ih (k + 1) _ _ _ _ _ _ _ _ _ _ _ K0 E hR1 hH (zl1_ne rfl rfl h0) zl1_eq (by omega) (by omega)
              · refine zw_aload_n 41 f74_40 rfl rfl ?_
                refine zw_getfield 44 f74_41 rfl g74_12_10 (hb_11 _ _ _ _) rfl ?_
                refine zw_aload_n 45 f74_44 rfl rfl ?_
                refine zw_getfield 48 f74_45 rfl g74_37_10 (hb_11 _ _ _ _) rfl ?_
                refine zw_getfield 51 f74_48 rfl g74_148_4 (hb_1 _ _ _ _) rfl ?_
                refine zw_iload_n 52 f74_51 rfl rfl ?_
                refine zw_iaload k (nI t8) 53 f74_52 rfl (hb_6 _ _ _ _) (nI_clamp (by omega)) (nI_pos (by omega)) (by omega) ((congrFun (hR1.2.1 57 (by omega) (by omega)) k).trans t8q) ?_
                refine zw_iconst 0 54 f74_53 rfl (by decide +kernel) ?_
                refine zw_virtual_v 57 0 0 [.ref 12, .int (nI t8), .int 0] [(0, .ref 12), (1, .int (nI t8)), (2, .int 0)] f74_54 rfl n74_212 k74_212_9 rfl (hb_12 _ _ _ _) (by decide +kernel) (Nat.le_of_ble_eq_true rfl) rfl rfl (by decide +kernel) (by decide +kernel) rfl (Nat.le_of_ble_eq_true rfl) rfl ?_
                refine zw_aload_n 1 f44_0 rfl rfl ?_
                refine zw_iload_n 2 f44_1 rfl rfl ?_
                refine zw_if_eq_t 16 f44_2 (by decide +kernel) (by decide +kernel) ?_
                refine zw_aload_n 17 f44_16 rfl rfl ?_
                refine zw_getI (I1 12 5) 20 f44_17 rfl g44_38_9 (hb_12 _ _ _ _) rfl rfl ?_
                refine zw_iconst 1 21 f44_20 rfl (by decide +kernel) ?_
                refine zw_iload_n 22 f44_21 rfl rfl ?_
                refine zw_ishl (1 <<< ((nI t8) &&& 31)) 23 f44_22 rfl rfl ?_
                refine zw_iconst (-1) 24 f44_23 rfl (by decide +kernel) ?_
                refine zw_ixor ((1 <<< ((nI t8) &&& 31)) ^^^ (-1)) 25 f44_24 rfl rfl ?_
                refine zw_iand ((I1 12 5) &&& ((1 <<< ((nI t8) &&& 31)) ^^^ (-1))) 26 f44_25 rfl rfl ?_
                refine zw_put _ 29 f44_26 rfl g44_38_9 (hb_12 _ _ _ _) rfl (Nat.le_of_ble_eq_true rfl) (by decide +kernel) (hi_12_5 _ _ _ _ _) ?_
                refine zw_vreturn f44_29 r44 u44 ⟨rfl, ?_⟩
                refine zw_aload_n 58 f74_57 rfl rfl ?_
                refine zw_getfield 61 f74_58 rfl g74_12_10 (hb_11 _ _ _ _) rfl ?_
                refine zw_getfield 64 f74_61 rfl g74_215_9 (hb_12 _ _ _ _) rfl ?_
                refine zw_iload_n 65 f74_64 rfl rfl ?_
                refine zw_dup2 66 f74_65 rfl rfl rfl ?_
                refine zw_iaload k (A1 14 k) 67 f74_66 rfl (hb_14 _ _ _ _) (nI_clamp (by omega)) (nI_pos (by omega)) (by omega) rfl ?_
                refine zw_iconst 1 68 f74_67 rfl (by decide +kernel) ?_
                refine zw_iadd ((A1 14 k) + 1) 69 f74_68 rfl rfl ?_
                refine zw_ast k _ 70 f74_69 rfl (hb_14 _ _ _ _) (nI_clamp (by omega)) (nI_pos (by omega)) (by omega) (ha_14 _ _ _ _ _) ?_
                refine zw_aload_n 71 f74_70 rfl rfl ?_
                refine zw_iconst 4 72 f74_71 rfl (by decide +kernel) ?_
                refine zw_iload_n 73 f74_72 rfl rfl ?_
                refine zw_virtual_v 76 0 0 [.ref 11, .int 4, .int (nI k)] [(0, .ref 11), (1, .int 4), (2, .int (nI k))] f74_73 rfl n74_203 k74_203_10 rfl (hb_11 _ _ _ _) (by decide +kernel) (Nat.le_of_ble_eq_true rfl) rfl rfl (by decide +kernel) (by decide +kernel) rfl (Nat.le_of_ble_eq_true rfl) rfl ?_
                refine zw_aload_n 1 f75_0 rfl rfl ?_
                refine zw_getI (nI ev.length) 4 f75_1 rfl g75_161_10 (hb_11 _ _ _ _) rfl hH.1 ?_
                refine zw_bipush 8 6 f75_4 rfl (by decide +kernel) ?_
                refine zw_ic_ge_f 9 39 f75_6 (by decide +kernel) rfl (fun q => absurd (zn_ge (a := 8) (b := ev.length) (by omega) (by omega) q) (by omega)) ?_
                refine zw_aload_n 10 f75_9 rfl rfl ?_
                refine zw_getfield 13 f75_10 rfl g75_31_10 (hb_11 _ _ _ _) rfl ?_
                refine zw_aload_n 14 f75_13 rfl rfl ?_
                refine zw_getI (nI ev.length) 17 f75_14 rfl g75_161_10 (hb_11 _ _ _ _) rfl hH.1 ?_
                refine zw_iload_n 18 f75_17 rfl rfl ?_
                refine zw_ast ev.length _ 19 f75_18 rfl (hb_20 _ _ _ _) (nI_clamp (by omega)) (nI_pos (by omega)) (by omega) (ha_20 _ _ _ _ _) ?_
                refine zw_aload_n 20 f75_19 rfl rfl ?_
                refine zw_getfield 23 f75_20 rfl g75_34_10 (hb_11 _ _ _ _) rfl ?_
                refine zw_aload_n 24 f75_23 rfl rfl ?_
                refine zw_getI (nI ev.length) 27 f75_24 rfl g75_161_10 (hb_11 _ _ _ _) rfl hH.1 ?_
                refine zw_iload_n 28 f75_27 rfl rfl ?_
                refine zw_ast ev.length _ 29 f75_28 rfl (hb_21 _ _ _ _) (nI_clamp (by omega)) (nI_pos (by omega)) (by omega) (ha_21 _ _ _ _ _) ?_
                refine zw_aload_n 30 f75_29 rfl rfl ?_
                refine zw_dup 31 f75_30 rfl rfl ?_
                refine zw_getI (nI ev.length) 34 f75_31 rfl g75_161_10 (hb_11 _ _ _ _) rfl hH.1 ?_
                refine zw_iconst 1 35 f75_34 rfl (by decide +kernel) ?_
                refine zw_iadd (nI (ev.length + 1)) 36 f75_35 rfl (nI_add _ 1) ?_
                refine zw_put _ 39 f75_36 rfl g75_161_10 (hb_11 _ _ _ _) rfl (Nat.le_of_ble_eq_true rfl) (by decide +kernel) (hi_11_12 _ _ _ _ _) ?_
                refine zw_vreturn f75_39 r75 u75 ⟨rfl, ?_⟩
                refine zw_goto 142 f74_76 (by decide +kernel) ?_
                refine zw_vreturn f74_142 r74 u74 ⟨rfl, ?_⟩
                refine zw_iinc (nI (k + 1)) _ 106 f70_103 rfl h1 (by decide +kernel) (nI_1 _) rfl ?_
                refine zw_goto 87 f70_106 (by decide +kernel) ?_
                have E : wT3 nv P W (k + 1) = (lev, dr, sip, (upd opn t8 0), (upd cnt k (cnt k + 1)), (ev ++ [(4, nI k)])) := by
                  show qFlo1 (P 53) (P 55) (P 56) (P 57) W.1 k (wT3 nv P W k) = _
                  rw [hm]
                  exact (qFlo1_o (Or.inr (Decidable.of_not_not hc7)) t8q (by omega)).trans (qFlo2_y (fun z => absurd (z.symm.trans (Decidable.of_not_not hc9)) (by decide)) (Int64.not_lt.mp (fun q => hc11 ((lg_cmp_lt _ _).mpr q))) (if_pos (Decidable.of_not_not hc7)))
                exact ih (k + 1) _ _ _ _ _ _ _ _ _ _ _ (KQ.i rfl (KQ.a rfl (KQ.a rfl (KQ.a rfl (KQ.i rfl K0))))) E ⟨⟨hR1.1.1, hR1.1.2⟩, PE.of10 ((hR1.2.1 53 (by omega) (by omega))) ((hR1.2.1 54 (by omega) (by omega))) ((hR1.2.1 55 (by omega) (by omega))) ((hR1.2.1 56 (by omega) (by omega))) ((hR1.2.1 57 (by omega) (by omega))) ((hR1.2.1 58 (by omega) (by omega))) ((hR1.2.1 59 (by omega) (by omega))) ((hR1.2.1 60 (by omega) (by omega))) ((hR1.2.1 61 (by omega) (by omega))) ((hR1.2.1 62 (by omega) (by omega))), ⟨hR1.2.2.1.1, hR1.2.2.1.2.1, hR1.2.2.1.2.2.1, hR1.2.2.1.2.2.2⟩, hR1.2.2.2.1, hR1.2.2.2.2.1, ((bOf_clr (by omega) (by omega)).trans (congrArg (fun z => upd z t8 0) hR1.2.2.2.2.2.1)), (cnt_u hR1.2.2.2.2.2.2 (by omega) (fun q4 => by rw [hR1.2.2.2.2.2.2 k (fun _ => q4)]; rfl))⟩ ⟨(show _ = nI _ by rw [len_s]; rfl), hp_s hH.2 rfl rfl⟩ (zl1_ne rfl rfl h0) zl1_eq (by omega) (by omega)
set_option maxRecDepth 100000 in
set_option maxHeartbeats 0 in
theorem lcx_se11_51 (ro : UInt32 → Nat × (Nat → Int32)) (nv np : Nat) (P : Nat → Nat → Int32) (W : qW) (T K : Int) (I : Nat → Nat → Int32) (G : Nat → Nat → Int64) (A : Nat → Nat → Int32) (B : Nat → Nat → Int64) (hR : cRS 11 nv np P W I G A B) (hp : MPa nv np P) (hb : wBo W) (hW : wOk nv T K P W) (hT : T ≤ 40000) (hK : K ≤ 200000000) : ∀ (n k : Nat) (ls : List (Nat × Value)) (I1 : Nat → Nat → Int32) (G1 : Nat → Nat → Int64) (A1 : Nat → Nat → Int32) (B1 : Nat → Nat → Int64) (lev : Nat → Int64) (dr : Int64) (sip opn cnt : Nat → Int32) (ev : List (Int32 × Int32)), KQ (fSe 11) (pSe 11) I G A B I1 G1 A1 B1 → wT2 nv P W k = (lev, dr, sip, opn, cnt, ev) → cRS 11 nv np P (wMid W (lev, dr, sip, opn, cnt, ev)) I1 G1 A1 B1 → cHp 11 I1 A1 ev → zld ls 0 = some (.ref 11) → zld ls 1 = some (.int (nI k)) → k ≤ nv → nv + 1 ≤ k + n → zWp ro 70 51 ls [] (hS I1 G1 A1 B1) 0 0 (fun r h1 => ∃ I2 G2 A2 B2, h1 = hS I2 G2 A2 B2 ∧ KQ (fSe 11) (pSe 11) I G A B I2 G2 A2 B2 ∧ (cRS 11 nv np P (wMom nv P W) I2 G2 A2 B2 ∧ cHp 11 I2 A2 (wEv nv P W)) ∧ r = none) := by
  have h8 := hp.1
  have h14 := hp.2.1
  have hg : 1 ≤ W.1.toInt ∧ W.1.toInt ≤ 10000 := hW.1.1
  have tok := wT_ok hp hb hW hT hK
  have tln := wT_len (nv := nv) (P := P) (W := W)
  have tsum := qN_sum (kind := P 53) nv
  intro n
  induction n with
  | zero =>
    intro k ls I1 G1 A1 B1 lev dr sip opn cnt ev _ _ _ _ _ _ a b
    exact absurd b (by omega)
  | succ n ih =>
    intro k ls I1 G1 A1 B1 lev dr sip opn cnt ev K0 hm hR1 hH h0 h1 hk1 hk2
    have hO := tok.2.1 k hk1
    have hLn := tln.2.1 k
    rw [hm] at hO hLn
    change ev.length ≤ _ at hLn
    have hbm : wBo (wMid W (lev, dr, sip, opn, cnt, ev)) := ⟨hO.2.2.2.1.1, hO.2.2.2.1.2⟩
    refine zw_iload_n 52 f70_51 rfl h1 ?_
    refine zw_aload_n 53 f70_52 rfl h0 ?_
    refine zw_getfield 56 f70_53 rfl g70_37_10 (hb_11 _ _ _ _) rfl ?_
    refine zw_getI (nI nv) 59 f70_56 rfl g70_80_4 (hb_1 _ _ _ _) rfl hR1.1.1 ?_
    refine zw_ic_ge 62 85 f70_59 (by decide +kernel) rfl (fun hc1 => ?_) (fun hc1 => ?_)
    · have hn_hc1 : nv ≤ k := zn_ge (by omega) (by omega) hc1
      refine zw_iconst 0 86 f70_85 rfl (by decide +kernel) ?_
      refine zw_istore_n _ 87 f70_86 rfl (by decide +kernel) rfl ?_
      have hk : k = nv := by omega
      subst hk
      exact lcx_se11_87 ro k np P W T K I G A B hR hp hb hW hT hK (k + 1) 0 _ _ _ _ _ _ _ _ _ _ _ K0 hm hR1 hH (zl1_ne rfl rfl h0) zl1_eq (by omega) (by omega)
    · have hn_hc1 : k < nv := zn_lt (by omega) (by omega) hc1
      refine zw_aload_n 63 f70_62 rfl h0 ?_
      refine zw_getfield 66 f70_63 rfl g70_37_10 (hb_11 _ _ _ _) rfl ?_
      refine zw_iload_n 67 f70_66 rfl h1 ?_
      refine zw_virtual_i 70 0 0 [.ref 1, .int (nI k)] [(0, .ref 1), (1, .int (nI k))] f70_67 rfl n70_132 k70_132_4 rfl (hb_1 _ _ _ _) (by decide +kernel) (Nat.le_of_ble_eq_true rfl) rfl rfl (by decide +kernel) (by decide +kernel) rfl (Nat.le_of_ble_eq_true rfl) rfl ?_
      refine zw_iload_n 1 f15_0 rfl rfl ?_
      refine zw_if_lt_f 4 27 f15_1 (by decide +kernel) rfl (nI_pos (by omega)) ?_
      refine zw_iload_n 5 f15_4 rfl rfl ?_
      refine zw_aload_n 6 f15_5 rfl rfl ?_
      refine zw_getI (nI nv) 9 f15_6 rfl g15_39_4 (hb_1 _ _ _ _) rfl hR1.1.1 ?_
      refine zw_ic_ge_f 12 27 f15_9 (by decide +kernel) rfl hc1 ?_
      refine zw_iload_n 13 f15_12 rfl rfl ?_
      refine zw_bipush 8 15 f15_13 rfl (by decide +kernel) ?_
      refine zw_ic_ge_f 18 27 f15_15 (by decide +kernel) rfl (fun q => absurd (zn_ge (a := 8) (b := k) (by omega) (by omega) q) (by omega)) ?_
      refine zw_aload_n 19 f15_18 rfl rfl ?_
      refine zw_getfield 22 f15_19 rfl g15_9_4 (hb_1 _ _ _ _) rfl ?_
      refine zw_iload_n 23 f15_22 rfl rfl ?_
      refine zw_iaload k (P 53 k) 24 f15_23 rfl (hb_2 _ _ _ _) (nI_clamp (by omega)) (nI_pos (by omega)) (by omega) (congrFun ((hR1.2.1 53 (by omega) (by omega))) k) ?_
      refine zw_goto 28 f15_24 (by decide +kernel) ?_
      refine zw_ireturn f15_28 r15 u15 ⟨_, rfl, ?_⟩
      refine zw_iconst 1 71 f70_70 rfl (by decide +kernel) ?_
      refine zw_ic_ne 74 79 f70_71 (by decide +kernel) rfl (fun hc2 => ?_) (fun hc2 => ?_)
      · refine zw_iinc (nI (k + 1)) _ 82 f70_79 rfl h1 (by decide +kernel) (nI_1 _) rfl ?_
        refine zw_goto 51 f70_82 (by decide +kernel) ?_
        have E : wT2 nv P W (k + 1) = (lev, dr, sip, opn, cnt, ev) := by
          show qSip1 (P 53) (P 55) W.1 k (wT2 nv P W k) = _
          rw [hm]
          exact qSip1_a hc2
        exact ih (k + 1) _ _ _ _ _ _ _ _ _ _ _ K0 E hR1 hH (zl1_ne rfl rfl h0) zl1_eq (by omega) (by omega)
      · have eY := qN_y (kind := P 53) (k := k) (show s1 (P 53 k) from (Decidable.of_not_not hc2))
        have eM := qN_mo (s := s1) (kind := P 53) (k := k + 1) nv (by omega)
        have he8 : ev.length < 8 := by omega
        refine zw_aload_n 75 f70_74 rfl h0 ?_
        refine zw_iload_n 76 f70_75 rfl h1 ?_
        refine zw_virtual_v 79 0 0 [.ref 11, .int (nI k)] [(0, .ref 11), (1, .int (nI k))] f70_76 rfl n70_190 k70_190_10 rfl (hb_11 _ _ _ _) (by decide +kernel) (Nat.le_of_ble_eq_true rfl) rfl rfl (by decide +kernel) (by decide +kernel) rfl (Nat.le_of_ble_eq_true rfl) rfl ?_
        refine zw_aload_n 1 f73_0 rfl rfl ?_
        refine zw_getfield 4 f73_1 rfl g73_12_10 (hb_11 _ _ _ _) rfl ?_
        refine zw_iload_n 5 f73_4 rfl rfl ?_
        refine zw_virtual_i 8 0 0 [.ref 12, .int (nI k)] [(0, .ref 12), (1, .int (nI k))] f73_5 rfl n73_51 k73_51_9 rfl (hb_12 _ _ _ _) (by decide +kernel) (Nat.le_of_ble_eq_true rfl) rfl rfl (by decide +kernel) (by decide +kernel) rfl (Nat.le_of_ble_eq_true rfl) rfl ?_
        refine zWp.mono (cx_isSiphoning_11 ro nv np P (wMid W (lev, dr, sip, opn, cnt, ev)) _ _ _ _ hR1 hp hbm k (by omega)) ?_
        rintro r h1 ⟨rfl, rfl⟩
        refine ⟨_, rfl, ?_⟩
        refine zw_if_ne 11 60 f73_8 (by decide +kernel) rfl (fun hc3 => ?_) (fun hc3 => ?_)
        · refine zw_aload_n 61 f73_60 rfl rfl ?_
          refine zw_getfield 64 f73_61 rfl g73_12_10 (hb_11 _ _ _ _) rfl ?_
          refine zw_getfield 67 f73_64 rfl g73_87_9 (hb_12 _ _ _ _) rfl ?_
          refine zw_iload_n 68 f73_67 rfl rfl ?_
          refine zw_laload k (lev k) 69 f73_68 rfl (hb_13 _ _ _ _) (nI_clamp (by omega)) (nI_pos (by omega)) (by omega) (congrFun (hR1.2.2.2.1) k) ?_
          refine zw_lconst 0 70 f73_69 rfl (by decide +kernel) ?_
          refine zw_lcmp (lg_cmp (lev k) 0) 71 f73_70 rfl rfl ?_
          refine zw_if_ne 74 89 f73_71 (by decide +kernel) rfl (fun hc4 => ?_) (fun hc4 => ?_)
          · refine zw_vreturn f73_89 r73 u73 ⟨rfl, ?_⟩
            refine zw_iinc (nI (k + 1)) _ 82 f70_79 rfl h1 (by decide +kernel) (nI_1 _) rfl ?_
            refine zw_goto 51 f70_82 (by decide +kernel) ?_
            have E : wT2 nv P W (k + 1) = (lev, dr, sip, opn, cnt, ev) := by
              show qSip1 (P 53) (P 55) W.1 k (wT2 nv P W k) = _
              rw [hm]
              exact qSip1_c hc3 (fun q => hc4 ((lg_cmp_eq _ _).mpr q))
            exact ih (k + 1) _ _ _ _ _ _ _ _ _ _ _ K0 E hR1 hH (zl1_ne rfl rfl h0) zl1_eq (by omega) (by omega)
          · refine zw_aload_n 75 f73_74 rfl rfl ?_
            refine zw_getfield 78 f73_75 rfl g73_12_10 (hb_11 _ _ _ _) rfl ?_
            refine zw_iload_n 79 f73_78 rfl rfl ?_
            refine zw_iconst 0 80 f73_79 rfl (by decide +kernel) ?_
            refine zw_virtual_v 83 0 0 [.ref 12, .int (nI k), .int 0] [(0, .ref 12), (1, .int (nI k)), (2, .int 0)] f73_80 rfl n73_208 k73_208_9 rfl (hb_12 _ _ _ _) (by decide +kernel) (Nat.le_of_ble_eq_true rfl) rfl rfl (by decide +kernel) (by decide +kernel) rfl (Nat.le_of_ble_eq_true rfl) rfl ?_
            refine zw_aload_n 1 f46_0 rfl rfl ?_
            refine zw_iload_n 2 f46_1 rfl rfl ?_
            refine zw_if_eq_t 16 f46_2 (by decide +kernel) (by decide +kernel) ?_
            refine zw_aload_n 17 f46_16 rfl rfl ?_
            refine zw_getI (I1 12 6) 20 f46_17 rfl g46_42_9 (hb_12 _ _ _ _) rfl rfl ?_
            refine zw_iconst 1 21 f46_20 rfl (by decide +kernel) ?_
            refine zw_iload_n 22 f46_21 rfl rfl ?_
            refine zw_ishl (1 <<< ((nI k) &&& 31)) 23 f46_22 rfl rfl ?_
            refine zw_iconst (-1) 24 f46_23 rfl (by decide +kernel) ?_
            refine zw_ixor ((1 <<< ((nI k) &&& 31)) ^^^ (-1)) 25 f46_24 rfl rfl ?_
            refine zw_iand ((I1 12 6) &&& ((1 <<< ((nI k) &&& 31)) ^^^ (-1))) 26 f46_25 rfl rfl ?_
            refine zw_put _ 29 f46_26 rfl g46_42_9 (hb_12 _ _ _ _) rfl (Nat.le_of_ble_eq_true rfl) (by decide +kernel) (hi_12_6 _ _ _ _ _) ?_
            refine zw_vreturn f46_29 r46 u46 ⟨rfl, ?_⟩
            refine zw_aload_n 84 f73_83 rfl rfl ?_
            refine zw_iconst 3 85 f73_84 rfl (by decide +kernel) ?_
            refine zw_iload_n 86 f73_85 rfl rfl ?_
            refine zw_virtual_v 89 0 0 [.ref 11, .int 3, .int (nI k)] [(0, .ref 11), (1, .int 3), (2, .int (nI k))] f73_86 rfl n73_203 k73_203_10 rfl (hb_11 _ _ _ _) (by decide +kernel) (Nat.le_of_ble_eq_true rfl) rfl rfl (by decide +kernel) (by decide +kernel) rfl (Nat.le_of_ble_eq_true rfl) rfl ?_
            refine zw_aload_n 1 f75_0 rfl rfl ?_
            refine zw_getI (nI ev.length) 4 f75_1 rfl g75_161_10 (hb_11 _ _ _ _) rfl hH.1 ?_
            refine zw_bipush 8 6 f75_4 rfl (by decide +kernel) ?_
            refine zw_ic_ge_f 9 39 f75_6 (by decide +kernel) rfl (fun q => absurd (zn_ge (a := 8) (b := ev.length) (by omega) (by omega) q) (by omega)) ?_
            refine zw_aload_n 10 f75_9 rfl rfl ?_
            refine zw_getfield 13 f75_10 rfl g75_31_10 (hb_11 _ _ _ _) rfl ?_
            refine zw_aload_n 14 f75_13 rfl rfl ?_
            refine zw_getI (nI ev.length) 17 f75_14 rfl g75_161_10 (hb_11 _ _ _ _) rfl hH.1 ?_
            refine zw_iload_n 18 f75_17 rfl rfl ?_
            refine zw_ast ev.length _ 19 f75_18 rfl (hb_20 _ _ _ _) (nI_clamp (by omega)) (nI_pos (by omega)) (by omega) (ha_20 _ _ _ _ _) ?_
            refine zw_aload_n 20 f75_19 rfl rfl ?_
            refine zw_getfield 23 f75_20 rfl g75_34_10 (hb_11 _ _ _ _) rfl ?_
            refine zw_aload_n 24 f75_23 rfl rfl ?_
            refine zw_getI (nI ev.length) 27 f75_24 rfl g75_161_10 (hb_11 _ _ _ _) rfl hH.1 ?_
            refine zw_iload_n 28 f75_27 rfl rfl ?_
            refine zw_ast ev.length _ 29 f75_28 rfl (hb_21 _ _ _ _) (nI_clamp (by omega)) (nI_pos (by omega)) (by omega) (ha_21 _ _ _ _ _) ?_
            refine zw_aload_n 30 f75_29 rfl rfl ?_
            refine zw_dup 31 f75_30 rfl rfl ?_
            refine zw_getI (nI ev.length) 34 f75_31 rfl g75_161_10 (hb_11 _ _ _ _) rfl hH.1 ?_
            refine zw_iconst 1 35 f75_34 rfl (by decide +kernel) ?_
            refine zw_iadd (nI (ev.length + 1)) 36 f75_35 rfl (nI_add _ 1) ?_
            refine zw_put _ 39 f75_36 rfl g75_161_10 (hb_11 _ _ _ _) rfl (Nat.le_of_ble_eq_true rfl) (by decide +kernel) (hi_11_12 _ _ _ _ _) ?_
            refine zw_vreturn f75_39 r75 u75 ⟨rfl, ?_⟩
            refine zw_vreturn f73_89 r73 u73 ⟨rfl, ?_⟩
            refine zw_iinc (nI (k + 1)) _ 82 f70_79 rfl h1 (by decide +kernel) (nI_1 _) rfl ?_
            refine zw_goto 51 f70_82 (by decide +kernel) ?_
            have E : wT2 nv P W (k + 1) = (lev, dr, (upd sip k 0), opn, cnt, (ev ++ [(3, nI k)])) := by
              show qSip1 (P 53) (P 55) W.1 k (wT2 nv P W k) = _
              rw [hm]
              exact qSip1_z (Decidable.of_not_not hc2) hc3 ((lg_cmp_eq _ _).mp (Decidable.of_not_not hc4))
            exact ih (k + 1) _ _ _ _ _ _ _ _ _ _ _ (KQ.i rfl (KQ.a rfl (KQ.a rfl (KQ.i rfl K0)))) E ⟨⟨hR1.1.1, hR1.1.2⟩, PE.of10 ((hR1.2.1 53 (by omega) (by omega))) ((hR1.2.1 54 (by omega) (by omega))) ((hR1.2.1 55 (by omega) (by omega))) ((hR1.2.1 56 (by omega) (by omega))) ((hR1.2.1 57 (by omega) (by omega))) ((hR1.2.1 58 (by omega) (by omega))) ((hR1.2.1 59 (by omega) (by omega))) ((hR1.2.1 60 (by omega) (by omega))) ((hR1.2.1 61 (by omega) (by omega))) ((hR1.2.1 62 (by omega) (by omega))), ⟨hR1.2.2.1.1, hR1.2.2.1.2.1, hR1.2.2.1.2.2.1, hR1.2.2.1.2.2.2⟩, hR1.2.2.2.1, ((bOf_clr (by omega) (by omega)).trans (congrArg (fun z => upd z k 0) hR1.2.2.2.2.1)), hR1.2.2.2.2.2.1, hR1.2.2.2.2.2.2⟩ ⟨(show _ = nI _ by rw [len_s]; rfl), hp_s hH.2 rfl rfl⟩ (zl1_ne rfl rfl h0) zl1_eq (by omega) (by omega)
        · refine zw_aload_n 12 f73_11 rfl rfl ?_
          refine zw_getfield 15 f73_12 rfl g73_12_10 (hb_11 _ _ _ _) rfl ?_
          refine zw_getfield 18 f73_15 rfl g73_87_9 (hb_12 _ _ _ _) rfl ?_
          refine zw_iload_n 19 f73_18 rfl rfl ?_
          refine zw_laload k (lev k) 20 f73_19 rfl (hb_13 _ _ _ _) (nI_clamp (by omega)) (nI_pos (by omega)) (by omega) (congrFun (hR1.2.2.2.1) k) ?_
          refine zw_aload_n 21 f73_20 rfl rfl ?_
          refine zw_getfield 24 f73_21 rfl g73_37_10 (hb_11 _ _ _ _) rfl ?_
          refine zw_getfield 27 f73_24 rfl g73_139_4 (hb_1 _ _ _ _) rfl ?_
          refine zw_iload_n 28 f73_27 rfl rfl ?_
          refine zw_iaload k (P 55 k) 29 f73_28 rfl (hb_4 _ _ _ _) (nI_clamp (by omega)) (nI_pos (by omega)) (by omega) (congrFun ((hR1.2.1 55 (by omega) (by omega))) k) ?_
          refine zw_i2l (Int32.toInt64 (P 55 k)) 30 f73_29 rfl rfl ?_
          refine zw_aload_n 31 f73_30 rfl rfl ?_
          refine zw_getfield 34 f73_31 rfl g73_12_10 (hb_11 _ _ _ _) rfl ?_
          refine zw_getG W.1 37 f73_34 rfl g73_109_9 (hb_12 _ _ _ _) rfl hR1.2.2.1.1 ?_
          refine zw_lmul ((Int32.toInt64 (P 55 k)) * W.1) 38 f73_37 rfl rfl ?_
          refine zw_lcmp (lg_cmp (lev k) ((Int32.toInt64 (P 55 k)) * W.1)) 39 f73_38 rfl rfl ?_
          refine zw_if_lt 42 89 f73_39 (by decide +kernel) rfl (fun hc5 => ?_) (fun hc5 => ?_)
          · refine zw_vreturn f73_89 r73 u73 ⟨rfl, ?_⟩
            refine zw_iinc (nI (k + 1)) _ 82 f70_79 rfl h1 (by decide +kernel) (nI_1 _) rfl ?_
            refine zw_goto 51 f70_82 (by decide +kernel) ?_
            have E : wT2 nv P W (k + 1) = (lev, dr, sip, opn, cnt, ev) := by
              show qSip1 (P 53) (P 55) W.1 k (wT2 nv P W k) = _
              rw [hm]
              exact qSip1_b (Decidable.of_not_not hc3) (Int64.not_le.mpr ((lg_cmp_lt _ _).mp hc5))
            exact ih (k + 1) _ _ _ _ _ _ _ _ _ _ _ K0 E hR1 hH (zl1_ne rfl rfl h0) zl1_eq (by omega) (by omega)
          · refine zw_aload_n 43 f73_42 rfl rfl ?_
            refine zw_getfield 46 f73_43 rfl g73_12_10 (hb_11 _ _ _ _) rfl ?_
            refine zw_iload_n 47 f73_46 rfl rfl ?_
            refine zw_iconst 1 48 f73_47 rfl (by decide +kernel) ?_
            refine zw_virtual_v 51 0 0 [.ref 12, .int (nI k), .int 1] [(0, .ref 12), (1, .int (nI k)), (2, .int 1)] f73_48 rfl n73_208 k73_208_9 rfl (hb_12 _ _ _ _) (by decide +kernel) (Nat.le_of_ble_eq_true rfl) rfl rfl (by decide +kernel) (by decide +kernel) rfl (Nat.le_of_ble_eq_true rfl) rfl ?_
            refine zw_aload_n 1 f46_0 rfl rfl ?_
            refine zw_iload_n 2 f46_1 rfl rfl ?_
            refine zw_if_eq_f 5 16 f46_2 (by decide +kernel) rfl (by decide +kernel) ?_
            refine zw_aload_n 6 f46_5 rfl rfl ?_
            refine zw_getI (I1 12 6) 9 f46_6 rfl g46_42_9 (hb_12 _ _ _ _) rfl rfl ?_
            refine zw_iconst 1 10 f46_9 rfl (by decide +kernel) ?_
            refine zw_iload_n 11 f46_10 rfl rfl ?_
            refine zw_ishl (1 <<< ((nI k) &&& 31)) 12 f46_11 rfl rfl ?_
            refine zw_ior ((I1 12 6) ||| (1 <<< ((nI k) &&& 31))) 13 f46_12 rfl rfl ?_
            refine zw_goto 26 f46_13 (by decide +kernel) ?_
            refine zw_put _ 29 f46_26 rfl g46_42_9 (hb_12 _ _ _ _) rfl (Nat.le_of_ble_eq_true rfl) (by decide +kernel) (hi_12_6 _ _ _ _ _) ?_
            refine zw_vreturn f46_29 r46 u46 ⟨rfl, ?_⟩
            refine zw_aload_n 52 f73_51 rfl rfl ?_
            refine zw_iconst 2 53 f73_52 rfl (by decide +kernel) ?_
            refine zw_iload_n 54 f73_53 rfl rfl ?_
            refine zw_virtual_v 57 0 0 [.ref 11, .int 2, .int (nI k)] [(0, .ref 11), (1, .int 2), (2, .int (nI k))] f73_54 rfl n73_203 k73_203_10 rfl (hb_11 _ _ _ _) (by decide +kernel) (Nat.le_of_ble_eq_true rfl) rfl rfl (by decide +kernel) (by decide +kernel) rfl (Nat.le_of_ble_eq_true rfl) rfl ?_
            refine zw_aload_n 1 f75_0 rfl rfl ?_
            refine zw_getI (nI ev.length) 4 f75_1 rfl g75_161_10 (hb_11 _ _ _ _) rfl hH.1 ?_
            refine zw_bipush 8 6 f75_4 rfl (by decide +kernel) ?_
            refine zw_ic_ge_f 9 39 f75_6 (by decide +kernel) rfl (fun q => absurd (zn_ge (a := 8) (b := ev.length) (by omega) (by omega) q) (by omega)) ?_
            refine zw_aload_n 10 f75_9 rfl rfl ?_
            refine zw_getfield 13 f75_10 rfl g75_31_10 (hb_11 _ _ _ _) rfl ?_
            refine zw_aload_n 14 f75_13 rfl rfl ?_
            refine zw_getI (nI ev.length) 17 f75_14 rfl g75_161_10 (hb_11 _ _ _ _) rfl hH.1 ?_
            refine zw_iload_n 18 f75_17 rfl rfl ?_
            refine zw_ast ev.length _ 19 f75_18 rfl (hb_20 _ _ _ _) (nI_clamp (by omega)) (nI_pos (by omega)) (by omega) (ha_20 _ _ _ _ _) ?_
            refine zw_aload_n 20 f75_19 rfl rfl ?_
            refine zw_getfield 23 f75_20 rfl g75_34_10 (hb_11 _ _ _ _) rfl ?_
            refine zw_aload_n 24 f75_23 rfl rfl ?_
            refine zw_getI (nI ev.length) 27 f75_24 rfl g75_161_10 (hb_11 _ _ _ _) rfl hH.1 ?_
            refine zw_iload_n 28 f75_27 rfl rfl ?_
            refine zw_ast ev.length _ 29 f75_28 rfl (hb_21 _ _ _ _) (nI_clamp (by omega)) (nI_pos (by omega)) (by omega) (ha_21 _ _ _ _ _) ?_
            refine zw_aload_n 30 f75_29 rfl rfl ?_
            refine zw_dup 31 f75_30 rfl rfl ?_
            refine zw_getI (nI ev.length) 34 f75_31 rfl g75_161_10 (hb_11 _ _ _ _) rfl hH.1 ?_
            refine zw_iconst 1 35 f75_34 rfl (by decide +kernel) ?_
            refine zw_iadd (nI (ev.length + 1)) 36 f75_35 rfl (nI_add _ 1) ?_
            refine zw_put _ 39 f75_36 rfl g75_161_10 (hb_11 _ _ _ _) rfl (Nat.le_of_ble_eq_true rfl) (by decide +kernel) (hi_11_12 _ _ _ _ _) ?_
            refine zw_vreturn f75_39 r75 u75 ⟨rfl, ?_⟩
            refine zw_goto 89 f73_57 (by decide +kernel) ?_
            refine zw_vreturn f73_89 r73 u73 ⟨rfl, ?_⟩
            refine zw_iinc (nI (k + 1)) _ 82 f70_79 rfl h1 (by decide +kernel) (nI_1 _) rfl ?_
            refine zw_goto 51 f70_82 (by decide +kernel) ?_
            have E : wT2 nv P W (k + 1) = (lev, dr, (upd sip k 1), opn, cnt, (ev ++ [(2, nI k)])) := by
              show qSip1 (P 53) (P 55) W.1 k (wT2 nv P W k) = _
              rw [hm]
              exact qSip1_y (Decidable.of_not_not hc2) (Decidable.of_not_not hc3) (Int64.not_lt.mp (fun q => hc5 ((lg_cmp_lt _ _).mpr q)))
            exact ih (k + 1) _ _ _ _ _ _ _ _ _ _ _ (KQ.i rfl (KQ.a rfl (KQ.a rfl (KQ.i rfl K0)))) E ⟨⟨hR1.1.1, hR1.1.2⟩, PE.of10 ((hR1.2.1 53 (by omega) (by omega))) ((hR1.2.1 54 (by omega) (by omega))) ((hR1.2.1 55 (by omega) (by omega))) ((hR1.2.1 56 (by omega) (by omega))) ((hR1.2.1 57 (by omega) (by omega))) ((hR1.2.1 58 (by omega) (by omega))) ((hR1.2.1 59 (by omega) (by omega))) ((hR1.2.1 60 (by omega) (by omega))) ((hR1.2.1 61 (by omega) (by omega))) ((hR1.2.1 62 (by omega) (by omega))), ⟨hR1.2.2.1.1, hR1.2.2.1.2.1, hR1.2.2.1.2.2.1, hR1.2.2.1.2.2.2⟩, hR1.2.2.2.1, ((bOf_set (by omega) (by omega)).trans (congrArg (fun z => upd z k 1) hR1.2.2.2.2.1)), hR1.2.2.2.2.2.1, hR1.2.2.2.2.2.2⟩ ⟨(show _ = nI _ by rw [len_s]; rfl), hp_s hH.2 rfl rfl⟩ (zl1_ne rfl rfl h0) zl1_eq (by omega) (by omega)
set_option maxRecDepth 100000 in
set_option maxHeartbeats 0 in
theorem lcx_se11_7 (ro : UInt32 → Nat × (Nat → Int32)) (nv np : Nat) (P : Nat → Nat → Int32) (W : qW) (T K : Int) (I : Nat → Nat → Int32) (G : Nat → Nat → Int64) (A : Nat → Nat → Int32) (B : Nat → Nat → Int64) (hR : cRS 11 nv np P W I G A B) (hp : MPa nv np P) (hb : wBo W) (hW : wOk nv T K P W) (hT : T ≤ 40000) (hK : K ≤ 200000000) : ∀ (n k : Nat) (ls : List (Nat × Value)) (I1 : Nat → Nat → Int32) (G1 : Nat → Nat → Int64) (A1 : Nat → Nat → Int32) (B1 : Nat → Nat → Int64) (lev : Nat → Int64) (dr : Int64) (sip opn cnt : Nat → Int32) (ev : List (Int32 × Int32)), KQ (fSe 11) (pSe 11) I G A B I1 G1 A1 B1 → wT1 P W k = (lev, dr, sip, opn, cnt, ev) → cRS 11 nv np P (wMid W (lev, dr, sip, opn, cnt, ev)) I1 G1 A1 B1 → cHp 11 I1 A1 ev → zld ls 0 = some (.ref 11) → zld ls 1 = some (.int (nI k)) → k ≤ nv → nv + 1 ≤ k + n → zWp ro 70 7 ls [] (hS I1 G1 A1 B1) 0 0 (fun r h1 => ∃ I2 G2 A2 B2, h1 = hS I2 G2 A2 B2 ∧ KQ (fSe 11) (pSe 11) I G A B I2 G2 A2 B2 ∧ (cRS 11 nv np P (wMom nv P W) I2 G2 A2 B2 ∧ cHp 11 I2 A2 (wEv nv P W)) ∧ r = none) := by
  have h8 := hp.1
  have h14 := hp.2.1
  have hg : 1 ≤ W.1.toInt ∧ W.1.toInt ≤ 10000 := hW.1.1
  have tok := wT_ok hp hb hW hT hK
  have tln := wT_len (nv := nv) (P := P) (W := W)
  have tsum := qN_sum (kind := P 53) nv
  intro n
  induction n with
  | zero =>
    intro k ls I1 G1 A1 B1 lev dr sip opn cnt ev _ _ _ _ _ _ a b
    exact absurd b (by omega)
  | succ n ih =>
    intro k ls I1 G1 A1 B1 lev dr sip opn cnt ev K0 hm hR1 hH h0 h1 hk1 hk2
    have hO := tok.1 k hk1
    have hLn := tln.1 k
    rw [hm] at hO hLn
    change ev.length ≤ _ at hLn
    have hbm : wBo (wMid W (lev, dr, sip, opn, cnt, ev)) := ⟨hO.2.2.2.1.1, hO.2.2.2.1.2⟩
    refine zw_iload_n 8 f70_7 rfl h1 ?_
    refine zw_aload_n 9 f70_8 rfl h0 ?_
    refine zw_getfield 12 f70_9 rfl g70_37_10 (hb_11 _ _ _ _) rfl ?_
    refine zw_getI (nI nv) 15 f70_12 rfl g70_80_4 (hb_1 _ _ _ _) rfl hR1.1.1 ?_
    refine zw_ic_ge 18 49 f70_15 (by decide +kernel) rfl (fun hc1 => ?_) (fun hc1 => ?_)
    · have hn_hc1 : nv ≤ k := zn_ge (by omega) (by omega) hc1
      refine zw_iconst 0 50 f70_49 rfl (by decide +kernel) ?_
      refine zw_istore_n _ 51 f70_50 rfl (by decide +kernel) rfl ?_
      have hk : k = nv := by omega
      subst hk
      exact lcx_se11_51 ro k np P W T K I G A B hR hp hb hW hT hK (k + 1) 0 _ _ _ _ _ _ _ _ _ _ _ K0 hm hR1 hH (zl1_ne rfl rfl h0) zl1_eq (by omega) (by omega)
    · have hn_hc1 : k < nv := zn_lt (by omega) (by omega) hc1
      refine zw_aload_n 19 f70_18 rfl h0 ?_
      refine zw_getfield 22 f70_19 rfl g70_37_10 (hb_11 _ _ _ _) rfl ?_
      refine zw_iload_n 23 f70_22 rfl h1 ?_
      refine zw_virtual_i 26 0 0 [.ref 1, .int (nI k)] [(0, .ref 1), (1, .int (nI k))] f70_23 rfl n70_132 k70_132_4 rfl (hb_1 _ _ _ _) (by decide +kernel) (Nat.le_of_ble_eq_true rfl) rfl rfl (by decide +kernel) (by decide +kernel) rfl (Nat.le_of_ble_eq_true rfl) rfl ?_
      refine zw_iload_n 1 f15_0 rfl rfl ?_
      refine zw_if_lt_f 4 27 f15_1 (by decide +kernel) rfl (nI_pos (by omega)) ?_
      refine zw_iload_n 5 f15_4 rfl rfl ?_
      refine zw_aload_n 6 f15_5 rfl rfl ?_
      refine zw_getI (nI nv) 9 f15_6 rfl g15_39_4 (hb_1 _ _ _ _) rfl hR1.1.1 ?_
      refine zw_ic_ge_f 12 27 f15_9 (by decide +kernel) rfl hc1 ?_
      refine zw_iload_n 13 f15_12 rfl rfl ?_
      refine zw_bipush 8 15 f15_13 rfl (by decide +kernel) ?_
      refine zw_ic_ge_f 18 27 f15_15 (by decide +kernel) rfl (fun q => absurd (zn_ge (a := 8) (b := k) (by omega) (by omega) q) (by omega)) ?_
      refine zw_aload_n 19 f15_18 rfl rfl ?_
      refine zw_getfield 22 f15_19 rfl g15_9_4 (hb_1 _ _ _ _) rfl ?_
      refine zw_iload_n 23 f15_22 rfl rfl ?_
      refine zw_iaload k (P 53 k) 24 f15_23 rfl (hb_2 _ _ _ _) (nI_clamp (by omega)) (nI_pos (by omega)) (by omega) (congrFun ((hR1.2.1 53 (by omega) (by omega))) k) ?_
      refine zw_goto 28 f15_24 (by decide +kernel) ?_
      refine zw_ireturn f15_28 r15 u15 ⟨_, rfl, ?_⟩
      refine zw_iconst 2 27 f70_26 rfl (by decide +kernel) ?_
      refine zw_ic_ne 30 43 f70_27 (by decide +kernel) rfl (fun hc2 => ?_) (fun hc2 => ?_)
      · refine zw_iinc (nI (k + 1)) _ 46 f70_43 rfl h1 (by decide +kernel) (nI_1 _) rfl ?_
        refine zw_goto 7 f70_46 (by decide +kernel) ?_
        have E : wT1 P W (k + 1) = (lev, dr, sip, opn, cnt, ev) := by
          show qTip1 (P 53) (P 54) (P 58) (P 59) W.1 k (wT1 P W k) = _
          rw [hm]
          exact qTip1_a hc2
        exact ih (k + 1) _ _ _ _ _ _ _ _ _ _ _ K0 E hR1 hH (zl1_ne rfl rfl h0) zl1_eq (by omega) (by omega)
      · have eY := qN_y (kind := P 53) (k := k) (show s2 (P 53 k) from (Decidable.of_not_not hc2))
        have eM := qN_mo (s := s2) (kind := P 53) (k := k + 1) nv (by omega)
        have he8 : ev.length < 8 := by omega
        refine zw_aload_n 31 f70_30 rfl h0 ?_
        refine zw_iload_n 32 f70_31 rfl h1 ?_
        refine zw_virtual_i 35 0 0 [.ref 11, .int (nI k)] [(0, .ref 11), (1, .int (nI k))] f70_32 rfl n70_97 k70_97_10 rfl (hb_11 _ _ _ _) (by decide +kernel) (Nat.le_of_ble_eq_true rfl) rfl rfl (by decide +kernel) (by decide +kernel) rfl (Nat.le_of_ble_eq_true rfl) rfl ?_
        refine zw_aload_n 1 f52_0 rfl rfl ?_
        refine zw_getfield 4 f52_1 rfl g52_12_10 (hb_11 _ _ _ _) rfl ?_
        refine zw_getfield 7 f52_4 rfl g52_87_9 (hb_12 _ _ _ _) rfl ?_
        refine zw_iload_n 8 f52_7 rfl rfl ?_
        refine zw_laload k (lev k) 9 f52_8 rfl (hb_13 _ _ _ _) (nI_clamp (by omega)) (nI_pos (by omega)) (by omega) (congrFun (hR1.2.2.2.1) k) ?_
        refine zw_aload_n 10 f52_9 rfl rfl ?_
        refine zw_getfield 13 f52_10 rfl g52_37_10 (hb_11 _ _ _ _) rfl ?_
        refine zw_getfield 16 f52_13 rfl g52_106_4 (hb_1 _ _ _ _) rfl ?_
        refine zw_iload_n 17 f52_16 rfl rfl ?_
        refine zw_iaload k (P 54 k) 18 f52_17 rfl (hb_3 _ _ _ _) (nI_clamp (by omega)) (nI_pos (by omega)) (by omega) (congrFun ((hR1.2.1 54 (by omega) (by omega))) k) ?_
        refine zw_i2l (Int32.toInt64 (P 54 k)) 19 f52_18 rfl rfl ?_
        refine zw_aload_n 20 f52_19 rfl rfl ?_
        refine zw_getfield 23 f52_20 rfl g52_12_10 (hb_11 _ _ _ _) rfl ?_
        refine zw_getG W.1 26 f52_23 rfl g52_109_9 (hb_12 _ _ _ _) rfl hR1.2.2.1.1 ?_
        refine zw_lmul ((Int32.toInt64 (P 54 k)) * W.1) 27 f52_26 rfl rfl ?_
        refine zw_lcmp (lg_cmp (lev k) ((Int32.toInt64 (P 54 k)) * W.1)) 28 f52_27 rfl rfl ?_
        refine zw_if_lt 31 35 f52_28 (by decide +kernel) rfl (fun hc3 => ?_) (fun hc3 => ?_)
        · refine zw_iconst 0 36 f52_35 rfl (by decide +kernel) ?_
          refine zw_zreturn f52_36 r52 u52 (by decide +kernel) ⟨_, rfl, ?_⟩
          refine zw_if_eq_t 43 f70_35 (by decide +kernel) (by decide +kernel) ?_
          refine zw_iinc (nI (k + 1)) _ 46 f70_43 rfl h1 (by decide +kernel) (nI_1 _) rfl ?_
          refine zw_goto 7 f70_46 (by decide +kernel) ?_
          have E : wT1 P W (k + 1) = (lev, dr, sip, opn, cnt, ev) := by
            show qTip1 (P 53) (P 54) (P 58) (P 59) W.1 k (wT1 P W k) = _
            rw [hm]
            exact qTip1_b (fun z => absurd ((lg_cmp_lt _ _).mp hc3) (by rw [z]; exact i64_irr))
          exact ih (k + 1) _ _ _ _ _ _ _ _ _ _ _ K0 E hR1 hH (zl1_ne rfl rfl h0) zl1_eq (by omega) (by omega)
        · refine zw_iconst 1 32 f52_31 rfl (by decide +kernel) ?_
          refine zw_goto 36 f52_32 (by decide +kernel) ?_
          refine zw_zreturn f52_36 r52 u52 (by decide +kernel) ⟨_, rfl, ?_⟩
          refine zw_if_eq_f 38 43 f70_35 (by decide +kernel) rfl (by decide +kernel) ?_
          refine zw_aload_n 39 f70_38 rfl h0 ?_
          refine zw_iload_n 40 f70_39 rfl h1 ?_
          refine zw_virtual_v 43 0 0 [.ref 11, .int (nI k)] [(0, .ref 11), (1, .int (nI k))] f70_40 rfl n70_187 k70_187_10 rfl (hb_11 _ _ _ _) (by decide +kernel) (Nat.le_of_ble_eq_true rfl) rfl rfl (by decide +kernel) (by decide +kernel) rfl (Nat.le_of_ble_eq_true rfl) rfl ?_
          refine zw_aload_n 1 f71_0 rfl rfl ?_
          refine zw_getfield 4 f71_1 rfl g71_12_10 (hb_11 _ _ _ _) rfl ?_
          refine zw_getfield 7 f71_4 rfl g71_87_9 (hb_12 _ _ _ _) rfl ?_
          refine zw_iload_n 8 f71_7 rfl rfl ?_
          refine zw_laload k (lev k) 9 f71_8 rfl (hb_13 _ _ _ _) (nI_clamp (by omega)) (nI_pos (by omega)) (by omega) (congrFun (hR1.2.2.2.1) k) ?_
          refine zw_lstore_n _ 10 f71_9 rfl (by decide +kernel) rfl ?_
          refine zw_aload_n 11 f71_10 rfl (zl2_ne rfl rfl rfl) ?_
          refine zw_getfield 14 f71_11 rfl g71_12_10 (hb_11 _ _ _ _) rfl ?_
          refine zw_getfield 17 f71_14 rfl g71_87_9 (hb_12 _ _ _ _) rfl ?_
          refine zw_iload_n 18 f71_17 rfl (zl2_ne rfl rfl rfl) ?_
          refine zw_lconst 0 19 f71_18 rfl (by decide +kernel) ?_
          refine zw_lst k _ 20 f71_19 rfl (hb_13 _ _ _ _) (nI_clamp (by omega)) (nI_pos (by omega)) (by omega) (ha_13 _ _ _ _ _) ?_
          refine zw_aload_n 21 f71_20 rfl (zl2_ne rfl rfl rfl) ?_
          refine zw_aload_n 22 f71_21 rfl (zl2_ne rfl rfl rfl) ?_
          refine zw_getfield 25 f71_22 rfl g71_37_10 (hb_11 _ _ _ _) rfl ?_
          refine zw_getfield 28 f71_25 rfl g71_196_4 (hb_1 _ _ _ _) rfl ?_
          refine zw_iload_n 29 f71_28 rfl (zl2_ne rfl rfl rfl) ?_
          refine zw_iaload k (P 58 k) 30 f71_29 rfl (hb_7 _ _ _ _) (nI_clamp (by omega)) (nI_pos (by omega)) (by omega) (congrFun ((hR1.2.1 58 (by omega) (by omega))) k) ?_
          refine zw_lload_n 31 f71_30 rfl zl2_eq ?_
          refine zw_virtual_v 34 0 0 [.ref 11, .int (P 58 k), .long (lev k)] [(0, .ref 11), (1, .int (P 58 k)), (2, .long (lev k))] f71_31 rfl n71_199 k71_199_10 rfl (hb_11 _ _ _ _) (by decide +kernel) (Nat.le_of_ble_eq_true rfl) rfl rfl (by decide +kernel) (by decide +kernel) rfl (Nat.le_of_ble_eq_true rfl) rfl ?_
          have lvk : 0 ≤ (lev k).toInt ∧ (lev k).toInt ≤ (P 54 k).toInt * W.1.toInt := hO.1.1 k (by omega)
          have bgk := (mBrim (a := P 54 k) (g := W.1) ⟨by have := (hp.2.2.1 k (by omega)).1; omega, (hp.2.2.1 k (by omega)).1.2⟩ hg).2.2
          refine zWp.mono (cx_pour_11 ro nv np P _ _ _ _ hp W.1 dr hg hR1.1.1 (hR1.2.1 54 (by omega) (by omega)) (hR1.2.1 59 (by omega) (by omega)) hR1.2.2.1.1 (vp_updL lev k 0) (congrArg (fun z => vp_updL z k 0) (hR1.2.2.2.1)) hR1.2.2.1.2.2.2 (hO.1.u (by omega) (by rw [i64_0]; omega) (by rw [i64_0]; exact Int.le_trans lvk.1 lvk.2)) (P 58 k) (lev k) (mTo_0 (hp.2.2.1 k (by omega)).2.2.2.2.1) lvk.1 (by omega)) ?_
          rintro r h1 ⟨I_4, G_4, A_4, B_4, rfl, K_4, P_4, rfl⟩
          refine ⟨rfl, ?_⟩
          refine zw_aload_n 35 f71_34 rfl (zl2_ne rfl rfl rfl) ?_
          refine zw_iconst 1 36 f71_35 rfl (by decide +kernel) ?_
          refine zw_iload_n 37 f71_36 rfl (zl2_ne rfl rfl rfl) ?_
          refine zw_virtual_v 40 0 0 [.ref 11, .int 1, .int (nI k)] [(0, .ref 11), (1, .int 1), (2, .int (nI k))] f71_37 rfl n71_203 k71_203_10 rfl (hb_11 _ _ _ _) (by decide +kernel) (Nat.le_of_ble_eq_true rfl) rfl rfl (by decide +kernel) (by decide +kernel) rfl (Nat.le_of_ble_eq_true rfl) rfl ?_
          refine zw_aload_n 1 f75_0 rfl rfl ?_
          refine zw_getI (nI ev.length) 4 f75_1 rfl g75_161_10 (hb_11 _ _ _ _) rfl ((K_4.1 11 12 rfl).trans hH.1) ?_
          refine zw_bipush 8 6 f75_4 rfl (by decide +kernel) ?_
          refine zw_ic_ge_f 9 39 f75_6 (by decide +kernel) rfl (fun q => absurd (zn_ge (a := 8) (b := ev.length) (by omega) (by omega) q) (by omega)) ?_
          refine zw_aload_n 10 f75_9 rfl rfl ?_
          refine zw_getfield 13 f75_10 rfl g75_31_10 (hb_11 _ _ _ _) rfl ?_
          refine zw_aload_n 14 f75_13 rfl rfl ?_
          refine zw_getI (nI ev.length) 17 f75_14 rfl g75_161_10 (hb_11 _ _ _ _) rfl ((K_4.1 11 12 rfl).trans hH.1) ?_
          refine zw_iload_n 18 f75_17 rfl rfl ?_
          refine zw_ast ev.length _ 19 f75_18 rfl (hb_20 _ _ _ _) (nI_clamp (by omega)) (nI_pos (by omega)) (by omega) (ha_20 _ _ _ _ _) ?_
          refine zw_aload_n 20 f75_19 rfl rfl ?_
          refine zw_getfield 23 f75_20 rfl g75_34_10 (hb_11 _ _ _ _) rfl ?_
          refine zw_aload_n 24 f75_23 rfl rfl ?_
          refine zw_getI (nI ev.length) 27 f75_24 rfl g75_161_10 (hb_11 _ _ _ _) rfl ((K_4.1 11 12 rfl).trans hH.1) ?_
          refine zw_iload_n 28 f75_27 rfl rfl ?_
          refine zw_ast ev.length _ 29 f75_28 rfl (hb_21 _ _ _ _) (nI_clamp (by omega)) (nI_pos (by omega)) (by omega) (ha_21 _ _ _ _ _) ?_
          refine zw_aload_n 30 f75_29 rfl rfl ?_
          refine zw_dup 31 f75_30 rfl rfl ?_
          refine zw_getI (nI ev.length) 34 f75_31 rfl g75_161_10 (hb_11 _ _ _ _) rfl ((K_4.1 11 12 rfl).trans hH.1) ?_
          refine zw_iconst 1 35 f75_34 rfl (by decide +kernel) ?_
          refine zw_iadd (nI (ev.length + 1)) 36 f75_35 rfl (nI_add _ 1) ?_
          refine zw_put _ 39 f75_36 rfl g75_161_10 (hb_11 _ _ _ _) rfl (Nat.le_of_ble_eq_true rfl) (by decide +kernel) (hi_11_12 _ _ _ _ _) ?_
          refine zw_vreturn f75_39 r75 u75 ⟨rfl, ?_⟩
          refine zw_vreturn f71_40 r71 u71 ⟨rfl, ?_⟩
          refine zw_iinc (nI (k + 1)) _ 46 f70_43 rfl h1 (by decide +kernel) (nI_1 _) rfl ?_
          refine zw_goto 7 f70_46 (by decide +kernel) ?_
          have E : wT1 P W (k + 1) = (((qPour (P 54) (P 59) W.1 9 (vp_updL lev k 0) dr (P 58 k) (lev k)).1), ((qPour (P 54) (P 59) W.1 9 (vp_updL lev k 0) dr (P 58 k) (lev k)).2), sip, opn, cnt, (ev ++ [(1, nI k)])) := by
            show qTip1 (P 53) (P 54) (P 58) (P 59) W.1 k (wT1 P W k) = _
            rw [hm]
            exact qTip1_y (Decidable.of_not_not hc2) (fullk (hp.2.2.1 k (by omega)).1 hg (hO.1.1 k (by omega)) (Int64.not_lt.mpr (Int64.not_lt.mp (fun q => hc3 ((lg_cmp_lt _ _).mpr q)))))
          exact ih (k + 1) _ _ _ _ _ _ _ _ _ _ _ (KQ.i rfl (KQ.a rfl (KQ.a rfl (KQ.tr (KQ.b rfl K0) (KQ.wk K_4 (fCp_Se 11) (pCa_Se 11)))))) E ⟨⟨((K_4.1 1 0 rfl).trans hR1.1.1), ((K_4.1 1 1 rfl).trans hR1.1.2)⟩, PE.of10 (((K_4.2.2.1 2 rfl).trans (hR1.2.1 53 (by omega) (by omega)))) (((K_4.2.2.1 3 rfl).trans (hR1.2.1 54 (by omega) (by omega)))) (((K_4.2.2.1 4 rfl).trans (hR1.2.1 55 (by omega) (by omega)))) (((K_4.2.2.1 5 rfl).trans (hR1.2.1 56 (by omega) (by omega)))) (((K_4.2.2.1 6 rfl).trans (hR1.2.1 57 (by omega) (by omega)))) (((K_4.2.2.1 7 rfl).trans (hR1.2.1 58 (by omega) (by omega)))) (((K_4.2.2.1 8 rfl).trans (hR1.2.1 59 (by omega) (by omega)))) (((K_4.2.2.1 9 rfl).trans (hR1.2.1 60 (by omega) (by omega)))) (((K_4.2.2.1 10 rfl).trans (hR1.2.1 61 (by omega) (by omega)))) (((K_4.2.2.1 15 rfl).trans (hR1.2.1 62 (by omega) (by omega)))), ⟨((K_4.2.1 12 0 rfl).trans hR1.2.2.1.1), ((K_4.2.1 12 1 rfl).trans hR1.2.2.1.2.1), ((K_4.2.1 12 2 rfl).trans hR1.2.2.1.2.2.1), P_4.2⟩, P_4.1, ((congrArg (bOf 8) (K_4.1 12 6 rfl)).trans hR1.2.2.2.2.1), ((congrArg (bOf 14) (K_4.1 12 5 rfl)).trans hR1.2.2.2.2.2.1), (fun v hv => (congrFun (K_4.2.2.1 14 rfl) v).trans (hR1.2.2.2.2.2.2 v hv))⟩ ⟨(show _ = nI _ by rw [len_s]; rfl), hp_s hH.2 (congrArg (fun z => upd z ev.length 1) ((K_4.2.2.1 20 rfl))) (congrArg (fun z => upd z ev.length (nI k)) ((K_4.2.2.1 21 rfl)))⟩ (zl1_ne rfl rfl h0) zl1_eq (by omega) (by omega)
set_option maxRecDepth 100000 in
set_option maxHeartbeats 0 in
theorem cx_settle_11 (ro : UInt32 → Nat × (Nat → Int32)) (nv np : Nat) (P : Nat → Nat → Int32) (W : qW) (T K : Int) (I : Nat → Nat → Int32) (G : Nat → Nat → Int64) (A : Nat → Nat → Int32) (B : Nat → Nat → Int64) (hR : cRS 11 nv np P W I G A B) (hp : MPa nv np P) (hb : wBo W) (hW : wOk nv T K P W) (hT : T ≤ 40000) (hK : K ≤ 200000000) : zWp ro 70 0 [(0, .ref 11)] [] (hS I G A B) 0 0 (fun r h1 => ∃ I2 G2 A2 B2, h1 = hS I2 G2 A2 B2 ∧ KQ (fSe 11) (pSe 11) I G A B I2 G2 A2 B2 ∧ (cRS 11 nv np P (wMom nv P W) I2 G2 A2 B2 ∧ cHp 11 I2 A2 (wEv nv P W)) ∧ r = none) := by
  have h8 := hp.1
  have h14 := hp.2.1
  have hg : 1 ≤ W.1.toInt ∧ W.1.toInt ≤ 10000 := hW.1.1
  have tok := wT_ok hp hb hW hT hK
  have tln := wT_len (nv := nv) (P := P) (W := W)
  have tsum := qN_sum (kind := P 53) nv
  refine zw_aload_n 1 f70_0 rfl rfl ?_
  refine zw_iconst 0 2 f70_1 rfl (by decide +kernel) ?_
  refine zw_put _ 5 f70_2 rfl g70_161_10 (hb_11 _ _ _ _) rfl (Nat.le_of_ble_eq_true rfl) (by decide +kernel) (hi_11_12 _ _ _ _ _) ?_
  refine zw_iconst 0 6 f70_5 rfl (by decide +kernel) ?_
  refine zw_istore_n _ 7 f70_6 rfl (by decide +kernel) rfl ?_
  exact lcx_se11_7 ro nv np P W T K I G A B hR hp hb hW hT hK (nv + 1) 0 _ _ _ _ _ _ _ _ _ _ _ (KQ.i rfl KQ.rf) rfl ⟨hR.1, hR.2⟩ ⟨rfl, fun i hi => absurd hi (by simp only [List.length_nil]; omega)⟩ (zl1_ne rfl rfl rfl) zl1_eq (by omega) (by omega)
