/-! ===== a moment keeps the numbers ===== -/
theorem vpL_s {f : Nat → Int64} {k : Nat} {x : Int64} : vp_updL f k x k = x := if_pos rfl
theorem vpL_o {f : Nat → Int64} {k j : Nat} {x : Int64} (h : ¬ j = k) : vp_updL f k x j = f j := if_neg h
theorem vpL_2 {f : Nat → Int64} {k : Nat} {x y : Int64} : vp_updL (vp_updL f k y) k x = vp_updL f k x := by
  funext j
  by_cases e : j = k
  · rw [e, vpL_s, vpL_s]
  · rw [vpL_o e, vpL_o e, vpL_o e]
def qLv (nv : Nat) (brim : Nat → Int32) (g : Int64) (lev : Nat → Int64) : Prop := (∀ v, v < nv → 0 ≤ (lev v).toInt ∧ (lev v).toInt ≤ (brim v).toInt * g.toInt) ∧ ∀ v, nv ≤ v → lev v = 0
theorem qLv.u {nv k : Nat} {brim : Nat → Int32} {g x : Int64} {lev : Nat → Int64} (h : qLv nv brim g lev) (hk : k < nv) (h0 : 0 ≤ x.toInt) (h1 : x.toInt ≤ (brim k).toInt * g.toInt) : qLv nv brim g (vp_updL lev k x) := by
  refine ⟨fun v hv => ?_, fun v hv => ?_⟩
  · by_cases e : v = k
    · rw [e, vpL_s]; exact ⟨h0, h1⟩
    · rw [vpL_o e]; exact h.1 v hv
  · rw [vpL_o (by omega)]; exact h.2 v hv
def qPl (nv : Nat) (brim over : Nat → Int32) (g : Int64) : Prop := (1 ≤ g.toInt ∧ g.toInt ≤ 10000) ∧ (∀ v, v < nv → 1 ≤ (brim v).toInt ∧ (brim v).toInt ≤ 200) ∧ ∀ v, v < nv → mTo nv (v + 1) (over v)
/-- what goes in, what goes on -/
theorem qIn {a left : Int64} {b : Int32} {g : Int64} (hg : 1 ≤ g.toInt ∧ g.toInt ≤ 10000) (hb : 1 ≤ b.toInt ∧ b.toInt ≤ 200) (ha : 0 ≤ a.toInt ∧ a.toInt ≤ b.toInt * g.toInt) (hl : 0 ≤ left.toInt ∧ left.toInt ≤ 100000000) :
    0 ≤ (qL2 (a + left - Int32.toInt64 b * g)).toInt ∧ (qL2 (a + left - Int32.toInt64 b * g)).toInt ≤ left.toInt ∧ (a + left - qL2 (a + left - Int32.toInt64 b * g)).toInt = a.toInt + left.toInt - (qL2 (a + left - Int32.toInt64 b * g)).toInt ∧ a.toInt + left.toInt - (qL2 (a + left - Int32.toInt64 b * g)).toInt ≤ b.toInt * g.toInt ∧ 0 ≤ a.toInt + left.toInt - (qL2 (a + left - Int32.toInt64 b * g)).toInt ∧ ((qL2 (a + left - Int32.toInt64 b * g)).toInt = 0 ∨ a.toInt + left.toInt - (qL2 (a + left - Int32.toInt64 b * g)).toInt = b.toInt * g.toInt) := by
  have hm := mBrim (a := b) (g := g) ⟨by omega, hb.2⟩ hg
  have e1 : (a + left).toInt = a.toInt + left.toInt := i64_add (by omega) (by omega)
  have e2 : (a + left - Int32.toInt64 b * g).toInt = a.toInt + left.toInt - b.toInt * g.toInt := by
    rw [i64_sub, e1, hm.1] <;> rw [e1, hm.1] <;> omega
  have e3 : (qL2 (a + left - Int32.toInt64 b * g)).toInt = if 0 < a.toInt + left.toInt - b.toInt * g.toInt then a.toInt + left.toInt - b.toInt * g.toInt else 0 := by
    unfold qL2
    by_cases h : 0 < a + left - Int32.toInt64 b * g
    · rw [if_pos h, e2, if_pos]
      rw [i64_lt, e2, i64_0] at h; exact h
    · rw [if_neg h, if_neg, i64_0]
      rw [i64_lt, e2, i64_0] at h; exact h
  generalize qL2 (a + left - Int32.toInt64 b * g) = l2 at *
  have e4 : (a + left - l2).toInt = a.toInt + left.toInt - l2.toInt := by
    by_cases h : 0 < a.toInt + left.toInt - b.toInt * g.toInt
    · rw [if_pos h] at e3
      rw [i64_sub, e1] <;> rw [e1] <;> omega
    · rw [if_neg h] at e3
      rw [i64_sub, e1] <;> rw [e1] <;> omega
  rw [e4]
  by_cases h : 0 < a.toInt + left.toInt - b.toInt * g.toInt
  · rw [if_pos h] at e3
    refine ⟨by omega, by omega, rfl, by omega, by omega, Or.inr (by omega)⟩
  · rw [if_neg h] at e3
    refine ⟨by omega, by omega, rfl, by omega, by omega, Or.inl (by omega)⟩
theorem qPour_ok {nv : Nat} {brim over : Nat → Int32} {g : Int64} (hn8 : nv ≤ 8) (hp : qPl nv brim over g) : ∀ (n lo : Nat) (lev : Nat → Int64) (dr : Int64) (w : Int32) (left : Int64), qLv nv brim g lev → mTo nv lo w → nv + 1 ≤ lo + n → 0 ≤ left.toInt → left.toInt ≤ 100000000 → 0 ≤ dr.toInt → dr.toInt + left.toInt < 2 ^ 62 →
    qLv nv brim g (qPour brim over g n lev dr w left).1 ∧ dr.toInt ≤ (qPour brim over g n lev dr w left).2.toInt ∧ (qPour brim over g n lev dr w left).2.toInt ≤ dr.toInt + left.toInt
  | 0, lo, lev, dr, w, left, hl, hw, hn, l0, l1, d0, d1 => by
    have e : (dr + left).toInt = dr.toInt + left.toInt := i64_add (by omega) (by omega)
    show qLv nv brim g lev ∧ dr.toInt ≤ (dr + left).toInt ∧ (dr + left).toInt ≤ dr.toInt + left.toInt
    exact ⟨hl, by omega, by omega⟩
  | n + 1, lo, lev, dr, w, left, hl, hw, hn, l0, l1, d0, d1 => by
    have e : (dr + left).toInt = dr.toInt + left.toInt := i64_add (by omega) (by omega)
    by_cases hz : 0 < left
    rotate_left
    · rw [qPour_z hz]; exact ⟨hl, by show dr.toInt ≤ (dr + left).toInt; omega, by show (dr + left).toInt ≤ _; omega⟩
    rcases hw with hw | ⟨t, t1, t2, hw⟩
    · rw [qPour_m hw]; exact ⟨hl, by show dr.toInt ≤ (dr + left).toInt; omega, by show (dr + left).toInt ≤ _; omega⟩
    · rw [qPour_y hw (by omega) hz, vpL_2]
      have q := qIn (a := lev t) (left := left) (b := brim t) (g := g) hp.1 (hp.2.1 t t2) (hl.1 t t2) ⟨l0, l1⟩
      have ih := qPour_ok hn8 hp n (t + 1) (vp_updL lev t (lev t + left - qL2 (lev t + left - Int32.toInt64 (brim t) * g))) dr (over t) (qL2 (lev t + left - Int32.toInt64 (brim t) * g)) (hl.u t2 (by rw [q.2.2.1]; exact q.2.2.2.2.1) (by rw [q.2.2.1]; exact q.2.2.2.1)) (hp.2.2 t t2) (by omega) q.1 (by omega) d0 (by omega)
      exact ⟨ih.1, ih.2.1, by omega⟩
def qBo (m : qM) : Prop := (∀ p, p < 14 → m.2.2.2.1 p = 0 ∨ m.2.2.2.1 p = 1) ∧ ∀ v, v < 8 → m.2.2.1 v = 0 ∨ m.2.2.1 v = 1
theorem upd_bo {f : Nat → Int32} {k n : Nat} {x : Int32} (h : ∀ v, v < n → f v = 0 ∨ f v = 1) (hx : x = 0 ∨ x = 1) : ∀ v, v < n → upd f k x v = 0 ∨ upd f k x v = 1 := by
  intro v hv
  by_cases e : v = k
  · rw [e, upd_s]; exact hx
  · rw [upd_o e]; exact h v hv
/-- what the loops of a moment keep -/
def qOk (nv : Nat) (brim : Nat → Int32) (g : Int64) (d0 : Int) (c : Int) (n : Nat) (m : qM) : Prop := qLv nv brim g m.1 ∧ d0 ≤ m.2.1.toInt ∧ m.2.1.toInt ≤ d0 + c * g.toInt ∧ qBo m ∧ m.2.2.2.2.2.length ≤ n
theorem qTip_ok {nv : Nat} {kind brim tip over : Nat → Int32} {g : Int64} {d0 : Int} {m0 : qM} (hn8 : nv ≤ 8) (hp : qPl nv brim over g) (ht : ∀ v, v < nv → mTo nv (v + 1) (tip v)) (h0 : 0 ≤ d0) (h1 : d0 < 2 ^ 61) (hm : qOk nv brim g d0 0 0 m0) : ∀ k, k ≤ nv → qOk nv brim g d0 (200 * k) k (qIt (qTip1 kind brim tip over g) m0 k)
  | 0, _ => by
    show qOk nv brim g d0 (200 * (0 : Nat)) 0 m0
    exact hm
  | k + 1, hk => by
    have ih := qTip_ok (kind := kind) hn8 hp ht h0 h1 hm k (by omega)
    rw [qIt_s]
    generalize qIt (qTip1 kind brim tip over g) m0 k = m at *
    obtain ⟨lev, dr, sip, opn, cnt, ev⟩ := m
    obtain ⟨a1, a2, a3, a4, a5⟩ := ih
    have hg := hp.1
    have hkg : (200 * ((k + 1 : Nat) : Int)) * g.toInt = 200 * (k : Int) * g.toInt + 200 * g.toInt := by
      rw [Int.natCast_add, Int.mul_add, Int.add_mul]; rfl
    have hk2 := mul_bd (a := 200 * (k : Int)) (b := g.toInt) (A := 1600) (B := 10000) (by omega) (by omega) (by omega) hg.2
    simp only at a1 a2 a3 a4 a5
    by_cases c1 : kind k = 2
    rotate_left
    · rw [qTip1_a c1]
      exact ⟨a1, a2, by simp only; omega, a4, by simp only; omega⟩
    by_cases c2 : lev k = Int32.toInt64 (brim k) * g
    rotate_left
    · rw [qTip1_b c2]
      exact ⟨a1, a2, by simp only; omega, a4, by simp only; omega⟩
    rw [qTip1_y c1 c2]
    have hb := hp.2.1 k (by omega)
    have hl := a1.1 k (by omega)
    have hm2 := mBrim (a := brim k) (g := g) ⟨by omega, hb.2⟩ hg
    have lz : qLv nv brim g (vp_updL lev k 0) := a1.u (by omega) (by rw [i64_0]; omega) (by rw [i64_0]; omega)
    have q := qPour_ok hn8 hp 9 0 (vp_updL lev k 0) dr (tip k) (lev k) lz (mTo_0 (ht k (by omega))) (by omega) hl.1 (by omega) (by omega) (by omega)
    refine ⟨q.1, ?_, ?_, a4, ?_⟩
    · have := q.2.1
      simp only; omega
    · have := q.2.2
      simp only; omega
    · simp only [List.length_append, List.length_cons, List.length_nil]; omega
theorem qSip_ok {nv : Nat} {kind brim high : Nat → Int32} {g : Int64} {d0 c : Int} {n : Nat} {m0 : qM} (hm : qOk nv brim g d0 c n m0) : ∀ k, k ≤ nv → qOk nv brim g d0 c (n + k) (qIt (qSip1 kind high g) m0 k)
  | 0, _ => hm
  | k + 1, hk => by
    have ih := qSip_ok (kind := kind) (high := high) hm k (by omega)
    rw [qIt_s]
    generalize qIt (qSip1 kind high g) m0 k = m at *
    obtain ⟨lev, dr, sip, opn, cnt, ev⟩ := m
    obtain ⟨a1, a2, a3, a4, a5⟩ := ih
    simp only at a1 a2 a3 a4 a5
    have sm : qOk nv brim g d0 c (n + (k + 1)) (lev, dr, sip, opn, cnt, ev) := ⟨a1, a2, a3, a4, by simp only; omega⟩
    by_cases c1 : kind k = 1
    rotate_left
    · rw [qSip1_a c1]; exact sm
    by_cases c2 : sip k = 0
    · by_cases c3 : Int32.toInt64 (high k) * g ≤ lev k
      · rw [qSip1_y c1 c2 c3]
        exact ⟨a1, a2, a3, ⟨a4.1, upd_bo a4.2 (Or.inr rfl)⟩, by simp only [List.length_append, List.length_cons, List.length_nil]; omega⟩
      · rw [qSip1_b c2 c3]; exact sm
    · by_cases c3 : lev k = 0
      · rw [qSip1_z c1 c2 c3]
        exact ⟨a1, a2, a3, ⟨a4.1, upd_bo a4.2 (Or.inl rfl)⟩, by simp only [List.length_append, List.length_cons, List.length_nil]; omega⟩
      · rw [qSip1_c c2 c3]; exact sm
theorem qFlo_ok {nv np : Nat} {kind brim high low own : Nat → Int32} {g : Int64} {d0 c : Int} {n : Nat} {m0 : qM} (hnp : np ≤ 14) (ho : ∀ v, v < nv → mTo np 0 (own v)) (hm : qOk nv brim g d0 c n m0) : ∀ k, k ≤ nv → qOk nv brim g d0 c (n + k) (qIt (qFlo1 kind high low own g) m0 k)
  | 0, _ => hm
  | k + 1, hk => by
    have ih := qFlo_ok (kind := kind) (high := high) (low := low) hnp ho hm k (by omega)
    rw [qIt_s]
    generalize qIt (qFlo1 kind high low own g) m0 k = m at *
    obtain ⟨lev, dr, sip, opn, cnt, ev⟩ := m
    obtain ⟨a1, a2, a3, a4, a5⟩ := ih
    simp only at a1 a2 a3 a4 a5
    have sm : qOk nv brim g d0 c (n + (k + 1)) (lev, dr, sip, opn, cnt, ev) := ⟨a1, a2, a3, a4, by simp only; omega⟩
    by_cases c1 : kind k = 3 ∨ kind k = 4
    rotate_left
    · rw [qFlo1_a (fun q => c1 (Or.inl q)) (fun q => c1 (Or.inr q))]; exact sm
    rcases ho k (by omega) with c2 | ⟨t, t1, t2, c2⟩
    · rw [qFlo1_b c2]; exact sm
    rw [qFlo1_o c1 c2 (by omega)]
    by_cases c3 : opn t = 0
    · by_cases c4 : lev k ≤ Int32.toInt64 (low k) * g
      · rw [qFlo2_z c3 c4]
        exact ⟨a1, a2, a3, ⟨upd_bo a4.1 (Or.inr rfl), a4.2⟩, by simp only [List.length_append, List.length_cons, List.length_nil]; omega⟩
      · rw [qFlo2_c c3 c4]; exact sm
    · by_cases c4 : Int32.toInt64 (high k) * g ≤ lev k
      · rw [qFlo2_y c3 c4 rfl]
        exact ⟨a1, a2, a3, ⟨upd_bo a4.1 (Or.inl rfl), a4.2⟩, by simp only [List.length_append, List.length_cons, List.length_nil]; omega⟩
      · rw [qFlo2_b c3 c4]; exact sm
theorem MP.pl {nv np : Nat} {I : Nat → Nat → Int32} {A : Nat → Nat → Int32} {g : Int64} (h : MP nv np I A) (hg : 1 ≤ g.toInt ∧ g.toInt ≤ 10000) : qPl nv (A 54) (A 59) g := ⟨hg, fun v hv => (h.2.2.1 v hv).1, h.ho⟩
theorem mom_ok {nv np : Nat} {T K : Int} {I : Nat → Nat → Int32} {G : Nat → Nat → Int64} {A : Nat → Nat → Int32} {B : Nat → Nat → Int64} (hP : MP nv np I A) (hB : MB A) (hW : MW nv T K A G B) (hT : T ≤ 40000) (hK : K ≤ 200000000) : qOk nv (A 54) (G 52 12) (G 52 15).toInt 1600 24 (qMoms nv G A B) := by
  obtain ⟨⟨hg, hlv, hlz⟩, ht, hsp, hdn⟩ := hW
  have hn8 := hP.1.2
  have hnp := hP.2.1.2
  have tg : T * (G 52 12).toInt ≤ 40000 * (G 52 12).toInt := Int.mul_le_mul_of_nonneg_right hT (by omega)
  have kg : K * (G 52 12).toInt ≤ 200000000 * (G 52 12).toInt := Int.mul_le_mul_of_nonneg_right hK (by omega)
  have h0 : qOk nv (A 54) (G 52 12) (G 52 15).toInt 0 0 (qM0 G A B) := ⟨⟨hlv, hlz⟩, Int.le_refl _, by show (G 52 15).toInt ≤ _; omega, ⟨hB.1, hB.2⟩, Nat.le_refl _⟩
  have h1 := qTip_ok (kind := A 53) hn8 (hP.pl hg) (tip := A 58) (fun v hv => (hP.2.2.1 v hv).2.2.2.2.1) hdn.1 (by omega) h0 nv (Nat.le_refl _)
  have h2 := qSip_ok (kind := A 53) (high := A 55) h1 nv (Nat.le_refl _)
  have h3 := qFlo_ok (kind := A 53) (high := A 55) (low := A 56) hnp (fun v hv => (hP.2.2.1 v hv).2.2.2.1) h2 nv (Nat.le_refl _)
  obtain ⟨a1, a2, a3, a4, a5⟩ := h3
  refine ⟨a1, a2, Int.le_trans a3 ?_, a4, Nat.le_trans a5 (by omega)⟩
  have : 200 * (nv : Int) * (G 52 12).toInt ≤ 1600 * (G 52 12).toInt := Int.mul_le_mul_of_nonneg_right (by omega) (by omega)
  omega
theorem qLc_num {t sp dr g : Int64} {lev : Nat → Int64} (ht : 0 ≤ t.toInt) (hs : 0 ≤ sp.toInt) (hd : 0 ≤ dr.toInt) (hg : 0 < g.toInt) (hl : ∀ j, j < 8 → 0 ≤ (lev j).toInt) : ∀ k, k ≤ 8 → 0 < (qLc t sp dr g lev k).toInt ∧ (qLc t sp dr g lev k).toInt ∣ g.toInt ∧ (qLc t sp dr g lev k).toInt ∣ t.toInt ∧ (qLc t sp dr g lev k).toInt ∣ sp.toInt ∧ (qLc t sp dr g lev k).toInt ∣ dr.toInt ∧ ∀ j, j < k → (qLc t sp dr g lev k).toInt ∣ (lev j).toInt
  | 0, _ => by
    have h1 := mD_dvd (a := dr) (b := g) (by omega) hg
    have h2 := mD_dvd (a := sp) (b := mD dr g) (by omega) h1.1
    have h3 := mD_dvd (a := t) (b := mD sp (mD dr g)) (by omega) h2.1
    have x := Int.dvd_trans h3.2.2 h2.2.2
    exact ⟨h3.1, Int.dvd_trans x h1.2.2, h3.2.1, Int.dvd_trans h3.2.2 h2.2.1, Int.dvd_trans x h1.2.1, fun j hj => absurd hj (by omega)⟩
  | k + 1, hk => by
    have ih := qLc_num ht hs hd hg hl k (by omega)
    have h := mD_dvd (a := lev k) (b := qLc t sp dr g lev k) (by have := hl k (by omega); omega) ih.1
    show 0 < (mD (lev k) (qLc t sp dr g lev k)).toInt ∧ _
    refine ⟨h.1, Int.dvd_trans h.2.2 ih.2.1, Int.dvd_trans h.2.2 ih.2.2.1, Int.dvd_trans h.2.2 ih.2.2.2.1, Int.dvd_trans h.2.2 ih.2.2.2.2.1, fun j hj => ?_⟩
    by_cases e : j = k
    · rw [e]; exact h.2.1
    · exact Int.dvd_trans h.2.2 (ih.2.2.2.2.2 j (by omega))
theorem aft_ok {nv np : Nat} {T K : Int} {I I2 : Nat → Nat → Int32} {G G2 : Nat → Nat → Int64} {A A2 : Nat → Nat → Int32} {B B2 : Nat → Nat → Int64} {L : qLog} (hP : MP nv np I A) (hB : MB A) (hW : MW nv T K A G B) (hT : T ≤ 40000) (hK : K ≤ 200000000) (hA : A2 54 = A 54)
    (h : qAft I2 G2 A2 B2 (G 52 13) (G 52 14) (G 52 12) (qLc (G 52 13) (G 52 14) (qMoms nv G A B).2.1 (G 52 12) (qMoms nv G A B).1 8) (qMoms nv G A B) L) : MW nv T (K + 1600) A2 G2 B2 ∧ MB A2 := by
  have q := mom_ok hP hB hW hT hK
  have hn8 := hP.1.2
  obtain ⟨⟨hg, hlv, hlz⟩, ht, hsp, hdn⟩ := hW
  generalize qMoms nv G A B = m at *
  obtain ⟨a1, a2, a3, a4, a5⟩ := q
  obtain ⟨b1, b2, b3, b4, b5, b6, b7, b8, b9, b10⟩ := h
  have hl8 : ∀ j, j < 8 → 0 ≤ (m.1 j).toInt := by
    intro j hj
    rcases Nat.lt_or_ge j nv with z | z
    · exact (a1.1 j z).1
    · rw [a1.2 j z, i64_0]; omega
  have c := qLc_num (t := G 52 13) (sp := G 52 14) (dr := m.2.1) (g := G 52 12) (lev := m.1) ht.1 hsp.1 (by omega) (by omega) hl8 8 (Nat.le_refl _)
  generalize qLc (G 52 13) (G 52 14) m.2.1 (G 52 12) m.1 8 = cc at *
  refine ⟨?_, ?_⟩
  · refine MW_div (nv := nv) (T := T) (K := K + 1600) (A := A2) (c := cc) (al := G 52 12) (th := m.1) hn8 c.1 (by omega) c.2.1 (fun j hj => c.2.2.2.2.2 j hj) c.2.2.1 c.2.2.2.1 c.2.2.2.2.1 ?_ ?_ ?_ ht hsp ⟨by omega, ?_⟩ b1 ?_ b3 b4 b5 b6
    · rw [i64_div (by omega) c.1]
      have := Int.ediv_le_self (cc.toInt) (show 0 ≤ (G 52 12).toInt by omega)
      omega
    · intro v hv
      rw [hA]
      exact a1.1 v hv
    · intro v h1 _
      rw [a1.2 v h1, i64_0]
    · rw [Int.add_mul]; omega
    · intro j hj
      rw [b2 j hj]; exact a1.2 j (by omega)
  · unfold MB
    rw [b7, b8]
    exact ⟨a4.1, a4.2⟩
