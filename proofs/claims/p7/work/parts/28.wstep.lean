/-! ===== a step, a go, a search: what they keep ===== -/
theorem wMom_ok {nv np : Nat} {T K : Int} {PA : Nat → Nat → Int32} {W : qW} (h : MPa nv np PA) (hW : wOk nv T K PA W) (hB : wBo W) (hT : T ≤ 40000) (hK : K ≤ 200000000) : wOk nv T (K + 1600) PA (wMom nv PA W) ∧ wBo (wMom nv PA W) ∧ (wEv nv PA W).length ≤ 24 := by
  have q := mom_ok (I := eI nv np 0 0) (G := eG W) (A := eA PA W (fun _ => 0)) (B := eB W) (h.e W _ _ _) hB hW hT hK
  have hz : ∀ j, 8 ≤ j → (wMm nv PA W).1 j = 0 := fun j hj => q.1.2 j (by have := h.1; omega)
  have r := aft_ok (I := eI nv np 0 0) (G := eG W) (A := eA PA W (fun _ => 0)) (B := eB W) (I2 := eI nv np 0 0) (G2 := eG (wMom nv PA W)) (A2 := eA PA (wMom nv PA W) (fun _ => 0)) (B2 := eB (wMom nv PA W)) (L := (0, eA PA (wMom nv PA W) (fun _ => 0) 67, eA PA (wMom nv PA W) (fun _ => 0) 68, eB (wMom nv PA W) 69, eB (wMom nv PA W) 70, 0)) (h.e W _ _ _) hB hW hT hK rfl
    ⟨fun j _ => rfl, fun j hj => by
      show (wMm nv PA W).1 j / _ = (wMm nv PA W).1 j
      rw [hz j hj]; exact Int64.zero_div, rfl, rfl, rfl, rfl, rfl, rfl, rfl, rfl, rfl, rfl, rfl, rfl, rfl⟩
  exact ⟨r.1, r.2, q.2.2.2.2⟩
theorem wTm_200 {nv np : Nat} {T T2 K : Int} {PA : Nat → Nat → Int32} {W : qW} {na nb : Int64} (h : MPa nv np PA) (hW : wOk nv T K PA W) (hN : wNx nv np PA W = (0, na, nb)) (hT : T + 200 ≤ T2) : wTm T T2 W na nb := by
  obtain ⟨o, ⟨q, q1, q2, e⟩, -⟩ := wNext_ph h hW hN
  have hg : 1 ≤ W.1.toInt ∧ W.1.toInt ≤ 10000 := hW.1.1
  have ht : 0 ≤ W.2.1.toInt ∧ W.2.1.toInt ≤ T * W.1.toInt := hW.2.1
  unfold wTm
  have gq : W.1.toInt * 1 ≤ W.1.toInt * q := Int.mul_le_mul_of_nonneg_left q1 (by omega)
  have nb0 : 0 ≤ nb.toInt := by omega
  have a1 := Int.mul_le_mul_of_nonneg_right ht.2 nb0
  have a2 : na.toInt * W.1.toInt ≤ 200 * W.1.toInt * W.1.toInt := Int.mul_le_mul_of_nonneg_right o.2 (by omega)
  have a3 : W.1.toInt * W.1.toInt ≤ W.1.toInt * nb.toInt := Int.mul_le_mul_of_nonneg_left (by omega) (by omega)
  have a4 : (T + 200) * (W.1.toInt * nb.toInt) ≤ T2 * (W.1.toInt * nb.toInt) := Int.mul_le_mul_of_nonneg_right hT (Int.mul_nonneg (by omega) nb0)
  rw [Int.mul_assoc] at a1 a2
  rw [Int.add_mul] at a4
  omega
/-- how far the moment until is, as a long -/
theorem wFar {T : Int} {u g t : Int64} (hg : 1 ≤ g.toInt ∧ g.toInt ≤ 10000) (ht : 0 ≤ t.toInt ∧ t.toInt ≤ T * g.toInt) (hT : T ≤ 40000) (u0 : 0 ≤ u.toInt) (u1 : u.toInt ≤ 10000) : (u * g).toInt = u.toInt * g.toInt ∧ (u * g - t).toInt = u.toInt * g.toInt - t.toInt ∧ 0 ≤ u.toInt * g.toInt ∧ u.toInt * g.toInt ≤ 100000000 ∧ t.toInt ≤ 400000000 := by
  have m := mul_bd (a := u.toInt) (b := g.toInt) (A := 10000) (B := 10000) u0 u1 (by omega) hg.2
  have tg : T * g.toInt ≤ 40000 * g.toInt := Int.mul_le_mul_of_nonneg_right hT (by omega)
  have e1 : (u * g).toInt = u.toInt * g.toInt := i64_mul (by omega) (by omega)
  refine ⟨e1, ?_, m.1, by omega, by omega⟩
  rw [i64_sub, e1] <;> rw [e1] <;> omega
theorem wBehind {nv np : Nat} {T K : Int} {PA : Nat → Nat → Int32} {W : qW} {na nb u : Int64} (h : MPa nv np PA) (hW : wOk nv T K PA W) (hT : T ≤ 40000) (hN : wNx nv np PA W = (0, na, nb)) (u0 : 0 ≤ u.toInt) (u1 : u.toInt ≤ 10000) : ((u * W.1 - W.2.1) * nb < na * W.1) ↔ (u.toInt * W.1.toInt - W.2.1.toInt) * nb.toInt < na.toInt * W.1.toInt := by
  obtain ⟨o, ⟨q, q1, q2, e⟩, -⟩ := wNext_ph h hW hN
  have hg : 1 ≤ W.1.toInt ∧ W.1.toInt ≤ 10000 := hW.1.1
  have f := wFar (t := W.2.1) hg hW.2.1 hT u0 u1
  have hgq := mul_bd (a := W.1.toInt) (b := q) (A := 10000) (B := 71400) (by omega) hg.2 (by omega) q2
  have m1 := mul_bd (a := na.toInt) (b := W.1.toInt) (A := 2000000) (B := 10000) (by omega) (by omega) (by omega) hg.2
  have e1 : (na * W.1).toInt = na.toInt * W.1.toInt := i64_mul (by omega) (by omega)
  have m2 := abs_mul (a := u.toInt * W.1.toInt - W.2.1.toInt) (b := nb.toInt) (A := 500000000) (B := 714000000) (by have : 0 ≤ W.2.1.toInt := hW.2.1.1; omega) (by have : 0 ≤ W.2.1.toInt := hW.2.1.1; omega) (by omega) (by omega)
  have e2 : ((u * W.1 - W.2.1) * nb).toInt = (u.toInt * W.1.toInt - W.2.1.toInt) * nb.toInt := by
    rw [i64_mul, f.2.1] <;> rw [f.2.1] <;> omega
  rw [i64_lt, e1, e2]
theorem wTm_u {nv np : Nat} {T K : Int} {PA : Nat → Nat → Int32} {W : qW} {na nb u : Int64} (h : MPa nv np PA) (hW : wOk nv T K PA W) (hT : T ≤ 40000) (hN : wNx nv np PA W = (0, na, nb)) (u0 : 0 ≤ u.toInt) (u1 : u.toInt ≤ 10000) (hb : ¬ (u * W.1 - W.2.1) * nb < na * W.1) : wTm T u.toInt W na nb := by
  rw [wBehind h hW hT hN u0 u1] at hb
  unfold wTm
  rw [Int.sub_mul, Int.mul_assoc] at hb
  omega
/-- conditions of a step's time -/
def wU (T T2 : Int) (u : Int64) : Prop := T + 200 ≤ T2 ∨ (0 ≤ u.toInt ∧ u.toInt ≤ 10000 ∧ u.toInt ≤ T2)
theorem wStep_pass {nv np : Nat} {T T2 K : Int} {PA : Nat → Nat → Int32} {W : qW} {na nb u : Int64} (h : MPa nv np PA) (hW : wOk nv T K PA W) (hT : T ≤ 40000) (hK0 : 0 ≤ K) (hK : K ≤ 200000000) (hu : wU T T2 u) (hN : wNx nv np PA W = (0, na, nb)) (hb : ¬ (u * W.1 - W.2.1) * nb < na * W.1) : ¬ nb = 0 ∧ ¬ wBe na nb = 0 ∧ ¬ wAl W.1 na nb = 0 ∧ ∀ W1, wPass nv np PA W na nb = some W1 → wOk nv T2 K PA W1 ∧ W1.2.2.2.2.2 = W.2.2.2.2.2 := by
  obtain ⟨o, ⟨q, q1, q2, e⟩, p⟩ := wNext_ph h hW hN
  have hg : 1 ≤ W.1.toInt ∧ W.1.toInt ≤ 10000 := hW.1.1
  refine ⟨fun z => ?_, wPass_ok (T := T) (T2 := T2) h hW hT hK0 hK o.1 (by omega) q1 q2 e p ?_⟩
  · rw [z, i64_0] at e
    have := Int.mul_pos (a := W.1.toInt) (b := q) (by omega) (by omega)
    omega
  · rcases hu with z | ⟨u0, u1, u2⟩
    · exact wTm_200 h hW hN z
    · have t := wTm_u h hW hT hN u0 u1 hb
      unfold wTm at t ⊢
      have nb0 : 0 ≤ nb.toInt := by rw [e]; exact Int.mul_nonneg (by omega) (by omega)
      have := Int.mul_le_mul_of_nonneg_right u2 (Int.mul_nonneg (a := W.1.toInt) (b := nb.toInt) (by omega) nb0)
      omega
section ZWS
variable {nv np : Nat} {PA : Nat → Nat → Int32} {W W1 : qW} {u na nb : Int64}
theorem wStep_r (hN : ¬ (wNx nv np PA W).1 = 0) : wStep nv np PA u W = (0, W, 0, 0, []) := if_pos (Or.inl hN)
theorem wStep_b (hN : wNx nv np PA W = (0, na, nb)) (hb : (u * W.1 - W.2.1) * nb < na * W.1) : wStep nv np PA u W = (0, W, 0, 0, []) := if_pos (Or.inr (by rw [hN]; exact hb))
theorem wStep_n (hN : wNx nv np PA W = (0, na, nb)) (hb : ¬ (u * W.1 - W.2.1) * nb < na * W.1) (hp : wPass nv np PA W na nb = none) : wStep nv np PA u W = (-1, W, 0, 0, []) := by
  unfold wStep
  rw [hN, if_neg (fun q => q.elim (fun z => z rfl) hb)]
  show wStepB nv PA W (wPass nv np PA W na nb) = _
  rw [hp]; rfl
theorem wStep_y (hN : wNx nv np PA W = (0, na, nb)) (hb : ¬ (u * W.1 - W.2.1) * nb < na * W.1) (hp : wPass nv np PA W na nb = some W1) : wStep nv np PA u W = (1, wMom nv PA W1, W1.2.1, W1.1, wEv nv PA W1) := by
  unfold wStep
  rw [hN, if_neg (fun q => q.elim (fun z => z rfl) hb)]
  show wStepB nv PA W (wPass nv np PA W na nb) = _
  rw [hp]; rfl
end ZWS
theorem wStep_ok {nv np : Nat} {T T2 K : Int} {PA : Nat → Nat → Int32} {W : qW} {u : Int64} (h : MPa nv np PA) (hW : wOk nv T K PA W) (hB : wBo W) (hT : T ≤ 40000) (hT2 : T2 ≤ 40000) (hK0 : 0 ≤ K) (hK : K ≤ 200000000) (hu : wU T T2 u) : (wStep nv np PA u W = (0, W, 0, 0, []) ∨ wStep nv np PA u W = (-1, W, 0, 0, [])) ∨ ((wStep nv np PA u W).1 = 1 ∧ wOk nv T2 (K + 1600) PA (wStep nv np PA u W).2.1 ∧ wBo (wStep nv np PA u W).2.1 ∧ (wStep nv np PA u W).2.2.2.2.length ≤ 24) := by
  obtain ⟨o, -⟩ := wNx_ok h hW
  obtain ⟨rs, na, nb, hN⟩ : ∃ rs na nb, wNx nv np PA W = (rs, na, nb) := ⟨_, _, _, rfl⟩
  rcases o.1 with z | z
  rotate_left
  · exact Or.inl (Or.inl (wStep_r (by rw [z]; decide)))
  rw [hN] at z
  have z2 : rs = 0 := z
  subst z2
  by_cases hb : (u * W.1 - W.2.1) * nb < na * W.1
  · exact Or.inl (Or.inl (wStep_b hN hb))
  obtain ⟨-, -, -, p⟩ := wStep_pass (T := T) (T2 := T2) h hW hT hK0 hK hu hN hb
  cases hp : wPass nv np PA W na nb with
  | none => exact Or.inl (Or.inr (wStep_n hN hb hp))
  | some W1 =>
    obtain ⟨p1, p2⟩ := p W1 hp
    rw [wStep_y hN hb hp]
    have hB1 : wBo W1 := by
      unfold wBo at hB ⊢
      rw [p2]; exact hB
    have m := wMom_ok h p1 hB1 hT2 hK
    exact Or.inr ⟨rfl, m.1, m.2.1, m.2.2⟩
/-- no water beyond the rows -/
def wZ (W : qW) : Prop := (∀ j, 14 ≤ j → W.2.2.2.2.2.2.1 j = 0) ∧ (∀ j, 8 ≤ j → W.2.2.2.2.2.1 j = 0) ∧ ∀ j, 8 ≤ j → W.2.2.2.2.2.2.2 j = 0
def qZ (m : qM) : Prop := (∀ j, 14 ≤ j → m.2.2.2.1 j = 0) ∧ (∀ j, 8 ≤ j → m.2.2.1 j = 0) ∧ ∀ j, 8 ≤ j → m.2.2.2.2.1 j = 0
theorem upd_z {f : Nat → Int32} {k n : Nat} {x : Int32} (h : ∀ j, n ≤ j → f j = 0) (hk : k < n) : ∀ j, n ≤ j → upd f k x j = 0 := fun j hj => (upd_o (by omega)).trans (h j hj)
theorem qMom_z {nv np : Nat} {kind brim high low own tip over : Nat → Int32} {g : Int64} {m0 : qM} (hn : nv ≤ 8) (hnp : np ≤ 14) (ho : ∀ v, v < nv → mTo np 0 (own v)) (h : qZ m0) : qZ (qMom kind brim high low own tip over g nv m0) := by
  have t : ∀ k, k ≤ nv → qZ (qIt (qTip1 kind brim tip over g) m0 k) := by
    intro k
    induction k with
    | zero => exact fun _ => h
    | succ k ih =>
      intro hk
      have q := ih (by omega)
      rw [qIt_s]
      generalize qIt (qTip1 kind brim tip over g) m0 k = m at *
      unfold qTip1
      split
      · exact q
      · exact q
  have s : ∀ k, k ≤ nv → qZ (qIt (qSip1 kind high g) (qIt (qTip1 kind brim tip over g) m0 nv) k) := by
    intro k
    induction k with
    | zero => exact fun _ => t nv (Nat.le_refl _)
    | succ k ih =>
      intro hk
      have q := ih (by omega)
      rw [qIt_s]
      generalize qIt (qSip1 kind high g) (qIt (qTip1 kind brim tip over g) m0 nv) k = m at *
      unfold qSip1
      split
      · exact ⟨q.1, upd_z q.2.1 (by omega), q.2.2⟩
      · split
        · exact ⟨q.1, upd_z q.2.1 (by omega), q.2.2⟩
        · exact q
  have f : ∀ k, k ≤ nv → qZ (qIt (qFlo1 kind high low own g) (qIt (qSip1 kind high g) (qIt (qTip1 kind brim tip over g) m0 nv) nv) k) := by
    intro k
    induction k with
    | zero => exact fun _ => s nv (Nat.le_refl _)
    | succ k ih =>
      intro hk
      have q := ih (by omega)
      rw [qIt_s]
      generalize qIt (qFlo1 kind high low own g) (qIt (qSip1 kind high g) (qIt (qTip1 kind brim tip over g) m0 nv) nv) k = m at *
      by_cases c1 : kind k = 3 ∨ kind k = 4
      rotate_left
      · rw [qFlo1_a (fun q => c1 (Or.inl q)) (fun q => c1 (Or.inr q))]; exact q
      rcases ho k (by omega) with c2 | ⟨o, t1, t2, c2⟩
      · rw [qFlo1_b c2]; exact q
      rw [qFlo1_o c1 c2 (by omega)]
      unfold qFlo2
      split
      · exact ⟨upd_z q.1 (by omega), q.2.1, upd_z q.2.2 (by omega)⟩
      · split
        · exact ⟨upd_z q.1 (by omega), q.2.1, q.2.2⟩
        · exact q
  exact f nv (Nat.le_refl _)
theorem wMom_z {nv np : Nat} {PA : Nat → Nat → Int32} {W : qW} (h : MPa nv np PA) (hz : wZ W) : wZ (wMom nv PA W) := qMom_z (m0 := (W.2.2.2.2.1, W.2.2.2.1, W.2.2.2.2.2.1, W.2.2.2.2.2.2.1, W.2.2.2.2.2.2.2, [])) h.1 h.2.1 (fun v hv => (h.2.2.1 v hv).2.2.2.1) hz
def wInv (nv : Nat) (T K : Int) (PA : Nat → Nat → Int32) (W : qW) : Prop := wOk nv T K PA W ∧ wBo W ∧ wZ W
theorem wInv.mo {nv : Nat} {T K T2 K2 : Int} {PA : Nat → Nat → Int32} {W : qW} (h : wInv nv T K PA W) (hT : T ≤ T2) (hK : K ≤ K2) : wInv nv T2 K2 PA W := ⟨MW.mo h.1 hT hK, h.2⟩
theorem wStep_z {nv np : Nat} {PA : Nat → Nat → Int32} {W : qW} {u : Int64} (h : MPa nv np PA) (hz : wZ W) : wZ (wStep nv np PA u W).2.1 := by
  unfold wStep
  split
  · exact hz
  · cases hp : wPass nv np PA W (wNx nv np PA W).2.1 (wNx nv np PA W).2.2 with
    | none => exact hz
    | some W1 =>
      have e : W1.2.2.2.2.2 = W.2.2.2.2.2 := by
        unfold wPass wPas at hp
        split at hp
        · cases hp
        · have := Option.some.inj hp
          subst this
          rfl
      refine wMom_z h ?_
      unfold wZ at hz ⊢
      rw [e]; exact hz
theorem wStep_inv {nv np : Nat} {T T2 K : Int} {PA : Nat → Nat → Int32} {W : qW} {u : Int64} (h : MPa nv np PA) (hW : wInv nv T K PA W) (hT : T ≤ 40000) (hT2 : T2 ≤ 40000) (hK0 : 0 ≤ K) (hK : K ≤ 200000000) (hu : wU T T2 u) : (wStep nv np PA u W = (0, W, 0, 0, []) ∨ wStep nv np PA u W = (-1, W, 0, 0, [])) ∨ ((wStep nv np PA u W).1 = 1 ∧ wInv nv T2 (K + 1600) PA (wStep nv np PA u W).2.1 ∧ (wStep nv np PA u W).2.2.2.2.length ≤ 24) := by
  rcases wStep_ok h hW.1 hW.2.1 hT hT2 hK0 hK hu with q | ⟨q1, q2, q3, q4⟩
  · exact Or.inl q
  · exact Or.inr ⟨q1, ⟨q2, q3, wStep_z h hW.2.2⟩, q4⟩
/-! a go -/
def wGo (nv np : Nat) (PA : Nat → Nat → Int32) (rec so : Int32) (u : Int64) : Nat → qW → qLog → Int32 × qW × qLog
  | 0, W, L => (if (wStep nv np PA u W).1 = 0 then 0 else -1, W, L)
  | n + 1, W, L => if (wStep nv np PA u W).1 = 1 then wGo nv np PA rec so u n (wStep nv np PA u W).2.1 (qNotes rec (wStep nv np PA u W).2.2.1 (wStep nv np PA u W).2.2.2.1 so L (wStep nv np PA u W).2.2.2.2) else ((wStep nv np PA u W).1, W, L)
def wToB (W : qW) : Option qW → qW
  | none => W
  | some W1 => W1
def wTo (nv np : Nat) (PA : Nat → Nat → Int32) (u : Int64) (W : qW) : qW := if W.2.1 < u * W.1 then wToB W (wPass nv np PA W (u * W.1 - W.2.1) W.1) else W
theorem wTo_pass {nv np : Nat} {T K : Int} {PA : Nat → Nat → Int32} {W : qW} {u : Int64} (h : MPa nv np PA) (hW : wInv nv T K PA W) (hT : T ≤ 40000) (hK0 : 0 ≤ K) (hK : K ≤ 200000000) (u0 : 0 ≤ u.toInt) (u1 : u.toInt ≤ 10000) (hs : (wStep nv np PA u W).1 = 0) (hl : W.2.1 < u * W.1) : ¬ W.1 = 0 ∧ ¬ wBe (u * W.1 - W.2.1) W.1 = 0 ∧ ¬ wAl W.1 (u * W.1 - W.2.1) W.1 = 0 ∧ ∀ W1, wPass nv np PA W (u * W.1 - W.2.1) W.1 = some W1 → wInv nv u.toInt K PA W1 := by
  have hg : 1 ≤ W.1.toInt ∧ W.1.toInt ≤ 10000 := hW.1.1.1
  have ht : 0 ≤ W.2.1.toInt := hW.1.2.1.1
  have f := wFar (t := W.2.1) hg hW.1.2.1 hT u0 u1
  rw [i64_lt, f.1] at hl
  obtain ⟨o, m⟩ := wNx_ok h hW.1
  have ph : ∀ v, v < nv → 0 ≤ (W.2.2.2.2.1 v).toInt * W.1.toInt + (wCh nv np PA W v).toInt * (u * W.1 - W.2.1).toInt * W.1.toInt ∧ (W.2.2.2.2.1 v).toInt * W.1.toInt + (wCh nv np PA W v).toInt * (u * W.1 - W.2.1).toInt * W.1.toInt ≤ (PA 54 v).toInt * W.1.toInt * W.1.toInt := by
    intro v hv
    rw [f.2.1]
    have hlv : 0 ≤ (W.2.2.2.2.1 v).toInt ∧ (W.2.2.2.2.1 v).toInt ≤ (PA 54 v).toInt * W.1.toInt := hW.1.1.2.1 v hv
    have key : 0 ≤ (W.2.2.2.2.1 v).toInt + (wCh nv np PA W v).toInt * (u.toInt * W.1.toInt - W.2.1.toInt) ∧ (W.2.2.2.2.1 v).toInt + (wCh nv np PA W v).toInt * (u.toInt * W.1.toInt - W.2.1.toInt) ≤ (PA 54 v).toInt * W.1.toInt := by
      have mv := m v hv
      obtain ⟨rs, na, nb, hN⟩ : ∃ rs na nb, wNx nv np PA W = (rs, na, nb) := ⟨_, _, _, rfl⟩
      rw [hN] at mv o
      generalize hc : (wCh nv np PA W v).toInt = c at *
      generalize hd : u.toInt * W.1.toInt - W.2.1.toInt = d at *
      rcases Int.lt_trichotomy c 0 with z | z | z
      · obtain ⟨r0, le⟩ := mv.2 z
        have r0 : rs = 0 := r0
        have le : na.toInt * (W.1.toInt * -c) ≤ (W.2.2.2.2.1 v).toInt * nb.toInt := le
        subst r0
        have hb : (u * W.1 - W.2.1) * nb < na * W.1 := by
          rcases Classical.em ((u * W.1 - W.2.1) * nb < na * W.1) with y | y
          · exact y
          · exfalso
            cases hp : wPass nv np PA W na nb with
            | none => rw [wStep_n hN y hp] at hs; exact absurd (show (-1 : Int32) = 0 from hs) (by decide)
            | some W1 => rw [wStep_y hN y hp] at hs; exact absurd (show (1 : Int32) = 0 from hs) (by decide)
        rw [wBehind h hW.1 hT hN u0 u1, hd] at hb
        obtain ⟨-, ⟨q, q1, q2, e⟩, -⟩ := wNext_ph h hW.1 hN
        have nb0 : 0 < nb.toInt := by rw [e]; exact Int.mul_pos (by omega) (by omega)
        have x1 : -c * (d * nb.toInt) ≤ -c * (na.toInt * W.1.toInt) := Int.mul_le_mul_of_nonneg_left (by omega) (by omega)
        have x2 : -c * (na.toInt * W.1.toInt) = na.toInt * (W.1.toInt * -c) := by ac_rfl
        have x3 : -c * (d * nb.toInt) = nb.toInt * (-c * d) := by ac_rfl
        have x4 : nb.toInt * (-c * d) ≤ nb.toInt * (W.2.2.2.2.1 v).toInt := by rw [Int.mul_comm nb.toInt (W.2.2.2.2.1 v).toInt]; omega
        have x5 := Int.le_of_mul_le_mul_left x4 nb0
        rw [Int.neg_mul] at x5
        have x6 : c * d ≤ 0 := Int.mul_nonpos_of_nonpos_of_nonneg (by omega) (by omega)
        omega
      · rw [z, Int.zero_mul]; omega
      · obtain ⟨r0, le⟩ := mv.1 z
        have r0 : rs = 0 := r0
        have le : na.toInt * (W.1.toInt * c) ≤ ((PA 54 v).toInt * W.1.toInt - (W.2.2.2.2.1 v).toInt) * nb.toInt := le
        subst r0
        have hb : (u * W.1 - W.2.1) * nb < na * W.1 := by
          rcases Classical.em ((u * W.1 - W.2.1) * nb < na * W.1) with y | y
          · exact y
          · exfalso
            cases hp : wPass nv np PA W na nb with
            | none => rw [wStep_n hN y hp] at hs; exact absurd (show (-1 : Int32) = 0 from hs) (by decide)
            | some W1 => rw [wStep_y hN y hp] at hs; exact absurd (show (1 : Int32) = 0 from hs) (by decide)
        rw [wBehind h hW.1 hT hN u0 u1, hd] at hb
        obtain ⟨-, ⟨q, q1, q2, e⟩, -⟩ := wNext_ph h hW.1 hN
        have nb0 : 0 < nb.toInt := by rw [e]; exact Int.mul_pos (by omega) (by omega)
        have x1 : c * (d * nb.toInt) ≤ c * (na.toInt * W.1.toInt) := Int.mul_le_mul_of_nonneg_left (by omega) (by omega)
        have x2 : c * (na.toInt * W.1.toInt) = na.toInt * (W.1.toInt * c) := by ac_rfl
        have x3 : c * (d * nb.toInt) = nb.toInt * (c * d) := by ac_rfl
        have x4 : nb.toInt * (c * d) ≤ nb.toInt * ((PA 54 v).toInt * W.1.toInt - (W.2.2.2.2.1 v).toInt) := by rw [Int.mul_comm nb.toInt ((PA 54 v).toInt * W.1.toInt - _)]; omega
        have x5 := Int.le_of_mul_le_mul_left x4 nb0
        have x6 : 0 ≤ c * d := Int.mul_nonneg (by omega) (by omega)
        omega
    have k1 := Int.mul_nonneg key.1 (show 0 ≤ W.1.toInt by omega)
    have k2 := Int.mul_le_mul_of_nonneg_right key.2 (show 0 ≤ W.1.toInt by omega)
    rw [Int.add_mul] at k1 k2
    exact ⟨k1, k2⟩
  have p := wPass_ok (T := T) (T2 := u.toInt) (q := 1) h hW.1 hT hK0 hK (tA := u * W.1 - W.2.1) (tB := W.1) (by omega) (by omega) (by omega) (by omega) (by omega) ph (by
    unfold wTm
    rw [f.2.1, Int.sub_mul, Int.mul_assoc]; omega)
  refine ⟨fun z => ?_, p.1, p.2.1, fun W1 h1 => ?_⟩
  · rw [z, i64_0] at hg; omega
  · obtain ⟨a, b⟩ := p.2.2 W1 h1
    refine ⟨a, ?_, ?_⟩
    · unfold wBo
      rw [b]; exact hW.2.1
    · unfold wZ
      rw [b]; exact hW.2.2
theorem wTo_inv {nv np : Nat} {T K : Int} {PA : Nat → Nat → Int32} {W : qW} {u : Int64} (h : MPa nv np PA) (hW : wInv nv T K PA W) (hT : T ≤ 10000) (hK0 : 0 ≤ K) (hK : K ≤ 200000000) (u0 : 0 ≤ u.toInt) (u1 : u.toInt ≤ 10000) (hs : (wStep nv np PA u W).1 = 0) : wInv nv 10000 K PA (wTo nv np PA u W) := by
  unfold wTo
  split
  · rename_i hl
    have p := (wTo_pass h hW (by omega) hK0 hK u0 u1 hs hl).2.2.2
    cases hp : wPass nv np PA W (u * W.1 - W.2.1) W.1 with
    | none => exact hW.mo hT (Int.le_refl _)
    | some W1 => exact (p W1 hp).mo u1 (Int.le_refl _)
  · exact hW.mo hT (Int.le_refl _)
/-! a search for a float's shutting -/
def wSk (nv np : Nat) (PA : Nat → Nat → Int32) (so : Int32) (u : Int64) : Nat → qW → Bool × qW
  | 0, W => (false, W)
  | n + 1, W => if (wStep nv np PA u W).1 = 1 then (if (4, so) ∈ (wStep nv np PA u W).2.2.2.2 then (true, (wStep nv np PA u W).2.1) else wSk nv np PA so u n (wStep nv np PA u W).2.1) else (false, W)
theorem qNote_ss {rec : Int32} {t g : Int64} {so : Int32} {L : qLog} {a b : Int32} : (qNote rec t g so L a b).2.2.2.2.2 = qSs L.2.2.2.2.2 a b so := by
  unfold qNote
  split <;> rfl
theorem qNotes_ss {rec : Int32} {t g : Int64} {so : Int32} : ∀ {L : qLog} (e : List (Int32 × Int32)), ((qNotes rec t g so L e).2.2.2.2.2 = 0 ↔ (L.2.2.2.2.2 = 0 ∧ ¬ (4, so) ∈ e))
  | L, [] => by
    show L.2.2.2.2.2 = 0 ↔ _
    simp
  | L, (a, b) :: e => by
    show (qNotes rec t g so (qNote rec t g so L a b) e).2.2.2.2.2 = 0 ↔ _
    rw [qNotes_ss e, qNote_ss]
    unfold qSs
    rw [List.mem_cons, Prod.mk.injEq]
    constructor
    · rintro ⟨h1, h2⟩
      split at h1
      · cases h1
      · rename_i hn
        refine ⟨Decidable.of_not_not (fun z => hn (Or.inl z)), fun z => z.elim (fun y => hn (Or.inr ⟨y.1.symm, y.2.symm⟩)) h2⟩
    · rintro ⟨h1, h2⟩
      rw [if_neg (fun z => z.elim (fun y => y h1) (fun y => h2 (Or.inl ⟨y.1.symm, y.2.symm⟩)))]
      exact ⟨rfl, fun z => h2 (Or.inr z)⟩
