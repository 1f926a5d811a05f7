/-! ===== both sides, exact: what holds between two calls ===== -/
def zCx (k : Nat) (I : Nat → Nat → Int32) (G : Nat → Nat → Int64) (A : Nat → Nat → Int32) (B : Nat → Nat → Int64) : Prop := ∃ nv np W L, zRf nv np (242600 * k) (4000 * k) W L I G A B ∧ cRS 11 nv np A W I G A B ∧ qOw nv np A ∧ qKd nv A ∧ wLc W = 1 ∧ cLg L I A
def zCh (k : Nat) (h : List va_E) : Prop := ∃ I G A B, h = hS I G A B ∧ zCx k I G A B
def zL2 (k : Nat) (I : Nat → Nat → Int32) (G : Nat → Nat → Int64) (A : Nat → Nat → Int32) (B : Nat → Nat → Int64) : Prop := zLI k I G A B ∧ zCh k (hS I G A B)
theorem zr_le {ro : UInt32 → Nat × (Nat → Int32)} {n M pc : Nat} {ls : List (Nat × Value)} {st : List Value} {h : List va_E} {uc us : Nat} {q : Option Value × List va_E} (e : zr ro n M pc ls st h uc us = some q) : ∀ d, zr ro (n + d) M pc ls st h uc us = some q
  | 0 => e
  | d + 1 => zr_more ro (n + d) M pc ls st h uc us q (zr_le e d)
theorem zWp.and {ro : UInt32 → Nat × (Nat → Int32)} {M pc : Nat} {ls : List (Nat × Value)} {st : List Value} {h : List va_E} {uc us : Nat} {p1 p2 : Option Value → List va_E → Prop} (h1 : zWp ro M pc ls st h uc us p1) (h2 : zWp ro M pc ls st h uc us p2) : zWp ro M pc ls st h uc us (fun r x => p1 r x ∧ p2 r x) := by
  obtain ⟨n, r, x, e, q⟩ := h1
  obtain ⟨m, s, y, f, q2⟩ := h2
  have a := zr_le e m
  have b := zr_le f n
  rw [Nat.add_comm m n, a] at b
  have c := Option.some.inj b
  have c1 : r = s := congrArg Prod.fst c
  have c2 : x = y := congrArg Prod.snd c
  subst c1; subst c2
  exact ⟨n, r, x, e, q, q2⟩
def zPX (ro : UInt32 → Nat × (Nat → Int32)) (M : Nat) (la : List (Nat × Value)) (k : Nat) (rel : Int32 → Int32 → Prop) (r : Option Value) (h1 : List va_E) : Prop := ∃ v, r = some (.int v) ∧ zWp ro M 0 la [] h1 0 0 (fun r2 h2 => ∃ w, r2 = some (.int w) ∧ zCh (k + 1) h2 ∧ rel v w)
def zPY (ro : UInt32 → Nat × (Nat → Int32)) (M : Nat) (la : List (Nat × Value)) (k : Nat) (rel : Int64 → Int64 → Prop) (r : Option Value) (h1 : List va_E) : Prop := ∃ v, r = some (.long v) ∧ zWp ro M 0 la [] h1 0 0 (fun r2 h2 => ∃ w, r2 = some (.long w) ∧ zCh (k + 1) h2 ∧ rel v w)
def zP2 (ro : UInt32 → Nat × (Nat → Int32)) (M : Nat) (la : List (Nat × Value)) (k : Nat) (rel : Int32 → Int32 → Prop) (r : Option Value) (h1 : List va_E) : Prop := ∃ I1 G1 A1 B1 v, h1 = hS I1 G1 A1 B1 ∧ r = some (.int v) ∧ zWp ro M 0 la [] (hS I1 G1 A1 B1) 0 0 (fun r2 h2 => ∃ I2 G2 A2 B2 w, h2 = hS I2 G2 A2 B2 ∧ r2 = some (.int w) ∧ zL2 (k + 1) I2 G2 A2 B2 ∧ rel v w)
def zP3 (ro : UInt32 → Nat × (Nat → Int32)) (M : Nat) (la : List (Nat × Value)) (k : Nat) (rel : Int64 → Int64 → Prop) (r : Option Value) (h1 : List va_E) : Prop := ∃ I1 G1 A1 B1 v, h1 = hS I1 G1 A1 B1 ∧ r = some (.long v) ∧ zWp ro M 0 la [] (hS I1 G1 A1 B1) 0 0 (fun r2 h2 => ∃ I2 G2 A2 B2 w, h2 = hS I2 G2 A2 B2 ∧ r2 = some (.long w) ∧ zL2 (k + 1) I2 G2 A2 B2 ∧ rel v w)
theorem zP_and {ro : UInt32 → Nat × (Nat → Int32)} {Mx M : Nat} {l la : List (Nat × Value)} {h : List va_E} {k : Nat} {rel1 rel2 : Int32 → Int32 → Prop} (h1 : zWp ro Mx 0 l [] h 0 0 (zPI ro M la k rel1)) (h2 : zWp ro Mx 0 l [] h 0 0 (zPX ro M la k rel2)) : zWp ro Mx 0 l [] h 0 0 (zP2 ro M la k rel2) := by
  refine zWp.mono (h1.and h2) ?_
  rintro r x ⟨⟨I1, G1, A1, B1, v, rfl, rfl, a⟩, v2, e, b⟩
  have ev : v = v2 := by injection e with e; injection e
  subst ev
  refine ⟨I1, G1, A1, B1, v, rfl, rfl, zWp.mono (a.and b) ?_⟩
  rintro r2 h2 ⟨⟨I2, G2, A2, B2, w, rfl, rfl, z, -⟩, w2, e2, z2, q⟩
  have ew : w = w2 := by injection e2 with e2; injection e2
  subst ew
  exact ⟨I2, G2, A2, B2, w, rfl, rfl, ⟨z, z2⟩, q⟩
theorem zL_and {ro : UInt32 → Nat × (Nat → Int32)} {Mx M : Nat} {l la : List (Nat × Value)} {h : List va_E} {k : Nat} {rel1 rel2 : Int64 → Int64 → Prop} (h1 : zWp ro Mx 0 l [] h 0 0 (zPL ro M la k rel1)) (h2 : zWp ro Mx 0 l [] h 0 0 (zPY ro M la k rel2)) : zWp ro Mx 0 l [] h 0 0 (zP3 ro M la k rel2) := by
  refine zWp.mono (h1.and h2) ?_
  rintro r x ⟨⟨I1, G1, A1, B1, v, rfl, rfl, a⟩, v2, e, b⟩
  have ev : v = v2 := by injection e with e; injection e
  subst ev
  refine ⟨I1, G1, A1, B1, v, rfl, rfl, zWp.mono (a.and b) ?_⟩
  rintro r2 h2 ⟨⟨I2, G2, A2, B2, w, rfl, rfl, z, -⟩, w2, e2, z2, q⟩
  have ew : w = w2 := by injection e2 with e2; injection e2
  subst ew
  exact ⟨I2, G2, A2, B2, w, rfl, rfl, ⟨z, z2⟩, q⟩
section ZX
variable {nv np : Nat} {K : Int} {n k : Nat} {W : qW} {L L2 : qLog} {I I1 I2 : Nat → Nat → Int32} {G G1 G2 : Nat → Nat → Int64} {A A1 A2 P Q : Nat → Nat → Int32} {B B1 B2 : Nat → Nat → Int64} {pf : Nat → Nat → Bool} {pa p : Nat → Bool}
theorem KQ.kp (h : KQ pf pa I G A B I1 G1 A1 B1) (hf : ∀ k j, p k = false → pf k j = false) (hp : ∀ k, p k = false → pa k = false) : KP p I G A B I1 G1 A1 B1 := ⟨fun k j q => h.1 k j (hf k j q), fun k j q => h.2.1 k j (hf k j q), fun k q => h.2.2.1 k (hp k q), fun k q => h.2.2.2 k (hp k q)⟩
theorem KP.kq (h : KP p I G A B I1 G1 A1 B1) : KQ (fun k _ => p k) p I G A B I1 G1 A1 B1 := ⟨h.1, h.2.1, h.2.2.1, h.2.2.2⟩
theorem cRS.pe {b : Nat} (h : cRS b nv np P W I G A B) (e : PE P Q) : cRS b nv np Q W I G A B := by
  obtain ⟨a, c, d1, d2, d3, d4, d5⟩ := h
  refine ⟨a, c.tr e, d1, d2, d3, d4, fun v hv => d5 v (fun q => ?_)⟩
  rw [e 53 (by omega) (by omega)]; exact hv q
theorem qOw.pe (h : qOw nv np P) (e : PE Q P) : qOw nv np Q := by
  unfold qOw
  rw [e 53 (by omega) (by omega), e 57 (by omega) (by omega), e 60 (by omega) (by omega)]
  exact h
theorem qOw.e (h : qOw nv np P) (e3 : Q 53 = P 53) (e7 : Q 57 = P 57) (e0 : Q 60 = P 60) : qOw nv np Q := by
  unfold qOw
  rw [e3, e7, e0]; exact h
theorem qOw.vs {a : Int32} (h : qOw nv np P) (e3 : Q 53 = upd (P 53) nv a) (e7 : Q 57 = upd (P 57) nv (-1)) (e0 : Q 60 = P 60) : qOw (nv + 1) np Q := by
  unfold qOw
  rw [e3, e7, e0]
  intro v hv q
  by_cases e : v = nv
  · rw [e, upd_s]; exact Or.inl rfl
  · rw [upd_o e] at q ⊢; exact h v (by omega) q
theorem qOw.ow {a b : Int32} (h : qOw nv np P) (h14 : np ≤ 14) (ok : ok_own nv np P a b) (e3 : Q 53 = P 53) (e7 : Q 57 = upd (P 57) a.toNatClampNeg b) (e0 : Q 60 = P 60) : qOw nv np Q := by
  unfold qOw
  rw [e3, e7, e0]
  intro v hv q
  by_cases e : v = a.toNatClampNeg
  · rw [e, upd_s]
    right
    have f := ok.2.2.2.2.resolve_left (fun z => z (e ▸ q))
    exact ⟨b.toNatClampNeg, ok.2.1.1, ok.2.1.2, f.trans ok.1.2⟩
  · rw [upd_o e]; exact h v hv q
theorem qOw.pi {a : Int32} (h : qOw nv np P) (e3 : Q 53 = P 53) (e7 : Q 57 = P 57) (e0 : Q 60 = upd (P 60) np a) : qOw nv (np + 1) Q := by
  unfold qOw
  rw [e3, e7, e0]
  intro v hv q
  rcases h v hv q with z | ⟨t, t1, t2, t3⟩
  · exact Or.inl z
  · exact Or.inr ⟨t, by omega, t2, by rw [upd_o (by omega)]; exact t3⟩
theorem wMom_pe (e : PE P Q) : wMom nv P W = wMom nv Q W := by
  unfold wMom
  rw [wMm_pe e]
theorem wEv_pe (e : PE P Q) : wEv nv P W = wEv nv Q W := by
  unfold wEv
  rw [wMm_pe e]
theorem cLg.ar (h : cLg L I A) (ha : qArr L L2) (hn : L2.1 = L.1) : cLg L2 I A := by
  obtain ⟨h0, h1⟩ := h
  refine ⟨by rw [hn]; exact h0, ?_⟩
  unfold cLr
  rw [hn, ha.1, ha.2.1, ha.2.2.1, ha.2.2.2]
  exact h1
theorem zCx.mk (F : zRf nv np K n W L I2 G2 A2 B2) (hK : K ≤ 242600 * (k + 1 : Nat)) (hn : n ≤ 4000 * (k + 1)) (R : cRS 11 nv np P W I1 G1 A1 B1) (e : PE P A2) (K2 : KQ pf pa I1 G1 A1 B1 I2 G2 A2 B2) (hf : ∀ k j, k < 52 → pf k j = false) (hpa : ∀ k, k < 52 → pa k = false) (ow : qOw nv np P) (kd : qKd nv P) (lw : wLc W = 1) (lg : cLg L I1 A1) : zCh (k + 1) (hS I2 G2 A2 B2) := by
  refine ⟨I2, G2, A2, B2, rfl, nv, np, W, L, ⟨F.1, F.2.1, F.2.2.1.mo (by omega) hK, F.2.2.2.1, F.2.2.2.2.1, by have := F.2.2.2.2.2; omega⟩, ?_, ow.pe e.sy, kd.pe e.sy, lw, ?_⟩
  · exact (R.k K2 ⟨hf 1 0 (by omega), hf 1 1 (by omega)⟩ (fun j _ _ => hf 12 j (by omega)) (fun k h1 h2 => hpa k (by omega))).pe e
  · exact lg.k K2 (hf 33 0 (by omega)) (hpa 34 (by omega)) (hpa 35 (by omega)) (hpa 36 (by omega)) (hpa 37 (by omega))
theorem zRf.kq (K1 : KQ pf pa I G A B I1 G1 A1 B1) (hf : ∀ k j, 52 ≤ k → pf k j = false) (hp : ∀ k, 52 ≤ k → pa k = false) (h : zRf nv np K n W L I G A B) : zRf nv np K n W L I1 G1 A1 B1 := by
  have K2 : KP pX I G A B I1 G1 A1 B1 := K1.kp (fun k j q => hf k j (by simp only [pX, decide_eq_false_iff_not] at q; omega)) (fun k q => hp k (by simp only [pX, decide_eq_false_iff_not] at q; omega))
  exact h.kp K2 pX52
end ZX
theorem fHd_52 : ∀ k j, 52 ≤ k → fHd k j = false := by
  intro k j h
  simp only [fHd, decide_eq_false_iff_not]
  omega
theorem pHd_52 : ∀ k, 52 ≤ k → pHd k = false := by
  intro k h
  simp only [pHd, decide_eq_false_iff_not]
  omega
theorem fCg_52 : ∀ k j, 52 ≤ k → fCg k j = false := by
  intro k j h
  simp only [fCg, decide_eq_false_iff_not]
  omega
theorem pCg_52 : ∀ k, 52 ≤ k → pCg k = false := by
  intro k h
  simp only [pCg, decide_eq_false_iff_not]
  omega
theorem pLv_52 : ∀ k, 52 ≤ k → pLv k = false := by
  intro k h
  simp only [pLv, decide_eq_false_iff_not]
  omega
theorem pLvA_52 : ∀ k, 52 ≤ k → pLvA k = false := by
  intro k h
  simp only [pLvA, decide_eq_false_iff_not]
  omega
/-! a go keeps lowest terms -/
theorem wStep_lw {nv np : Nat} {K : Int} {P : Nat → Nat → Int32} {W : qW} {u : Int64} (hp : MPa nv np P) (hW : wInv nv 10000 K P W) (hK0 : 0 ≤ K) (hK : K ≤ 200000000) (u0 : 0 ≤ u.toInt) (u1 : u.toInt ≤ 10000) (hl : wLc W = 1) : wLc (wStep nv np P u W).2.1 = 1 := by
  obtain ⟨rs, na, nb, hN⟩ : ∃ rs na nb, wNx nv np P W = (rs, na, nb) := ⟨_, _, _, rfl⟩
  by_cases r0 : rs = 0
  · subst r0
    by_cases hb : (u * W.1 - W.2.1) * nb < na * W.1
    · rw [wStep_b hN hb]; exact hl
    · cases hps : wPass nv np P W na nb with
      | none => rw [wStep_n hN hb hps]; exact hl
      | some W1 =>
        rw [wStep_y hN hb hps]
        have q := (wStep_pass (T := 10000) (T2 := 10000) hp hW.1 (by omega) hK0 (by omega) (Or.inr ⟨u0, u1, u1⟩) hN hb).2.2.2 W1 hps
        have b1 : wBo W1 := by unfold wBo; rw [q.2]; exact hW.2.1
        exact wMom_low hp b1 q.1 (by omega) hK
  · rw [wStep_r (by rw [hN]; exact r0)]; exact hl
theorem wGo_lw {nv np : Nat} {P : Nat → Nat → Int32} {so : Int32} {u : Int64} (hp : MPa nv np P) (u0 : 0 ≤ u.toInt) (u1 : u.toInt ≤ 10000) : ∀ (m : Nat) (K : Int) (W : qW) (L : qLog), wInv nv 10000 K P W → 0 ≤ K → K + 1600 * m ≤ 200000000 → wLc W = 1 → wLc (wGo nv np P 1 so u m W L).2.1 = 1 := by
  intro m
  induction m with
  | zero =>
    intro K W L hW hK0 hK hl
    have e : (wGo nv np P 1 so u 0 W L).2.1 = W := rfl
    rw [e]; exact hl
  | succ m ih =>
    intro K W L hW hK0 hK hl
    rcases wStep_inv hp hW (by omega) (T2 := 10000) (by omega) hK0 (by omega) (Or.inr ⟨u0, u1, u1⟩) with q | ⟨e1, e2, e3⟩
    · have e : wGo nv np P 1 so u (m + 1) W L = ((wStep nv np P u W).1, W, L) := if_neg (by
        rcases q with q | q <;> rw [q]
        · show ¬ (0 : Int32) = 1; decide
        · show ¬ (-1 : Int32) = 1; decide)
      have e2 : (wGo nv np P 1 so u (m + 1) W L).2.1 = W := by rw [e]
      rw [e2]; exact hl
    · have e : wGo nv np P 1 so u (m + 1) W L = wGo nv np P 1 so u m (wStep nv np P u W).2.1 (qNotes 1 (wStep nv np P u W).2.2.1 (wStep nv np P u W).2.2.2.1 so L (wStep nv np P u W).2.2.2.2) := if_pos e1
      rw [e]
      exact ih (K + 1600) _ _ e2 (by omega) (by omega) (wStep_lw hp hW hK0 (by omega) u0 u1 hl)
theorem wGoR_lw {nv np : Nat} {K : Int} {P : Nat → Nat → Int32} {W : qW} {L : qLog} {so u : Int32} (hp : MPa nv np P) (hW : wInv nv 10000 K P W) (hK0 : 0 ≤ K) (hK : K ≤ 199000000) (hg : qLG L) (hl : wLc W = 1) : wLc (wGoR nv np P 1 so u W L).2.2.1 = 1 := by
  unfold wGoR
  by_cases c : 10000 < u ∨ Int32.toInt64 u * W.1 < W.2.1
  · rw [if_pos c]; exact hl
  · rw [if_neg c]
    have cu := wGo_u hW.1 (fun z => c (Or.inl z)) (fun z => c (Or.inr z))
    have q := wGo_ok (so := so) hp cu.1 cu.2 150 K W L hW hK0 (by omega) hg
    have l := wGo_lw (so := so) hp cu.1 cu.2 150 K W L hW hK0 (by omega) hl
    unfold wGoX
    by_cases z : (wGo nv np P 1 so (Int32.toInt64 u) 150 W L).1 = -1
    · rw [if_pos z]; exact l
    · rw [if_neg z]
      exact wTo_low hp q.1 (by omega) (by omega) (by omega) cu.1 cu.2 (q.2.2.2 z) l
/-- counts of the class, at another writing of the same heap -/
theorem CV_h {nv np nv1 np1 cm : Nat} {W : qW} {I I1 : Nat → Nat → Int32} {G G1 : Nat → Nat → Int64} {A A1 : Nat → Nat → Int32} {B B1 : Nat → Nat → Int64} (e : hS I1 G1 A1 B1 = hS I G A B) (C : CV nv1 np1 cm I1) (R : cRS 11 nv np A W I G A B) (hp : MPa nv np A) : CV nv np cm I := by
  obtain ⟨⟨-, -, ⟨a, a1, a2⟩, ⟨b, b1, b2⟩⟩, ⟨c, c1, c2⟩, ⟨t, t1, t2⟩⟩ := C
  have e11 := (hb_11 I1 G1 A1 B1).symm.trans ((congrArg (fun l => l[11]?) e).trans (hb_11 I G A B))
  have e22 := (hb_22 I1 G1 A1 B1).symm.trans ((congrArg (fun l => l[22]?) e).trans (hb_22 I G A B))
  have e33 := (hb_33 I1 G1 A1 B1).symm.trans ((congrArg (fun l => l[33]?) e).trans (hb_33 I G A B))
  have e44 := (hb_44 I1 G1 A1 B1).symm.trans ((congrArg (fun l => l[44]?) e).trans (hb_44 I G A B))
  simp only [Option.some.injEq, Sum.inr.injEq, Prod.mk.injEq, List.cons.injEq, Value.int.injEq, Value.long.injEq, true_and, and_true] at e11 e22 e33 e44
  refine ⟨⟨⟨R.1.1, hp.1⟩, ⟨R.1.2, hp.2.1⟩, ⟨a, a1, ?_⟩, ⟨b, b1, ?_⟩⟩, ⟨c, c1, ?_⟩, ⟨t, t1, ?_⟩⟩
  · rw [← a2]; simp only [e11]
  · rw [← b2]; simp only [e22]
  · rw [← c2]; simp only [e33]
  · rw [← t2]; simp only [e44]
set_option maxHeartbeats 0 in
theorem pairX_vessel (ro : UInt32 → Nat × (Nat → Int32)) (k : Nat) (I : Nat → Nat → Int32) (G : Nat → Nat → Int64) (A : Nat → Nat → Int32) (B : Nat → Nat → Int64) (h : zCx k I G A B) (hk : k < 512) (a : Int32) (b : Int32) : zWp ro 78 0 [(0, .ref 0), (1, .int a), (2, .int b)] [] (hS I G A B) 0 0 (zPX ro 141 [(0, .ref 52), (1, .int a), (2, .int b)] k (fun v w => v = w)) := by
  obtain ⟨nv, np, W, L, F, R, ow, kd, lw, lg⟩ := h
  have fn := F.2.2.2.2.2
  have mm0 := mm_vessel ro nv np W L I G A B (242600 * k) F.1 F.2.1 F.2.2.1 (by omega) (by omega) (by omega) a b
  have hok : ok_vessel nv np A a b → MPa (nv + 1) np (updA (updA (updA (updA (updA (updA (updA A 53 (upd (A 53) nv a)) 54 (upd ((updA A 53 (upd (A 53) nv a)) 54) nv b)) 55 (upd ((updA (updA A 53 (upd (A 53) nv a)) 54 (upd ((updA A 53 (upd (A 53) nv a)) 54) nv b)) 55) nv (if a = 0 ∨ a = 2 then 0 else b))) 56 (upd ((updA (updA (updA A 53 (upd (A 53) nv a)) 54 (upd ((updA A 53 (upd (A 53) nv a)) 54) nv b)) 55 (upd ((updA (updA A 53 (upd (A 53) nv a)) 54 (upd ((updA A 53 (upd (A 53) nv a)) 54) nv b)) 55) nv (if a = 0 ∨ a = 2 then 0 else b))) 56) nv 0)) 57 (upd ((updA (updA (updA (updA A 53 (upd (A 53) nv a)) 54 (upd ((updA A 53 (upd (A 53) nv a)) 54) nv b)) 55 (upd ((updA (updA A 53 (upd (A 53) nv a)) 54 (upd ((updA A 53 (upd (A 53) nv a)) 54) nv b)) 55) nv (if a = 0 ∨ a = 2 then 0 else b))) 56 (upd ((updA (updA (updA A 53 (upd (A 53) nv a)) 54 (upd ((updA A 53 (upd (A 53) nv a)) 54) nv b)) 55 (upd ((updA (updA A 53 (upd (A 53) nv a)) 54 (upd ((updA A 53 (upd (A 53) nv a)) 54) nv b)) 55) nv (if a = 0 ∨ a = 2 then 0 else b))) 56) nv 0)) 57) nv (-1))) 58 (upd ((updA (updA (updA (updA (updA A 53 (upd (A 53) nv a)) 54 (upd ((updA A 53 (upd (A 53) nv a)) 54) nv b)) 55 (upd ((updA (updA A 53 (upd (A 53) nv a)) 54 (upd ((updA A 53 (upd (A 53) nv a)) 54) nv b)) 55) nv (if a = 0 ∨ a = 2 then 0 else b))) 56 (upd ((updA (updA (updA A 53 (upd (A 53) nv a)) 54 (upd ((updA A 53 (upd (A 53) nv a)) 54) nv b)) 55 (upd ((updA (updA A 53 (upd (A 53) nv a)) 54 (upd ((updA A 53 (upd (A 53) nv a)) 54) nv b)) 55) nv (if a = 0 ∨ a = 2 then 0 else b))) 56) nv 0)) 57 (upd ((updA (updA (updA (updA A 53 (upd (A 53) nv a)) 54 (upd ((updA A 53 (upd (A 53) nv a)) 54) nv b)) 55 (upd ((updA (updA A 53 (upd (A 53) nv a)) 54 (upd ((updA A 53 (upd (A 53) nv a)) 54) nv b)) 55) nv (if a = 0 ∨ a = 2 then 0 else b))) 56 (upd ((updA (updA (updA A 53 (upd (A 53) nv a)) 54 (upd ((updA A 53 (upd (A 53) nv a)) 54) nv b)) 55 (upd ((updA (updA A 53 (upd (A 53) nv a)) 54 (upd ((updA A 53 (upd (A 53) nv a)) 54) nv b)) 55) nv (if a = 0 ∨ a = 2 then 0 else b))) 56) nv 0)) 57) nv (-1))) 58) nv (-1))) 59 (upd ((updA (updA (updA (updA (updA (updA A 53 (upd (A 53) nv a)) 54 (upd ((updA A 53 (upd (A 53) nv a)) 54) nv b)) 55 (upd ((updA (updA A 53 (upd (A 53) nv a)) 54 (upd ((updA A 53 (upd (A 53) nv a)) 54) nv b)) 55) nv (if a = 0 ∨ a = 2 then 0 else b))) 56 (upd ((updA (updA (updA A 53 (upd (A 53) nv a)) 54 (upd ((updA A 53 (upd (A 53) nv a)) 54) nv b)) 55 (upd ((updA (updA A 53 (upd (A 53) nv a)) 54 (upd ((updA A 53 (upd (A 53) nv a)) 54) nv b)) 55) nv (if a = 0 ∨ a = 2 then 0 else b))) 56) nv 0)) 57 (upd ((updA (updA (updA (updA A 53 (upd (A 53) nv a)) 54 (upd ((updA A 53 (upd (A 53) nv a)) 54) nv b)) 55 (upd ((updA (updA A 53 (upd (A 53) nv a)) 54 (upd ((updA A 53 (upd (A 53) nv a)) 54) nv b)) 55) nv (if a = 0 ∨ a = 2 then 0 else b))) 56 (upd ((updA (updA (updA A 53 (upd (A 53) nv a)) 54 (upd ((updA A 53 (upd (A 53) nv a)) 54) nv b)) 55 (upd ((updA (updA A 53 (upd (A 53) nv a)) 54 (upd ((updA A 53 (upd (A 53) nv a)) 54) nv b)) 55) nv (if a = 0 ∨ a = 2 then 0 else b))) 56) nv 0)) 57) nv (-1))) 58 (upd ((updA (updA (updA (updA (updA A 53 (upd (A 53) nv a)) 54 (upd ((updA A 53 (upd (A 53) nv a)) 54) nv b)) 55 (upd ((updA (updA A 53 (upd (A 53) nv a)) 54 (upd ((updA A 53 (upd (A 53) nv a)) 54) nv b)) 55) nv (if a = 0 ∨ a = 2 then 0 else b))) 56 (upd ((updA (updA (updA A 53 (upd (A 53) nv a)) 54 (upd ((updA A 53 (upd (A 53) nv a)) 54) nv b)) 55 (upd ((updA (updA A 53 (upd (A 53) nv a)) 54 (upd ((updA A 53 (upd (A 53) nv a)) 54) nv b)) 55) nv (if a = 0 ∨ a = 2 then 0 else b))) 56) nv 0)) 57 (upd ((updA (updA (updA (updA A 53 (upd (A 53) nv a)) 54 (upd ((updA A 53 (upd (A 53) nv a)) 54) nv b)) 55 (upd ((updA (updA A 53 (upd (A 53) nv a)) 54 (upd ((updA A 53 (upd (A 53) nv a)) 54) nv b)) 55) nv (if a = 0 ∨ a = 2 then 0 else b))) 56 (upd ((updA (updA (updA A 53 (upd (A 53) nv a)) 54 (upd ((updA A 53 (upd (A 53) nv a)) 54) nv b)) 55 (upd ((updA (updA A 53 (upd (A 53) nv a)) 54 (upd ((updA A 53 (upd (A 53) nv a)) 54) nv b)) 55) nv (if a = 0 ∨ a = 2 then 0 else b))) 56) nv 0)) 57) nv (-1))) 58) nv (-1))) 59) nv (-1))) ∧ wInv (nv + 1) 10000 (242600 * k + 1000) (updA (updA (updA (updA (updA (updA (updA A 53 (upd (A 53) nv a)) 54 (upd ((updA A 53 (upd (A 53) nv a)) 54) nv b)) 55 (upd ((updA (updA A 53 (upd (A 53) nv a)) 54 (upd ((updA A 53 (upd (A 53) nv a)) 54) nv b)) 55) nv (if a = 0 ∨ a = 2 then 0 else b))) 56 (upd ((updA (updA (updA A 53 (upd (A 53) nv a)) 54 (upd ((updA A 53 (upd (A 53) nv a)) 54) nv b)) 55 (upd ((updA (updA A 53 (upd (A 53) nv a)) 54 (upd ((updA A 53 (upd (A 53) nv a)) 54) nv b)) 55) nv (if a = 0 ∨ a = 2 then 0 else b))) 56) nv 0)) 57 (upd ((updA (updA (updA (updA A 53 (upd (A 53) nv a)) 54 (upd ((updA A 53 (upd (A 53) nv a)) 54) nv b)) 55 (upd ((updA (updA A 53 (upd (A 53) nv a)) 54 (upd ((updA A 53 (upd (A 53) nv a)) 54) nv b)) 55) nv (if a = 0 ∨ a = 2 then 0 else b))) 56 (upd ((updA (updA (updA A 53 (upd (A 53) nv a)) 54 (upd ((updA A 53 (upd (A 53) nv a)) 54) nv b)) 55 (upd ((updA (updA A 53 (upd (A 53) nv a)) 54 (upd ((updA A 53 (upd (A 53) nv a)) 54) nv b)) 55) nv (if a = 0 ∨ a = 2 then 0 else b))) 56) nv 0)) 57) nv (-1))) 58 (upd ((updA (updA (updA (updA (updA A 53 (upd (A 53) nv a)) 54 (upd ((updA A 53 (upd (A 53) nv a)) 54) nv b)) 55 (upd ((updA (updA A 53 (upd (A 53) nv a)) 54 (upd ((updA A 53 (upd (A 53) nv a)) 54) nv b)) 55) nv (if a = 0 ∨ a = 2 then 0 else b))) 56 (upd ((updA (updA (updA A 53 (upd (A 53) nv a)) 54 (upd ((updA A 53 (upd (A 53) nv a)) 54) nv b)) 55 (upd ((updA (updA A 53 (upd (A 53) nv a)) 54 (upd ((updA A 53 (upd (A 53) nv a)) 54) nv b)) 55) nv (if a = 0 ∨ a = 2 then 0 else b))) 56) nv 0)) 57 (upd ((updA (updA (updA (updA A 53 (upd (A 53) nv a)) 54 (upd ((updA A 53 (upd (A 53) nv a)) 54) nv b)) 55 (upd ((updA (updA A 53 (upd (A 53) nv a)) 54 (upd ((updA A 53 (upd (A 53) nv a)) 54) nv b)) 55) nv (if a = 0 ∨ a = 2 then 0 else b))) 56 (upd ((updA (updA (updA A 53 (upd (A 53) nv a)) 54 (upd ((updA A 53 (upd (A 53) nv a)) 54) nv b)) 55 (upd ((updA (updA A 53 (upd (A 53) nv a)) 54 (upd ((updA A 53 (upd (A 53) nv a)) 54) nv b)) 55) nv (if a = 0 ∨ a = 2 then 0 else b))) 56) nv 0)) 57) nv (-1))) 58) nv (-1))) 59 (upd ((updA (updA (updA (updA (updA (updA A 53 (upd (A 53) nv a)) 54 (upd ((updA A 53 (upd (A 53) nv a)) 54) nv b)) 55 (upd ((updA (updA A 53 (upd (A 53) nv a)) 54 (upd ((updA A 53 (upd (A 53) nv a)) 54) nv b)) 55) nv (if a = 0 ∨ a = 2 then 0 else b))) 56 (upd ((updA (updA (updA A 53 (upd (A 53) nv a)) 54 (upd ((updA A 53 (upd (A 53) nv a)) 54) nv b)) 55 (upd ((updA (updA A 53 (upd (A 53) nv a)) 54 (upd ((updA A 53 (upd (A 53) nv a)) 54) nv b)) 55) nv (if a = 0 ∨ a = 2 then 0 else b))) 56) nv 0)) 57 (upd ((updA (updA (updA (updA A 53 (upd (A 53) nv a)) 54 (upd ((updA A 53 (upd (A 53) nv a)) 54) nv b)) 55 (upd ((updA (updA A 53 (upd (A 53) nv a)) 54 (upd ((updA A 53 (upd (A 53) nv a)) 54) nv b)) 55) nv (if a = 0 ∨ a = 2 then 0 else b))) 56 (upd ((updA (updA (updA A 53 (upd (A 53) nv a)) 54 (upd ((updA A 53 (upd (A 53) nv a)) 54) nv b)) 55 (upd ((updA (updA A 53 (upd (A 53) nv a)) 54 (upd ((updA A 53 (upd (A 53) nv a)) 54) nv b)) 55) nv (if a = 0 ∨ a = 2 then 0 else b))) 56) nv 0)) 57) nv (-1))) 58 (upd ((updA (updA (updA (updA (updA A 53 (upd (A 53) nv a)) 54 (upd ((updA A 53 (upd (A 53) nv a)) 54) nv b)) 55 (upd ((updA (updA A 53 (upd (A 53) nv a)) 54 (upd ((updA A 53 (upd (A 53) nv a)) 54) nv b)) 55) nv (if a = 0 ∨ a = 2 then 0 else b))) 56 (upd ((updA (updA (updA A 53 (upd (A 53) nv a)) 54 (upd ((updA A 53 (upd (A 53) nv a)) 54) nv b)) 55 (upd ((updA (updA A 53 (upd (A 53) nv a)) 54 (upd ((updA A 53 (upd (A 53) nv a)) 54) nv b)) 55) nv (if a = 0 ∨ a = 2 then 0 else b))) 56) nv 0)) 57 (upd ((updA (updA (updA (updA A 53 (upd (A 53) nv a)) 54 (upd ((updA A 53 (upd (A 53) nv a)) 54) nv b)) 55 (upd ((updA (updA A 53 (upd (A 53) nv a)) 54 (upd ((updA A 53 (upd (A 53) nv a)) 54) nv b)) 55) nv (if a = 0 ∨ a = 2 then 0 else b))) 56 (upd ((updA (updA (updA A 53 (upd (A 53) nv a)) 54 (upd ((updA A 53 (upd (A 53) nv a)) 54) nv b)) 55 (upd ((updA (updA A 53 (upd (A 53) nv a)) 54 (upd ((updA A 53 (upd (A 53) nv a)) 54) nv b)) 55) nv (if a = 0 ∨ a = 2 then 0 else b))) 56) nv 0)) 57) nv (-1))) 58) nv (-1))) 59) nv (-1))) W := by
    intro hk0
    obtain ⟨_, r, h1, _, I2, G2, A2, B2, _, _, hc⟩ := mm0
    rcases hc with ⟨n, -⟩ | ⟨-, p, w, -⟩
    · exact absurd hk0 n
    · exact ⟨p, w⟩
  refine zWp.mono (cx_vessel ro nv np A W L (242600 * k) (-1) I G A B R F.2.1 F.2.2.1 kd lg (by omega) (by omega) a b hok) ?_
  rintro r h1 ⟨I1, G1, A1, B1, rfl, K1, hc⟩
  have F1 := F.kq K1 fHd_52 pHd_52
  have e1 : PE A A1 := fun k _ _ => (K1.2.2.1 k (pHd_52 k (by omega))).symm
  have er := F1.2.2.2.2.1.1
  have es := F1.2.2.2.2.1.2.1
  have mm := mm_vessel ro nv np W L I1 G1 A1 B1 (242600 * k) F1.1 F1.2.1 F1.2.2.1 (by omega) (by omega) (by omega) a b
  have key := ok_vessel_pe (nv := nv) (np := np) (a := a) (b := b) e1
  rcases hc with ⟨n1, R1, g1, rfl⟩ | ⟨y1, R1, g1, rfl⟩
  · refine ⟨_, rfl, zWp.mono mm ?_⟩
    rintro r2 h2 ⟨I2, G2, A2, B2, rfl, K2, (⟨n2, R2, rfl⟩ | ⟨y2, -⟩)⟩
    · refine ⟨_, rfl, ?_, rfl⟩
      exact zCx.mk (zRf.of R2 F1.2.1 F1.2.2.1 F1.2.2.2.1 (mId.k K2 rfl rfl rfl F1.2.2.2.2.1) fn) (by omega) (by omega) R1 (e1.tr R2.2.1.sy) K2 fHn_c pHn_c ow kd lw g1
    · exact absurd (key.mpr y2) n1
  · refine ⟨_, rfl, zWp.mono mm ?_⟩
    rintro r2 h2 ⟨I2, G2, A2, B2, rfl, K2, (⟨n2, -⟩ | ⟨y2, p2, w2, R2, rfl⟩)⟩
    · exact absurd (key.mp y1) n2
    · refine ⟨_, rfl, ?_, rfl⟩
      have pe : PE (updA (updA (updA (updA (updA (updA (updA A 53 (upd (A 53) nv a)) 54 (upd ((updA A 53 (upd (A 53) nv a)) 54) nv b)) 55 (upd ((updA (updA A 53 (upd (A 53) nv a)) 54 (upd ((updA A 53 (upd (A 53) nv a)) 54) nv b)) 55) nv (if a = 0 ∨ a = 2 then 0 else b))) 56 (upd ((updA (updA (updA A 53 (upd (A 53) nv a)) 54 (upd ((updA A 53 (upd (A 53) nv a)) 54) nv b)) 55 (upd ((updA (updA A 53 (upd (A 53) nv a)) 54 (upd ((updA A 53 (upd (A 53) nv a)) 54) nv b)) 55) nv (if a = 0 ∨ a = 2 then 0 else b))) 56) nv 0)) 57 (upd ((updA (updA (updA (updA A 53 (upd (A 53) nv a)) 54 (upd ((updA A 53 (upd (A 53) nv a)) 54) nv b)) 55 (upd ((updA (updA A 53 (upd (A 53) nv a)) 54 (upd ((updA A 53 (upd (A 53) nv a)) 54) nv b)) 55) nv (if a = 0 ∨ a = 2 then 0 else b))) 56 (upd ((updA (updA (updA A 53 (upd (A 53) nv a)) 54 (upd ((updA A 53 (upd (A 53) nv a)) 54) nv b)) 55 (upd ((updA (updA A 53 (upd (A 53) nv a)) 54 (upd ((updA A 53 (upd (A 53) nv a)) 54) nv b)) 55) nv (if a = 0 ∨ a = 2 then 0 else b))) 56) nv 0)) 57) nv (-1))) 58 (upd ((updA (updA (updA (updA (updA A 53 (upd (A 53) nv a)) 54 (upd ((updA A 53 (upd (A 53) nv a)) 54) nv b)) 55 (upd ((updA (updA A 53 (upd (A 53) nv a)) 54 (upd ((updA A 53 (upd (A 53) nv a)) 54) nv b)) 55) nv (if a = 0 ∨ a = 2 then 0 else b))) 56 (upd ((updA (updA (updA A 53 (upd (A 53) nv a)) 54 (upd ((updA A 53 (upd (A 53) nv a)) 54) nv b)) 55 (upd ((updA (updA A 53 (upd (A 53) nv a)) 54 (upd ((updA A 53 (upd (A 53) nv a)) 54) nv b)) 55) nv (if a = 0 ∨ a = 2 then 0 else b))) 56) nv 0)) 57 (upd ((updA (updA (updA (updA A 53 (upd (A 53) nv a)) 54 (upd ((updA A 53 (upd (A 53) nv a)) 54) nv b)) 55 (upd ((updA (updA A 53 (upd (A 53) nv a)) 54 (upd ((updA A 53 (upd (A 53) nv a)) 54) nv b)) 55) nv (if a = 0 ∨ a = 2 then 0 else b))) 56 (upd ((updA (updA (updA A 53 (upd (A 53) nv a)) 54 (upd ((updA A 53 (upd (A 53) nv a)) 54) nv b)) 55 (upd ((updA (updA A 53 (upd (A 53) nv a)) 54 (upd ((updA A 53 (upd (A 53) nv a)) 54) nv b)) 55) nv (if a = 0 ∨ a = 2 then 0 else b))) 56) nv 0)) 57) nv (-1))) 58) nv (-1))) 59 (upd ((updA (updA (updA (updA (updA (updA A 53 (upd (A 53) nv a)) 54 (upd ((updA A 53 (upd (A 53) nv a)) 54) nv b)) 55 (upd ((updA (updA A 53 (upd (A 53) nv a)) 54 (upd ((updA A 53 (upd (A 53) nv a)) 54) nv b)) 55) nv (if a = 0 ∨ a = 2 then 0 else b))) 56 (upd ((updA (updA (updA A 53 (upd (A 53) nv a)) 54 (upd ((updA A 53 (upd (A 53) nv a)) 54) nv b)) 55 (upd ((updA (updA A 53 (upd (A 53) nv a)) 54 (upd ((updA A 53 (upd (A 53) nv a)) 54) nv b)) 55) nv (if a = 0 ∨ a = 2 then 0 else b))) 56) nv 0)) 57 (upd ((updA (updA (updA (updA A 53 (upd (A 53) nv a)) 54 (upd ((updA A 53 (upd (A 53) nv a)) 54) nv b)) 55 (upd ((updA (updA A 53 (upd (A 53) nv a)) 54 (upd ((updA A 53 (upd (A 53) nv a)) 54) nv b)) 55) nv (if a = 0 ∨ a = 2 then 0 else b))) 56 (upd ((updA (updA (updA A 53 (upd (A 53) nv a)) 54 (upd ((updA A 53 (upd (A 53) nv a)) 54) nv b)) 55 (upd ((updA (updA A 53 (upd (A 53) nv a)) 54 (upd ((updA A 53 (upd (A 53) nv a)) 54) nv b)) 55) nv (if a = 0 ∨ a = 2 then 0 else b))) 56) nv 0)) 57) nv (-1))) 58 (upd ((updA (updA (updA (updA (updA A 53 (upd (A 53) nv a)) 54 (upd ((updA A 53 (upd (A 53) nv a)) 54) nv b)) 55 (upd ((updA (updA A 53 (upd (A 53) nv a)) 54 (upd ((updA A 53 (upd (A 53) nv a)) 54) nv b)) 55) nv (if a = 0 ∨ a = 2 then 0 else b))) 56 (upd ((updA (updA (updA A 53 (upd (A 53) nv a)) 54 (upd ((updA A 53 (upd (A 53) nv a)) 54) nv b)) 55 (upd ((updA (updA A 53 (upd (A 53) nv a)) 54 (upd ((updA A 53 (upd (A 53) nv a)) 54) nv b)) 55) nv (if a = 0 ∨ a = 2 then 0 else b))) 56) nv 0)) 57 (upd ((updA (updA (updA (updA A 53 (upd (A 53) nv a)) 54 (upd ((updA A 53 (upd (A 53) nv a)) 54) nv b)) 55 (upd ((updA (updA A 53 (upd (A 53) nv a)) 54 (upd ((updA A 53 (upd (A 53) nv a)) 54) nv b)) 55) nv (if a = 0 ∨ a = 2 then 0 else b))) 56 (upd ((updA (updA (updA A 53 (upd (A 53) nv a)) 54 (upd ((updA A 53 (upd (A 53) nv a)) 54) nv b)) 55 (upd ((updA (updA A 53 (upd (A 53) nv a)) 54 (upd ((updA A 53 (upd (A 53) nv a)) 54) nv b)) 55) nv (if a = 0 ∨ a = 2 then 0 else b))) 56) nv 0)) 57) nv (-1))) 58) nv (-1))) 59) nv (-1))) (updA (updA (updA (updA (updA (updA (updA A1 53 (upd (A1 53) nv a)) 54 (upd ((updA A1 53 (upd (A1 53) nv a)) 54) nv b)) 55 (upd ((updA (updA A1 53 (upd (A1 53) nv a)) 54 (upd ((updA A1 53 (upd (A1 53) nv a)) 54) nv b)) 55) nv (if a = 0 ∨ a = 2 then 0 else b))) 56 (upd ((updA (updA (updA A1 53 (upd (A1 53) nv a)) 54 (upd ((updA A1 53 (upd (A1 53) nv a)) 54) nv b)) 55 (upd ((updA (updA A1 53 (upd (A1 53) nv a)) 54 (upd ((updA A1 53 (upd (A1 53) nv a)) 54) nv b)) 55) nv (if a = 0 ∨ a = 2 then 0 else b))) 56) nv 0)) 57 (upd ((updA (updA (updA (updA A1 53 (upd (A1 53) nv a)) 54 (upd ((updA A1 53 (upd (A1 53) nv a)) 54) nv b)) 55 (upd ((updA (updA A1 53 (upd (A1 53) nv a)) 54 (upd ((updA A1 53 (upd (A1 53) nv a)) 54) nv b)) 55) nv (if a = 0 ∨ a = 2 then 0 else b))) 56 (upd ((updA (updA (updA A1 53 (upd (A1 53) nv a)) 54 (upd ((updA A1 53 (upd (A1 53) nv a)) 54) nv b)) 55 (upd ((updA (updA A1 53 (upd (A1 53) nv a)) 54 (upd ((updA A1 53 (upd (A1 53) nv a)) 54) nv b)) 55) nv (if a = 0 ∨ a = 2 then 0 else b))) 56) nv 0)) 57) nv (-1))) 58 (upd ((updA (updA (updA (updA (updA A1 53 (upd (A1 53) nv a)) 54 (upd ((updA A1 53 (upd (A1 53) nv a)) 54) nv b)) 55 (upd ((updA (updA A1 53 (upd (A1 53) nv a)) 54 (upd ((updA A1 53 (upd (A1 53) nv a)) 54) nv b)) 55) nv (if a = 0 ∨ a = 2 then 0 else b))) 56 (upd ((updA (updA (updA A1 53 (upd (A1 53) nv a)) 54 (upd ((updA A1 53 (upd (A1 53) nv a)) 54) nv b)) 55 (upd ((updA (updA A1 53 (upd (A1 53) nv a)) 54 (upd ((updA A1 53 (upd (A1 53) nv a)) 54) nv b)) 55) nv (if a = 0 ∨ a = 2 then 0 else b))) 56) nv 0)) 57 (upd ((updA (updA (updA (updA A1 53 (upd (A1 53) nv a)) 54 (upd ((updA A1 53 (upd (A1 53) nv a)) 54) nv b)) 55 (upd ((updA (updA A1 53 (upd (A1 53) nv a)) 54 (upd ((updA A1 53 (upd (A1 53) nv a)) 54) nv b)) 55) nv (if a = 0 ∨ a = 2 then 0 else b))) 56 (upd ((updA (updA (updA A1 53 (upd (A1 53) nv a)) 54 (upd ((updA A1 53 (upd (A1 53) nv a)) 54) nv b)) 55 (upd ((updA (updA A1 53 (upd (A1 53) nv a)) 54 (upd ((updA A1 53 (upd (A1 53) nv a)) 54) nv b)) 55) nv (if a = 0 ∨ a = 2 then 0 else b))) 56) nv 0)) 57) nv (-1))) 58) nv (-1))) 59 (upd ((updA (updA (updA (updA (updA (updA A1 53 (upd (A1 53) nv a)) 54 (upd ((updA A1 53 (upd (A1 53) nv a)) 54) nv b)) 55 (upd ((updA (updA A1 53 (upd (A1 53) nv a)) 54 (upd ((updA A1 53 (upd (A1 53) nv a)) 54) nv b)) 55) nv (if a = 0 ∨ a = 2 then 0 else b))) 56 (upd ((updA (updA (updA A1 53 (upd (A1 53) nv a)) 54 (upd ((updA A1 53 (upd (A1 53) nv a)) 54) nv b)) 55 (upd ((updA (updA A1 53 (upd (A1 53) nv a)) 54 (upd ((updA A1 53 (upd (A1 53) nv a)) 54) nv b)) 55) nv (if a = 0 ∨ a = 2 then 0 else b))) 56) nv 0)) 57 (upd ((updA (updA (updA (updA A1 53 (upd (A1 53) nv a)) 54 (upd ((updA A1 53 (upd (A1 53) nv a)) 54) nv b)) 55 (upd ((updA (updA A1 53 (upd (A1 53) nv a)) 54 (upd ((updA A1 53 (upd (A1 53) nv a)) 54) nv b)) 55) nv (if a = 0 ∨ a = 2 then 0 else b))) 56 (upd ((updA (updA (updA A1 53 (upd (A1 53) nv a)) 54 (upd ((updA A1 53 (upd (A1 53) nv a)) 54) nv b)) 55 (upd ((updA (updA A1 53 (upd (A1 53) nv a)) 54 (upd ((updA A1 53 (upd (A1 53) nv a)) 54) nv b)) 55) nv (if a = 0 ∨ a = 2 then 0 else b))) 56) nv 0)) 57) nv (-1))) 58 (upd ((updA (updA (updA (updA (updA A1 53 (upd (A1 53) nv a)) 54 (upd ((updA A1 53 (upd (A1 53) nv a)) 54) nv b)) 55 (upd ((updA (updA A1 53 (upd (A1 53) nv a)) 54 (upd ((updA A1 53 (upd (A1 53) nv a)) 54) nv b)) 55) nv (if a = 0 ∨ a = 2 then 0 else b))) 56 (upd ((updA (updA (updA A1 53 (upd (A1 53) nv a)) 54 (upd ((updA A1 53 (upd (A1 53) nv a)) 54) nv b)) 55 (upd ((updA (updA A1 53 (upd (A1 53) nv a)) 54 (upd ((updA A1 53 (upd (A1 53) nv a)) 54) nv b)) 55) nv (if a = 0 ∨ a = 2 then 0 else b))) 56) nv 0)) 57 (upd ((updA (updA (updA (updA A1 53 (upd (A1 53) nv a)) 54 (upd ((updA A1 53 (upd (A1 53) nv a)) 54) nv b)) 55 (upd ((updA (updA A1 53 (upd (A1 53) nv a)) 54 (upd ((updA A1 53 (upd (A1 53) nv a)) 54) nv b)) 55) nv (if a = 0 ∨ a = 2 then 0 else b))) 56 (upd ((updA (updA (updA A1 53 (upd (A1 53) nv a)) 54 (upd ((updA A1 53 (upd (A1 53) nv a)) 54) nv b)) 55 (upd ((updA (updA A1 53 (upd (A1 53) nv a)) 54 (upd ((updA A1 53 (upd (A1 53) nv a)) 54) nv b)) 55) nv (if a = 0 ∨ a = 2 then 0 else b))) 56) nv 0)) 57) nv (-1))) 58) nv (-1))) 59) nv (-1))) := (PE.up 59 nv (PE.up 58 nv (PE.up 57 nv (PE.up 56 nv (PE.up 55 nv (PE.up 54 nv (PE.up 53 nv e1 (by omega) (by omega) rfl) (by omega) (by omega) rfl) (by omega) (by omega) rfl) (by omega) (by omega) rfl) (by omega) (by omega) rfl) (by omega) (by omega) rfl) (by omega) (by omega) rfl)
      have F2 := zRf.hd p2 w2 (by omega) F1.2.2.2.1 er R2 (mId.k K2 rfl rfl rfl F1.2.2.2.2.1) fn
      rw [er, es] at F2
      rw [wMom_pe pe] at R1
      rw [wEv_pe pe] at g1
      exact zCx.mk F2 (by omega) (by omega) R1 (pe.tr R2.2.1.sy) K2 fHn_c pHn_c (ow.vs rfl rfl rfl) (kd.vs y1.1 rfl rfl) (wMom_low p2 w2.2.1 w2.1 (by omega) (by omega)) g1
theorem pair2_vessel (ro : UInt32 → Nat × (Nat → Int32)) (k : Nat) (I : Nat → Nat → Int32) (G : Nat → Nat → Int64) (A : Nat → Nat → Int32) (B : Nat → Nat → Int64) (h : zL2 k I G A B) (hk : k < 512) (a : Int32) (b : Int32) : zWp ro 78 0 [(0, .ref 0), (1, .int a), (2, .int b)] [] (hS I G A B) 0 0 (zP2 ro 141 [(0, .ref 52), (1, .int a), (2, .int b)] k (fun v w => v = w)) := by
  obtain ⟨h1, I3, G3, A3, B3, eh, hx⟩ := h
  have p1 := pair_vessel ro k I G A B h1 hk a b
  have p2 := pairX_vessel ro k I3 G3 A3 B3 hx hk a b
  rw [← eh] at p2
  exact zP_and p1 p2
set_option maxHeartbeats 0 in
theorem pairX_marks (ro : UInt32 → Nat × (Nat → Int32)) (k : Nat) (I : Nat → Nat → Int32) (G : Nat → Nat → Int64) (A : Nat → Nat → Int32) (B : Nat → Nat → Int64) (h : zCx k I G A B) (hk : k < 512) (a : Int32) (b : Int32) (c : Int32) : zWp ro 79 0 [(0, .ref 0), (1, .int a), (2, .int b), (3, .int c)] [] (hS I G A B) 0 0 (zPX ro 142 [(0, .ref 52), (1, .int a), (2, .int b), (3, .int c)] k (fun v w => v = w)) := by
  obtain ⟨nv, np, W, L, F, R, ow, kd, lw, lg⟩ := h
  have fn := F.2.2.2.2.2
  have mm0 := mm_marks ro nv np W L I G A B (242600 * k) F.1 F.2.1 F.2.2.1 (by omega) (by omega) (by omega) a b c
  have hok : ok_marks nv np A a b c → MPa nv np (updA (updA A 55 (upd (A 55) a.toNatClampNeg b)) 56 (upd ((updA A 55 (upd (A 55) a.toNatClampNeg b)) 56) a.toNatClampNeg (if A 53 a.toNatClampNeg = 1 then 0 else c))) ∧ wInv nv 10000 (242600 * k + 1000) (updA (updA A 55 (upd (A 55) a.toNatClampNeg b)) 56 (upd ((updA A 55 (upd (A 55) a.toNatClampNeg b)) 56) a.toNatClampNeg (if A 53 a.toNatClampNeg = 1 then 0 else c))) W := by
    intro hk0
    obtain ⟨_, r, h1, _, I2, G2, A2, B2, _, _, hc⟩ := mm0
    rcases hc with ⟨n, -⟩ | ⟨-, p, w, -⟩
    · exact absurd hk0 n
    · exact ⟨p, w⟩
  refine zWp.mono (cx_marks ro nv np A W L (242600 * k) (-1) I G A B R F.2.1 F.2.2.1 kd lg (by omega) (by omega) a b c hok) ?_
  rintro r h1 ⟨I1, G1, A1, B1, rfl, K1, hc⟩
  have F1 := F.kq K1 fHd_52 pHd_52
  have e1 : PE A A1 := fun k _ _ => (K1.2.2.1 k (pHd_52 k (by omega))).symm
  have er := F1.2.2.2.2.1.1
  have es := F1.2.2.2.2.1.2.1
  have mm := mm_marks ro nv np W L I1 G1 A1 B1 (242600 * k) F1.1 F1.2.1 F1.2.2.1 (by omega) (by omega) (by omega) a b c
  have key := ok_marks_pe (nv := nv) (np := np) (a := a) (b := b) (c := c) e1
  rcases hc with ⟨n1, R1, g1, rfl⟩ | ⟨y1, R1, g1, rfl⟩
  · refine ⟨_, rfl, zWp.mono mm ?_⟩
    rintro r2 h2 ⟨I2, G2, A2, B2, rfl, K2, (⟨n2, R2, rfl⟩ | ⟨y2, -⟩)⟩
    · refine ⟨_, rfl, ?_, rfl⟩
      exact zCx.mk (zRf.of R2 F1.2.1 F1.2.2.1 F1.2.2.2.1 (mId.k K2 rfl rfl rfl F1.2.2.2.2.1) fn) (by omega) (by omega) R1 (e1.tr R2.2.1.sy) K2 fHn_c pHn_c ow kd lw g1
    · exact absurd (key.mpr y2) n1
  · refine ⟨_, rfl, zWp.mono mm ?_⟩
    rintro r2 h2 ⟨I2, G2, A2, B2, rfl, K2, (⟨n2, -⟩ | ⟨y2, p2, w2, R2, rfl⟩)⟩
    · exact absurd (key.mp y1) n2
    · refine ⟨_, rfl, ?_, rfl⟩
      have pe : PE (updA (updA A 55 (upd (A 55) a.toNatClampNeg b)) 56 (upd ((updA A 55 (upd (A 55) a.toNatClampNeg b)) 56) a.toNatClampNeg (if A 53 a.toNatClampNeg = 1 then 0 else c))) (updA (updA A1 55 (upd (A1 55) a.toNatClampNeg b)) 56 (upd ((updA A1 55 (upd (A1 55) a.toNatClampNeg b)) 56) a.toNatClampNeg (if A1 53 a.toNatClampNeg = 1 then 0 else c))) := (PE.up 56 a.toNatClampNeg (PE.up 55 a.toNatClampNeg e1 (by omega) (by omega) rfl) (by omega) (by omega) (by rw [e1 53 (by omega) (by omega)]))
      have F2 := zRf.hd p2 w2 (by omega) F1.2.2.2.1 er R2 (mId.k K2 rfl rfl rfl F1.2.2.2.2.1) fn
      rw [er, es] at F2
      rw [wMom_pe pe] at R1
      rw [wEv_pe pe] at g1
      exact zCx.mk F2 (by omega) (by omega) R1 (pe.tr R2.2.1.sy) K2 fHn_c pHn_c (ow.e rfl rfl rfl) (kd.mk rfl rfl) (wMom_low p2 w2.2.1 w2.1 (by omega) (by omega)) g1
theorem pair2_marks (ro : UInt32 → Nat × (Nat → Int32)) (k : Nat) (I : Nat → Nat → Int32) (G : Nat → Nat → Int64) (A : Nat → Nat → Int32) (B : Nat → Nat → Int64) (h : zL2 k I G A B) (hk : k < 512) (a : Int32) (b : Int32) (c : Int32) : zWp ro 79 0 [(0, .ref 0), (1, .int a), (2, .int b), (3, .int c)] [] (hS I G A B) 0 0 (zP2 ro 142 [(0, .ref 52), (1, .int a), (2, .int b), (3, .int c)] k (fun v w => v = w)) := by
  obtain ⟨h1, I3, G3, A3, B3, eh, hx⟩ := h
  have p1 := pair_marks ro k I G A B h1 hk a b c
  have p2 := pairX_marks ro k I3 G3 A3 B3 hx hk a b c
  rw [← eh] at p2
  exact zP_and p1 p2
set_option maxHeartbeats 0 in
theorem pairX_own (ro : UInt32 → Nat × (Nat → Int32)) (k : Nat) (I : Nat → Nat → Int32) (G : Nat → Nat → Int64) (A : Nat → Nat → Int32) (B : Nat → Nat → Int64) (h : zCx k I G A B) (hk : k < 512) (a : Int32) (b : Int32) : zWp ro 80 0 [(0, .ref 0), (1, .int a), (2, .int b)] [] (hS I G A B) 0 0 (zPX ro 143 [(0, .ref 52), (1, .int a), (2, .int b)] k (fun v w => v = w)) := by
  obtain ⟨nv, np, W, L, F, R, ow, kd, lw, lg⟩ := h
  have fn := F.2.2.2.2.2
  have mm0 := mm_own ro nv np W L I G A B (242600 * k) F.1 F.2.1 F.2.2.1 (by omega) (by omega) (by omega) a b
  have hok : ok_own nv np A a b → MPa nv np (updA A 57 (upd (A 57) a.toNatClampNeg b)) ∧ wInv nv 10000 (242600 * k + 1000) (updA A 57 (upd (A 57) a.toNatClampNeg b)) W := by
    intro hk0
    obtain ⟨_, r, h1, _, I2, G2, A2, B2, _, _, hc⟩ := mm0
    rcases hc with ⟨n, -⟩ | ⟨-, p, w, -⟩
    · exact absurd hk0 n
    · exact ⟨p, w⟩
  refine zWp.mono (cx_own ro nv np A W L (242600 * k) (-1) I G A B R F.2.1 F.2.2.1 kd lg (by omega) (by omega) a b hok) ?_
  rintro r h1 ⟨I1, G1, A1, B1, rfl, K1, hc⟩
  have F1 := F.kq K1 fHd_52 pHd_52
  have e1 : PE A A1 := fun k _ _ => (K1.2.2.1 k (pHd_52 k (by omega))).symm
  have er := F1.2.2.2.2.1.1
  have es := F1.2.2.2.2.1.2.1
  have mm := mm_own ro nv np W L I1 G1 A1 B1 (242600 * k) F1.1 F1.2.1 F1.2.2.1 (by omega) (by omega) (by omega) a b
  have key := ok_own_pe (nv := nv) (np := np) (a := a) (b := b) e1
  rcases hc with ⟨n1, R1, g1, rfl⟩ | ⟨y1, R1, g1, rfl⟩
  · refine ⟨_, rfl, zWp.mono mm ?_⟩
    rintro r2 h2 ⟨I2, G2, A2, B2, rfl, K2, (⟨n2, R2, rfl⟩ | ⟨y2, -⟩)⟩
    · refine ⟨_, rfl, ?_, rfl⟩
      exact zCx.mk (zRf.of R2 F1.2.1 F1.2.2.1 F1.2.2.2.1 (mId.k K2 rfl rfl rfl F1.2.2.2.2.1) fn) (by omega) (by omega) R1 (e1.tr R2.2.1.sy) K2 fHn_c pHn_c ow kd lw g1
    · exact absurd (key.mpr y2) n1
  · refine ⟨_, rfl, zWp.mono mm ?_⟩
    rintro r2 h2 ⟨I2, G2, A2, B2, rfl, K2, (⟨n2, -⟩ | ⟨y2, p2, w2, R2, rfl⟩)⟩
    · exact absurd (key.mp y1) n2
    · refine ⟨_, rfl, ?_, rfl⟩
      have pe : PE (updA A 57 (upd (A 57) a.toNatClampNeg b)) (updA A1 57 (upd (A1 57) a.toNatClampNeg b)) := (PE.up 57 a.toNatClampNeg e1 (by omega) (by omega) rfl)
      have F2 := zRf.hd p2 w2 (by omega) F1.2.2.2.1 er R2 (mId.k K2 rfl rfl rfl F1.2.2.2.2.1) fn
      rw [er, es] at F2
      rw [wMom_pe pe] at R1
      rw [wEv_pe pe] at g1
      exact zCx.mk F2 (by omega) (by omega) R1 (pe.tr R2.2.1.sy) K2 fHn_c pHn_c (ow.ow F.2.1.2.1 y1 rfl rfl rfl) (kd.e rfl rfl) (wMom_low p2 w2.2.1 w2.1 (by omega) (by omega)) g1
theorem pair2_own (ro : UInt32 → Nat × (Nat → Int32)) (k : Nat) (I : Nat → Nat → Int32) (G : Nat → Nat → Int64) (A : Nat → Nat → Int32) (B : Nat → Nat → Int64) (h : zL2 k I G A B) (hk : k < 512) (a : Int32) (b : Int32) : zWp ro 80 0 [(0, .ref 0), (1, .int a), (2, .int b)] [] (hS I G A B) 0 0 (zP2 ro 143 [(0, .ref 52), (1, .int a), (2, .int b)] k (fun v w => v = w)) := by
  obtain ⟨h1, I3, G3, A3, B3, eh, hx⟩ := h
  have p1 := pair_own ro k I G A B h1 hk a b
  have p2 := pairX_own ro k I3 G3 A3 B3 hx hk a b
  rw [← eh] at p2
  exact zP_and p1 p2
set_option maxHeartbeats 0 in
theorem pairX_tips (ro : UInt32 → Nat × (Nat → Int32)) (k : Nat) (I : Nat → Nat → Int32) (G : Nat → Nat → Int64) (A : Nat → Nat → Int32) (B : Nat → Nat → Int64) (h : zCx k I G A B) (hk : k < 512) (a : Int32) (b : Int32) : zWp ro 81 0 [(0, .ref 0), (1, .int a), (2, .int b)] [] (hS I G A B) 0 0 (zPX ro 145 [(0, .ref 52), (1, .int a), (2, .int b)] k (fun v w => v = w)) := by
  obtain ⟨nv, np, W, L, F, R, ow, kd, lw, lg⟩ := h
  have fn := F.2.2.2.2.2
  have mm0 := mm_tips ro nv np W L I G A B (242600 * k) F.1 F.2.1 F.2.2.1 (by omega) (by omega) (by omega) a b
  have hok : ok_tips nv np A a b → MPa nv np (updA A 58 (upd (A 58) a.toNatClampNeg b)) ∧ wInv nv 10000 (242600 * k + 1000) (updA A 58 (upd (A 58) a.toNatClampNeg b)) W := by
    intro hk0
    obtain ⟨_, r, h1, _, I2, G2, A2, B2, _, _, hc⟩ := mm0
    rcases hc with ⟨n, -⟩ | ⟨-, p, w, -⟩
    · exact absurd hk0 n
    · exact ⟨p, w⟩
  refine zWp.mono (cx_tips ro nv np A W L (242600 * k) (-1) I G A B R F.2.1 F.2.2.1 kd lg (by omega) (by omega) a b hok) ?_
  rintro r h1 ⟨I1, G1, A1, B1, rfl, K1, hc⟩
  have F1 := F.kq K1 fHd_52 pHd_52
  have e1 : PE A A1 := fun k _ _ => (K1.2.2.1 k (pHd_52 k (by omega))).symm
  have er := F1.2.2.2.2.1.1
  have es := F1.2.2.2.2.1.2.1
  have mm := mm_tips ro nv np W L I1 G1 A1 B1 (242600 * k) F1.1 F1.2.1 F1.2.2.1 (by omega) (by omega) (by omega) a b
  have key := ok_tips_pe (nv := nv) (np := np) (a := a) (b := b) e1
  rcases hc with ⟨n1, R1, g1, rfl⟩ | ⟨y1, R1, g1, rfl⟩
  · refine ⟨_, rfl, zWp.mono mm ?_⟩
    rintro r2 h2 ⟨I2, G2, A2, B2, rfl, K2, (⟨n2, R2, rfl⟩ | ⟨y2, -⟩)⟩
    · refine ⟨_, rfl, ?_, rfl⟩
      exact zCx.mk (zRf.of R2 F1.2.1 F1.2.2.1 F1.2.2.2.1 (mId.k K2 rfl rfl rfl F1.2.2.2.2.1) fn) (by omega) (by omega) R1 (e1.tr R2.2.1.sy) K2 fHn_c pHn_c ow kd lw g1
    · exact absurd (key.mpr y2) n1
  · refine ⟨_, rfl, zWp.mono mm ?_⟩
    rintro r2 h2 ⟨I2, G2, A2, B2, rfl, K2, (⟨n2, -⟩ | ⟨y2, p2, w2, R2, rfl⟩)⟩
    · exact absurd (key.mp y1) n2
    · refine ⟨_, rfl, ?_, rfl⟩
      have pe : PE (updA A 58 (upd (A 58) a.toNatClampNeg b)) (updA A1 58 (upd (A1 58) a.toNatClampNeg b)) := (PE.up 58 a.toNatClampNeg e1 (by omega) (by omega) rfl)
      have F2 := zRf.hd p2 w2 (by omega) F1.2.2.2.1 er R2 (mId.k K2 rfl rfl rfl F1.2.2.2.2.1) fn
      rw [er, es] at F2
      rw [wMom_pe pe] at R1
      rw [wEv_pe pe] at g1
      exact zCx.mk F2 (by omega) (by omega) R1 (pe.tr R2.2.1.sy) K2 fHn_c pHn_c (ow.e rfl rfl rfl) (kd.e rfl rfl) (wMom_low p2 w2.2.1 w2.1 (by omega) (by omega)) g1
theorem pair2_tips (ro : UInt32 → Nat × (Nat → Int32)) (k : Nat) (I : Nat → Nat → Int32) (G : Nat → Nat → Int64) (A : Nat → Nat → Int32) (B : Nat → Nat → Int64) (h : zL2 k I G A B) (hk : k < 512) (a : Int32) (b : Int32) : zWp ro 81 0 [(0, .ref 0), (1, .int a), (2, .int b)] [] (hS I G A B) 0 0 (zP2 ro 145 [(0, .ref 52), (1, .int a), (2, .int b)] k (fun v w => v = w)) := by
  obtain ⟨h1, I3, G3, A3, B3, eh, hx⟩ := h
  have p1 := pair_tips ro k I G A B h1 hk a b
  have p2 := pairX_tips ro k I3 G3 A3 B3 hx hk a b
  rw [← eh] at p2
  exact zP_and p1 p2
set_option maxHeartbeats 0 in
theorem pairX_over (ro : UInt32 → Nat × (Nat → Int32)) (k : Nat) (I : Nat → Nat → Int32) (G : Nat → Nat → Int64) (A : Nat → Nat → Int32) (B : Nat → Nat → Int64) (h : zCx k I G A B) (hk : k < 512) (a : Int32) (b : Int32) : zWp ro 82 0 [(0, .ref 0), (1, .int a), (2, .int b)] [] (hS I G A B) 0 0 (zPX ro 146 [(0, .ref 52), (1, .int a), (2, .int b)] k (fun v w => v = w)) := by
  obtain ⟨nv, np, W, L, F, R, ow, kd, lw, lg⟩ := h
  have fn := F.2.2.2.2.2
  have mm0 := mm_over ro nv np W L I G A B (242600 * k) F.1 F.2.1 F.2.2.1 (by omega) (by omega) (by omega) a b
  have hok : ok_over nv np A a b → MPa nv np (updA A 59 (upd (A 59) a.toNatClampNeg b)) ∧ wInv nv 10000 (242600 * k + 1000) (updA A 59 (upd (A 59) a.toNatClampNeg b)) W := by
    intro hk0
    obtain ⟨_, r, h1, _, I2, G2, A2, B2, _, _, hc⟩ := mm0
    rcases hc with ⟨n, -⟩ | ⟨-, p, w, -⟩
    · exact absurd hk0 n
    · exact ⟨p, w⟩
  refine zWp.mono (cx_over ro nv np A W L (242600 * k) (-1) I G A B R F.2.1 F.2.2.1 kd lg (by omega) (by omega) a b hok) ?_
  rintro r h1 ⟨I1, G1, A1, B1, rfl, K1, hc⟩
  have F1 := F.kq K1 fHd_52 pHd_52
  have e1 : PE A A1 := fun k _ _ => (K1.2.2.1 k (pHd_52 k (by omega))).symm
  have er := F1.2.2.2.2.1.1
  have es := F1.2.2.2.2.1.2.1
  have mm := mm_over ro nv np W L I1 G1 A1 B1 (242600 * k) F1.1 F1.2.1 F1.2.2.1 (by omega) (by omega) (by omega) a b
  have key := ok_over_pe (nv := nv) (np := np) (a := a) (b := b) e1
  rcases hc with ⟨n1, R1, g1, rfl⟩ | ⟨y1, R1, g1, rfl⟩
  · refine ⟨_, rfl, zWp.mono mm ?_⟩
    rintro r2 h2 ⟨I2, G2, A2, B2, rfl, K2, (⟨n2, R2, rfl⟩ | ⟨y2, -⟩)⟩
    · refine ⟨_, rfl, ?_, rfl⟩
      exact zCx.mk (zRf.of R2 F1.2.1 F1.2.2.1 F1.2.2.2.1 (mId.k K2 rfl rfl rfl F1.2.2.2.2.1) fn) (by omega) (by omega) R1 (e1.tr R2.2.1.sy) K2 fHn_c pHn_c ow kd lw g1
    · exact absurd (key.mpr y2) n1
  · refine ⟨_, rfl, zWp.mono mm ?_⟩
    rintro r2 h2 ⟨I2, G2, A2, B2, rfl, K2, (⟨n2, -⟩ | ⟨y2, p2, w2, R2, rfl⟩)⟩
    · exact absurd (key.mp y1) n2
    · refine ⟨_, rfl, ?_, rfl⟩
      have pe : PE (updA A 59 (upd (A 59) a.toNatClampNeg b)) (updA A1 59 (upd (A1 59) a.toNatClampNeg b)) := (PE.up 59 a.toNatClampNeg e1 (by omega) (by omega) rfl)
      have F2 := zRf.hd p2 w2 (by omega) F1.2.2.2.1 er R2 (mId.k K2 rfl rfl rfl F1.2.2.2.2.1) fn
      rw [er, es] at F2
      rw [wMom_pe pe] at R1
      rw [wEv_pe pe] at g1
      exact zCx.mk F2 (by omega) (by omega) R1 (pe.tr R2.2.1.sy) K2 fHn_c pHn_c (ow.e rfl rfl rfl) (kd.e rfl rfl) (wMom_low p2 w2.2.1 w2.1 (by omega) (by omega)) g1
theorem pair2_over (ro : UInt32 → Nat × (Nat → Int32)) (k : Nat) (I : Nat → Nat → Int32) (G : Nat → Nat → Int64) (A : Nat → Nat → Int32) (B : Nat → Nat → Int64) (h : zL2 k I G A B) (hk : k < 512) (a : Int32) (b : Int32) : zWp ro 82 0 [(0, .ref 0), (1, .int a), (2, .int b)] [] (hS I G A B) 0 0 (zP2 ro 146 [(0, .ref 52), (1, .int a), (2, .int b)] k (fun v w => v = w)) := by
  obtain ⟨h1, I3, G3, A3, B3, eh, hx⟩ := h
  have p1 := pair_over ro k I G A B h1 hk a b
  have p2 := pairX_over ro k I3 G3 A3 B3 hx hk a b
  rw [← eh] at p2
  exact zP_and p1 p2
set_option maxHeartbeats 0 in
theorem pairX_pipe (ro : UInt32 → Nat × (Nat → Int32)) (k : Nat) (I : Nat → Nat → Int32) (G : Nat → Nat → Int64) (A : Nat → Nat → Int32) (B : Nat → Nat → Int64) (h : zCx k I G A B) (hk : k < 512) (a : Int32) (b : Int32) (c : Int32) : zWp ro 83 0 [(0, .ref 0), (1, .int a), (2, .int b), (3, .int c)] [] (hS I G A B) 0 0 (zPX ro 147 [(0, .ref 52), (1, .int a), (2, .int b), (3, .int c)] k (fun v w => v = w)) := by
  obtain ⟨nv, np, W, L, F, R, ow, kd, lw, lg⟩ := h
  have fn := F.2.2.2.2.2
  have mm0 := mm_pipe ro nv np W L I G A B (242600 * k) F.1 F.2.1 F.2.2.1 (by omega) (by omega) (by omega) a b c
  have hok : ok_pipe nv np A a b c → MPa nv (np + 1) (updA (updA (updA A 60 (upd (A 60) np a)) 61 (upd ((updA A 60 (upd (A 60) np a)) 61) np b)) 62 (upd ((updA (updA A 60 (upd (A 60) np a)) 61 (upd ((updA A 60 (upd (A 60) np a)) 61) np b)) 62) np c)) ∧ wInv nv 10000 (242600 * k + 1000) (updA (updA (updA A 60 (upd (A 60) np a)) 61 (upd ((updA A 60 (upd (A 60) np a)) 61) np b)) 62 (upd ((updA (updA A 60 (upd (A 60) np a)) 61 (upd ((updA A 60 (upd (A 60) np a)) 61) np b)) 62) np c)) (wOpn np 1 W) := by
    intro hk0
    obtain ⟨_, r, h1, _, I2, G2, A2, B2, _, _, hc⟩ := mm0
    rcases hc with ⟨n, -⟩ | ⟨-, p, w, -⟩
    · exact absurd hk0 n
    · exact ⟨p, w⟩
  refine zWp.mono (cx_pipe ro nv np A W L (242600 * k) (-1) I G A B R F.2.1 F.2.2.1 kd lg (by omega) (by omega) a b c hok) ?_
  rintro r h1 ⟨I1, G1, A1, B1, rfl, K1, hc⟩
  have F1 := F.kq K1 fHd_52 pHd_52
  have e1 : PE A A1 := fun k _ _ => (K1.2.2.1 k (pHd_52 k (by omega))).symm
  have er := F1.2.2.2.2.1.1
  have es := F1.2.2.2.2.1.2.1
  have mm := mm_pipe ro nv np W L I1 G1 A1 B1 (242600 * k) F1.1 F1.2.1 F1.2.2.1 (by omega) (by omega) (by omega) a b c
  have key := ok_pipe_pe (nv := nv) (np := np) (a := a) (b := b) (c := c) e1
  rcases hc with ⟨n1, R1, g1, rfl⟩ | ⟨y1, R1, g1, rfl⟩
  · refine ⟨_, rfl, zWp.mono mm ?_⟩
    rintro r2 h2 ⟨I2, G2, A2, B2, rfl, K2, (⟨n2, R2, rfl⟩ | ⟨y2, -⟩)⟩
    · refine ⟨_, rfl, ?_, rfl⟩
      exact zCx.mk (zRf.of R2 F1.2.1 F1.2.2.1 F1.2.2.2.1 (mId.k K2 rfl rfl rfl F1.2.2.2.2.1) fn) (by omega) (by omega) R1 (e1.tr R2.2.1.sy) K2 fHn_c pHn_c ow kd lw g1
    · exact absurd (key.mpr y2) n1
  · refine ⟨_, rfl, zWp.mono mm ?_⟩
    rintro r2 h2 ⟨I2, G2, A2, B2, rfl, K2, (⟨n2, -⟩ | ⟨y2, p2, w2, R2, rfl⟩)⟩
    · exact absurd (key.mp y1) n2
    · refine ⟨_, rfl, ?_, rfl⟩
      have pe : PE (updA (updA (updA A 60 (upd (A 60) np a)) 61 (upd ((updA A 60 (upd (A 60) np a)) 61) np b)) 62 (upd ((updA (updA A 60 (upd (A 60) np a)) 61 (upd ((updA A 60 (upd (A 60) np a)) 61) np b)) 62) np c)) (updA (updA (updA A1 60 (upd (A1 60) np a)) 61 (upd ((updA A1 60 (upd (A1 60) np a)) 61) np b)) 62 (upd ((updA (updA A1 60 (upd (A1 60) np a)) 61 (upd ((updA A1 60 (upd (A1 60) np a)) 61) np b)) 62) np c)) := (PE.up 62 np (PE.up 61 np (PE.up 60 np e1 (by omega) (by omega) rfl) (by omega) (by omega) rfl) (by omega) (by omega) rfl)
      have F2 := zRf.hd p2 w2 (by omega) F1.2.2.2.1 er R2 (mId.k K2 rfl rfl rfl F1.2.2.2.2.1) fn
      rw [er, es] at F2
      rw [wMom_pe pe] at R1
      rw [wEv_pe pe] at g1
      exact zCx.mk F2 (by omega) (by omega) R1 (pe.tr R2.2.1.sy) K2 fHn_c pHn_c (ow.pi rfl rfl rfl) (kd.e rfl rfl) (wMom_low p2 w2.2.1 w2.1 (by omega) (by omega)) g1
theorem pair2_pipe (ro : UInt32 → Nat × (Nat → Int32)) (k : Nat) (I : Nat → Nat → Int32) (G : Nat → Nat → Int64) (A : Nat → Nat → Int32) (B : Nat → Nat → Int64) (h : zL2 k I G A B) (hk : k < 512) (a : Int32) (b : Int32) (c : Int32) : zWp ro 83 0 [(0, .ref 0), (1, .int a), (2, .int b), (3, .int c)] [] (hS I G A B) 0 0 (zP2 ro 147 [(0, .ref 52), (1, .int a), (2, .int b), (3, .int c)] k (fun v w => v = w)) := by
  obtain ⟨h1, I3, G3, A3, B3, eh, hx⟩ := h
  have p1 := pair_pipe ro k I G A B h1 hk a b c
  have p2 := pairX_pipe ro k I3 G3 A3 B3 hx hk a b c
  rw [← eh] at p2
  exact zP_and p1 p2
set_option maxHeartbeats 0 in
theorem pairX_fill (ro : UInt32 → Nat × (Nat → Int32)) (k : Nat) (I : Nat → Nat → Int32) (G : Nat → Nat → Int64) (A : Nat → Nat → Int32) (B : Nat → Nat → Int64) (h : zCx k I G A B) (hk : k < 512) (a : Int32) (b : Int32) : zWp ro 84 0 [(0, .ref 0), (1, .int a), (2, .int b)] [] (hS I G A B) 0 0 (zPX ro 148 [(0, .ref 52), (1, .int a), (2, .int b)] k (fun v w => v = w)) := by
  obtain ⟨nv, np, W, L, F, R, ow, kd, lw, lg⟩ := h
  have fn := F.2.2.2.2.2
  have mm0 := mm_fill ro nv np W L I G A B (242600 * k) F.1 F.2.1 F.2.2.1 (by omega) (by omega) (by omega) a b
  have hok : ok_fill nv np A a b → MPa nv np A ∧ wInv nv 10000 (242600 * k + 1000) A (wFill (A 54) (A 59) a b W) := by
    intro hk0
    obtain ⟨_, r, h1, _, I2, G2, A2, B2, _, _, hc⟩ := mm0
    rcases hc with ⟨n, -⟩ | ⟨-, p, w, -⟩
    · exact absurd hk0 n
    · exact ⟨p, w⟩
  refine zWp.mono (cx_fill ro nv np A W L (242600 * k) (-1) I G A B R F.2.1 F.2.2.1 kd lg (by omega) (by omega) a b hok) ?_
  rintro r h1 ⟨I1, G1, A1, B1, rfl, K1, hc⟩
  have F1 := F.kq K1 fHd_52 pHd_52
  have e1 : PE A A1 := fun k _ _ => (K1.2.2.1 k (pHd_52 k (by omega))).symm
  have er := F1.2.2.2.2.1.1
  have es := F1.2.2.2.2.1.2.1
  have mm := mm_fill ro nv np W L I1 G1 A1 B1 (242600 * k) F1.1 F1.2.1 F1.2.2.1 (by omega) (by omega) (by omega) a b
  have key : ok_fill nv np A a b ↔ ok_fill nv np A1 a b := Iff.rfl
  rcases hc with ⟨n1, R1, g1, rfl⟩ | ⟨y1, R1, g1, rfl⟩
  · refine ⟨_, rfl, zWp.mono mm ?_⟩
    rintro r2 h2 ⟨I2, G2, A2, B2, rfl, K2, (⟨n2, R2, rfl⟩ | ⟨y2, -⟩)⟩
    · refine ⟨_, rfl, ?_, rfl⟩
      exact zCx.mk (zRf.of R2 F1.2.1 F1.2.2.1 F1.2.2.2.1 (mId.k K2 rfl rfl rfl F1.2.2.2.2.1) fn) (by omega) (by omega) R1 (e1.tr R2.2.1.sy) K2 fHn_c pHn_c ow kd lw g1
    · exact absurd (key.mpr y2) n1
  · refine ⟨_, rfl, zWp.mono mm ?_⟩
    rintro r2 h2 ⟨I2, G2, A2, B2, rfl, K2, (⟨n2, -⟩ | ⟨y2, p2, w2, R2, rfl⟩)⟩
    · exact absurd (key.mp y1) n2
    · refine ⟨_, rfl, ?_, rfl⟩
      have pe : PE A A1 := e1
      have F2 := zRf.hd p2 w2 (by omega) F1.2.2.2.1 er R2 (mId.k K2 rfl rfl rfl F1.2.2.2.2.1) fn
      rw [er, es] at F2
      have eW : (wFill (A 54) (A 59) a b W) = (wFill (A1 54) (A1 59) a b W) := by rw [e1 54 (by omega) (by omega), e1 59 (by omega) (by omega)]
      rw [eW] at R1 g1
      rw [wMom_pe pe] at R1
      rw [wEv_pe pe] at g1
      exact zCx.mk F2 (by omega) (by omega) R1 (pe.tr R2.2.1.sy) K2 fHn_c pHn_c ow kd (wMom_low p2 w2.2.1 w2.1 (by omega) (by omega)) g1
theorem pair2_fill (ro : UInt32 → Nat × (Nat → Int32)) (k : Nat) (I : Nat → Nat → Int32) (G : Nat → Nat → Int64) (A : Nat → Nat → Int32) (B : Nat → Nat → Int64) (h : zL2 k I G A B) (hk : k < 512) (a : Int32) (b : Int32) : zWp ro 84 0 [(0, .ref 0), (1, .int a), (2, .int b)] [] (hS I G A B) 0 0 (zP2 ro 148 [(0, .ref 52), (1, .int a), (2, .int b)] k (fun v w => v = w)) := by
  obtain ⟨h1, I3, G3, A3, B3, eh, hx⟩ := h
  have p1 := pair_fill ro k I G A B h1 hk a b
  have p2 := pairX_fill ro k I3 G3 A3 B3 hx hk a b
  rw [← eh] at p2
  exact zP_and p1 p2
set_option maxHeartbeats 0 in
theorem pairX_shut (ro : UInt32 → Nat × (Nat → Int32)) (k : Nat) (I : Nat → Nat → Int32) (G : Nat → Nat → Int64) (A : Nat → Nat → Int32) (B : Nat → Nat → Int64) (h : zCx k I G A B) (hk : k < 512) (a : Int32) (b : Int32) (hz : b = 0 ∨ b = 1) : zWp ro 85 0 [(0, .ref 0), (1, .int a), (2, .int b)] [] (hS I G A B) 0 0 (zPX ro 149 [(0, .ref 52), (1, .int a), (2, .int b)] k (fun v w => v = w)) := by
  obtain ⟨nv, np, W, L, F, R, ow, kd, lw, lg⟩ := h
  have fn := F.2.2.2.2.2
  have mm0 := mm_shut ro nv np W L I G A B (242600 * k) F.1 F.2.1 F.2.2.1 (by omega) (by omega) (by omega) a b hz
  have hok : ok_shut nv np A a b → MPa nv np A ∧ wInv nv 10000 (242600 * k + 1000) A (wOpn a.toNatClampNeg (if b = 0 then 1 else 0) W) := by
    intro hk0
    obtain ⟨_, r, h1, _, I2, G2, A2, B2, _, _, hc⟩ := mm0
    rcases hc with ⟨n, -⟩ | ⟨-, p, w, -⟩
    · exact absurd hk0 n
    · exact ⟨p, w⟩
  refine zWp.mono (cx_shut ro nv np A W L (242600 * k) (-1) I G A B R F.2.1 F.2.2.1 kd lg (by omega) (by omega) a b hz hok) ?_
  rintro r h1 ⟨I1, G1, A1, B1, rfl, K1, hc⟩
  have F1 := F.kq K1 fHd_52 pHd_52
  have e1 : PE A A1 := fun k _ _ => (K1.2.2.1 k (pHd_52 k (by omega))).symm
  have er := F1.2.2.2.2.1.1
  have es := F1.2.2.2.2.1.2.1
  have mm := mm_shut ro nv np W L I1 G1 A1 B1 (242600 * k) F1.1 F1.2.1 F1.2.2.1 (by omega) (by omega) (by omega) a b hz
  have key : ok_shut nv np A a b ↔ ok_shut nv np A1 a b := Iff.rfl
  rcases hc with ⟨n1, R1, g1, rfl⟩ | ⟨y1, R1, g1, rfl⟩
  · refine ⟨_, rfl, zWp.mono mm ?_⟩
    rintro r2 h2 ⟨I2, G2, A2, B2, rfl, K2, (⟨n2, R2, rfl⟩ | ⟨y2, -⟩)⟩
    · refine ⟨_, rfl, ?_, rfl⟩
      exact zCx.mk (zRf.of R2 F1.2.1 F1.2.2.1 F1.2.2.2.1 (mId.k K2 rfl rfl rfl F1.2.2.2.2.1) fn) (by omega) (by omega) R1 (e1.tr R2.2.1.sy) K2 fHn_c pHn_c ow kd lw g1
    · exact absurd (key.mpr y2) n1
  · refine ⟨_, rfl, zWp.mono mm ?_⟩
    rintro r2 h2 ⟨I2, G2, A2, B2, rfl, K2, (⟨n2, -⟩ | ⟨y2, p2, w2, R2, rfl⟩)⟩
    · exact absurd (key.mp y1) n2
    · refine ⟨_, rfl, ?_, rfl⟩
      have pe : PE A A1 := e1
      have F2 := zRf.hd p2 w2 (by omega) F1.2.2.2.1 er R2 (mId.k K2 rfl rfl rfl F1.2.2.2.2.1) fn
      rw [er, es] at F2
      rw [wMom_pe pe] at R1
      rw [wEv_pe pe] at g1
      exact zCx.mk F2 (by omega) (by omega) R1 (pe.tr R2.2.1.sy) K2 fHn_c pHn_c ow kd (wMom_low p2 w2.2.1 w2.1 (by omega) (by omega)) g1
theorem pair2_shut (ro : UInt32 → Nat × (Nat → Int32)) (k : Nat) (I : Nat → Nat → Int32) (G : Nat → Nat → Int64) (A : Nat → Nat → Int32) (B : Nat → Nat → Int64) (h : zL2 k I G A B) (hk : k < 512) (a : Int32) (b : Int32) (hz : b = 0 ∨ b = 1) : zWp ro 85 0 [(0, .ref 0), (1, .int a), (2, .int b)] [] (hS I G A B) 0 0 (zP2 ro 149 [(0, .ref 52), (1, .int a), (2, .int b)] k (fun v w => v = w)) := by
  obtain ⟨h1, I3, G3, A3, B3, eh, hx⟩ := h
  have p1 := pair_shut ro k I G A B h1 hk a b hz
  have p2 := pairX_shut ro k I3 G3 A3 B3 hx hk a b hz
  rw [← eh] at p2
  exact zP_and p1 p2
set_option maxHeartbeats 0 in
theorem pairX_amount (ro : UInt32 → Nat × (Nat → Int32)) (k : Nat) (I : Nat → Nat → Int32) (G : Nat → Nat → Int64) (A : Nat → Nat → Int32) (B : Nat → Nat → Int64) (h : zCx k I G A B) (hk : k < 512) (a : Int32) (b : Int32) : zWp ro 86 0 [(0, .ref 0), (1, .int a), (2, .int b)] [] (hS I G A B) 0 0 (zPX ro 150 [(0, .ref 52), (1, .int a), (2, .int b)] k (fun v w => v = w)) := by
  obtain ⟨nv, np, W, L, F, R, ow, kd, lw, lg⟩ := h
  have fn := F.2.2.2.2.2
  have mm0 := mm_amount ro nv np W L I G A B (242600 * k) F.1 F.2.1 F.2.2.1 (by omega) (by omega) (by omega) a b
  have hok : ok_amount nv np A a b → MPa nv np (updA A 62 (upd (A 62) a.toNatClampNeg b)) ∧ wInv nv 10000 (242600 * k + 1000) (updA A 62 (upd (A 62) a.toNatClampNeg b)) W := by
    intro hk0
    obtain ⟨_, r, h1, _, I2, G2, A2, B2, _, _, hc⟩ := mm0
    rcases hc with ⟨n, -⟩ | ⟨-, p, w, -⟩
    · exact absurd hk0 n
    · exact ⟨p, w⟩
  refine zWp.mono (cx_amount ro nv np A W L (242600 * k) (-1) I G A B R F.2.1 F.2.2.1 kd lg (by omega) (by omega) a b hok) ?_
  rintro r h1 ⟨I1, G1, A1, B1, rfl, K1, hc⟩
  have F1 := F.kq K1 fHd_52 pHd_52
  have e1 : PE A A1 := fun k _ _ => (K1.2.2.1 k (pHd_52 k (by omega))).symm
  have er := F1.2.2.2.2.1.1
  have es := F1.2.2.2.2.1.2.1
  have mm := mm_amount ro nv np W L I1 G1 A1 B1 (242600 * k) F1.1 F1.2.1 F1.2.2.1 (by omega) (by omega) (by omega) a b
  have key := ok_amount_pe (nv := nv) (np := np) (a := a) (b := b) e1
  rcases hc with ⟨n1, R1, g1, rfl⟩ | ⟨y1, R1, g1, rfl⟩
  · refine ⟨_, rfl, zWp.mono mm ?_⟩
    rintro r2 h2 ⟨I2, G2, A2, B2, rfl, K2, (⟨n2, R2, rfl⟩ | ⟨y2, -⟩)⟩
    · refine ⟨_, rfl, ?_, rfl⟩
      exact zCx.mk (zRf.of R2 F1.2.1 F1.2.2.1 F1.2.2.2.1 (mId.k K2 rfl rfl rfl F1.2.2.2.2.1) fn) (by omega) (by omega) R1 (e1.tr R2.2.1.sy) K2 fHn_c pHn_c ow kd lw g1
    · exact absurd (key.mpr y2) n1
  · refine ⟨_, rfl, zWp.mono mm ?_⟩
    rintro r2 h2 ⟨I2, G2, A2, B2, rfl, K2, (⟨n2, -⟩ | ⟨y2, p2, w2, R2, rfl⟩)⟩
    · exact absurd (key.mp y1) n2
    · refine ⟨_, rfl, ?_, (congrFun (e1 62 (by omega) (by omega)) _)⟩
      have pe : PE (updA A 62 (upd (A 62) a.toNatClampNeg b)) (updA A1 62 (upd (A1 62) a.toNatClampNeg b)) := (PE.up 62 a.toNatClampNeg e1 (by omega) (by omega) rfl)
      have F2 := zRf.hd p2 w2 (by omega) F1.2.2.2.1 er R2 (mId.k K2 rfl rfl rfl F1.2.2.2.2.1) fn
      rw [er, es] at F2
      rw [wMom_pe pe] at R1
      rw [wEv_pe pe] at g1
      exact zCx.mk F2 (by omega) (by omega) R1 (pe.tr R2.2.1.sy) K2 fHn_c pHn_c (ow.e rfl rfl rfl) (kd.e rfl rfl) (wMom_low p2 w2.2.1 w2.1 (by omega) (by omega)) g1
theorem pair2_amount (ro : UInt32 → Nat × (Nat → Int32)) (k : Nat) (I : Nat → Nat → Int32) (G : Nat → Nat → Int64) (A : Nat → Nat → Int32) (B : Nat → Nat → Int64) (h : zL2 k I G A B) (hk : k < 512) (a : Int32) (b : Int32) : zWp ro 86 0 [(0, .ref 0), (1, .int a), (2, .int b)] [] (hS I G A B) 0 0 (zP2 ro 150 [(0, .ref 52), (1, .int a), (2, .int b)] k (fun v w => v = w)) := by
  obtain ⟨h1, I3, G3, A3, B3, eh, hx⟩ := h
  have p1 := pair_amount ro k I G A B h1 hk a b
  have p2 := pairX_amount ro k I3 G3 A3 B3 hx hk a b
  rw [← eh] at p2
  exact zP_and p1 p2
set_option maxHeartbeats 0 in
theorem pairX_go (ro : UInt32 → Nat × (Nat → Int32)) (k : Nat) (I : Nat → Nat → Int32) (G : Nat → Nat → Int64) (A : Nat → Nat → Int32) (B : Nat → Nat → Int64) (h : zCx k I G A B) (hk : k < 512) (a : Int32) : zWp ro 87 0 [(0, .ref 0), (1, .int a)] [] (hS I G A B) 0 0 (zPX ro 152 [(0, .ref 52), (1, .int a)] k (fun v w => v = w)) := by
  obtain ⟨nv, np, W, L, F, R, ow, kd, lw, lg⟩ := h
  have fn := F.2.2.2.2.2
  refine zWp.mono (cx_go ro nv np A W L (242600 * k) (-1) a I G A B R F.2.1 ow F.2.2.1 lw lg (by omega) (by omega) (by omega)) ?_
  rintro r h1 ⟨I1, G1, A1, B1, rfl, K1, R1, g1, rfl⟩
  have F1 := F.kq K1 fCg_52 pCg_52
  have e1 : PE A1 A := fun k _ _ => K1.2.2.1 k (pCg_52 k (by omega))
  have er := F1.2.2.2.2.1.1
  have es := F1.2.2.2.2.1.2.1
  refine ⟨_, rfl, zWp.mono (mm_go ro nv np A W L I1 G1 A1 B1 (242600 * k) a ⟨F1.1.1, e1, F1.1.2.2⟩ F.2.1 F.2.2.1 (by omega) (by omega) (by omega)) ?_⟩
  rintro r2 h2 ⟨I2, G2, A2, B2, rfl, K2, R2, -, rfl⟩
  rw [er, es] at R2 ⊢
  have g := wGoR_ok (so := -1) (u := a) (rec := 1) F.2.1 F.2.2.1 (by omega) (by omega) F.2.2.2.1 rfl
  refine ⟨_, rfl, ?_, rfl⟩
  exact zCx.mk (zRf.of (n := 4000 * k + 3600) R2 F.2.1 g.1 g.2.1 (mId.k K2 rfl rfl rfl F1.2.2.2.2.1) (by have := g.2.2; omega)) (by omega) (by omega) R1 R2.2.1.sy K2 fGo_c pSt_c ow kd (wGoR_lw F.2.1 F.2.2.1 (by omega) (by omega) F.2.2.2.1 lw) g1
theorem pair2_go (ro : UInt32 → Nat × (Nat → Int32)) (k : Nat) (I : Nat → Nat → Int32) (G : Nat → Nat → Int64) (A : Nat → Nat → Int32) (B : Nat → Nat → Int64) (h : zL2 k I G A B) (hk : k < 512) (a : Int32) : zWp ro 87 0 [(0, .ref 0), (1, .int a)] [] (hS I G A B) 0 0 (zP2 ro 152 [(0, .ref 52), (1, .int a)] k (fun v w => v = w)) := by
  obtain ⟨h1, I3, G3, A3, B3, eh, hx⟩ := h
  have p1 := pair_go ro k I G A B h1 hk a
  have p2 := pairX_go ro k I3 G3 A3 B3 hx hk a
  rw [← eh] at p2
  exact zP_and p1 p2
set_option maxHeartbeats 0 in
theorem pairX_now (ro : UInt32 → Nat × (Nat → Int32)) (k : Nat) (I : Nat → Nat → Int32) (G : Nat → Nat → Int64) (A : Nat → Nat → Int32) (B : Nat → Nat → Int64) (h : zCx k I G A B) (C : ∀ nv np W, cRS 11 nv np A W I G A B → MPa nv np A → CV nv np (1216 * k) I) (hk : k < 512) (a : Int32) : zWp ro 88 0 [(0, .ref 0), (1, .int a)] [] (hS I G A B) 0 0 (zPX ro 154 [(0, .ref 52), (1, .int a)] k (fun _ _ => True)) := by
  obtain ⟨nv, np, W, L, F, R, ow, kd, lw, lg⟩ := h
  have fn := F.2.2.2.2.2
  have hC := C nv np W R F.2.1
  refine zWp.mono (dv_X11_now ro nv np (1216 * k) I G A B hC (by omega) a) ?_
  rintro r h1 ⟨I1, G1, A1, B1, rfl, K1, -, v, rfl⟩
  have F1 := F.kp K1 pLv_52
  have e1 : PE A A1 := fun k _ _ => (K1.2.2.1 k (pLv_52 k (by omega))).symm
  have R1 := R.k K1.kq ⟨rfl, rfl⟩ (fun j _ _ => rfl) (fun k h1 h2 => by simp only [pLv, decide_eq_false_iff_not]; omega)
  have g1 := lg.k K1.kq rfl rfl rfl rfl rfl
  refine ⟨_, rfl, zWp.mono (mq_now ro nv np W L I1 G1 A1 B1 (242600 * k) F1.1 F1.2.1 F1.2.2.1 (by omega) F1.2.2.2.1 F1.2.2.2.2.1 a) ?_⟩
  rintro r2 h2 ⟨I2, G2, A2, B2, rfl, K2, id2, w, rfl⟩
  have R2 := F1.1.k K2 fQu_R pQu_R
  refine ⟨_, rfl, ?_, trivial⟩
  exact zCx.mk (zRf.of R2 F1.2.1 F1.2.2.1 F1.2.2.2.1 id2 fn) (by omega) (by omega) R1 (e1.tr R2.2.1.sy) K2 fQu_c pQu_c ow kd lw g1
theorem pair2_now (ro : UInt32 → Nat × (Nat → Int32)) (k : Nat) (I : Nat → Nat → Int32) (G : Nat → Nat → Int64) (A : Nat → Nat → Int32) (B : Nat → Nat → Int64) (h : zL2 k I G A B) (hk : k < 512) (a : Int32) : zWp ro 88 0 [(0, .ref 0), (1, .int a)] [] (hS I G A B) 0 0 (zP2 ro 154 [(0, .ref 52), (1, .int a)] k (fun _ _ => True)) := by
  obtain ⟨h1, I3, G3, A3, B3, eh, hx⟩ := h
  have p1 := pair_now ro k I G A B h1 hk a
  obtain ⟨nv1, np1, W1, L1, C1, -⟩ := h1
  have p2 := pairX_now ro k I3 G3 A3 B3 hx (fun nv np W R hp => CV_h eh C1 R hp) hk a
  rw [← eh] at p2
  exact zP_and p1 p2
set_option maxHeartbeats 0 in
theorem pairX_next (ro : UInt32 → Nat × (Nat → Int32)) (k : Nat) (I : Nat → Nat → Int32) (G : Nat → Nat → Int64) (A : Nat → Nat → Int32) (B : Nat → Nat → Int64) (h : zCx k I G A B) (C : ∀ nv np W, cRS 11 nv np A W I G A B → MPa nv np A → CV nv np (1216 * k) I) (hk : k < 512) (a : Int32) : zWp ro 89 0 [(0, .ref 0), (1, .int a)] [] (hS I G A B) 0 0 (zPY ro 155 [(0, .ref 52), (1, .int a)] k (fun _ _ => True)) := by
  obtain ⟨nv, np, W, L, F, R, ow, kd, lw, lg⟩ := h
  have fn := F.2.2.2.2.2
  have hC := C nv np W R F.2.1
  refine zWp.mono (dv_X11_next ro nv np (1216 * k) I G A B hC (by omega) a) ?_
  rintro r h1 ⟨I1, G1, A1, B1, rfl, K1, -, v, rfl⟩
  have F1 := F.kp K1 pLv_52
  have e1 : PE A A1 := fun k _ _ => (K1.2.2.1 k (pLv_52 k (by omega))).symm
  have R1 := R.k K1.kq ⟨rfl, rfl⟩ (fun j _ _ => rfl) (fun k h1 h2 => by simp only [pLv, decide_eq_false_iff_not]; omega)
  have g1 := lg.k K1.kq rfl rfl rfl rfl rfl
  refine ⟨_, rfl, zWp.mono (mq_next ro nv np W L I1 G1 A1 B1 (242600 * k) F1.1 F1.2.1 F1.2.2.1 (by omega) F1.2.2.2.1 F1.2.2.2.2.1 a) ?_⟩
  rintro r2 h2 ⟨I2, G2, A2, B2, rfl, K2, id2, w, rfl⟩
  have R2 := F1.1.k K2 fQu_R pQu_R
  refine ⟨_, rfl, ?_, trivial⟩
  exact zCx.mk (zRf.of R2 F1.2.1 F1.2.2.1 F1.2.2.2.1 id2 fn) (by omega) (by omega) R1 (e1.tr R2.2.1.sy) K2 fQu_c pQu_c ow kd lw g1
theorem pair2_next (ro : UInt32 → Nat × (Nat → Int32)) (k : Nat) (I : Nat → Nat → Int32) (G : Nat → Nat → Int64) (A : Nat → Nat → Int32) (B : Nat → Nat → Int64) (h : zL2 k I G A B) (hk : k < 512) (a : Int32) : zWp ro 89 0 [(0, .ref 0), (1, .int a)] [] (hS I G A B) 0 0 (zP3 ro 155 [(0, .ref 52), (1, .int a)] k (fun _ _ => True)) := by
  obtain ⟨h1, I3, G3, A3, B3, eh, hx⟩ := h
  have p1 := pair_next ro k I G A B h1 hk a
  obtain ⟨nv1, np1, W1, L1, C1, -⟩ := h1
  have p2 := pairX_next ro k I3 G3 A3 B3 hx (fun nv np W R hp => CV_h eh C1 R hp) hk a
  rw [← eh] at p2
  exact zL_and p1 p2
set_option maxHeartbeats 0 in
theorem pairX_level (ro : UInt32 → Nat × (Nat → Int32)) (k : Nat) (I : Nat → Nat → Int32) (G : Nat → Nat → Int64) (A : Nat → Nat → Int32) (B : Nat → Nat → Int64) (h : zCx k I G A B) (C : ∀ nv np W, cRS 11 nv np A W I G A B → MPa nv np A → CV nv np (1216 * k) I) (hk : k < 512) (a : Int32) (b : Int32) : zWp ro 90 0 [(0, .ref 0), (1, .int a), (2, .int b)] [] (hS I G A B) 0 0 (zPX ro 156 [(0, .ref 52), (1, .int a), (2, .int b)] k (fun _ _ => True)) := by
  obtain ⟨nv, np, W, L, F, R, ow, kd, lw, lg⟩ := h
  have fn := F.2.2.2.2.2
  have hC := C nv np W R F.2.1
  refine zWp.mono (dv_X11_level ro nv np (1216 * k) I G A B hC (by omega) a b) ?_
  rintro r h1 ⟨I1, G1, A1, B1, rfl, K1, -, v, rfl⟩
  have F1 := F.kp K1 pLv_52
  have e1 : PE A A1 := fun k _ _ => (K1.2.2.1 k (pLv_52 k (by omega))).symm
  have R1 := R.k K1.kq ⟨rfl, rfl⟩ (fun j _ _ => rfl) (fun k h1 h2 => by simp only [pLv, decide_eq_false_iff_not]; omega)
  have g1 := lg.k K1.kq rfl rfl rfl rfl rfl
  refine ⟨_, rfl, zWp.mono (mq_level ro nv np W L I1 G1 A1 B1 (242600 * k) F1.1 F1.2.1 F1.2.2.1 (by omega) F1.2.2.2.1 F1.2.2.2.2.1 a b) ?_⟩
  rintro r2 h2 ⟨I2, G2, A2, B2, rfl, K2, id2, w, rfl⟩
  have R2 := F1.1.k K2 fQu_R pQu_R
  refine ⟨_, rfl, ?_, trivial⟩
  exact zCx.mk (zRf.of R2 F1.2.1 F1.2.2.1 F1.2.2.2.1 id2 fn) (by omega) (by omega) R1 (e1.tr R2.2.1.sy) K2 fQu_c pQu_c ow kd lw g1
theorem pair2_level (ro : UInt32 → Nat × (Nat → Int32)) (k : Nat) (I : Nat → Nat → Int32) (G : Nat → Nat → Int64) (A : Nat → Nat → Int32) (B : Nat → Nat → Int64) (h : zL2 k I G A B) (hk : k < 512) (a : Int32) (b : Int32) : zWp ro 90 0 [(0, .ref 0), (1, .int a), (2, .int b)] [] (hS I G A B) 0 0 (zP2 ro 156 [(0, .ref 52), (1, .int a), (2, .int b)] k (fun _ _ => True)) := by
  obtain ⟨h1, I3, G3, A3, B3, eh, hx⟩ := h
  have p1 := pair_level ro k I G A B h1 hk a b
  obtain ⟨nv1, np1, W1, L1, C1, -⟩ := h1
  have p2 := pairX_level ro k I3 G3 A3 B3 hx (fun nv np W R hp => CV_h eh C1 R hp) hk a b
  rw [← eh] at p2
  exact zP_and p1 p2
set_option maxHeartbeats 0 in
theorem pairX_rate (ro : UInt32 → Nat × (Nat → Int32)) (k : Nat) (I : Nat → Nat → Int32) (G : Nat → Nat → Int64) (A : Nat → Nat → Int32) (B : Nat → Nat → Int64) (h : zCx k I G A B) (C : ∀ nv np W, cRS 11 nv np A W I G A B → MPa nv np A → CV nv np (1216 * k) I) (hk : k < 512) (a : Int32) : zWp ro 91 0 [(0, .ref 0), (1, .int a)] [] (hS I G A B) 0 0 (zPX ro 157 [(0, .ref 52), (1, .int a)] k (fun _ _ => True)) := by
  obtain ⟨nv, np, W, L, F, R, ow, kd, lw, lg⟩ := h
  have fn := F.2.2.2.2.2
  have hC := C nv np W R F.2.1
  refine zWp.mono (dv_X11_rate ro nv np (1216 * k) I G A B hC (by omega) a) ?_
  rintro r h1 ⟨I1, G1, A1, B1, rfl, K1, -, v, rfl⟩
  have F1 := F.kp K1 pLv_52
  have e1 : PE A A1 := fun k _ _ => (K1.2.2.1 k (pLv_52 k (by omega))).symm
  have R1 := R.k K1.kq ⟨rfl, rfl⟩ (fun j _ _ => rfl) (fun k h1 h2 => by simp only [pLv, decide_eq_false_iff_not]; omega)
  have g1 := lg.k K1.kq rfl rfl rfl rfl rfl
  refine ⟨_, rfl, zWp.mono (mq_rate ro nv np W L I1 G1 A1 B1 (242600 * k) F1.1 F1.2.1 F1.2.2.1 (by omega) F1.2.2.2.1 F1.2.2.2.2.1 a) ?_⟩
  rintro r2 h2 ⟨I2, G2, A2, B2, rfl, K2, id2, w, rfl⟩
  have R2 := F1.1.k K2 fQu_R pQu_R
  refine ⟨_, rfl, ?_, trivial⟩
  exact zCx.mk (zRf.of R2 F1.2.1 F1.2.2.1 F1.2.2.2.1 id2 fn) (by omega) (by omega) R1 (e1.tr R2.2.1.sy) K2 fQu_c pQu_c ow kd lw g1
theorem pair2_rate (ro : UInt32 → Nat × (Nat → Int32)) (k : Nat) (I : Nat → Nat → Int32) (G : Nat → Nat → Int64) (A : Nat → Nat → Int32) (B : Nat → Nat → Int64) (h : zL2 k I G A B) (hk : k < 512) (a : Int32) : zWp ro 91 0 [(0, .ref 0), (1, .int a)] [] (hS I G A B) 0 0 (zP2 ro 157 [(0, .ref 52), (1, .int a)] k (fun _ _ => True)) := by
  obtain ⟨h1, I3, G3, A3, B3, eh, hx⟩ := h
  have p1 := pair_rate ro k I G A B h1 hk a
  obtain ⟨nv1, np1, W1, L1, C1, -⟩ := h1
  have p2 := pairX_rate ro k I3 G3 A3 B3 hx (fun nv np W R hp => CV_h eh C1 R hp) hk a
  rw [← eh] at p2
  exact zP_and p1 p2
set_option maxHeartbeats 0 in
theorem pairX_flow (ro : UInt32 → Nat × (Nat → Int32)) (k : Nat) (I : Nat → Nat → Int32) (G : Nat → Nat → Int64) (A : Nat → Nat → Int32) (B : Nat → Nat → Int64) (h : zCx k I G A B) (C : ∀ nv np W, cRS 11 nv np A W I G A B → MPa nv np A → CV nv np (1216 * k) I) (hk : k < 512) (a : Int32) : zWp ro 92 0 [(0, .ref 0), (1, .int a)] [] (hS I G A B) 0 0 (zPX ro 158 [(0, .ref 52), (1, .int a)] k (fun _ _ => True)) := by
  obtain ⟨nv, np, W, L, F, R, ow, kd, lw, lg⟩ := h
  have fn := F.2.2.2.2.2
  have hC := C nv np W R F.2.1
  refine zWp.mono (dv_X11_flow ro nv np (1216 * k) I G A B hC (by omega) a) ?_
  rintro r h1 ⟨I1, G1, A1, B1, rfl, K1, -, v, rfl⟩
  have F1 := F.kp K1 pLv_52
  have e1 : PE A A1 := fun k _ _ => (K1.2.2.1 k (pLv_52 k (by omega))).symm
  have R1 := R.k K1.kq ⟨rfl, rfl⟩ (fun j _ _ => rfl) (fun k h1 h2 => by simp only [pLv, decide_eq_false_iff_not]; omega)
  have g1 := lg.k K1.kq rfl rfl rfl rfl rfl
  refine ⟨_, rfl, zWp.mono (mq_flow ro nv np W L I1 G1 A1 B1 (242600 * k) F1.1 F1.2.1 F1.2.2.1 (by omega) F1.2.2.2.1 F1.2.2.2.2.1 a) ?_⟩
  rintro r2 h2 ⟨I2, G2, A2, B2, rfl, K2, id2, w, rfl⟩
  have R2 := F1.1.k K2 fQu_R pQu_R
  refine ⟨_, rfl, ?_, trivial⟩
  exact zCx.mk (zRf.of R2 F1.2.1 F1.2.2.1 F1.2.2.2.1 id2 fn) (by omega) (by omega) R1 (e1.tr R2.2.1.sy) K2 fQu_c pQu_c ow kd lw g1
theorem pair2_flow (ro : UInt32 → Nat × (Nat → Int32)) (k : Nat) (I : Nat → Nat → Int32) (G : Nat → Nat → Int64) (A : Nat → Nat → Int32) (B : Nat → Nat → Int64) (h : zL2 k I G A B) (hk : k < 512) (a : Int32) : zWp ro 92 0 [(0, .ref 0), (1, .int a)] [] (hS I G A B) 0 0 (zP2 ro 158 [(0, .ref 52), (1, .int a)] k (fun _ _ => True)) := by
  obtain ⟨h1, I3, G3, A3, B3, eh, hx⟩ := h
  have p1 := pair_flow ro k I G A B h1 hk a
  obtain ⟨nv1, np1, W1, L1, C1, -⟩ := h1
  have p2 := pairX_flow ro k I3 G3 A3 B3 hx (fun nv np W R hp => CV_h eh C1 R hp) hk a
  rw [← eh] at p2
  exact zP_and p1 p2
set_option maxHeartbeats 0 in
theorem pairX_flood (ro : UInt32 → Nat × (Nat → Int32)) (k : Nat) (I : Nat → Nat → Int32) (G : Nat → Nat → Int64) (A : Nat → Nat → Int32) (B : Nat → Nat → Int64) (h : zCx k I G A B) (C : ∀ nv np W, cRS 11 nv np A W I G A B → MPa nv np A → CV nv np (1216 * k) I) (hk : k < 512) (a : Int32) : zWp ro 93 0 [(0, .ref 0), (1, .int a)] [] (hS I G A B) 0 0 (zPX ro 159 [(0, .ref 52), (1, .int a)] k (fun _ _ => True)) := by
  obtain ⟨nv, np, W, L, F, R, ow, kd, lw, lg⟩ := h
  have fn := F.2.2.2.2.2
  have hC := C nv np W R F.2.1
  refine zWp.mono (dv_X11_flood ro nv np (1216 * k) I G A B hC (by omega) a) ?_
  rintro r h1 ⟨I1, G1, A1, B1, rfl, K1, -, v, rfl⟩
  have F1 := F.kp K1 pLv_52
  have e1 : PE A A1 := fun k _ _ => (K1.2.2.1 k (pLv_52 k (by omega))).symm
  have R1 := R.k K1.kq ⟨rfl, rfl⟩ (fun j _ _ => rfl) (fun k h1 h2 => by simp only [pLv, decide_eq_false_iff_not]; omega)
  have g1 := lg.k K1.kq rfl rfl rfl rfl rfl
  refine ⟨_, rfl, zWp.mono (mq_flood ro nv np W L I1 G1 A1 B1 (242600 * k) F1.1 F1.2.1 F1.2.2.1 (by omega) F1.2.2.2.1 F1.2.2.2.2.1 a) ?_⟩
  rintro r2 h2 ⟨I2, G2, A2, B2, rfl, K2, id2, w, rfl⟩
  have R2 := F1.1.k K2 fQu_R pQu_R
  refine ⟨_, rfl, ?_, trivial⟩
  exact zCx.mk (zRf.of R2 F1.2.1 F1.2.2.1 F1.2.2.2.1 id2 fn) (by omega) (by omega) R1 (e1.tr R2.2.1.sy) K2 fQu_c pQu_c ow kd lw g1
theorem pair2_flood (ro : UInt32 → Nat × (Nat → Int32)) (k : Nat) (I : Nat → Nat → Int32) (G : Nat → Nat → Int64) (A : Nat → Nat → Int32) (B : Nat → Nat → Int64) (h : zL2 k I G A B) (hk : k < 512) (a : Int32) : zWp ro 93 0 [(0, .ref 0), (1, .int a)] [] (hS I G A B) 0 0 (zP2 ro 159 [(0, .ref 52), (1, .int a)] k (fun _ _ => True)) := by
  obtain ⟨h1, I3, G3, A3, B3, eh, hx⟩ := h
  have p1 := pair_flood ro k I G A B h1 hk a
  obtain ⟨nv1, np1, W1, L1, C1, -⟩ := h1
  have p2 := pairX_flood ro k I3 G3 A3 B3 hx (fun nv np W R hp => CV_h eh C1 R hp) hk a
  rw [← eh] at p2
  exact zP_and p1 p2
set_option maxHeartbeats 0 in
theorem pairX_told (ro : UInt32 → Nat × (Nat → Int32)) (k : Nat) (I : Nat → Nat → Int32) (G : Nat → Nat → Int64) (A : Nat → Nat → Int32) (B : Nat → Nat → Int64) (h : zCx k I G A B) (C : ∀ nv np W, cRS 11 nv np A W I G A B → MPa nv np A → CV nv np (1216 * k) I) (hk : k < 512) (a : Int32) (b : Int32) : zWp ro 94 0 [(0, .ref 0), (1, .int a), (2, .int b)] [] (hS I G A B) 0 0 (zPX ro 160 [(0, .ref 52), (1, .int a), (2, .int b)] k (fun _ _ => True)) := by
  obtain ⟨nv, np, W, L, F, R, ow, kd, lw, lg⟩ := h
  have fn := F.2.2.2.2.2
  have hC := C nv np W R F.2.1
  refine zWp.mono (dv_X11_told ro nv np (1216 * k) I G A B hC (by omega) a b) ?_
  rintro r h1 ⟨I1, G1, A1, B1, rfl, K1, -, v, rfl⟩
  have F1 := F.kp K1 pLv_52
  have e1 : PE A A1 := fun k _ _ => (K1.2.2.1 k (pLv_52 k (by omega))).symm
  have R1 := R.k K1.kq ⟨rfl, rfl⟩ (fun j _ _ => rfl) (fun k h1 h2 => by simp only [pLv, decide_eq_false_iff_not]; omega)
  have g1 := lg.k K1.kq rfl rfl rfl rfl rfl
  refine ⟨_, rfl, zWp.mono (mq_told ro nv np W L I1 G1 A1 B1 (242600 * k) F1.1 F1.2.1 F1.2.2.1 (by omega) F1.2.2.2.1 F1.2.2.2.2.1 a b) ?_⟩
  rintro r2 h2 ⟨I2, G2, A2, B2, rfl, K2, id2, w, rfl⟩
  have R2 := F1.1.k K2 fQu_R pQu_R
  refine ⟨_, rfl, ?_, trivial⟩
  exact zCx.mk (zRf.of R2 F1.2.1 F1.2.2.1 F1.2.2.2.1 id2 fn) (by omega) (by omega) R1 (e1.tr R2.2.1.sy) K2 fQu_c pQu_c ow kd lw g1
theorem pair2_told (ro : UInt32 → Nat × (Nat → Int32)) (k : Nat) (I : Nat → Nat → Int32) (G : Nat → Nat → Int64) (A : Nat → Nat → Int32) (B : Nat → Nat → Int64) (h : zL2 k I G A B) (hk : k < 512) (a : Int32) (b : Int32) : zWp ro 94 0 [(0, .ref 0), (1, .int a), (2, .int b)] [] (hS I G A B) 0 0 (zP2 ro 160 [(0, .ref 52), (1, .int a), (2, .int b)] k (fun _ _ => True)) := by
  obtain ⟨h1, I3, G3, A3, B3, eh, hx⟩ := h
  have p1 := pair_told ro k I G A B h1 hk a b
  obtain ⟨nv1, np1, W1, L1, C1, -⟩ := h1
  have p2 := pairX_told ro k I3 G3 A3 B3 hx (fun nv np W R hp => CV_h eh C1 R hp) hk a b
  rw [← eh] at p2
  exact zP_and p1 p2
set_option maxHeartbeats 0 in
theorem pairX_pipeTold (ro : UInt32 → Nat × (Nat → Int32)) (k : Nat) (I : Nat → Nat → Int32) (G : Nat → Nat → Int64) (A : Nat → Nat → Int32) (B : Nat → Nat → Int64) (h : zCx k I G A B) (C : ∀ nv np W, cRS 11 nv np A W I G A B → MPa nv np A → CV nv np (1216 * k) I) (hk : k < 512) (a : Int32) (b : Int32) : zWp ro 95 0 [(0, .ref 0), (1, .int a), (2, .int b)] [] (hS I G A B) 0 0 (zPX ro 161 [(0, .ref 52), (1, .int a), (2, .int b)] k (fun _ _ => True)) := by
  obtain ⟨nv, np, W, L, F, R, ow, kd, lw, lg⟩ := h
  have fn := F.2.2.2.2.2
  have hC := C nv np W R F.2.1
  refine zWp.mono (dv_X11_pipeTold ro nv np (1216 * k) I G A B hC (by omega) a b) ?_
  rintro r h1 ⟨I1, G1, A1, B1, rfl, K1, -, v, rfl⟩
  have F1 := F.kp K1 pLv_52
  have e1 : PE A A1 := fun k _ _ => (K1.2.2.1 k (pLv_52 k (by omega))).symm
  have R1 := R.k K1.kq ⟨rfl, rfl⟩ (fun j _ _ => rfl) (fun k h1 h2 => by simp only [pLv, decide_eq_false_iff_not]; omega)
  have g1 := lg.k K1.kq rfl rfl rfl rfl rfl
  refine ⟨_, rfl, zWp.mono (mq_pipeTold ro nv np W L I1 G1 A1 B1 (242600 * k) F1.1 F1.2.1 F1.2.2.1 (by omega) F1.2.2.2.1 F1.2.2.2.2.1 a b) ?_⟩
  rintro r2 h2 ⟨I2, G2, A2, B2, rfl, K2, id2, w, rfl⟩
  have R2 := F1.1.k K2 fQu_R pQu_R
  refine ⟨_, rfl, ?_, trivial⟩
  exact zCx.mk (zRf.of R2 F1.2.1 F1.2.2.1 F1.2.2.2.1 id2 fn) (by omega) (by omega) R1 (e1.tr R2.2.1.sy) K2 fQu_c pQu_c ow kd lw g1
theorem pair2_pipeTold (ro : UInt32 → Nat × (Nat → Int32)) (k : Nat) (I : Nat → Nat → Int32) (G : Nat → Nat → Int64) (A : Nat → Nat → Int32) (B : Nat → Nat → Int64) (h : zL2 k I G A B) (hk : k < 512) (a : Int32) (b : Int32) : zWp ro 95 0 [(0, .ref 0), (1, .int a), (2, .int b)] [] (hS I G A B) 0 0 (zP2 ro 161 [(0, .ref 52), (1, .int a), (2, .int b)] k (fun _ _ => True)) := by
  obtain ⟨h1, I3, G3, A3, B3, eh, hx⟩ := h
  have p1 := pair_pipeTold ro k I G A B h1 hk a b
  obtain ⟨nv1, np1, W1, L1, C1, -⟩ := h1
  have p2 := pairX_pipeTold ro k I3 G3 A3 B3 hx (fun nv np W R hp => CV_h eh C1 R hp) hk a b
  rw [← eh] at p2
  exact zP_and p1 p2
set_option maxHeartbeats 0 in
theorem pairX_count (ro : UInt32 → Nat × (Nat → Int32)) (k : Nat) (I : Nat → Nat → Int32) (G : Nat → Nat → Int64) (A : Nat → Nat → Int32) (B : Nat → Nat → Int64) (h : zCx k I G A B) (C : ∀ nv np W, cRS 11 nv np A W I G A B → MPa nv np A → CV nv np (1216 * k) I) (hk : k < 512) (a : Int32) : zWp ro 96 0 [(0, .ref 0), (1, .int a)] [] (hS I G A B) 0 0 (zPX ro 162 [(0, .ref 52), (1, .int a)] k (fun _ _ => True)) := by
  obtain ⟨nv, np, W, L, F, R, ow, kd, lw, lg⟩ := h
  have fn := F.2.2.2.2.2
  have hC := C nv np W R F.2.1
  refine zWp.mono (dv_X11_count ro nv np (1216 * k) I G A B hC (by omega) a) ?_
  rintro r h1 ⟨I1, G1, A1, B1, rfl, K1, -, v, rfl⟩
  have F1 := F.kp K1 pLv_52
  have e1 : PE A A1 := fun k _ _ => (K1.2.2.1 k (pLv_52 k (by omega))).symm
  have R1 := R.k K1.kq ⟨rfl, rfl⟩ (fun j _ _ => rfl) (fun k h1 h2 => by simp only [pLv, decide_eq_false_iff_not]; omega)
  have g1 := lg.k K1.kq rfl rfl rfl rfl rfl
  refine ⟨_, rfl, zWp.mono (mq_count ro nv np W L I1 G1 A1 B1 (242600 * k) F1.1 F1.2.1 F1.2.2.1 (by omega) F1.2.2.2.1 F1.2.2.2.2.1 a) ?_⟩
  rintro r2 h2 ⟨I2, G2, A2, B2, rfl, K2, id2, w, rfl⟩
  have R2 := F1.1.k K2 fQu_R pQu_R
  refine ⟨_, rfl, ?_, trivial⟩
  exact zCx.mk (zRf.of R2 F1.2.1 F1.2.2.1 F1.2.2.2.1 id2 fn) (by omega) (by omega) R1 (e1.tr R2.2.1.sy) K2 fQu_c pQu_c ow kd lw g1
theorem pair2_count (ro : UInt32 → Nat × (Nat → Int32)) (k : Nat) (I : Nat → Nat → Int32) (G : Nat → Nat → Int64) (A : Nat → Nat → Int32) (B : Nat → Nat → Int64) (h : zL2 k I G A B) (hk : k < 512) (a : Int32) : zWp ro 96 0 [(0, .ref 0), (1, .int a)] [] (hS I G A B) 0 0 (zP2 ro 162 [(0, .ref 52), (1, .int a)] k (fun _ _ => True)) := by
  obtain ⟨h1, I3, G3, A3, B3, eh, hx⟩ := h
  have p1 := pair_count ro k I G A B h1 hk a
  obtain ⟨nv1, np1, W1, L1, C1, -⟩ := h1
  have p2 := pairX_count ro k I3 G3 A3 B3 hx (fun nv np W R hp => CV_h eh C1 R hp) hk a
  rw [← eh] at p2
  exact zP_and p1 p2
set_option maxHeartbeats 0 in
theorem pairX_event (ro : UInt32 → Nat × (Nat → Int32)) (k : Nat) (I : Nat → Nat → Int32) (G : Nat → Nat → Int64) (A : Nat → Nat → Int32) (B : Nat → Nat → Int64) (h : zCx k I G A B) (C : ∀ nv np W, cRS 11 nv np A W I G A B → MPa nv np A → CV nv np (1216 * k) I) (hk : k < 512) (a : Int32) (b : Int32) : zWp ro 97 0 [(0, .ref 0), (1, .int a), (2, .int b)] [] (hS I G A B) 0 0 (zPX ro 163 [(0, .ref 52), (1, .int a), (2, .int b)] k (fun _ _ => True)) := by
  obtain ⟨nv, np, W, L, F, R, ow, kd, lw, lg⟩ := h
  have fn := F.2.2.2.2.2
  have hC := C nv np W R F.2.1
  refine zWp.mono (dv_X11_event ro nv np (1216 * k) I G A B hC (by omega) a b) ?_
  rintro r h1 ⟨I1, G1, A1, B1, rfl, K1, -, v, rfl⟩
  have F1 := F.kp K1 pLv_52
  have e1 : PE A A1 := fun k _ _ => (K1.2.2.1 k (pLv_52 k (by omega))).symm
  have R1 := R.k K1.kq ⟨rfl, rfl⟩ (fun j _ _ => rfl) (fun k h1 h2 => by simp only [pLv, decide_eq_false_iff_not]; omega)
  have g1 := lg.k K1.kq rfl rfl rfl rfl rfl
  refine ⟨_, rfl, zWp.mono (mq_event ro nv np W L I1 G1 A1 B1 (242600 * k) F1.1 F1.2.1 F1.2.2.1 (by omega) F1.2.2.2.1 F1.2.2.2.2.1 a b) ?_⟩
  rintro r2 h2 ⟨I2, G2, A2, B2, rfl, K2, id2, w, rfl⟩
  have R2 := F1.1.k K2 fQu_R pQu_R
  refine ⟨_, rfl, ?_, trivial⟩
  exact zCx.mk (zRf.of R2 F1.2.1 F1.2.2.1 F1.2.2.2.1 id2 fn) (by omega) (by omega) R1 (e1.tr R2.2.1.sy) K2 fQu_c pQu_c ow kd lw g1
theorem pair2_event (ro : UInt32 → Nat × (Nat → Int32)) (k : Nat) (I : Nat → Nat → Int32) (G : Nat → Nat → Int64) (A : Nat → Nat → Int32) (B : Nat → Nat → Int64) (h : zL2 k I G A B) (hk : k < 512) (a : Int32) (b : Int32) : zWp ro 97 0 [(0, .ref 0), (1, .int a), (2, .int b)] [] (hS I G A B) 0 0 (zP2 ro 163 [(0, .ref 52), (1, .int a), (2, .int b)] k (fun _ _ => True)) := by
  obtain ⟨h1, I3, G3, A3, B3, eh, hx⟩ := h
  have p1 := pair_event ro k I G A B h1 hk a b
  obtain ⟨nv1, np1, W1, L1, C1, -⟩ := h1
  have p2 := pairX_event ro k I3 G3 A3 B3 hx (fun nv np W R hp => CV_h eh C1 R hp) hk a b
  rw [← eh] at p2
  exact zP_and p1 p2
set_option maxHeartbeats 0 in
theorem pairX_sum (ro : UInt32 → Nat × (Nat → Int32)) (k : Nat) (I : Nat → Nat → Int32) (G : Nat → Nat → Int64) (A : Nat → Nat → Int32) (B : Nat → Nat → Int64) (h : zCx k I G A B) (C : ∀ nv np W, cRS 11 nv np A W I G A B → MPa nv np A → CV nv np (1216 * k) I) (hk : k < 512) (a : Int32) : zWp ro 98 0 [(0, .ref 0), (1, .int a)] [] (hS I G A B) 0 0 (zPY ro 164 [(0, .ref 52), (1, .int a)] k (fun _ _ => True)) := by
  obtain ⟨nv, np, W, L, F, R, ow, kd, lw, lg⟩ := h
  have fn := F.2.2.2.2.2
  have hC := C nv np W R F.2.1
  refine zWp.mono (dv_X11_sum ro nv np (1216 * k) I G A B hC (by omega) a) ?_
  rintro r h1 ⟨I1, G1, A1, B1, rfl, K1, -, v, rfl⟩
  have F1 := F.kp K1 pLv_52
  have e1 : PE A A1 := fun k _ _ => (K1.2.2.1 k (pLv_52 k (by omega))).symm
  have R1 := R.k K1.kq ⟨rfl, rfl⟩ (fun j _ _ => rfl) (fun k h1 h2 => by simp only [pLv, decide_eq_false_iff_not]; omega)
  have g1 := lg.k K1.kq rfl rfl rfl rfl rfl
  refine ⟨_, rfl, zWp.mono (mq_sum ro nv np W L I1 G1 A1 B1 (242600 * k) F1.1 F1.2.1 F1.2.2.1 (by omega) F1.2.2.2.1 F1.2.2.2.2.1 a) ?_⟩
  rintro r2 h2 ⟨I2, G2, A2, B2, rfl, K2, id2, w, rfl⟩
  have R2 := F1.1.k K2 fQu_R pQu_R
  refine ⟨_, rfl, ?_, trivial⟩
  exact zCx.mk (zRf.of R2 F1.2.1 F1.2.2.1 F1.2.2.2.1 id2 fn) (by omega) (by omega) R1 (e1.tr R2.2.1.sy) K2 fQu_c pQu_c ow kd lw g1
theorem pair2_sum (ro : UInt32 → Nat × (Nat → Int32)) (k : Nat) (I : Nat → Nat → Int32) (G : Nat → Nat → Int64) (A : Nat → Nat → Int32) (B : Nat → Nat → Int64) (h : zL2 k I G A B) (hk : k < 512) (a : Int32) : zWp ro 98 0 [(0, .ref 0), (1, .int a)] [] (hS I G A B) 0 0 (zP3 ro 164 [(0, .ref 52), (1, .int a)] k (fun _ _ => True)) := by
  obtain ⟨h1, I3, G3, A3, B3, eh, hx⟩ := h
  have p1 := pair_sum ro k I G A B h1 hk a
  obtain ⟨nv1, np1, W1, L1, C1, -⟩ := h1
  have p2 := pairX_sum ro k I3 G3 A3 B3 hx (fun nv np W R hp => CV_h eh C1 R hp) hk a
  rw [← eh] at p2
  exact zL_and p1 p2
set_option maxHeartbeats 0 in
theorem pairX_round (ro : UInt32 → Nat × (Nat → Int32)) (k : Nat) (I : Nat → Nat → Int32) (G : Nat → Nat → Int64) (A : Nat → Nat → Int32) (B : Nat → Nat → Int64) (h : zCx k I G A B) (C : ∀ nv np W, cRS 11 nv np A W I G A B → MPa nv np A → CV nv np (1216 * k) I) (hk : k < 512) (a : Int32) : zWp ro 99 0 [(0, .ref 0), (1, .int a)] [] (hS I G A B) 0 0 (zPX ro 170 [(0, .ref 52), (1, .int a)] k (fun _ _ => True)) := by
  obtain ⟨nv, np, W, L, F, R, ow, kd, lw, lg⟩ := h
  have fn := F.2.2.2.2.2
  have hC := C nv np W R F.2.1
  refine zWp.mono (dv_X11_round ro nv np (1216 * k) I G A B hC (by omega) a) ?_
  rintro r h1 ⟨I1, G1, A1, B1, rfl, K1, -, v, rfl⟩
  have F1 := F.kp K1 pLv_52
  have e1 : PE A A1 := fun k _ _ => (K1.2.2.1 k (pLv_52 k (by omega))).symm
  have R1 := R.k K1.kq ⟨rfl, rfl⟩ (fun j _ _ => rfl) (fun k h1 h2 => by simp only [pLv, decide_eq_false_iff_not]; omega)
  have g1 := lg.k K1.kq rfl rfl rfl rfl rfl
  refine ⟨_, rfl, zWp.mono (mm_round ro nv np A1 W L I1 G1 A1 B1 (242600 * k) a F1.1 F1.2.1 F1.2.2.1 (by omega) (by omega) (by omega) F1.2.2.2.2.1.1) ?_⟩
  rintro r2 h2 ⟨I2, G2, A2, B2, rfl, K2, ⟨L2, R2, ar, ln⟩, i1, w, rfl⟩
  refine ⟨_, rfl, ?_, trivial⟩
  obtain ⟨t, t1, t2⟩ := F1.2.2.2.2.1.2.2
  exact zCx.mk (zRf.of R2 F1.2.1 F1.2.2.1 (qArr.lg F1.2.2.2.1 ar ln) ⟨i1, (K2.1 52 41 rfl).trans F1.2.2.2.2.1.2.1, t, t1, (K2.1 52 29 rfl).trans t2⟩ (by rw [ln]; exact fn)) (by omega) (by omega) R1 (e1.tr R2.2.1.sy) K2 fRo_c pRo_c ow kd lw (g1.ar ar ln)
theorem pair2_round (ro : UInt32 → Nat × (Nat → Int32)) (k : Nat) (I : Nat → Nat → Int32) (G : Nat → Nat → Int64) (A : Nat → Nat → Int32) (B : Nat → Nat → Int64) (h : zL2 k I G A B) (hk : k < 512) (a : Int32) : zWp ro 99 0 [(0, .ref 0), (1, .int a)] [] (hS I G A B) 0 0 (zP2 ro 170 [(0, .ref 52), (1, .int a)] k (fun _ _ => True)) := by
  obtain ⟨h1, I3, G3, A3, B3, eh, hx⟩ := h
  have p1 := pair_round ro k I G A B h1 hk a
  obtain ⟨nv1, np1, W1, L1, C1, -⟩ := h1
  have p2 := pairX_round ro k I3 G3 A3 B3 hx (fun nv np W R hp => CV_h eh C1 R hp) hk a
  rw [← eh] at p2
  exact zP_and p1 p2
set_option maxHeartbeats 0 in
theorem pairX_tune (ro : UInt32 → Nat × (Nat → Int32)) (k : Nat) (I : Nat → Nat → Int32) (G : Nat → Nat → Int64) (A : Nat → Nat → Int32) (B : Nat → Nat → Int64) (h : zCx k I G A B) (C : ∀ nv np W, cRS 11 nv np A W I G A B → MPa nv np A → CV nv np (1216 * k) I) (hk : k < 512) (a : Int32) (b : Int32) (c : Int32) (d : Int32) (e : Int32) : zWp ro 100 0 [(0, .ref 0), (1, .int a), (2, .int b), (3, .int c), (4, .int d), (5, .int e)] [] (hS I G A B) 0 0 (zPX ro 172 [(0, .ref 52), (1, .int a), (2, .int b), (3, .int c), (4, .int d), (5, .int e)] k (fun _ _ => True)) := by
  obtain ⟨nv, np, W, L, F, R, ow, kd, lw, lg⟩ := h
  have fn := F.2.2.2.2.2
  have hC := C nv np W R F.2.1
  refine zWp.mono (dm_tune ro nv np (1216 * k) I G A B hC (by omega) (kd.pe R.2.1) a b c d e) ?_
  rintro r h1 ⟨I1, G1, A1, B1, rfl, K1, -, v, rfl⟩
  have F1 := F.kp K1 pLv_52
  have e1 : PE A A1 := fun k _ _ => (K1.2.2.1 k (pLv_52 k (by omega))).symm
  have R1 := R.k K1.kq ⟨rfl, rfl⟩ (fun j _ _ => rfl) (fun k h1 h2 => by simp only [pLv, decide_eq_false_iff_not]; omega)
  have g1 := lg.k K1.kq rfl rfl rfl rfl rfl
  refine ⟨_, rfl, zWp.mono (mm_tune ro nv np A1 W L I1 G1 A1 B1 (242600 * k) a b c d e F1.1 F1.2.1 F1.2.2.1 (by omega) (by omega) (by omega) F1.2.2.2.2.1.1 F1.2.2.2.2.1.2.1) ?_⟩
  rintro r2 h2 ⟨I2, G2, A2, B2, rfl, K2, ⟨L2, R2, ar, ln⟩, ⟨i1, i2⟩, w, -, rfl⟩
  refine ⟨_, rfl, ?_, trivial⟩
  obtain ⟨t, t1, t2⟩ := F1.2.2.2.2.1.2.2
  exact zCx.mk (zRf.of R2 F1.2.1 F1.2.2.1 (qArr.lg F1.2.2.2.1 ar ln) ⟨i1, i2, t, t1, (K2.1 52 29 rfl).trans t2⟩ (by rw [ln]; exact fn)) (by omega) (by omega) R1 (e1.tr R2.2.1.sy) K2 fTu_c pTu_c ow kd lw (g1.ar ar ln)
theorem pair2_tune (ro : UInt32 → Nat × (Nat → Int32)) (k : Nat) (I : Nat → Nat → Int32) (G : Nat → Nat → Int64) (A : Nat → Nat → Int32) (B : Nat → Nat → Int64) (h : zL2 k I G A B) (hk : k < 512) (a : Int32) (b : Int32) (c : Int32) (d : Int32) (e : Int32) : zWp ro 100 0 [(0, .ref 0), (1, .int a), (2, .int b), (3, .int c), (4, .int d), (5, .int e)] [] (hS I G A B) 0 0 (zP2 ro 172 [(0, .ref 52), (1, .int a), (2, .int b), (3, .int c), (4, .int d), (5, .int e)] k (fun _ _ => True)) := by
  obtain ⟨h1, I3, G3, A3, B3, eh, hx⟩ := h
  have p1 := pair_tune ro k I G A B h1 hk a b c d e
  obtain ⟨nv1, np1, W1, L1, C1, -⟩ := h1
  have p2 := pairX_tune ro k I3 G3 A3 B3 hx (fun nv np W R hp => CV_h eh C1 R hp) hk a b c d e
  rw [← eh] at p2
  exact zP_and p1 p2
set_option maxHeartbeats 0 in
theorem pairX_act (ro : UInt32 → Nat × (Nat → Int32)) (k : Nat) (I : Nat → Nat → Int32) (G : Nat → Nat → Int64) (A : Nat → Nat → Int32) (B : Nat → Nat → Int64) (h : zCx k I G A B) (C : ∀ nv np W, cRS 11 nv np A W I G A B → MPa nv np A → CV nv np (1216 * k) I) (hk : k < 512) (hro : (ro 1).1 = 5 ∧ (ro 1).2 = zka) (a : Int32) (b : Int32) (c : Int32) : zWp ro 101 0 [(0, .ref 0), (1, .int a), (2, .int b), (3, .int c)] [] (hS I G A B) 0 0 (zPX ro 180 [(0, .ref 52), (1, .int a), (2, .int b), (3, .int c)] k (fun _ _ => True)) := by
  obtain ⟨nv, np, W, L, F, R, ow, kd, lw, lg⟩ := h
  have fn := F.2.2.2.2.2
  have hC := C nv np W R F.2.1
  refine zWp.mono (dm_act ro nv np (1216 * k) I G A B hC (by omega) (kd.pe R.2.1) hro a b c) ?_
  rintro r h1 ⟨I1, G1, A1, B1, rfl, K1, -, v, rfl⟩
  have F1 := F.kp K1 pLvA_52
  have e1 : PE A A1 := fun k _ _ => (K1.2.2.1 k (pLvA_52 k (by omega))).symm
  have R1 := R.k K1.kq ⟨rfl, rfl⟩ (fun j _ _ => rfl) (fun k h1 h2 => by simp only [pLvA, decide_eq_false_iff_not]; omega)
  have g1 := lg.k K1.kq rfl rfl rfl rfl rfl
  refine ⟨_, rfl, zWp.mono (mq_act ro nv np W L I1 G1 A1 B1 (242600 * k) F1.1 F1.2.1 F1.2.2.1 (by omega) F1.2.2.2.1 F1.2.2.2.2.1 a b c) ?_⟩
  rintro r2 h2 ⟨I2, G2, A2, B2, rfl, K2, id2, w, rfl⟩
  have R2 := F1.1.k K2 fQu_R pQu_R
  refine ⟨_, rfl, ?_, trivial⟩
  exact zCx.mk (zRf.of R2 F1.2.1 F1.2.2.1 F1.2.2.2.1 id2 fn) (by omega) (by omega) R1 (e1.tr R2.2.1.sy) K2 fQu_c pQu_c ow kd lw g1
theorem pair2_act (ro : UInt32 → Nat × (Nat → Int32)) (k : Nat) (I : Nat → Nat → Int32) (G : Nat → Nat → Int64) (A : Nat → Nat → Int32) (B : Nat → Nat → Int64) (h : zL2 k I G A B) (hk : k < 512) (hro : (ro 1).1 = 5 ∧ (ro 1).2 = zka) (a : Int32) (b : Int32) (c : Int32) : zWp ro 101 0 [(0, .ref 0), (1, .int a), (2, .int b), (3, .int c)] [] (hS I G A B) 0 0 (zP2 ro 180 [(0, .ref 52), (1, .int a), (2, .int b), (3, .int c)] k (fun _ _ => True)) := by
  obtain ⟨h1, I3, G3, A3, B3, eh, hx⟩ := h
  have p1 := pair_act ro k I G A B h1 hk hro a b c
  obtain ⟨nv1, np1, W1, L1, C1, -⟩ := h1
  have p2 := pairX_act ro k I3 G3 A3 B3 hx (fun nv np W R hp => CV_h eh C1 R hp) hk hro a b c
  rw [← eh] at p2
  exact zP_and p1 p2
set_option maxHeartbeats 0 in
theorem pairX_trace (ro : UInt32 → Nat × (Nat → Int32)) (k : Nat) (I : Nat → Nat → Int32) (G : Nat → Nat → Int64) (A : Nat → Nat → Int32) (B : Nat → Nat → Int64) (h : zCx k I G A B) (C : ∀ nv np W, cRS 11 nv np A W I G A B → MPa nv np A → CV nv np (1216 * k) I) (hk : k < 512) (a : Int32) : zWp ro 102 0 [(0, .ref 0), (1, .int a)] [] (hS I G A B) 0 0 (zPX ro 181 [(0, .ref 52), (1, .int a)] k (fun _ _ => True)) := by
  obtain ⟨nv, np, W, L, F, R, ow, kd, lw, lg⟩ := h
  have fn := F.2.2.2.2.2
  have hC := C nv np W R F.2.1
  refine zWp.mono (dv_X11_trace ro nv np (1216 * k) I G A B hC (by omega) a) ?_
  rintro r h1 ⟨I1, G1, A1, B1, rfl, K1, -, v, rfl⟩
  have F1 := F.kp K1 pLv_52
  have e1 : PE A A1 := fun k _ _ => (K1.2.2.1 k (pLv_52 k (by omega))).symm
  have R1 := R.k K1.kq ⟨rfl, rfl⟩ (fun j _ _ => rfl) (fun k h1 h2 => by simp only [pLv, decide_eq_false_iff_not]; omega)
  have g1 := lg.k K1.kq rfl rfl rfl rfl rfl
  refine ⟨_, rfl, zWp.mono (mq_trace ro nv np W L I1 G1 A1 B1 (242600 * k) F1.1 F1.2.1 F1.2.2.1 (by omega) F1.2.2.2.1 F1.2.2.2.2.1 a) ?_⟩
  rintro r2 h2 ⟨I2, G2, A2, B2, rfl, K2, id2, w, rfl⟩
  have R2 := F1.1.k K2 fQu_R pQu_R
  refine ⟨_, rfl, ?_, trivial⟩
  exact zCx.mk (zRf.of R2 F1.2.1 F1.2.2.1 F1.2.2.2.1 id2 fn) (by omega) (by omega) R1 (e1.tr R2.2.1.sy) K2 fQu_c pQu_c ow kd lw g1
theorem pair2_trace (ro : UInt32 → Nat × (Nat → Int32)) (k : Nat) (I : Nat → Nat → Int32) (G : Nat → Nat → Int64) (A : Nat → Nat → Int32) (B : Nat → Nat → Int64) (h : zL2 k I G A B) (hk : k < 512) (a : Int32) : zWp ro 102 0 [(0, .ref 0), (1, .int a)] [] (hS I G A B) 0 0 (zP2 ro 181 [(0, .ref 52), (1, .int a)] k (fun _ _ => True)) := by
  obtain ⟨h1, I3, G3, A3, B3, eh, hx⟩ := h
  have p1 := pair_trace ro k I G A B h1 hk a
  obtain ⟨nv1, np1, W1, L1, C1, -⟩ := h1
  have p2 := pairX_trace ro k I3 G3 A3 B3 hx (fun nv np W R hp => CV_h eh C1 R hp) hk a
  rw [← eh] at p2
  exact zP_and p1 p2
set_option maxHeartbeats 0 in
theorem pairX_forge (ro : UInt32 → Nat × (Nat → Int32)) (k : Nat) (I : Nat → Nat → Int32) (G : Nat → Nat → Int64) (A : Nat → Nat → Int32) (B : Nat → Nat → Int64) (h : zCx k I G A B) (C : ∀ nv np W, cRS 11 nv np A W I G A B → MPa nv np A → CV nv np (1216 * k) I) (hk : k < 512) (hro : (ro 1).1 = 5 ∧ (ro 1).2 = zka) (a : Int32) (b : Int32) (c : Int32) : zWp ro 103 0 [(0, .ref 0), (1, .int a), (2, .int b), (3, .int c)] [] (hS I G A B) 0 0 (zPX ro 184 [(0, .ref 52), (1, .int a), (2, .int b), (3, .int c)] k (fun _ _ => True)) := by
  obtain ⟨nv, np, W, L, F, R, ow, kd, lw, lg⟩ := h
  have fn := F.2.2.2.2.2
  have hC := C nv np W R F.2.1
  refine zWp.mono (dm_forge ro nv np (1216 * k) I G A B hC (by omega) (kd.pe R.2.1) hro a b c) ?_
  rintro r h1 ⟨I1, G1, A1, B1, rfl, K1, -, v, rfl⟩
  have F1 := F.kp K1 pLv_52
  have e1 : PE A A1 := fun k _ _ => (K1.2.2.1 k (pLv_52 k (by omega))).symm
  have R1 := R.k K1.kq ⟨rfl, rfl⟩ (fun j _ _ => rfl) (fun k h1 h2 => by simp only [pLv, decide_eq_false_iff_not]; omega)
  have g1 := lg.k K1.kq rfl rfl rfl rfl rfl
  refine ⟨_, rfl, zWp.mono (mq_forge ro nv np W L I1 G1 A1 B1 (242600 * k) F1.1 F1.2.1 F1.2.2.1 (by omega) F1.2.2.2.1 F1.2.2.2.2.1 a b c) ?_⟩
  rintro r2 h2 ⟨I2, G2, A2, B2, rfl, K2, id2, w, rfl⟩
  have R2 := F1.1.k K2 fQu_R pQu_R
  refine ⟨_, rfl, ?_, trivial⟩
  exact zCx.mk (zRf.of R2 F1.2.1 F1.2.2.1 F1.2.2.2.1 id2 fn) (by omega) (by omega) R1 (e1.tr R2.2.1.sy) K2 fQu_c pQu_c ow kd lw g1
theorem pair2_forge (ro : UInt32 → Nat × (Nat → Int32)) (k : Nat) (I : Nat → Nat → Int32) (G : Nat → Nat → Int64) (A : Nat → Nat → Int32) (B : Nat → Nat → Int64) (h : zL2 k I G A B) (hk : k < 512) (hro : (ro 1).1 = 5 ∧ (ro 1).2 = zka) (a : Int32) (b : Int32) (c : Int32) : zWp ro 103 0 [(0, .ref 0), (1, .int a), (2, .int b), (3, .int c)] [] (hS I G A B) 0 0 (zP2 ro 184 [(0, .ref 52), (1, .int a), (2, .int b), (3, .int c)] k (fun _ _ => True)) := by
  obtain ⟨h1, I3, G3, A3, B3, eh, hx⟩ := h
  have p1 := pair_forge ro k I G A B h1 hk hro a b c
  obtain ⟨nv1, np1, W1, L1, C1, -⟩ := h1
  have p2 := pairX_forge ro k I3 G3 A3 B3 hx (fun nv np W R hp => CV_h eh C1 R hp) hk hro a b c
  rw [← eh] at p2
  exact zP_and p1 p2
set_option maxHeartbeats 0 in
theorem pairX_status (ro : UInt32 → Nat × (Nat → Int32)) (k : Nat) (I : Nat → Nat → Int32) (G : Nat → Nat → Int64) (A : Nat → Nat → Int32) (B : Nat → Nat → Int64) (h : zCx k I G A B) (C : ∀ nv np W, cRS 11 nv np A W I G A B → MPa nv np A → CV nv np (1216 * k) I) (hk : k < 512)  : zWp ro 104 0 [(0, .ref 0)] [] (hS I G A B) 0 0 (zPX ro 185 [(0, .ref 52)] k (fun _ _ => True)) := by
  obtain ⟨nv, np, W, L, F, R, ow, kd, lw, lg⟩ := h
  have fn := F.2.2.2.2.2
  have hC := C nv np W R F.2.1
  refine zWp.mono (dv_X11_status ro nv np (1216 * k) I G A B hC (by omega) ) ?_
  rintro r h1 ⟨I1, G1, A1, B1, rfl, K1, -, v, rfl⟩
  have F1 := F.kp K1 pLv_52
  have e1 : PE A A1 := fun k _ _ => (K1.2.2.1 k (pLv_52 k (by omega))).symm
  have R1 := R.k K1.kq ⟨rfl, rfl⟩ (fun j _ _ => rfl) (fun k h1 h2 => by simp only [pLv, decide_eq_false_iff_not]; omega)
  have g1 := lg.k K1.kq rfl rfl rfl rfl rfl
  refine ⟨_, rfl, zWp.mono (mq_status ro nv np W L I1 G1 A1 B1 (242600 * k) F1.1 F1.2.1 F1.2.2.1 (by omega) F1.2.2.2.1 F1.2.2.2.2.1 ) ?_⟩
  rintro r2 h2 ⟨I2, G2, A2, B2, rfl, K2, id2, w, rfl⟩
  have R2 := F1.1.k K2 fQu_R pQu_R
  refine ⟨_, rfl, ?_, trivial⟩
  exact zCx.mk (zRf.of R2 F1.2.1 F1.2.2.1 F1.2.2.2.1 id2 fn) (by omega) (by omega) R1 (e1.tr R2.2.1.sy) K2 fQu_c pQu_c ow kd lw g1
theorem pair2_status (ro : UInt32 → Nat × (Nat → Int32)) (k : Nat) (I : Nat → Nat → Int32) (G : Nat → Nat → Int64) (A : Nat → Nat → Int32) (B : Nat → Nat → Int64) (h : zL2 k I G A B) (hk : k < 512)  : zWp ro 104 0 [(0, .ref 0)] [] (hS I G A B) 0 0 (zP2 ro 185 [(0, .ref 52)] k (fun _ _ => True)) := by
  obtain ⟨h1, I3, G3, A3, B3, eh, hx⟩ := h
  have p1 := pair_status ro k I G A B h1 hk 
  obtain ⟨nv1, np1, W1, L1, C1, -⟩ := h1
  have p2 := pairX_status ro k I3 G3 A3 B3 hx (fun nv np W R hp => CV_h eh C1 R hp) hk 
  rw [← eh] at p2
  exact zP_and p1 p2
