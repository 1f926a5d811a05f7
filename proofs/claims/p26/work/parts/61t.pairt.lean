/-! ===== both sides, exact: what holds between two calls ===== -/
/-! a trace: its length and what it holds -/
def lG (l : List Int32) (i : Nat) : Int32 := (l[i]?).getD 0
def cTl (x : Int32) (f : Nat → Int32) (l : List Int32) : Prop := x = nI l.length ∧ ∀ i, i < l.length → f i = lG l i
theorem cTl.e {x y : Int32} {f g : Nat → Int32} {l : List Int32} (h : cTl x f l) (e1 : y = x) (e2 : g = f) : cTl y g l := by
  subst e1; subst e2; exact h
def zCx (k : Nat) (I : Nat → Nat → Int32) (G : Nat → Nat → Int64) (A : Nat → Nat → Int32) (B : Nat → Nat → Int64) : Prop := ∃ nv np W L, zRf nv np (242600 * k) (4000 * k) W L I G A B ∧ cRS 11 nv np A W I G A B ∧ qOw nv np A ∧ qKd nv A ∧ wLc W = 1 ∧ cLg L I A ∧ ∃ tl, cTl (I 44 4) (A 45) tl ∧ cTl (I 52 29) (A 71) tl ∧ tl.length ≤ 50
def zCh (k : Nat) (h : List va_E) : Prop := ∃ I G A B, h = hS I G A B ∧ zCx k I G A B
def zL2 (k : Nat) (I : Nat → Nat → Int32) (G : Nat → Nat → Int64) (A : Nat → Nat → Int32) (B : Nat → Nat → Int64) : Prop := zLI k I G A B ∧ zCh k (hS I G A B)
theorem zr_le {ro : UInt32 → Nat × (Nat → Int32)} {n M pc : Nat} {ls : List (Nat × Value)} {st : List Value} {h : List va_E} {uc us : Nat} {q : Option Value × List va_E} (e : zr ro n M pc ls st h uc us = some q) : ∀ d, zr ro (n + d) M pc ls st h uc us = some q
  | 0 => e
  | d + 1 => zr_more ro (n + d) M pc ls st h uc us q (zr_le e d)
theorem zWp.and {ro : UInt32 → Nat × (Nat → Int32)} {M pc : Nat} {ls : List (Nat × Value)} {st : List Value} {h : List va_E} {uc us : Nat} {p1 p2 : Option Value → List va_E → Prop} (h1 : zWp ro M pc ls st h uc us p1) (h2 : zWp ro M pc ls st h uc us p2) : zWp ro M pc ls st h uc us (fun r x => p1 r x ∧ p2 r x) := by
  obtain ⟨n, r, x, e, q⟩ := h1
  obtain ⟨m, s, y, f, q2⟩ := h2
  have a := zr_le e m
  have b := zr_le f n
  rw [Nat.add_comm m n, a] at b
  have c := Option.some.inj b
  have c1 : r = s := congrArg Prod.fst c
  have c2 : x = y := congrArg Prod.snd c
  subst c1; subst c2
  exact ⟨n, r, x, e, q, q2⟩
def zPX (ro : UInt32 → Nat × (Nat → Int32)) (M : Nat) (la : List (Nat × Value)) (k : Nat) (rel : Int32 → Int32 → Prop) (r : Option Value) (h1 : List va_E) : Prop := ∃ v, r = some (.int v) ∧ zWp ro M 0 la [] h1 0 0 (fun r2 h2 => ∃ w, r2 = some (.int w) ∧ zCh (k + 1) h2 ∧ rel v w)
def zPY (ro : UInt32 → Nat × (Nat → Int32)) (M : Nat) (la : List (Nat × Value)) (k : Nat) (rel : Int64 → Int64 → Prop) (r : Option Value) (h1 : List va_E) : Prop := ∃ v, r = some (.long v) ∧ zWp ro M 0 la [] h1 0 0 (fun r2 h2 => ∃ w, r2 = some (.long w) ∧ zCh (k + 1) h2 ∧ rel v w)
def zP2 (ro : UInt32 → Nat × (Nat → Int32)) (M : Nat) (la : List (Nat × Value)) (k : Nat) (rel : Int32 → Int32 → Prop) (r : Option Value) (h1 : List va_E) : Prop := ∃ I1 G1 A1 B1 v, h1 = hS I1 G1 A1 B1 ∧ r = some (.int v) ∧ zWp ro M 0 la [] (hS I1 G1 A1 B1) 0 0 (fun r2 h2 => ∃ I2 G2 A2 B2 w, h2 = hS I2 G2 A2 B2 ∧ r2 = some (.int w) ∧ zL2 (k + 1) I2 G2 A2 B2 ∧ rel v w)
def zP3 (ro : UInt32 → Nat × (Nat → Int32)) (M : Nat) (la : List (Nat × Value)) (k : Nat) (rel : Int64 → Int64 → Prop) (r : Option Value) (h1 : List va_E) : Prop := ∃ I1 G1 A1 B1 v, h1 = hS I1 G1 A1 B1 ∧ r = some (.long v) ∧ zWp ro M 0 la [] (hS I1 G1 A1 B1) 0 0 (fun r2 h2 => ∃ I2 G2 A2 B2 w, h2 = hS I2 G2 A2 B2 ∧ r2 = some (.long w) ∧ zL2 (k + 1) I2 G2 A2 B2 ∧ rel v w)
theorem zP_and {ro : UInt32 → Nat × (Nat → Int32)} {Mx M : Nat} {l la : List (Nat × Value)} {h : List va_E} {k : Nat} {rel1 rel2 : Int32 → Int32 → Prop} (h1 : zWp ro Mx 0 l [] h 0 0 (zPI ro M la k rel1)) (h2 : zWp ro Mx 0 l [] h 0 0 (zPX ro M la k rel2)) : zWp ro Mx 0 l [] h 0 0 (zP2 ro M la k rel2) := by
  refine zWp.mono (h1.and h2) ?_
  rintro r x ⟨⟨I1, G1, A1, B1, v, rfl, rfl, a⟩, v2, e, b⟩
  have ev : v = v2 := by injection e with e; injection e
  subst ev
  refine ⟨I1, G1, A1, B1, v, rfl, rfl, zWp.mono (a.and b) ?_⟩
  rintro r2 h2 ⟨⟨I2, G2, A2, B2, w, rfl, rfl, z, -⟩, w2, e2, z2, q⟩
  have ew : w = w2 := by injection e2 with e2; injection e2
  subst ew
  exact ⟨I2, G2, A2, B2, w, rfl, rfl, ⟨z, z2⟩, q⟩
theorem zL_and {ro : UInt32 → Nat × (Nat → Int32)} {Mx M : Nat} {l la : List (Nat × Value)} {h : List va_E} {k : Nat} {rel1 rel2 : Int64 → Int64 → Prop} (h1 : zWp ro Mx 0 l [] h 0 0 (zPL ro M la k rel1)) (h2 : zWp ro Mx 0 l [] h 0 0 (zPY ro M la k rel2)) : zWp ro Mx 0 l [] h 0 0 (zP3 ro M la k rel2) := by
  refine zWp.mono (h1.and h2) ?_
  rintro r x ⟨⟨I1, G1, A1, B1, v, rfl, rfl, a⟩, v2, e, b⟩
  have ev : v = v2 := by injection e with e; injection e
  subst ev
  refine ⟨I1, G1, A1, B1, v, rfl, rfl, zWp.mono (a.and b) ?_⟩
  rintro r2 h2 ⟨⟨I2, G2, A2, B2, w, rfl, rfl, z, -⟩, w2, e2, z2, q⟩
  have ew : w = w2 := by injection e2 with e2; injection e2
  subst ew
  exact ⟨I2, G2, A2, B2, w, rfl, rfl, ⟨z, z2⟩, q⟩
section ZX
variable {nv np : Nat} {K : Int} {n k : Nat} {W : qW} {L L2 : qLog} {I I1 I2 : Nat → Nat → Int32} {G G1 G2 : Nat → Nat → Int64} {A A1 A2 P Q : Nat → Nat → Int32} {B B1 B2 : Nat → Nat → Int64} {pf : Nat → Nat → Bool} {pa p : Nat → Bool}
theorem KQ.kp (h : KQ pf pa I G A B I1 G1 A1 B1) (hf : ∀ k j, p k = false → pf k j = false) (hp : ∀ k, p k = false → pa k = false) : KP p I G A B I1 G1 A1 B1 := ⟨fun k j q => h.1 k j (hf k j q), fun k j q => h.2.1 k j (hf k j q), fun k q => h.2.2.1 k (hp k q), fun k q => h.2.2.2 k (hp k q)⟩
theorem KP.kq (h : KP p I G A B I1 G1 A1 B1) : KQ (fun k _ => p k) p I G A B I1 G1 A1 B1 := ⟨h.1, h.2.1, h.2.2.1, h.2.2.2⟩
theorem cRS.pe {b : Nat} (h : cRS b nv np P W I G A B) (e : PE P Q) : cRS b nv np Q W I G A B := by
  obtain ⟨a, c, d1, d2, d3, d4, d5⟩ := h
  refine ⟨a, c.tr e, d1, d2, d3, d4, fun v hv => d5 v (fun q => ?_)⟩
  rw [e 53 (by omega) (by omega)]; exact hv q
theorem qOw.pe (h : qOw nv np P) (e : PE Q P) : qOw nv np Q := by
  unfold qOw
  rw [e 53 (by omega) (by omega), e 57 (by omega) (by omega), e 60 (by omega) (by omega)]
  exact h
theorem qOw.e (h : qOw nv np P) (e3 : Q 53 = P 53) (e7 : Q 57 = P 57) (e0 : Q 60 = P 60) : qOw nv np Q := by
  unfold qOw
  rw [e3, e7, e0]; exact h
theorem qOw.vs {a : Int32} (h : qOw nv np P) (e3 : Q 53 = upd (P 53) nv a) (e7 : Q 57 = upd (P 57) nv (-1)) (e0 : Q 60 = P 60) : qOw (nv + 1) np Q := by
  unfold qOw
  rw [e3, e7, e0]
  intro v hv q
  by_cases e : v = nv
  · rw [e, upd_s]; exact Or.inl rfl
  · rw [upd_o e] at q ⊢; exact h v (by omega) q
theorem qOw.ow {a b : Int32} (h : qOw nv np P) (h14 : np ≤ 14) (ok : ok_own nv np P a b) (e3 : Q 53 = P 53) (e7 : Q 57 = upd (P 57) a.toNatClampNeg b) (e0 : Q 60 = P 60) : qOw nv np Q := by
  unfold qOw
  rw [e3, e7, e0]
  intro v hv q
  by_cases e : v = a.toNatClampNeg
  · rw [e, upd_s]
    right
    have f := ok.2.2.2.2.resolve_left (fun z => z (e ▸ q))
    exact ⟨b.toNatClampNeg, ok.2.1.1, ok.2.1.2, f.trans ok.1.2⟩
  · rw [upd_o e]; exact h v hv q
theorem qOw.pi {a : Int32} (h : qOw nv np P) (e3 : Q 53 = P 53) (e7 : Q 57 = P 57) (e0 : Q 60 = upd (P 60) np a) : qOw nv (np + 1) Q := by
  unfold qOw
  rw [e3, e7, e0]
  intro v hv q
  rcases h v hv q with z | ⟨t, t1, t2, t3⟩
  · exact Or.inl z
  · exact Or.inr ⟨t, by omega, t2, by rw [upd_o (by omega)]; exact t3⟩
theorem wMom_pe (e : PE P Q) : wMom nv P W = wMom nv Q W := by
  unfold wMom
  rw [wMm_pe e]
theorem wEv_pe (e : PE P Q) : wEv nv P W = wEv nv Q W := by
  unfold wEv
  rw [wMm_pe e]
theorem cLg.ar (h : cLg L I A) (ha : qArr L L2) (hn : L2.1 = L.1) : cLg L2 I A := by
  obtain ⟨h0, h1⟩ := h
  refine ⟨by rw [hn]; exact h0, ?_⟩
  unfold cLr
  rw [hn, ha.1, ha.2.1, ha.2.2.1, ha.2.2.2]
  exact h1
theorem zCx.mk (F : zRf nv np K n W L I2 G2 A2 B2) (hK : K ≤ 242600 * (k + 1 : Nat)) (hn : n ≤ 4000 * (k + 1)) (R : cRS 11 nv np P W I1 G1 A1 B1) (e : PE P A2) (K2 : KQ pf pa I1 G1 A1 B1 I2 G2 A2 B2) (hf : ∀ k j, k < 52 → pf k j = false) (hpa : ∀ k, k < 52 → pa k = false) (ow : qOw nv np P) (kd : qKd nv P) (lw : wLc W = 1) (lg : cLg L I1 A1) {tl : List Int32} (tc : cTl (I1 44 4) (A1 45) tl) (tm : cTl (I2 52 29) (A2 71) tl) (tn : tl.length ≤ 50) : zCh (k + 1) (hS I2 G2 A2 B2) := by
  refine ⟨I2, G2, A2, B2, rfl, nv, np, W, L, ⟨F.1, F.2.1, F.2.2.1.mo (by omega) hK, F.2.2.2.1, F.2.2.2.2.1, by have := F.2.2.2.2.2; omega⟩, ?_, ow.pe e.sy, kd.pe e.sy, lw, ?_, tl, tc.e (K2.1 44 4 (hf 44 4 (by omega))) (K2.2.2.1 45 (hpa 45 (by omega))), tm, tn⟩
  · exact (R.k K2 ⟨hf 1 0 (by omega), hf 1 1 (by omega)⟩ (fun j _ _ => hf 12 j (by omega)) (fun k h1 h2 => hpa k (by omega))).pe e
  · exact lg.k K2 (hf 33 0 (by omega)) (hpa 34 (by omega)) (hpa 35 (by omega)) (hpa 36 (by omega)) (hpa 37 (by omega))
theorem zRf.kq (K1 : KQ pf pa I G A B I1 G1 A1 B1) (hf : ∀ k j, 52 ≤ k → pf k j = false) (hp : ∀ k, 52 ≤ k → pa k = false) (h : zRf nv np K n W L I G A B) : zRf nv np K n W L I1 G1 A1 B1 := by
  have K2 : KP pX I G A B I1 G1 A1 B1 := K1.kp (fun k j q => hf k j (by simp only [pX, decide_eq_false_iff_not] at q; omega)) (fun k q => hp k (by simp only [pX, decide_eq_false_iff_not] at q; omega))
  exact h.kp K2 pX52
end ZX
theorem fHd_52 : ∀ k j, 52 ≤ k → fHd k j = false := by
  intro k j h
  simp only [fHd, decide_eq_false_iff_not]
  omega
theorem pHd_52 : ∀ k, 52 ≤ k → pHd k = false := by
  intro k h
  simp only [pHd, decide_eq_false_iff_not]
  omega
theorem fCg_52 : ∀ k j, 52 ≤ k → fCg k j = false := by
  intro k j h
  simp only [fCg, decide_eq_false_iff_not]
  omega
theorem pCg_52 : ∀ k, 52 ≤ k → pCg k = false := by
  intro k h
  simp only [pCg, decide_eq_false_iff_not]
  omega
theorem pLv_52 : ∀ k, 52 ≤ k → pLv k = false := by
  intro k h
  simp only [pLv, decide_eq_false_iff_not]
  omega
theorem pLvA_52 : ∀ k, 52 ≤ k → pLvA k = false := by
  intro k h
  simp only [pLvA, decide_eq_false_iff_not]
  omega
/-! a go keeps lowest terms -/
theorem wStep_lw {nv np : Nat} {K : Int} {P : Nat → Nat → Int32} {W : qW} {u : Int64} (hp : MPa nv np P) (hW : wInv nv 10000 K P W) (hK0 : 0 ≤ K) (hK : K ≤ 200000000) (u0 : 0 ≤ u.toInt) (u1 : u.toInt ≤ 10000) (hl : wLc W = 1) : wLc (wStep nv np P u W).2.1 = 1 := by
  obtain ⟨rs, na, nb, hN⟩ : ∃ rs na nb, wNx nv np P W = (rs, na, nb) := ⟨_, _, _, rfl⟩
  by_cases r0 : rs = 0
  · subst r0
    by_cases hb : (u * W.1 - W.2.1) * nb < na * W.1
    · rw [wStep_b hN hb]; exact hl
    · cases hps : wPass nv np P W na nb with
      | none => rw [wStep_n hN hb hps]; exact hl
      | some W1 =>
        rw [wStep_y hN hb hps]
        have q := (wStep_pass (T := 10000) (T2 := 10000) hp hW.1 (by omega) hK0 (by omega) (Or.inr ⟨u0, u1, u1⟩) hN hb).2.2.2 W1 hps
        have b1 : wBo W1 := by unfold wBo; rw [q.2]; exact hW.2.1
        exact wMom_low hp b1 q.1 (by omega) hK
  · rw [wStep_r (by rw [hN]; exact r0)]; exact hl
theorem wGo_lw {nv np : Nat} {P : Nat → Nat → Int32} {so : Int32} {u : Int64} (hp : MPa nv np P) (u0 : 0 ≤ u.toInt) (u1 : u.toInt ≤ 10000) : ∀ (m : Nat) (K : Int) (W : qW) (L : qLog), wInv nv 10000 K P W → 0 ≤ K → K + 1600 * m ≤ 200000000 → wLc W = 1 → wLc (wGo nv np P 1 so u m W L).2.1 = 1 := by
  intro m
  induction m with
  | zero =>
    intro K W L hW hK0 hK hl
    have e : (wGo nv np P 1 so u 0 W L).2.1 = W := rfl
    rw [e]; exact hl
  | succ m ih =>
    intro K W L hW hK0 hK hl
    rcases wStep_inv hp hW (by omega) (T2 := 10000) (by omega) hK0 (by omega) (Or.inr ⟨u0, u1, u1⟩) with q | ⟨e1, e2, e3⟩
    · have e : wGo nv np P 1 so u (m + 1) W L = ((wStep nv np P u W).1, W, L) := if_neg (by
        rcases q with q | q <;> rw [q]
        · show ¬ (0 : Int32) = 1; decide
        · show ¬ (-1 : Int32) = 1; decide)
      have e2 : (wGo nv np P 1 so u (m + 1) W L).2.1 = W := by rw [e]
      rw [e2]; exact hl
    · have e : wGo nv np P 1 so u (m + 1) W L = wGo nv np P 1 so u m (wStep nv np P u W).2.1 (qNotes 1 (wStep nv np P u W).2.2.1 (wStep nv np P u W).2.2.2.1 so L (wStep nv np P u W).2.2.2.2) := if_pos e1
      rw [e]
      exact ih (K + 1600) _ _ e2 (by omega) (by omega) (wStep_lw hp hW hK0 (by omega) u0 u1 hl)
theorem wGoR_lw {nv np : Nat} {K : Int} {P : Nat → Nat → Int32} {W : qW} {L : qLog} {so u : Int32} (hp : MPa nv np P) (hW : wInv nv 10000 K P W) (hK0 : 0 ≤ K) (hK : K ≤ 199000000) (hg : qLG L) (hl : wLc W = 1) : wLc (wGoR nv np P 1 so u W L).2.2.1 = 1 := by
  unfold wGoR
  by_cases c : 10000 < u ∨ Int32.toInt64 u * W.1 < W.2.1
  · rw [if_pos c]; exact hl
  · rw [if_neg c]
    have cu := wGo_u hW.1 (fun z => c (Or.inl z)) (fun z => c (Or.inr z))
    have q := wGo_ok (so := so) hp cu.1 cu.2 150 K W L hW hK0 (by omega) hg
    have l := wGo_lw (so := so) hp cu.1 cu.2 150 K W L hW hK0 (by omega) hl
    unfold wGoX
    by_cases z : (wGo nv np P 1 so (Int32.toInt64 u) 150 W L).1 = -1
    · rw [if_pos z]; exact l
    · rw [if_neg z]
      exact wTo_low hp q.1 (by omega) (by omega) (by omega) cu.1 cu.2 (q.2.2.2 z) l
/-- counts of the class, at another writing of the same heap -/
theorem CV_h {nv np nv1 np1 cm : Nat} {W : qW} {I I1 : Nat → Nat → Int32} {G G1 : Nat → Nat → Int64} {A A1 : Nat → Nat → Int32} {B B1 : Nat → Nat → Int64} (e : hS I1 G1 A1 B1 = hS I G A B) (C : CV nv1 np1 cm I1) (R : cRS 11 nv np A W I G A B) (hp : MPa nv np A) : CV nv np cm I := by
  obtain ⟨⟨-, -, ⟨a, a1, a2⟩, ⟨b, b1, b2⟩⟩, ⟨c, c1, c2⟩, ⟨t, t1, t2⟩⟩ := C
  have e11 := (hb_11 I1 G1 A1 B1).symm.trans ((congrArg (fun l => l[11]?) e).trans (hb_11 I G A B))
  have e22 := (hb_22 I1 G1 A1 B1).symm.trans ((congrArg (fun l => l[22]?) e).trans (hb_22 I G A B))
  have e33 := (hb_33 I1 G1 A1 B1).symm.trans ((congrArg (fun l => l[33]?) e).trans (hb_33 I G A B))
  have e44 := (hb_44 I1 G1 A1 B1).symm.trans ((congrArg (fun l => l[44]?) e).trans (hb_44 I G A B))
  simp only [Option.some.injEq, Sum.inr.injEq, Prod.mk.injEq, List.cons.injEq, Value.int.injEq, Value.long.injEq, true_and, and_true] at e11 e22 e33 e44
  refine ⟨⟨⟨R.1.1, hp.1⟩, ⟨R.1.2, hp.2.1⟩, ⟨a, a1, ?_⟩, ⟨b, b1, ?_⟩⟩, ⟨c, c1, ?_⟩, ⟨t, t1, ?_⟩⟩
  · rw [← a2]; simp only [e11]
  · rw [← b2]; simp only [e22]
  · rw [← c2]; simp only [e33]
  · rw [← t2]; simp only [e44]
set_option maxHeartbeats 0 in
theorem pairX_vessel (ro : UInt32 → Nat × (Nat → Int32)) (k : Nat) (I : Nat → Nat → Int32) (G : Nat → Nat → Int64) (A : Nat → Nat → Int32) (B : Nat → Nat → Int64) (h : zCx k I G A B) (hk : k < 512) (a : Int32) (b : Int32) : zWp ro 78 0 [(0, .ref 0), (1, .int a), (2, .int b)] [] (hS I G A B) 0 0 (zPX ro 141 [(0, .ref 52), (1, .int a), (2, .int b)] k (fun v w => v = w)) := by
  obtain ⟨nv, np, W, L, F, R, ow, kd, lw, lg, tl, tc, tm, tn⟩ := h
  have fn := F.2.2.2.2.2
  have mm0 := mm_vessel ro nv np W L I G A B (242600 * k) F.1 F.2.1 F.2.2.1 (by omega) (by omega) (by omega) a b
  have hok : ok_vessel nv np A a b → MPa (nv + 1) np (updA (updA (updA (updA (updA (updA (updA A 53 (upd (A 53) nv a)) 54 (upd ((updA A 53 (upd (A 53) nv a)) 54) nv b)) 55 (upd ((updA (updA A 53 (upd (A 53) nv a)) 54 (upd ((updA A 53 (upd (A 53) nv a)) 54) nv b)) 55) nv (if a = 0 ∨ a = 2 then 0 else b))) 56 (upd ((updA (updA (updA A 53 (upd (A 53) nv a)) 54 (upd ((updA A 53 (upd (A 53) nv a)) 54) nv b)) 55 (upd ((updA (updA A 53 (upd (A 53) nv a)) 54 (upd ((updA A 53 (upd (A 53) nv a)) 54) nv b)) 55) nv (if a = 0 ∨ a = 2 then 0 else b))) 56) nv 0)) 57 (upd ((updA (updA (updA (updA A 53 (upd (A 53) nv a)) 54 (upd ((updA A 53 (upd (A 53) nv a)) 54) nv b)) 55 (upd ((updA (updA A 53 (upd (A 53) nv a)) 54 (upd ((updA A 53 (upd (A 53) nv a)) 54) nv b)) 55) nv (if a = 0 ∨ a = 2 then 0 else b))) 56 (upd ((updA (updA (updA A 53 (upd (A 53) nv a)) 54 (upd ((updA A 53 (upd (A 53) nv a)) 54) nv b)) 55 (upd ((updA (updA A 53 (upd (A 53) nv a)) 54 (upd ((updA A 53 (upd (A 53) nv a)) 54) nv b)) 55) nv (if a = 0 ∨ a = 2 then 0 else b))) 56) nv 0)) 57) nv (-1))) 58 (upd ((updA (updA (updA (updA (updA A 53 (upd (A 53) nv a)) 54 (upd ((updA A 53 (upd (A 53) nv a)) 54) nv b)) 55 (upd ((updA (updA A 53 (upd (A 53) nv a)) 54 (upd ((updA A 53 (upd (A 53) nv a)) 54) nv b)) 55) nv (if a = 0 ∨ a = 2 then 0 else b))) 56 (upd ((updA (updA (updA A 53 (upd (A 53) nv a)) 54 (upd ((updA A 53 (upd (A 53) nv a)) 54) nv b)) 55 (upd ((updA (updA A 53 (upd (A 53) nv a)) 54 (upd ((updA A 53 (upd (A 53) nv a)) 54) nv b)) 55) nv (if a = 0 ∨ a = 2 then 0 else b))) 56) nv 0)) 57 (upd ((updA (updA (updA (updA A 53 (upd (A 53) nv a)) 54 (upd ((updA A 53 (upd (A 53) nv a)) 54) nv b)) 55 (upd ((updA (updA A 53 (upd (A 53) nv a)) 54 (upd ((updA A 53 (upd (A 53) nv a)) 54) nv b)) 55) nv (if a = 0 ∨ a = 2 then 0 else b))) 56 (upd ((updA (updA (updA A 53 (upd (A 53) nv a)) 54 (upd ((updA A 53 (upd (A 53) nv a)) 54) nv b)) 55 (upd ((updA (updA A 53 (upd (A 53) nv a)) 54 (upd ((updA A 53 (upd (A 53) nv a)) 54) nv b)) 55) nv (if a = 0 ∨ a = 2 then 0 else b))) 56) nv 0)) 57) nv (-1))) 58) nv (-1))) 59 (upd ((updA (updA (updA (updA (updA (updA A 53 (upd (A 53) nv a)) 54 (upd ((updA A 53 (upd (A 53) nv a)) 54) nv b)) 55 (upd ((updA (updA A 53 (upd (A 53) nv a)) 54 (upd ((updA A 53 (upd (A 53) nv a)) 54) nv b)) 55) nv (if a = 0 ∨ a = 2 then 0 else b))) 56 (upd ((updA (updA (updA A 53 (upd (A 53) nv a)) 54 (upd ((updA A 53 (upd (A 53) nv a)) 54) nv b)) 55 (upd ((updA (updA A 53 (upd (A 53) nv a)) 54 (upd ((updA A 53 (upd (A 53) nv a)) 54) nv b)) 55) nv (if a = 0 ∨ a = 2 then 0 else b))) 56) nv 0)) 57 (upd ((updA (updA (updA (updA A 53 (upd (A 53) nv a)) 54 (upd ((updA A 53 (upd (A 53) nv a)) 54) nv b)) 55 (upd ((updA (updA A 53 (upd (A 53) nv a)) 54 (upd ((updA A 53 (upd (A 53) nv a)) 54) nv b)) 55) nv (if a = 0 ∨ a = 2 then 0 else b))) 56 (upd ((updA (updA (updA A 53 (upd (A 53) nv a)) 54 (upd ((updA A 53 (upd (A 53) nv a)) 54) nv b)) 55 (upd ((updA (updA A 53 (upd (A 53) nv a)) 54 (upd ((updA A 53 (upd (A 53) nv a)) 54) nv b)) 55) nv (if a = 0 ∨ a = 2 then 0 else b))) 56) nv 0)) 57) nv (-1))) 58 (upd ((updA (updA (updA (updA (updA A 53 (upd (A 53) nv a)) 54 (upd ((updA A 53 (upd (A 53) nv a)) 54) nv b)) 55 (upd ((updA (updA A 53 (upd (A 53) nv a)) 54 (upd ((updA A 53 (upd (A 53) nv a)) 54) nv b)) 55) nv (if a = 0 ∨ a = 2 then 0 else b))) 56 (upd ((updA (updA (updA A 53 (upd (A 53) nv a)) 54 (upd ((updA A 53 (upd (A 53) nv a)) 54) nv b)) 55 (upd ((updA (updA A 53 (upd (A 53) nv a)) 54 (upd ((updA A 53 (upd (A 53) nv a)) 54) nv b)) 55) nv (if a = 0 ∨ a = 2 then 0 else b))) 56) nv 0)) 57 (upd ((updA (updA (updA (updA A 53 (upd (A 53) nv a)) 54 (upd ((updA A 53 (upd (A 53) nv a)) 54) nv b)) 55 (upd ((updA (updA A 53 (upd (A 53) nv a)) 54 (upd ((updA A 53 (upd (A 53) nv a)) 54) nv b)) 55) nv (if a = 0 ∨ a = 2 then 0 else b))) 56 (upd ((updA (updA (updA A 53 (upd (A 53) nv a)) 54 (upd ((updA A 53 (upd (A 53) nv a)) 54) nv b)) 55 (upd ((updA (updA A 53 (upd (A 53) nv a)) 54 (upd ((updA A 53 (upd (A 53) nv a)) 54) nv b)) 55) nv (if a = 0 ∨ a = 2 then 0 else b))) 56) nv 0)) 57) nv (-1))) 58) nv (-1))) 59) nv (-1))) ∧ wInv (nv + 1) 10000 (242600 * k + 1000) (updA (updA (updA (updA (updA (updA (updA A 53 (upd (A 53) nv a)) 54 (upd ((updA A 53 (upd (A 53) nv a)) 54) nv b)) 55 (upd ((updA (updA A 53 (upd (A 53) nv a)) 54 (upd ((updA A 53 (upd (A 53) nv a)) 54) nv b)) 55) nv (if a = 0 ∨ a = 2 then 0 else b))) 56 (upd ((updA (updA (updA A 53 (upd (A 53) nv a)) 54 (upd ((updA A 53 (upd (A 53) nv a)) 54) nv b)) 55 (upd ((updA (updA A 53 (upd (A 53) nv a)) 54 (upd ((updA A 53 (upd (A 53) nv a)) 54) nv b)) 55) nv (if a = 0 ∨ a = 2 then 0 else b))) 56) nv 0)) 57 (upd ((updA (updA (updA (updA A 53 (upd (A 53) nv a)) 54 (upd ((updA A 53 (upd (A 53) nv a)) 54) nv b)) 55 (upd ((updA (updA A 53 (upd (A 53) nv a)) 54 (upd ((updA A 53 (upd (A 53) nv a)) 54) nv b)) 55) nv (if a = 0 ∨ a = 2 then 0 else b))) 56 (upd ((updA (updA (updA A 53 (upd (A 53) nv a)) 54 (upd ((updA A 53 (upd (A 53) nv a)) 54) nv b)) 55 (upd ((updA (updA A 53 (upd (A 53) nv a)) 54 (upd ((updA A 53 (upd (A 53) nv a)) 54) nv b)) 55) nv (if a = 0 ∨ a = 2 then 0 else b))) 56) nv 0)) 57) nv (-1))) 58 (upd ((updA (updA (updA (updA (updA A 53 (upd (A 53) nv a)) 54 (upd ((updA A 53 (upd (A 53) nv a)) 54) nv b)) 55 (upd ((updA (updA A 53 (upd (A 53) nv a)) 54 (upd ((updA A 53 (upd (A 53) nv a)) 54) nv b)) 55) nv (if a = 0 ∨ a = 2 then 0 else b))) 56 (upd ((updA (updA (updA A 53 (upd (A 53) nv a)) 54 (upd ((updA A 53 (upd (A 53) nv a)) 54) nv b)) 55 (upd ((updA (updA A 53 (upd (A 53) nv a)) 54 (upd ((updA A 53 (upd (A 53) nv a)) 54) nv b)) 55) nv (if a = 0 ∨ a = 2 then 0 else b))) 56) nv 0)) 57 (upd ((updA (updA (updA (updA A 53 (upd (A 53) nv a)) 54 (upd ((updA A 53 (upd (A 53) nv a)) 54) nv b)) 55 (upd ((updA (updA A 53 (upd (A 53) nv a)) 54 (upd ((updA A 53 (upd (A 53) nv a)) 54) nv b)) 55) nv (if a = 0 ∨ a = 2 then 0 else b))) 56 (upd ((updA (updA (updA A 53 (upd (A 53) nv a)) 54 (upd ((updA A 53 (upd (A 53) nv a)) 54) nv b)) 55 (upd ((updA (updA A 53 (upd (A 53) nv a)) 54 (upd ((updA A 53 (upd (A 53) nv a)) 54) nv b)) 55) nv (if a = 0 ∨ a = 2 then 0 else b))) 56) nv 0)) 57) nv (-1))) 58) nv (-1))) 59 (upd ((updA (updA (updA (updA (updA (updA A 53 (upd (A 53) nv a)) 54 (upd ((updA A 53 (upd (A 53) nv a)) 54) nv b)) 55 (upd ((updA (updA A 53 (upd (A 53) nv a)) 54 (upd ((updA A 53 (upd (A 53) nv a)) 54) nv b)) 55) nv (if a = 0 ∨ a = 2 then 0 else b))) 56 (upd ((updA (updA (updA A 53 (upd (A 53) nv a)) 54 (upd ((updA A 53 (upd (A 53) nv a)) 54) nv b)) 55 (upd ((updA (updA A 53 (upd (A 53) nv a)) 54 (upd ((updA A 53 (upd (A 53) nv a)) 54) nv b)) 55) nv (if a = 0 ∨ a = 2 then 0 else b))) 56) nv 0)) 57 (upd ((updA (updA (updA (updA A 53 (upd (A 53) nv a)) 54 (upd ((updA A 53 (upd (A 53) nv a)) 54) nv b)) 55 (upd ((updA (updA A 53 (upd (A 53) nv a)) 54 (upd ((updA A 53 (upd (A 53) nv a)) 54) nv b)) 55) nv (if a = 0 ∨ a = 2 then 0 else b))) 56 (upd ((updA (updA (updA A 53 (upd (A 53) nv a)) 54 (upd ((updA A 53 (upd (A 53) nv a)) 54) nv b)) 55 (upd ((updA (updA A 53 (upd (A 53) nv a)) 54 (upd ((updA A 53 (upd (A 53) nv a)) 54) nv b)) 55) nv (if a = 0 ∨ a = 2 then 0 else b))) 56) nv 0)) 57) nv (-1))) 58 (upd ((updA (updA (updA (updA (updA A 53 (upd (A 53) nv a)) 54 (upd ((updA A 53 (upd (A 53) nv a)) 54) nv b)) 55 (upd ((updA (updA A 53 (upd (A 53) nv a)) 54 (upd ((updA A 53 (upd (A 53) nv a)) 54) nv b)) 55) nv (if a = 0 ∨ a = 2 then 0 else b))) 56 (upd ((updA (updA (updA A 53 (upd (A 53) nv a)) 54 (upd ((updA A 53 (upd (A 53) nv a)) 54) nv b)) 55 (upd ((updA (updA A 53 (upd (A 53) nv a)) 54 (upd ((updA A 53 (upd (A 53) nv a)) 54) nv b)) 55) nv (if a = 0 ∨ a = 2 then 0 else b))) 56) nv 0)) 57 (upd ((updA (updA (updA (updA A 53 (upd (A 53) nv a)) 54 (upd ((updA A 53 (upd (A 53) nv a)) 54) nv b)) 55 (upd ((updA (updA A 53 (upd (A 53) nv a)) 54 (upd ((updA A 53 (upd (A 53) nv a)) 54) nv b)) 55) nv (if a = 0 ∨ a = 2 then 0 else b))) 56 (upd ((updA (updA (updA A 53 (upd (A 53) nv a)) 54 (upd ((updA A 53 (upd (A 53) nv a)) 54) nv b)) 55 (upd ((updA (updA A 53 (upd (A 53) nv a)) 54 (upd ((updA A 53 (upd (A 53) nv a)) 54) nv b)) 55) nv (if a = 0 ∨ a = 2 then 0 else b))) 56) nv 0)) 57) nv (-1))) 58) nv (-1))) 59) nv (-1))) W := by
    intro hk0
    obtain ⟨_, r, h1, _, I2, G2, A2, B2, _, _, hc⟩ := mm0
    rcases hc with ⟨n, -⟩ | ⟨-, p, w, -⟩
    · exact absurd hk0 n
    · exact ⟨p, w⟩
  refine zWp.mono (cx_vessel ro nv np A W L (242600 * k) (-1) I G A B R F.2.1 F.2.2.1 kd lg (by omega) (by omega) a b hok) ?_
  rintro r h1 ⟨I1, G1, A1, B1, rfl, K1, hc⟩
  have F1 := F.kq K1 fHd_52 pHd_52
  have e1 : PE A A1 := fun k _ _ => (K1.2.2.1 k (pHd_52 k (by omega))).symm
  have er := F1.2.2.2.2.1.1
  have es := F1.2.2.2.2.1.2.1
  have mm := mm_vessel ro nv np W L I1 G1 A1 B1 (242600 * k) F1.1 F1.2.1 F1.2.2.1 (by omega) (by omega) (by omega) a b
  have key := ok_vessel_pe (nv := nv) (np := np) (a := a) (b := b) e1
  rcases hc with ⟨n1, R1, g1, rfl⟩ | ⟨y1, R1, g1, rfl⟩
  · refine ⟨_, rfl, zWp.mono mm ?_⟩
    rintro r2 h2 ⟨I2, G2, A2, B2, rfl, K2, (⟨n2, R2, rfl⟩ | ⟨y2, -⟩)⟩
    · refine ⟨_, rfl, ?_, rfl⟩
      exact zCx.mk (zRf.of R2 F1.2.1 F1.2.2.1 F1.2.2.2.1 (mId.k K2 rfl rfl rfl F1.2.2.2.2.1) fn) (by omega) (by omega) R1 (e1.tr R2.2.1.sy) K2 fHn_c pHn_c ow kd lw g1 (tc.e (K1.1 44 4 rfl) (K1.2.2.1 45 rfl)) (tm.e ((K2.1 52 29 rfl).trans (K1.1 52 29 rfl)) ((K2.2.2.1 71 rfl).trans (K1.2.2.1 71 rfl))) tn
    · exact absurd (key.mpr y2) n1
  · refine ⟨_, rfl, zWp.mono mm ?_⟩
    rintro r2 h2 ⟨I2, G2, A2, B2, rfl, K2, (⟨n2, -⟩ | ⟨y2, p2, w2, R2, rfl⟩)⟩
    · exact absurd (key.mp y1) n2
    · refine ⟨_, rfl, ?_, rfl⟩
      have pe : PE (updA (updA (updA (updA (updA (updA (updA A 53 (upd (A 53) nv a)) 54 (upd ((updA A 53 (upd (A 53) nv a)) 54) nv b)) 55 (upd ((updA (updA A 53 (upd (A 53) nv a)) 54 (upd ((updA A 53 (upd (A 53) nv a)) 54) nv b)) 55) nv (if a = 0 ∨ a = 2 then 0 else b))) 56 (upd ((updA (updA (updA A 53 (upd (A 53) nv a)) 54 (upd ((updA A 53 (upd (A 53) nv a)) 54) nv b)) 55 (upd ((updA (updA A 53 (upd (A 53) nv a)) 54 (upd ((updA A 53 (upd (A 53) nv a)) 54) nv b)) 55) nv (if a = 0 ∨ a = 2 then 0 else b))) 56) nv 0)) 57 (upd ((updA (updA (updA (updA A 53 (upd (A 53) nv a)) 54 (upd ((updA A 53 (upd (A 53) nv a)) 54) nv b)) 55 (upd ((updA (updA A 53 (upd (A 53) nv a)) 54 (upd ((updA A 53 (upd (A 53) nv a)) 54) nv b)) 55) nv (if a = 0 ∨ a = 2 then 0 else b))) 56 (upd ((updA (updA (updA A 53 (upd (A 53) nv a)) 54 (upd ((updA A 53 (upd (A 53) nv a)) 54) nv b)) 55 (upd ((updA (updA A 53 (upd (A 53) nv a)) 54 (upd ((updA A 53 (upd (A 53) nv a)) 54) nv b)) 55) nv (if a = 0 ∨ a = 2 then 0 else b))) 56) nv 0)) 57) nv (-1))) 58 (upd ((updA (updA (updA (updA (updA A 53 (upd (A 53) nv a)) 54 (upd ((updA A 53 (upd (A 53) nv a)) 54) nv b)) 55 (upd ((updA (updA A 53 (upd (A 53) nv a)) 54 (upd ((updA A 53 (upd (A 53) nv a)) 54) nv b)) 55) nv (if a = 0 ∨ a = 2 then 0 else b))) 56 (upd ((updA (updA (updA A 53 (upd (A 53) nv a)) 54 (upd ((updA A 53 (upd (A 53) nv a)) 54) nv b)) 55 (upd ((updA (updA A 53 (upd (A 53) nv a)) 54 (upd ((updA A 53 (upd (A 53) nv a)) 54) nv b)) 55) nv (if a = 0 ∨ a = 2 then 0 else b))) 56) nv 0)) 57 (upd ((updA (updA (updA (updA A 53 (upd (A 53) nv a)) 54 (upd ((updA A 53 (upd (A 53) nv a)) 54) nv b)) 55 (upd ((updA (updA A 53 (upd (A 53) nv a)) 54 (upd ((updA A 53 (upd (A 53) nv a)) 54) nv b)) 55) nv (if a = 0 ∨ a = 2 then 0 else b))) 56 (upd ((updA (updA (updA A 53 (upd (A 53) nv a)) 54 (upd ((updA A 53 (upd (A 53) nv a)) 54) nv b)) 55 (upd ((updA (updA A 53 (upd (A 53) nv a)) 54 (upd ((updA A 53 (upd (A 53) nv a)) 54) nv b)) 55) nv (if a = 0 ∨ a = 2 then 0 else b))) 56) nv 0)) 57) nv (-1))) 58) nv (-1))) 59 (upd ((updA (updA (updA (updA (updA (updA A 53 (upd (A 53) nv a)) 54 (upd ((updA A 53 (upd (A 53) nv a)) 54) nv b)) 55 (upd ((updA (updA A 53 (upd (A 53) nv a)) 54 (upd ((updA A 53 (upd (A 53) nv a)) 54) nv b)) 55) nv (if a = 0 ∨ a = 2 then 0 else b))) 56 (upd ((updA (updA (updA A 53 (upd (A 53) nv a)) 54 (upd ((updA A 53 (upd (A 53) nv a)) 54) nv b)) 55 (upd ((updA (updA A 53 (upd (A 53) nv a)) 54 (upd ((updA A 53 (upd (A 53) nv a)) 54) nv b)) 55) nv (if a = 0 ∨ a = 2 then 0 else b))) 56) nv 0)) 57 (upd ((updA (updA (updA (updA A 53 (upd (A 53) nv a)) 54 (upd ((updA A 53 (upd (A 53) nv a)) 54) nv b)) 55 (upd ((updA (updA A 53 (upd (A 53) nv a)) 54 (upd ((updA A 53 (upd (A 53) nv a)) 54) nv b)) 55) nv (if a = 0 ∨ a = 2 then 0 else b))) 56 (upd ((updA (updA (updA A 53 (upd (A 53) nv a)) 54 (upd ((updA A 53 (upd (A 53) nv a)) 54) nv b)) 55 (upd ((updA (updA A 53 (upd (A 53) nv a)) 54 (upd ((updA A 53 (upd (A 53) nv a)) 54) nv b)) 55) nv (if a = 0 ∨ a = 2 then 0 else b))) 56) nv 0)) 57) nv (-1))) 58 (upd ((updA (updA (updA (updA (updA A 53 (upd (A 53) nv a)) 54 (upd ((updA A 53 (upd (A 53) nv a)) 54) nv b)) 55 (upd ((updA (updA A 53 (upd (A 53) nv a)) 54 (upd ((updA A 53 (upd (A 53) nv a)) 54) nv b)) 55) nv (if a = 0 ∨ a = 2 then 0 else b))) 56 (upd ((updA (updA (updA A 53 (upd (A 53) nv a)) 54 (upd ((updA A 53 (upd (A 53) nv a)) 54) nv b)) 55 (upd ((updA (updA A 53 (upd (A 53) nv a)) 54 (upd ((updA A 53 (upd (A 53) nv a)) 54) nv b)) 55) nv (if a = 0 ∨ a = 2 then 0 else b))) 56) nv 0)) 57 (upd ((updA (updA (updA (updA A 53 (upd (A 53) nv a)) 54 (upd ((updA A 53 (upd (A 53) nv a)) 54) nv b)) 55 (upd ((updA (updA A 53 (upd (A 53) nv a)) 54 (upd ((updA A 53 (upd (A 53) nv a)) 54) nv b)) 55) nv (if a = 0 ∨ a = 2 then 0 else b))) 56 (upd ((updA (updA (updA A 53 (upd (A 53) nv a)) 54 (upd ((updA A 53 (upd (A 53) nv a)) 54) nv b)) 55 (upd ((updA (updA A 53 (upd (A 53) nv a)) 54 (upd ((updA A 53 (upd (A 53) nv a)) 54) nv b)) 55) nv (if a = 0 ∨ a = 2 then 0 else b))) 56) nv 0)) 57) nv (-1))) 58) nv (-1))) 59) nv (-1))) (updA (updA (updA (updA (updA (updA (updA A1 53 (upd (A1 53) nv a)) 54 (upd ((updA A1 53 (upd (A1 53) nv a)) 54) nv b)) 55 (upd ((updA (updA A1 53 (upd (A1 53) nv a)) 54 (upd ((updA A1 53 (upd (A1 53) nv a)) 54) nv b)) 55) nv (if a = 0 ∨ a = 2 then 0 else b))) 56 (upd ((updA (updA (updA A1 53 (upd (A1 53) nv a)) 54 (upd ((updA A1 53 (upd (A1 53) nv a)) 54) nv b)) 55 (upd ((updA (updA A1 53 (upd (A1 53) nv a)) 54 (upd ((updA A1 53 (upd (A1 53) nv a)) 54) nv b)) 55) nv (if a = 0 ∨ a = 2 then 0 else b))) 56) nv 0)) 57 (upd ((updA (updA (updA (updA A1 53 (upd (A1 53) nv a)) 54 (upd ((updA A1 53 (upd (A1 53) nv a)) 54) nv b)) 55 (upd ((updA (updA A1 53 (upd (A1 53) nv a)) 54 (upd ((updA A1 53 (upd (A1 53) nv a)) 54) nv b)) 55) nv (if a = 0 ∨ a = 2 then 0 else b))) 56 (upd ((updA (updA (updA A1 53 (upd (A1 53) nv a)) 54 (upd ((updA A1 53 (upd (A1 53) nv a)) 54) nv b)) 55 (upd ((updA (updA A1 53 (upd (A1 53) nv a)) 54 (upd ((updA A1 53 (upd (A1 53) nv a)) 54) nv b)) 55) nv (if a = 0 ∨ a = 2 then 0 else b))) 56) nv 0)) 57) nv (-1))) 58 (upd ((updA (updA (updA (updA (updA A1 53 (upd (A1 53) nv a)) 54 (upd ((updA A1 53 (upd (A1 53) nv a)) 54) nv b)) 55 (upd ((updA (updA A1 53 (upd (A1 53) nv a)) 54 (upd ((updA A1 53 (upd (A1 53) nv a)) 54) nv b)) 55) nv (if a = 0 ∨ a = 2 then 0 else b))) 56 (upd ((updA (updA (updA A1 53 (upd (A1 53) nv a)) 54 (upd ((updA A1 53 (upd (A1 53) nv a)) 54) nv b)) 55 (upd ((updA (updA A1 53 (upd (A1 53) nv a)) 54 (upd ((updA A1 53 (upd (A1 53) nv a)) 54) nv b)) 55) nv (if a = 0 ∨ a = 2 then 0 else b))) 56) nv 0)) 57 (upd ((updA (updA (updA (updA A1 53 (upd (A1 53) nv a)) 54 (upd ((updA A1 53 (upd (A1 53) nv a)) 54) nv b)) 55 (upd ((updA (updA A1 53 (upd (A1 53) nv a)) 54 (upd ((updA A1 53 (upd (A1 53) nv a)) 54) nv b)) 55) nv (if a = 0 ∨ a = 2 then 0 else b))) 56 (upd ((updA (updA (updA A1 53 (upd (A1 53) nv a)) 54 (upd ((updA A1 53 (upd (A1 53) nv a)) 54) nv b)) 55 (upd ((updA (updA A1 53 (upd (A1 53) nv a)) 54 (upd ((updA A1 53 (upd (A1 53) nv a)) 54) nv b)) 55) nv (if a = 0 ∨ a = 2 then 0 else b))) 56) nv 0)) 57) nv (-1))) 58) nv (-1))) 59 (upd ((updA (updA (updA (updA (updA (updA A1 53 (upd (A1 53) nv a)) 54 (upd ((updA A1 53 (upd (A1 53) nv a)) 54) nv b)) 55 (upd ((updA (updA A1 53 (upd (A1 53) nv a)) 54 (upd ((updA A1 53 (upd (A1 53) nv a)) 54) nv b)) 55) nv (if a = 0 ∨ a = 2 then 0 else b))) 56 (upd ((updA (updA (updA A1 53 (upd (A1 53) nv a)) 54 (upd ((updA A1 53 (upd (A1 53) nv a)) 54) nv b)) 55 (upd ((updA (updA A1 53 (upd (A1 53) nv a)) 54 (upd ((updA A1 53 (upd (A1 53) nv a)) 54) nv b)) 55) nv (if a = 0 ∨ a = 2 then 0 else b))) 56) nv 0)) 57 (upd ((updA (updA (updA (updA A1 53 (upd (A1 53) nv a)) 54 (upd ((updA A1 53 (upd (A1 53) nv a)) 54) nv b)) 55 (upd ((updA (updA A1 53 (upd (A1 53) nv a)) 54 (upd ((updA A1 53 (upd (A1 53) nv a)) 54) nv b)) 55) nv (if a = 0 ∨ a = 2 then 0 else b))) 56 (upd ((updA (updA (updA A1 53 (upd (A1 53) nv a)) 54 (upd ((updA A1 53 (upd (A1 53) nv a)) 54) nv b)) 55 (upd ((updA (updA A1 53 (upd (A1 53) nv a)) 54 (upd ((updA A1 53 (upd (A1 53) nv a)) 54) nv b)) 55) nv (if a = 0 ∨ a = 2 then 0 else b))) 56) nv 0)) 57) nv (-1))) 58 (upd ((updA (updA (updA (updA (updA A1 53 (upd (A1 53) nv a)) 54 (upd ((updA A1 53 (upd (A1 53) nv a)) 54) nv b)) 55 (upd ((updA (updA A1 53 (upd (A1 53) nv a)) 54 (upd ((updA A1 53 (upd (A1 53) nv a)) 54) nv b)) 55) nv (if a = 0 ∨ a = 2 then 0 else b))) 56 (upd ((updA (updA (updA A1 53 (upd (A1 53) nv a)) 54 (upd ((updA A1 53 (upd (A1 53) nv a)) 54) nv b)) 55 (upd ((updA (updA A1 53 (upd (A1 53) nv a)) 54 (upd ((updA A1 53 (upd (A1 53) nv a)) 54) nv b)) 55) nv (if a = 0 ∨ a = 2 then 0 else b))) 56) nv 0)) 57 (upd ((updA (updA (updA (updA A1 53 (upd (A1 53) nv a)) 54 (upd ((updA A1 53 (upd (A1 53) nv a)) 54) nv b)) 55 (upd ((updA (updA A1 53 (upd (A1 53) nv a)) 54 (upd ((updA A1 53 (upd (A1 53) nv a)) 54) nv b)) 55) nv (if a = 0 ∨ a = 2 then 0 else b))) 56 (upd ((updA (updA (updA A1 53 (upd (A1 53) nv a)) 54 (upd ((updA A1 53 (upd (A1 53) nv a)) 54) nv b)) 55 (upd ((updA (updA A1 53 (upd (A1 53) nv a)) 54 (upd ((updA A1 53 (upd (A1 53) nv a)) 54) nv b)) 55) nv (if a = 0 ∨ a = 2 then 0 else b))) 56) nv 0)) 57) nv (-1))) 58) nv (-1))) 59) nv (-1))) := (PE.up 59 nv (PE.up 58 nv (PE.up 57 nv (PE.up 56 nv (PE.up 55 nv (PE.up 54 nv (PE.up 53 nv e1 (by omega) (by omega) rfl) (by omega) (by omega) rfl) (by omega) (by omega) rfl) (by omega) (by omega) rfl) (by omega) (by omega) rfl) (by omega) (by omega) rfl) (by omega) (by omega) rfl)
      have F2 := zRf.hd p2 w2 (by omega) F1.2.2.2.1 er R2 (mId.k K2 rfl rfl rfl F1.2.2.2.2.1) fn
      rw [er, es] at F2
      rw [wMom_pe pe] at R1
      rw [wEv_pe pe] at g1
      exact zCx.mk F2 (by omega) (by omega) R1 (pe.tr R2.2.1.sy) K2 fHn_c pHn_c (ow.vs rfl rfl rfl) (kd.vs y1.1 rfl rfl) (wMom_low p2 w2.2.1 w2.1 (by omega) (by omega)) g1 (tc.e (K1.1 44 4 rfl) (K1.2.2.1 45 rfl)) (tm.e ((K2.1 52 29 rfl).trans (K1.1 52 29 rfl)) ((K2.2.2.1 71 rfl).trans (K1.2.2.1 71 rfl))) tn
theorem pair2_vessel (ro : UInt32 → Nat × (Nat → Int32)) (k : Nat) (I : Nat → Nat → Int32) (G : Nat → Nat → Int64) (A : Nat → Nat → Int32) (B : Nat → Nat → Int64) (h : zL2 k I G A B) (hk : k < 512) (a : Int32) (b : Int32) : zWp ro 78 0 [(0, .ref 0), (1, .int a), (2, .int b)] [] (hS I G A B) 0 0 (zP2 ro 141 [(0, .ref 52), (1, .int a), (2, .int b)] k (fun v w => v = w)) := by
  obtain ⟨h1, I3, G3, A3, B3, eh, hx⟩ := h
  have p1 := pair_vessel ro k I G A B h1 hk a b
  have p2 := pairX_vessel ro k I3 G3 A3 B3 hx hk a b
  rw [← eh] at p2
  exact zP_and p1 p2
set_option maxHeartbeats 0 in
theorem pairX_marks (ro : UInt32 → Nat × (Nat → Int32)) (k : Nat) (I : Nat → Nat → Int32) (G : Nat → Nat → Int64) (A : Nat → Nat → Int32) (B : Nat → Nat → Int64) (h : zCx k I G A B) (hk : k < 512) (a : Int32) (b : Int32) (c : Int32) : zWp ro 79 0 [(0, .ref 0), (1, .int a), (2, .int b), (3, .int c)] [] (hS I G A B) 0 0 (zPX ro 142 [(0, .ref 52), (1, .int a), (2, .int b), (3, .int c)] k (fun v w => v = w)) := by
  obtain ⟨nv, np, W, L, F, R, ow, kd, lw, lg, tl, tc, tm, tn⟩ := h
  have fn := F.2.2.2.2.2
  have mm0 := mm_marks ro nv np W L I G A B (242600 * k) F.1 F.2.1 F.2.2.1 (by omega) (by omega) (by omega) a b c
  have hok : ok_marks nv np A a b c → MPa nv np (updA (updA A 55 (upd (A 55) a.toNatClampNeg b)) 56 (upd ((updA A 55 (upd (A 55) a.toNatClampNeg b)) 56) a.toNatClampNeg (if A 53 a.toNatClampNeg = 1 then 0 else c))) ∧ wInv nv 10000 (242600 * k + 1000) (updA (updA A 55 (upd (A 55) a.toNatClampNeg b)) 56 (upd ((updA A 55 (upd (A 55) a.toNatClampNeg b)) 56) a.toNatClampNeg (if A 53 a.toNatClampNeg = 1 then 0 else c))) W := by
    intro hk0
    obtain ⟨_, r, h1, _, I2, G2, A2, B2, _, _, hc⟩ := mm0
    rcases hc with ⟨n, -⟩ | ⟨-, p, w, -⟩
    · exact absurd hk0 n
    · exact ⟨p, w⟩
  refine zWp.mono (cx_marks ro nv np A W L (242600 * k) (-1) I G A B R F.2.1 F.2.2.1 kd lg (by omega) (by omega) a b c hok) ?_
  rintro r h1 ⟨I1, G1, A1, B1, rfl, K1, hc⟩
  have F1 := F.kq K1 fHd_52 pHd_52
  have e1 : PE A A1 := fun k _ _ => (K1.2.2.1 k (pHd_52 k (by omega))).symm
  have er := F1.2.2.2.2.1.1
  have es := F1.2.2.2.2.1.2.1
  have mm := mm_marks ro nv np W L I1 G1 A1 B1 (242600 * k) F1.1 F1.2.1 F1.2.2.1 (by omega) (by omega) (by omega) a b c
  have key := ok_marks_pe (nv := nv) (np := np) (a := a) (b := b) (c := c) e1
  rcases hc with ⟨n1, R1, g1, rfl⟩ | ⟨y1, R1, g1, rfl⟩
  · refine ⟨_, rfl, zWp.mono mm ?_⟩
    rintro r2 h2 ⟨I2, G2, A2, B2, rfl, K2, (⟨n2, R2, rfl⟩ | ⟨y2, -⟩)⟩
    · refine ⟨_, rfl, ?_, rfl⟩
      exact zCx.mk (zRf.of R2 F1.2.1 F1.2.2.1 F1.2.2.2.1 (mId.k K2 rfl rfl rfl F1.2.2.2.2.1) fn) (by omega) (by omega) R1 (e1.tr R2.2.1.sy) K2 fHn_c pHn_c ow kd lw g1 (tc.e (K1.1 44 4 rfl) (K1.2.2.1 45 rfl)) (tm.e ((K2.1 52 29 rfl).trans (K1.1 52 29 rfl)) ((K2.2.2.1 71 rfl).trans (K1.2.2.1 71 rfl))) tn
    · exact absurd (key.mpr y2) n1
  · refine ⟨_, rfl, zWp.mono mm ?_⟩
    rintro r2 h2 ⟨I2, G2, A2, B2, rfl, K2, (⟨n2, -⟩ | ⟨y2, p2, w2, R2, rfl⟩)⟩
    · exact absurd (key.mp y1) n2
    · refine ⟨_, rfl, ?_, rfl⟩
      have pe : PE (updA (updA A 55 (upd (A 55) a.toNatClampNeg b)) 56 (upd ((updA A 55 (upd (A 55) a.toNatClampNeg b)) 56) a.toNatClampNeg (if A 53 a.toNatClampNeg = 1 then 0 else c))) (updA (updA A1 55 (upd (A1 55) a.toNatClampNeg b)) 56 (upd ((updA A1 55 (upd (A1 55) a.toNatClampNeg b)) 56) a.toNatClampNeg (if A1 53 a.toNatClampNeg = 1 then 0 else c))) := (PE.up 56 a.toNatClampNeg (PE.up 55 a.toNatClampNeg e1 (by omega) (by omega) rfl) (by omega) (by omega) (by rw [e1 53 (by omega) (by omega)]))
      have F2 := zRf.hd p2 w2 (by omega) F1.2.2.2.1 er R2 (mId.k K2 rfl rfl rfl F1.2.2.2.2.1) fn
      rw [er, es] at F2
      rw [wMom_pe pe] at R1
      rw [wEv_pe pe] at g1
      exact zCx.mk F2 (by omega) (by omega) R1 (pe.tr R2.2.1.sy) K2 fHn_c pHn_c (ow.e rfl rfl rfl) (kd.mk rfl rfl) (wMom_low p2 w2.2.1 w2.1 (by omega) (by omega)) g1 (tc.e (K1.1 44 4 rfl) (K1.2.2.1 45 rfl)) (tm.e ((K2.1 52 29 rfl).trans (K1.1 52 29 rfl)) ((K2.2.2.1 71 rfl).trans (K1.2.2.1 71 rfl))) tn
theorem pair2_marks (ro : UInt32 → Nat × (Nat → Int32)) (k : Nat) (I : Nat → Nat → Int32) (G : Nat → Nat → Int64) (A : Nat → Nat → Int32) (B : Nat → Nat → Int64) (h : zL2 k I G A B) (hk : k < 512) (a : Int32) (b : Int32) (c : Int32) : zWp ro 79 0 [(0, .ref 0), (1, .int a), (2, .int b), (3, .int c)] [] (hS I G A B) 0 0 (zP2 ro 142 [(0, .ref 52), (1, .int a), (2, .int b), (3, .int c)] k (fun v w => v = w)) := by
  obtain ⟨h1, I3, G3, A3, B3, eh, hx⟩ := h
  have p1 := pair_marks ro k I G A B h1 hk a b c
  have p2 := pairX_marks ro k I3 G3 A3 B3 hx hk a b c
  rw [← eh] at p2
  exact zP_and p1 p2
set_option maxHeartbeats 0 in
theorem pairX_own (ro : UInt32 → Nat × (Nat → Int32)) (k : Nat) (I : Nat → Nat → Int32) (G : Nat → Nat → Int64) (A : Nat → Nat → Int32) (B : Nat → Nat → Int64) (h : zCx k I G A B) (hk : k < 512) (a : Int32) (b : Int32) : zWp ro 80 0 [(0, .ref 0), (1, .int a), (2, .int b)] [] (hS I G A B) 0 0 (zPX ro 143 [(0, .ref 52), (1, .int a), (2, .int b)] k (fun v w => v = w)) := by
  obtain ⟨nv, np, W, L, F, R, ow, kd, lw, lg, tl, tc, tm, tn⟩ := h
  have fn := F.2.2.2.2.2
  have mm0 := mm_own ro nv np W L I G A B (242600 * k) F.1 F.2.1 F.2.2.1 (by omega) (by omega) (by omega) a b
  have hok : ok_own nv np A a b → MPa nv np (updA A 57 (upd (A 57) a.toNatClampNeg b)) ∧ wInv nv 10000 (242600 * k + 1000) (updA A 57 (upd (A 57) a.toNatClampNeg b)) W := by
    intro hk0
    obtain ⟨_, r, h1, _, I2, G2, A2, B2, _, _, hc⟩ := mm0
    rcases hc with ⟨n, -⟩ | ⟨-, p, w, -⟩
    · exact absurd hk0 n
    · exact ⟨p, w⟩
  refine zWp.mono (cx_own ro nv np A W L (242600 * k) (-1) I G A B R F.2.1 F.2.2.1 kd lg (by omega) (by omega) a b hok) ?_
  rintro r h1 ⟨I1, G1, A1, B1, rfl, K1, hc⟩
  have F1 := F.kq K1 fHd_52 pHd_52
  have e1 : PE A A1 := fun k _ _ => (K1.2.2.1 k (pHd_52 k (by omega))).symm
  have er := F1.2.2.2.2.1.1
  have es := F1.2.2.2.2.1.2.1
  have mm := mm_own ro nv np W L I1 G1 A1 B1 (242600 * k) F1.1 F1.2.1 F1.2.2.1 (by omega) (by omega) (by omega) a b
  have key := ok_own_pe (nv := nv) (np := np) (a := a) (b := b) e1
  rcases hc with ⟨n1, R1, g1, rfl⟩ | ⟨y1, R1, g1, rfl⟩
  · refine ⟨_, rfl, zWp.mono mm ?_⟩
    rintro r2 h2 ⟨I2, G2, A2, B2, rfl, K2, (⟨n2, R2, rfl⟩ | ⟨y2, -⟩)⟩
    · refine ⟨_, rfl, ?_, rfl⟩
      exact zCx.mk (zRf.of R2 F1.2.1 F1.2.2.1 F1.2.2.2.1 (mId.k K2 rfl rfl rfl F1.2.2.2.2.1) fn) (by omega) (by omega) R1 (e1.tr R2.2.1.sy) K2 fHn_c pHn_c ow kd lw g1 (tc.e (K1.1 44 4 rfl) (K1.2.2.1 45 rfl)) (tm.e ((K2.1 52 29 rfl).trans (K1.1 52 29 rfl)) ((K2.2.2.1 71 rfl).trans (K1.2.2.1 71 rfl))) tn
    · exact absurd (key.mpr y2) n1
  · refine ⟨_, rfl, zWp.mono mm ?_⟩
    rintro r2 h2 ⟨I2, G2, A2, B2, rfl, K2, (⟨n2, -⟩ | ⟨y2, p2, w2, R2, rfl⟩)⟩
    · exact absurd (key.mp y1) n2
    · refine ⟨_, rfl, ?_, rfl⟩
      have pe : PE (updA A 57 (upd (A 57) a.toNatClampNeg b)) (updA A1 57 (upd (A1 57) a.toNatClampNeg b)) := (PE.up 57 a.toNatClampNeg e1 (by omega) (by omega) rfl)
      have F2 := zRf.hd p2 w2 (by omega) F1.2.2.2.1 er R2 (mId.k K2 rfl rfl rfl F1.2.2.2.2.1) fn
      rw [er, es] at F2
      rw [wMom_pe pe] at R1
      rw [wEv_pe pe] at g1
      exact zCx.mk F2 (by omega) (by omega) R1 (pe.tr R2.2.1.sy) K2 fHn_c pHn_c (ow.ow F.2.1.2.1 y1 rfl rfl rfl) (kd.e rfl rfl) (wMom_low p2 w2.2.1 w2.1 (by omega) (by omega)) g1 (tc.e (K1.1 44 4 rfl) (K1.2.2.1 45 rfl)) (tm.e ((K2.1 52 29 rfl).trans (K1.1 52 29 rfl)) ((K2.2.2.1 71 rfl).trans (K1.2.2.1 71 rfl))) tn
theorem pair2_own (ro : UInt32 → Nat × (Nat → Int32)) (k : Nat) (I : Nat → Nat → Int32) (G : Nat → Nat → Int64) (A : Nat → Nat → Int32) (B : Nat → Nat → Int64) (h : zL2 k I G A B) (hk : k < 512) (a : Int32) (b : Int32) : zWp ro 80 0 [(0, .ref 0), (1, .int a), (2, .int b)] [] (hS I G A B) 0 0 (zP2 ro 143 [(0, .ref 52), (1, .int a), (2, .int b)] k (fun v w => v = w)) := by
  obtain ⟨h1, I3, G3, A3, B3, eh, hx⟩ := h
  have p1 := pair_own ro k I G A B h1 hk a b
  have p2 := pairX_own ro k I3 G3 A3 B3 hx hk a b
  rw [← eh] at p2
  exact zP_and p1 p2
set_option maxHeartbeats 0 in
theorem pairX_tips (ro : UInt32 → Nat × (Nat → Int32)) (k : Nat) (I : Nat → Nat → Int32) (G : Nat → Nat → Int64) (A : Nat → Nat → Int32) (B : Nat → Nat → Int64) (h : zCx k I G A B) (hk : k < 512) (a : Int32) (b : Int32) : zWp ro 81 0 [(0, .ref 0), (1, .int a), (2, .int b)] [] (hS I G A B) 0 0 (zPX ro 145 [(0, .ref 52), (1, .int a), (2, .int b)] k (fun v w => v = w)) := by
  obtain ⟨nv, np, W, L, F, R, ow, kd, lw, lg, tl, tc, tm, tn⟩ := h
  have fn := F.2.2.2.2.2
  have mm0 := mm_tips ro nv np W L I G A B (242600 * k) F.1 F.2.1 F.2.2.1 (by omega) (by omega) (by omega) a b
  have hok : ok_tips nv np A a b → MPa nv np (updA A 58 (upd (A 58) a.toNatClampNeg b)) ∧ wInv nv 10000 (242600 * k + 1000) (updA A 58 (upd (A 58) a.toNatClampNeg b)) W := by
    intro hk0
    obtain ⟨_, r, h1, _, I2, G2, A2, B2, _, _, hc⟩ := mm0
    rcases hc with ⟨n, -⟩ | ⟨-, p, w, -⟩
    · exact absurd hk0 n
    · exact ⟨p, w⟩
  refine zWp.mono (cx_tips ro nv np A W L (242600 * k) (-1) I G A B R F.2.1 F.2.2.1 kd lg (by omega) (by omega) a b hok) ?_
  rintro r h1 ⟨I1, G1, A1, B1, rfl, K1, hc⟩
  have F1 := F.kq K1 fHd_52 pHd_52
  have e1 : PE A A1 := fun k _ _ => (K1.2.2.1 k (pHd_52 k (by omega))).symm
  have er := F1.2.2.2.2.1.1
  have es := F1.2.2.2.2.1.2.1
  have mm := mm_tips ro nv np W L I1 G1 A1 B1 (242600 * k) F1.1 F1.2.1 F1.2.2.1 (by omega) (by omega) (by omega) a b
  have key := ok_tips_pe (nv := nv) (np := np) (a := a) (b := b) e1
  rcases hc with ⟨n1, R1, g1, rfl⟩ | ⟨y1, R1, g1, rfl⟩
  · refine ⟨_, rfl, zWp.mono mm ?_⟩
    rintro r2 h2 ⟨I2, G2, A2, B2, rfl, K2, (⟨n2, R2, rfl⟩ | ⟨y2, -⟩)⟩
    · refine ⟨_, rfl, ?_, rfl⟩
      exact zCx.mk (zRf.of R2 F1.2.1 F1.2.2.1 F1.2.2.2.1 (mId.k K2 rfl rfl rfl F1.2.2.2.2.1) fn) (by omega) (by omega) R1 (e1.tr R2.2.1.sy) K2 fHn_c pHn_c ow kd lw g1 (tc.e (K1.1 44 4 rfl) (K1.2.2.1 45 rfl)) (tm.e ((K2.1 52 29 rfl).trans (K1.1 52 29 rfl)) ((K2.2.2.1 71 rfl).trans (K1.2.2.1 71 rfl))) tn
    · exact absurd (key.mpr y2) n1
  · refine ⟨_, rfl, zWp.mono mm ?_⟩
    rintro r2 h2 ⟨I2, G2, A2, B2, rfl, K2, (⟨n2, -⟩ | ⟨y2, p2, w2, R2, rfl⟩)⟩
    · exact absurd (key.mp y1) n2
    · refine ⟨_, rfl, ?_, rfl⟩
      have pe : PE (updA A 58 (upd (A 58) a.toNatClampNeg b)) (updA A1 58 (upd (A1 58) a.toNatClampNeg b)) := (PE.up 58 a.toNatClampNeg e1 (by omega) (by omega) rfl)
      have F2 := zRf.hd p2 w2 (by omega) F1.2.2.2.1 er R2 (mId.k K2 rfl rfl rfl F1.2.2.2.2.1) fn
      rw [er, es] at F2
      rw [wMom_pe pe] at R1
      rw [wEv_pe pe] at g1
      exact zCx.mk F2 (by omega) (by omega) R1 (pe.tr R2.2.1.sy) K2 fHn_c pHn_c (ow.e rfl rfl rfl) (kd.e rfl rfl) (wMom_low p2 w2.2.1 w2.1 (by omega) (by omega)) g1 (tc.e (K1.1 44 4 rfl) (K1.2.2.1 45 rfl)) (tm.e ((K2.1 52 29 rfl).trans (K1.1 52 29 rfl)) ((K2.2.2.1 71 rfl).trans (K1.2.2.1 71 rfl))) tn
theorem pair2_tips (ro : UInt32 → Nat × (Nat → Int32)) (k : Nat) (I : Nat → Nat → Int32) (G : Nat → Nat → Int64) (A : Nat → Nat → Int32) (B : Nat → Nat → Int64) (h : zL2 k I G A B) (hk : k < 512) (a : Int32) (b : Int32) : zWp ro 81 0 [(0, .ref 0), (1, .int a), (2, .int b)] [] (hS I G A B) 0 0 (zP2 ro 145 [(0, .ref 52), (1, .int a), (2, .int b)] k (fun v w => v = w)) := by
  obtain ⟨h1, I3, G3, A3, B3, eh, hx⟩ := h
  have p1 := pair_tips ro k I G A B h1 hk a b
  have p2 := pairX_tips ro k I3 G3 A3 B3 hx hk a b
  rw [← eh] at p2
  exact zP_and p1 p2
set_option maxHeartbeats 0 in
theorem pairX_over (ro : UInt32 → Nat × (Nat → Int32)) (k : Nat) (I : Nat → Nat → Int32) (G : Nat → Nat → Int64) (A : Nat → Nat → Int32) (B : Nat → Nat → Int64) (h : zCx k I G A B) (hk : k < 512) (a : Int32) (b : Int32) : zWp ro 82 0 [(0, .ref 0), (1, .int a), (2, .int b)] [] (hS I G A B) 0 0 (zPX ro 146 [(0, .ref 52), (1, .int a), (2, .int b)] k (fun v w => v = w)) := by
  obtain ⟨nv, np, W, L, F, R, ow, kd, lw, lg, tl, tc, tm, tn⟩ := h
  have fn := F.2.2.2.2.2
  have mm0 := mm_over ro nv np W L I G A B (242600 * k) F.1 F.2.1 F.2.2.1 (by omega) (by omega) (by omega) a b
  have hok : ok_over nv np A a b → MPa nv np (updA A 59 (upd (A 59) a.toNatClampNeg b)) ∧ wInv nv 10000 (242600 * k + 1000) (updA A 59 (upd (A 59) a.toNatClampNeg b)) W := by
    intro hk0
    obtain ⟨_, r, h1, _, I2, G2, A2, B2, _, _, hc⟩ := mm0
    rcases hc with ⟨n, -⟩ | ⟨-, p, w, -⟩
    · exact absurd hk0 n
    · exact ⟨p, w⟩
  refine zWp.mono (cx_over ro nv np A W L (242600 * k) (-1) I G A B R F.2.1 F.2.2.1 kd lg (by omega) (by omega) a b hok) ?_
  rintro r h1 ⟨I1, G1, A1, B1, rfl, K1, hc⟩
  have F1 := F.kq K1 fHd_52 pHd_52
  have e1 : PE A A1 := fun k _ _ => (K1.2.2.1 k (pHd_52 k (by omega))).symm
  have er := F1.2.2.2.2.1.1
  have es := F1.2.2.2.2.1.2.1
  have mm := mm_over ro nv np W L I1 G1 A1 B1 (242600 * k) F1.1 F1.2.1 F1.2.2.1 (by omega) (by omega) (by omega) a b
  have key := ok_over_pe (nv := nv) (np := np) (a := a) (b := b) e1
  rcases hc with ⟨n1, R1, g1, rfl⟩ | ⟨y1, R1, g1, rfl⟩
  · refine ⟨_, rfl, zWp.mono mm ?_⟩
    rintro r2 h2 ⟨I2, G2, A2, B2, rfl, K2, (⟨n2, R2, rfl⟩ | ⟨y2, -⟩)⟩
    · refine ⟨_, rfl, ?_, rfl⟩
      exact zCx.mk (zRf.of R2 F1.2.1 F1.2.2.1 F1.2.2.2.1 (mId.k K2 rfl rfl rfl F1.2.2.2.2.1) fn) (by omega) (by omega) R1 (e1.tr R2.2.1.sy) K2 fHn_c pHn_c ow kd lw g1 (tc.e (K1.1 44 4 rfl) (K1.2.2.1 45 rfl)) (tm.e ((K2.1 52 29 rfl).trans (K1.1 52 29 rfl)) ((K2.2.2.1 71 rfl).trans (K1.2.2.1 71 rfl))) tn
    · exact absurd (key.mpr y2) n1
  · refine ⟨_, rfl, zWp.mono mm ?_⟩
    rintro r2 h2 ⟨I2, G2, A2, B2, rfl, K2, (⟨n2, -⟩ | ⟨y2, p2, w2, R2, rfl⟩)⟩
    · exact absurd (key.mp y1) n2
    · refine ⟨_, rfl, ?_, rfl⟩
      have pe : PE (updA A 59 (upd (A 59) a.toNatClampNeg b)) (updA A1 59 (upd (A1 59) a.toNatClampNeg b)) := (PE.up 59 a.toNatClampNeg e1 (by omega) (by omega) rfl)
      have F2 := zRf.hd p2 w2 (by omega) F1.2.2.2.1 er R2 (mId.k K2 rfl rfl rfl F1.2.2.2.2.1) fn
      rw [er, es] at F2
      rw [wMom_pe pe] at R1
      rw [wEv_pe pe] at g1
      exact zCx.mk F2 (by omega) (by omega) R1 (pe.tr R2.2.1.sy) K2 fHn_c pHn_c (ow.e rfl rfl rfl) (kd.e rfl rfl) (wMom_low p2 w2.2.1 w2.1 (by omega) (by omega)) g1 (tc.e (K1.1 44 4 rfl) (K1.2.2.1 45 rfl)) (tm.e ((K2.1 52 29 rfl).trans (K1.1 52 29 rfl)) ((K2.2.2.1 71 rfl).trans (K1.2.2.1 71 rfl))) tn
theorem pair2_over (ro : UInt32 → Nat × (Nat → Int32)) (k : Nat) (I : Nat → Nat → Int32) (G : Nat → Nat → Int64) (A : Nat → Nat → Int32) (B : Nat → Nat → Int64) (h : zL2 k I G A B) (hk : k < 512) (a : Int32) (b : Int32) : zWp ro 82 0 [(0, .ref 0), (1, .int a), (2, .int b)] [] (hS I G A B) 0 0 (zP2 ro 146 [(0, .ref 52), (1, .int a), (2, .int b)] k (fun v w => v = w)) := by
  obtain ⟨h1, I3, G3, A3, B3, eh, hx⟩ := h
  have p1 := pair_over ro k I G A B h1 hk a b
  have p2 := pairX_over ro k I3 G3 A3 B3 hx hk a b
  rw [← eh] at p2
  exact zP_and p1 p2
set_option maxHeartbeats 0 in
theorem pairX_pipe (ro : UInt32 → Nat × (Nat → Int32)) (k : Nat) (I : Nat → Nat → Int32) (G : Nat → Nat → Int64) (A : Nat → Nat → Int32) (B : Nat → Nat → Int64) (h : zCx k I G A B) (hk : k < 512) (a : Int32) (b : Int32) (c : Int32) : zWp ro 83 0 [(0, .ref 0), (1, .int a), (2, .int b), (3, .int c)] [] (hS I G A B) 0 0 (zPX ro 147 [(0, .ref 52), (1, .int a), (2, .int b), (3, .int c)] k (fun v w => v = w)) := by
  obtain ⟨nv, np, W, L, F, R, ow, kd, lw, lg, tl, tc, tm, tn⟩ := h
  have fn := F.2.2.2.2.2
  have mm0 := mm_pipe ro nv np W L I G A B (242600 * k) F.1 F.2.1 F.2.2.1 (by omega) (by omega) (by omega) a b c
  have hok : ok_pipe nv np A a b c → MPa nv (np + 1) (updA (updA (updA A 60 (upd (A 60) np a)) 61 (upd ((updA A 60 (upd (A 60) np a)) 61) np b)) 62 (upd ((updA (updA A 60 (upd (A 60) np a)) 61 (upd ((updA A 60 (upd (A 60) np a)) 61) np b)) 62) np c)) ∧ wInv nv 10000 (242600 * k + 1000) (updA (updA (updA A 60 (upd (A 60) np a)) 61 (upd ((updA A 60 (upd (A 60) np a)) 61) np b)) 62 (upd ((updA (updA A 60 (upd (A 60) np a)) 61 (upd ((updA A 60 (upd (A 60) np a)) 61) np b)) 62) np c)) (wOpn np 1 W) := by
    intro hk0
    obtain ⟨_, r, h1, _, I2, G2, A2, B2, _, _, hc⟩ := mm0
    rcases hc with ⟨n, -⟩ | ⟨-, p, w, -⟩
    · exact absurd hk0 n
    · exact ⟨p, w⟩
  refine zWp.mono (cx_pipe ro nv np A W L (242600 * k) (-1) I G A B R F.2.1 F.2.2.1 kd lg (by omega) (by omega) a b c hok) ?_
  rintro r h1 ⟨I1, G1, A1, B1, rfl, K1, hc⟩
  have F1 := F.kq K1 fHd_52 pHd_52
  have e1 : PE A A1 := fun k _ _ => (K1.2.2.1 k (pHd_52 k (by omega))).symm
  have er := F1.2.2.2.2.1.1
  have es := F1.2.2.2.2.1.2.1
  have mm := mm_pipe ro nv np W L I1 G1 A1 B1 (242600 * k) F1.1 F1.2.1 F1.2.2.1 (by omega) (by omega) (by omega) a b c
  have key := ok_pipe_pe (nv := nv) (np := np) (a := a) (b := b) (c := c) e1
  rcases hc with ⟨n1, R1, g1, rfl⟩ | ⟨y1, R1, g1, rfl⟩
  · refine ⟨_, rfl, zWp.mono mm ?_⟩
    rintro r2 h2 ⟨I2, G2, A2, B2, rfl, K2, (⟨n2, R2, rfl⟩ | ⟨y2, -⟩)⟩
    · refine ⟨_, rfl, ?_, rfl⟩
      exact zCx.mk (zRf.of R2 F1.2.1 F1.2.2.1 F1.2.2.2.1 (mId.k K2 rfl rfl rfl F1.2.2.2.2.1) fn) (by omega) (by omega) R1 (e1.tr R2.2.1.sy) K2 fHn_c pHn_c ow kd lw g1 (tc.e (K1.1 44 4 rfl) (K1.2.2.1 45 rfl)) (tm.e ((K2.1 52 29 rfl).trans (K1.1 52 29 rfl)) ((K2.2.2.1 71 rfl).trans (K1.2.2.1 71 rfl))) tn
    · exact absurd (key.mpr y2) n1
  · refine ⟨_, rfl, zWp.mono mm ?_⟩
    rintro r2 h2 ⟨I2, G2, A2, B2, rfl, K2, (⟨n2, -⟩ | ⟨y2, p2, w2, R2, rfl⟩)⟩
    · exact absurd (key.mp y1) n2
    · refine ⟨_, rfl, ?_, rfl⟩
      have pe : PE (updA (updA (updA A 60 (upd (A 60) np a)) 61 (upd ((updA A 60 (upd (A 60) np a)) 61) np b)) 62 (upd ((updA (updA A 60 (upd (A 60) np a)) 61 (upd ((updA A 60 (upd (A 60) np a)) 61) np b)) 62) np c)) (updA (updA (updA A1 60 (upd (A1 60) np a)) 61 (upd ((updA A1 60 (upd (A1 60) np a)) 61) np b)) 62 (upd ((updA (updA A1 60 (upd (A1 60) np a)) 61 (upd ((updA A1 60 (upd (A1 60) np a)) 61) np b)) 62) np c)) := (PE.up 62 np (PE.up 61 np (PE.up 60 np e1 (by omega) (by omega) rfl) (by omega) (by omega) rfl) (by omega) (by omega) rfl)
      have F2 := zRf.hd p2 w2 (by omega) F1.2.2.2.1 er R2 (mId.k K2 rfl rfl rfl F1.2.2.2.2.1) fn
      rw [er, es] at F2
      rw [wMom_pe pe] at R1
      rw [wEv_pe pe] at g1
      exact zCx.mk F2 (by omega) (by omega) R1 (pe.tr R2.2.1.sy) K2 fHn_c pHn_c (ow.pi rfl rfl rfl) (kd.e rfl rfl) (wMom_low p2 w2.2.1 w2.1 (by omega) (by omega)) g1 (tc.e (K1.1 44 4 rfl) (K1.2.2.1 45 rfl)) (tm.e ((K2.1 52 29 rfl).trans (K1.1 52 29 rfl)) ((K2.2.2.1 71 rfl).trans (K1.2.2.1 71 rfl))) tn
theorem pair2_pipe (ro : UInt32 → Nat × (Nat → Int32)) (k : Nat) (I : Nat → Nat → Int32) (G : Nat → Nat → Int64) (A : Nat → Nat → Int32) (B : Nat → Nat → Int64) (h : zL2 k I G A B) (hk : k < 512) (a : Int32) (b : Int32) (c : Int32) : zWp ro 83 0 [(0, .ref 0), (1, .int a), (2, .int b), (3, .int c)] [] (hS I G A B) 0 0 (zP2 ro 147 [(0, .ref 52), (1, .int a), (2, .int b), (3, .int c)] k (fun v w => v = w)) := by
  obtain ⟨h1, I3, G3, A3, B3, eh, hx⟩ := h
  have p1 := pair_pipe ro k I G A B h1 hk a b c
  have p2 := pairX_pipe ro k I3 G3 A3 B3 hx hk a b c
  rw [← eh] at p2
  exact zP_and p1 p2
set_option maxHeartbeats 0 in
theorem pairX_fill (ro : UInt32 → Nat × (Nat → Int32)) (k : Nat) (I : Nat → Nat → Int32) (G : Nat → Nat → Int64) (A : Nat → Nat → Int32) (B : Nat → Nat → Int64) (h : zCx k I G A B) (hk : k < 512) (a : Int32) (b : Int32) : zWp ro 84 0 [(0, .ref 0), (1, .int a), (2, .int b)] [] (hS I G A B) 0 0 (zPX ro 148 [(0, .ref 52), (1, .int a), (2, .int b)] k (fun v w => v = w)) := by
  obtain ⟨nv, np, W, L, F, R, ow, kd, lw, lg, tl, tc, tm, tn⟩ := h
  have fn := F.2.2.2.2.2
  have mm0 := mm_fill ro nv np W L I G A B (242600 * k) F.1 F.2.1 F.2.2.1 (by omega) (by omega) (by omega) a b
  have hok : ok_fill nv np A a b → MPa nv np A ∧ wInv nv 10000 (242600 * k + 1000) A (wFill (A 54) (A 59) a b W) := by
    intro hk0
    obtain ⟨_, r, h1, _, I2, G2, A2, B2, _, _, hc⟩ := mm0
    rcases hc with ⟨n, -⟩ | ⟨-, p, w, -⟩
    · exact absurd hk0 n
    · exact ⟨p, w⟩
  refine zWp.mono (cx_fill ro nv np A W L (242600 * k) (-1) I G A B R F.2.1 F.2.2.1 kd lg (by omega) (by omega) a b hok) ?_
  rintro r h1 ⟨I1, G1, A1, B1, rfl, K1, hc⟩
  have F1 := F.kq K1 fHd_52 pHd_52
  have e1 : PE A A1 := fun k _ _ => (K1.2.2.1 k (pHd_52 k (by omega))).symm
  have er := F1.2.2.2.2.1.1
  have es := F1.2.2.2.2.1.2.1
  have mm := mm_fill ro nv np W L I1 G1 A1 B1 (242600 * k) F1.1 F1.2.1 F1.2.2.1 (by omega) (by omega) (by omega) a b
  have key : ok_fill nv np A a b ↔ ok_fill nv np A1 a b := Iff.rfl
  rcases hc with ⟨n1, R1, g1, rfl⟩ | ⟨y1, R1, g1, rfl⟩
  · refine ⟨_, rfl, zWp.mono mm ?_⟩
    rintro r2 h2 ⟨I2, G2, A2, B2, rfl, K2, (⟨n2, R2, rfl⟩ | ⟨y2, -⟩)⟩
    · refine ⟨_, rfl, ?_, rfl⟩
      exact zCx.mk (zRf.of R2 F1.2.1 F1.2.2.1 F1.2.2.2.1 (mId.k K2 rfl rfl rfl F1.2.2.2.2.1) fn) (by omega) (by omega) R1 (e1.tr R2.2.1.sy) K2 fHn_c pHn_c ow kd lw g1 (tc.e (K1.1 44 4 rfl) (K1.2.2.1 45 rfl)) (tm.e ((K2.1 52 29 rfl).trans (K1.1 52 29 rfl)) ((K2.2.2.1 71 rfl).trans (K1.2.2.1 71 rfl))) tn
    · exact absurd (key.mpr y2) n1
  · refine ⟨_, rfl, zWp.mono mm ?_⟩
    rintro r2 h2 ⟨I2, G2, A2, B2, rfl, K2, (⟨n2, -⟩ | ⟨y2, p2, w2, R2, rfl⟩)⟩
    · exact absurd (key.mp y1) n2
    · refine ⟨_, rfl, ?_, rfl⟩
      have pe : PE A A1 := e1
      have F2 := zRf.hd p2 w2 (by omega) F1.2.2.2.1 er R2 (mId.k K2 rfl rfl rfl F1.2.2.2.2.1) fn
      rw [er, es] at F2
      have eW : (wFill (A 54) (A 59) a b W) = (wFill (A1 54) (A1 59) a b W) := by rw [e1 54 (by omega) (by omega), e1 59 (by omega) (by omega)]
      rw [eW] at R1 g1
      rw [wMom_pe pe] at R1
      rw [wEv_pe pe] at g1
      exact zCx.mk F2 (by omega) (by omega) R1 (pe.tr R2.2.1.sy) K2 fHn_c pHn_c ow kd (wMom_low p2 w2.2.1 w2.1 (by omega) (by omega)) g1 (tc.e (K1.1 44 4 rfl) (K1.2.2.1 45 rfl)) (tm.e ((K2.1 52 29 rfl).trans (K1.1 52 29 rfl)) ((K2.2.2.1 71 rfl).trans (K1.2.2.1 71 rfl))) tn
theorem pair2_fill (ro : UInt32 → Nat × (Nat → Int32)) (k : Nat) (I : Nat → Nat → Int32) (G : Nat → Nat → Int64) (A : Nat → Nat → Int32) (B : Nat → Nat → Int64) (h : zL2 k I G A B) (hk : k < 512) (a : Int32) (b : Int32) : zWp ro 84 0 [(0, .ref 0), (1, .int a), (2, .int b)] [] (hS I G A B) 0 0 (zP2 ro 148 [(0, .ref 52), (1, .int a), (2, .int b)] k (fun v w => v = w)) := by
  obtain ⟨h1, I3, G3, A3, B3, eh, hx⟩ := h
  have p1 := pair_fill ro k I G A B h1 hk a b
  have p2 := pairX_fill ro k I3 G3 A3 B3 hx hk a b
  rw [← eh] at p2
  exact zP_and p1 p2
set_option maxHeartbeats 0 in
theorem pairX_shut (ro : UInt32 → Nat × (Nat → Int32)) (k : Nat) (I : Nat → Nat → Int32) (G : Nat → Nat → Int64) (A : Nat → Nat → Int32) (B : Nat → Nat → Int64) (h : zCx k I G A B) (hk : k < 512) (a : Int32) (b : Int32) (hz : b = 0 ∨ b = 1) : zWp ro 85 0 [(0, .ref 0), (1, .int a), (2, .int b)] [] (hS I G A B) 0 0 (zPX ro 149 [(0, .ref 52), (1, .int a), (2, .int b)] k (fun v w => v = w)) := by
  obtain ⟨nv, np, W, L, F, R, ow, kd, lw, lg, tl, tc, tm, tn⟩ := h
  have fn := F.2.2.2.2.2
  have mm0 := mm_shut ro nv np W L I G A B (242600 * k) F.1 F.2.1 F.2.2.1 (by omega) (by omega) (by omega) a b hz
  have hok : ok_shut nv np A a b → MPa nv np A ∧ wInv nv 10000 (242600 * k + 1000) A (wOpn a.toNatClampNeg (if b = 0 then 1 else 0) W) := by
    intro hk0
    obtain ⟨_, r, h1, _, I2, G2, A2, B2, _, _, hc⟩ := mm0
    rcases hc with ⟨n, -⟩ | ⟨-, p, w, -⟩
    · exact absurd hk0 n
    · exact ⟨p, w⟩
  refine zWp.mono (cx_shut ro nv np A W L (242600 * k) (-1) I G A B R F.2.1 F.2.2.1 kd lg (by omega) (by omega) a b hz hok) ?_
  rintro r h1 ⟨I1, G1, A1, B1, rfl, K1, hc⟩
  have F1 := F.kq K1 fHd_52 pHd_52
  have e1 : PE A A1 := fun k _ _ => (K1.2.2.1 k (pHd_52 k (by omega))).symm
  have er := F1.2.2.2.2.1.1
  have es := F1.2.2.2.2.1.2.1
  have mm := mm_shut ro nv np W L I1 G1 A1 B1 (242600 * k) F1.1 F1.2.1 F1.2.2.1 (by omega) (by omega) (by omega) a b hz
  have key : ok_shut nv np A a b ↔ ok_shut nv np A1 a b := Iff.rfl
  rcases hc with ⟨n1, R1, g1, rfl⟩ | ⟨y1, R1, g1, rfl⟩
  · refine ⟨_, rfl, zWp.mono mm ?_⟩
    rintro r2 h2 ⟨I2, G2, A2, B2, rfl, K2, (⟨n2, R2, rfl⟩ | ⟨y2, -⟩)⟩
    · refine ⟨_, rfl, ?_, rfl⟩
      exact zCx.mk (zRf.of R2 F1.2.1 F1.2.2.1 F1.2.2.2.1 (mId.k K2 rfl rfl rfl F1.2.2.2.2.1) fn) (by omega) (by omega) R1 (e1.tr R2.2.1.sy) K2 fHn_c pHn_c ow kd lw g1 (tc.e (K1.1 44 4 rfl) (K1.2.2.1 45 rfl)) (tm.e ((K2.1 52 29 rfl).trans (K1.1 52 29 rfl)) ((K2.2.2.1 71 rfl).trans (K1.2.2.1 71 rfl))) tn
    · exact absurd (key.mpr y2) n1
  · refine ⟨_, rfl, zWp.mono mm ?_⟩
    rintro r2 h2 ⟨I2, G2, A2, B2, rfl, K2, (⟨n2, -⟩ | ⟨y2, p2, w2, R2, rfl⟩)⟩
    · exact absurd (key.mp y1) n2
    · refine ⟨_, rfl, ?_, rfl⟩
      have pe : PE A A1 := e1
      have F2 := zRf.hd p2 w2 (by omega) F1.2.2.2.1 er R2 (mId.k K2 rfl rfl rfl F1.2.2.2.2.1) fn
      rw [er, es] at F2
      rw [wMom_pe pe] at R1
      rw [wEv_pe pe] at g1
      exact zCx.mk F2 (by omega) (by omega) R1 (pe.tr R2.2.1.sy) K2 fHn_c pHn_c ow kd (wMom_low p2 w2.2.1 w2.1 (by omega) (by omega)) g1 (tc.e (K1.1 44 4 rfl) (K1.2.2.1 45 rfl)) (tm.e ((K2.1 52 29 rfl).trans (K1.1 52 29 rfl)) ((K2.2.2.1 71 rfl).trans (K1.2.2.1 71 rfl))) tn
theorem pair2_shut (ro : UInt32 → Nat × (Nat → Int32)) (k : Nat) (I : Nat → Nat → Int32) (G : Nat → Nat → Int64) (A : Nat → Nat → Int32) (B : Nat → Nat → Int64) (h : zL2 k I G A B) (hk : k < 512) (a : Int32) (b : Int32) (hz : b = 0 ∨ b = 1) : zWp ro 85 0 [(0, .ref 0), (1, .int a), (2, .int b)] [] (hS I G A B) 0 0 (zP2 ro 149 [(0, .ref 52), (1, .int a), (2, .int b)] k (fun v w => v = w)) := by
  obtain ⟨h1, I3, G3, A3, B3, eh, hx⟩ := h
  have p1 := pair_shut ro k I G A B h1 hk a b hz
  have p2 := pairX_shut ro k I3 G3 A3 B3 hx hk a b hz
  rw [← eh] at p2
  exact zP_and p1 p2
set_option maxHeartbeats 0 in
theorem pairX_amount (ro : UInt32 → Nat × (Nat → Int32)) (k : Nat) (I : Nat → Nat → Int32) (G : Nat → Nat → Int64) (A : Nat → Nat → Int32) (B : Nat → Nat → Int64) (h : zCx k I G A B) (hk : k < 512) (a : Int32) (b : Int32) : zWp ro 86 0 [(0, .ref 0), (1, .int a), (2, .int b)] [] (hS I G A B) 0 0 (zPX ro 150 [(0, .ref 52), (1, .int a), (2, .int b)] k (fun v w => v = w)) := by
  obtain ⟨nv, np, W, L, F, R, ow, kd, lw, lg, tl, tc, tm, tn⟩ := h
  have fn := F.2.2.2.2.2
  have mm0 := mm_amount ro nv np W L I G A B (242600 * k) F.1 F.2.1 F.2.2.1 (by omega) (by omega) (by omega) a b
  have hok : ok_amount nv np A a b → MPa nv np (updA A 62 (upd (A 62) a.toNatClampNeg b)) ∧ wInv nv 10000 (242600 * k + 1000) (updA A 62 (upd (A 62) a.toNatClampNeg b)) W := by
    intro hk0
    obtain ⟨_, r, h1, _, I2, G2, A2, B2, _, _, hc⟩ := mm0
    rcases hc with ⟨n, -⟩ | ⟨-, p, w, -⟩
    · exact absurd hk0 n
    · exact ⟨p, w⟩
  refine zWp.mono (cx_amount ro nv np A W L (242600 * k) (-1) I G A B R F.2.1 F.2.2.1 kd lg (by omega) (by omega) a b hok) ?_
  rintro r h1 ⟨I1, G1, A1, B1, rfl, K1, hc⟩
  have F1 := F.kq K1 fHd_52 pHd_52
  have e1 : PE A A1 := fun k _ _ => (K1.2.2.1 k (pHd_52 k (by omega))).symm
  have er := F1.2.2.2.2.1.1
  have es := F1.2.2.2.2.1.2.1
  have mm := mm_amount ro nv np W L I1 G1 A1 B1 (242600 * k) F1.1 F1.2.1 F1.2.2.1 (by omega) (by omega) (by omega) a b
  have key := ok_amount_pe (nv := nv) (np := np) (a := a) (b := b) e1
  rcases hc with ⟨n1, R1, g1, rfl⟩ | ⟨y1, R1, g1, rfl⟩
  · refine ⟨_, rfl, zWp.mono mm ?_⟩
    rintro r2 h2 ⟨I2, G2, A2, B2, rfl, K2, (⟨n2, R2, rfl⟩ | ⟨y2, -⟩)⟩
    · refine ⟨_, rfl, ?_, rfl⟩
      exact zCx.mk (zRf.of R2 F1.2.1 F1.2.2.1 F1.2.2.2.1 (mId.k K2 rfl rfl rfl F1.2.2.2.2.1) fn) (by omega) (by omega) R1 (e1.tr R2.2.1.sy) K2 fHn_c pHn_c ow kd lw g1 (tc.e (K1.1 44 4 rfl) (K1.2.2.1 45 rfl)) (tm.e ((K2.1 52 29 rfl).trans (K1.1 52 29 rfl)) ((K2.2.2.1 71 rfl).trans (K1.2.2.1 71 rfl))) tn
    · exact absurd (key.mpr y2) n1
  · refine ⟨_, rfl, zWp.mono mm ?_⟩
    rintro r2 h2 ⟨I2, G2, A2, B2, rfl, K2, (⟨n2, -⟩ | ⟨y2, p2, w2, R2, rfl⟩)⟩
    · exact absurd (key.mp y1) n2
    · refine ⟨_, rfl, ?_, (congrFun (e1 62 (by omega) (by omega)) _)⟩
      have pe : PE (updA A 62 (upd (A 62) a.toNatClampNeg b)) (updA A1 62 (upd (A1 62) a.toNatClampNeg b)) := (PE.up 62 a.toNatClampNeg e1 (by omega) (by omega) rfl)
      have F2 := zRf.hd p2 w2 (by omega) F1.2.2.2.1 er R2 (mId.k K2 rfl rfl rfl F1.2.2.2.2.1) fn
      rw [er, es] at F2
      rw [wMom_pe pe] at R1
      rw [wEv_pe pe] at g1
      exact zCx.mk F2 (by omega) (by omega) R1 (pe.tr R2.2.1.sy) K2 fHn_c pHn_c (ow.e rfl rfl rfl) (kd.e rfl rfl) (wMom_low p2 w2.2.1 w2.1 (by omega) (by omega)) g1 (tc.e (K1.1 44 4 rfl) (K1.2.2.1 45 rfl)) (tm.e ((K2.1 52 29 rfl).trans (K1.1 52 29 rfl)) ((K2.2.2.1 71 rfl).trans (K1.2.2.1 71 rfl))) tn
theorem pair2_amount (ro : UInt32 → Nat × (Nat → Int32)) (k : Nat) (I : Nat → Nat → Int32) (G : Nat → Nat → Int64) (A : Nat → Nat → Int32) (B : Nat → Nat → Int64) (h : zL2 k I G A B) (hk : k < 512) (a : Int32) (b : Int32) : zWp ro 86 0 [(0, .ref 0), (1, .int a), (2, .int b)] [] (hS I G A B) 0 0 (zP2 ro 150 [(0, .ref 52), (1, .int a), (2, .int b)] k (fun v w => v = w)) := by
  obtain ⟨h1, I3, G3, A3, B3, eh, hx⟩ := h
  have p1 := pair_amount ro k I G A B h1 hk a b
  have p2 := pairX_amount ro k I3 G3 A3 B3 hx hk a b
  rw [← eh] at p2
  exact zP_and p1 p2
set_option maxHeartbeats 0 in
theorem pairX_go (ro : UInt32 → Nat × (Nat → Int32)) (k : Nat) (I : Nat → Nat → Int32) (G : Nat → Nat → Int64) (A : Nat → Nat → Int32) (B : Nat → Nat → Int64) (h : zCx k I G A B) (hk : k < 512) (a : Int32) : zWp ro 87 0 [(0, .ref 0), (1, .int a)] [] (hS I G A B) 0 0 (zPX ro 152 [(0, .ref 52), (1, .int a)] k (fun v w => v = w)) := by
  obtain ⟨nv, np, W, L, F, R, ow, kd, lw, lg, tl, tc, tm, tn⟩ := h
  have fn := F.2.2.2.2.2
  refine zWp.mono (cx_go ro nv np A W L (242600 * k) (-1) a I G A B R F.2.1 ow F.2.2.1 lw lg (by omega) (by omega) (by omega)) ?_
  rintro r h1 ⟨I1, G1, A1, B1, rfl, K1, R1, g1, rfl⟩
  have F1 := F.kq K1 fCg_52 pCg_52
  have e1 : PE A1 A := fun k _ _ => K1.2.2.1 k (pCg_52 k (by omega))
  have er := F1.2.2.2.2.1.1
  have es := F1.2.2.2.2.1.2.1
  refine ⟨_, rfl, zWp.mono (mm_go ro nv np A W L I1 G1 A1 B1 (242600 * k) a ⟨F1.1.1, e1, F1.1.2.2⟩ F.2.1 F.2.2.1 (by omega) (by omega) (by omega)) ?_⟩
  rintro r2 h2 ⟨I2, G2, A2, B2, rfl, K2, R2, -, rfl⟩
  rw [er, es] at R2 ⊢
  have g := wGoR_ok (so := -1) (u := a) (rec := 1) F.2.1 F.2.2.1 (by omega) (by omega) F.2.2.2.1 rfl
  refine ⟨_, rfl, ?_, rfl⟩
  exact zCx.mk (zRf.of (n := 4000 * k + 3600) R2 F.2.1 g.1 g.2.1 (mId.k K2 rfl rfl rfl F1.2.2.2.2.1) (by have := g.2.2; omega)) (by omega) (by omega) R1 R2.2.1.sy K2 fGo_c pSt_c ow kd (wGoR_lw F.2.1 F.2.2.1 (by omega) (by omega) F.2.2.2.1 lw) g1 (tc.e (K1.1 44 4 rfl) (K1.2.2.1 45 rfl)) (tm.e ((K2.1 52 29 rfl).trans (K1.1 52 29 rfl)) ((K2.2.2.1 71 rfl).trans (K1.2.2.1 71 rfl))) tn
theorem pair2_go (ro : UInt32 → Nat × (Nat → Int32)) (k : Nat) (I : Nat → Nat → Int32) (G : Nat → Nat → Int64) (A : Nat → Nat → Int32) (B : Nat → Nat → Int64) (h : zL2 k I G A B) (hk : k < 512) (a : Int32) : zWp ro 87 0 [(0, .ref 0), (1, .int a)] [] (hS I G A B) 0 0 (zP2 ro 152 [(0, .ref 52), (1, .int a)] k (fun v w => v = w)) := by
  obtain ⟨h1, I3, G3, A3, B3, eh, hx⟩ := h
  have p1 := pair_go ro k I G A B h1 hk a
  have p2 := pairX_go ro k I3 G3 A3 B3 hx hk a
  rw [← eh] at p2
  exact zP_and p1 p2
set_option maxHeartbeats 0 in
theorem pairX_now (ro : UInt32 → Nat × (Nat → Int32)) (k : Nat) (I : Nat → Nat → Int32) (G : Nat → Nat → Int64) (A : Nat → Nat → Int32) (B : Nat → Nat → Int64) (h : zCx k I G A B) (C : ∀ nv np W, cRS 11 nv np A W I G A B → MPa nv np A → CV nv np (1216 * k) I) (hk : k < 512) (a : Int32) : zWp ro 88 0 [(0, .ref 0), (1, .int a)] [] (hS I G A B) 0 0 (zPX ro 154 [(0, .ref 52), (1, .int a)] k (fun _ _ => True)) := by
  obtain ⟨nv, np, W, L, F, R, ow, kd, lw, lg, tl, tc, tm, tn⟩ := h
  have fn := F.2.2.2.2.2
  have hC := C nv np W R F.2.1
  refine zWp.mono (dv_X11_now ro nv np (1216 * k) I G A B hC (by omega) a) ?_
  rintro r h1 ⟨I1, G1, A1, B1, rfl, K1, -, v, rfl⟩
  have F1 := F.kp K1 pLv_52
  have e1 : PE A A1 := fun k _ _ => (K1.2.2.1 k (pLv_52 k (by omega))).symm
  have R1 := R.k K1.kq ⟨rfl, rfl⟩ (fun j _ _ => rfl) (fun k h1 h2 => by simp only [pLv, decide_eq_false_iff_not]; omega)
  have g1 := lg.k K1.kq rfl rfl rfl rfl rfl
  refine ⟨_, rfl, zWp.mono (mv_now ro nv np W L I1 G1 A1 B1 (242600 * k) F1.1 F1.2.1 F1.2.2.1 (by omega) F1.2.2.2.1 F1.2.2.2.2.1 a) ?_⟩
  rintro r2 h2 ⟨I2, G2, A2, B2, rfl, K2, id2, w, rfl⟩
  have R2 := F1.1.k K2 fQv_R pQv_R
  refine ⟨_, rfl, ?_, trivial⟩
  exact zCx.mk (zRf.of R2 F1.2.1 F1.2.2.1 F1.2.2.2.1 id2 fn) (by omega) (by omega) R1 (e1.tr R2.2.1.sy) K2 fQv_c pQv_c ow kd lw g1 (tc.e (K1.1 44 4 rfl) (K1.2.2.1 45 rfl)) (tm.e ((K2.1 52 29 rfl).trans (K1.1 52 29 rfl)) ((K2.2.2.1 71 rfl).trans (K1.2.2.1 71 rfl))) tn
theorem pair2_now (ro : UInt32 → Nat × (Nat → Int32)) (k : Nat) (I : Nat → Nat → Int32) (G : Nat → Nat → Int64) (A : Nat → Nat → Int32) (B : Nat → Nat → Int64) (h : zL2 k I G A B) (hk : k < 512) (a : Int32) : zWp ro 88 0 [(0, .ref 0), (1, .int a)] [] (hS I G A B) 0 0 (zP2 ro 154 [(0, .ref 52), (1, .int a)] k (fun _ _ => True)) := by
  obtain ⟨h1, I3, G3, A3, B3, eh, hx⟩ := h
  have p1 := pair_now ro k I G A B h1 hk a
  obtain ⟨nv1, np1, W1, L1, C1, -⟩ := h1
  have p2 := pairX_now ro k I3 G3 A3 B3 hx (fun nv np W R hp => CV_h eh C1 R hp) hk a
  rw [← eh] at p2
  exact zP_and p1 p2
set_option maxHeartbeats 0 in
theorem pairX_next (ro : UInt32 → Nat × (Nat → Int32)) (k : Nat) (I : Nat → Nat → Int32) (G : Nat → Nat → Int64) (A : Nat → Nat → Int32) (B : Nat → Nat → Int64) (h : zCx k I G A B) (C : ∀ nv np W, cRS 11 nv np A W I G A B → MPa nv np A → CV nv np (1216 * k) I) (hk : k < 512) (a : Int32) : zWp ro 89 0 [(0, .ref 0), (1, .int a)] [] (hS I G A B) 0 0 (zPY ro 155 [(0, .ref 52), (1, .int a)] k (fun _ _ => True)) := by
  obtain ⟨nv, np, W, L, F, R, ow, kd, lw, lg, tl, tc, tm, tn⟩ := h
  have fn := F.2.2.2.2.2
  have hC := C nv np W R F.2.1
  refine zWp.mono (dv_X11_next ro nv np (1216 * k) I G A B hC (by omega) a) ?_
  rintro r h1 ⟨I1, G1, A1, B1, rfl, K1, -, v, rfl⟩
  have F1 := F.kp K1 pLv_52
  have e1 : PE A A1 := fun k _ _ => (K1.2.2.1 k (pLv_52 k (by omega))).symm
  have R1 := R.k K1.kq ⟨rfl, rfl⟩ (fun j _ _ => rfl) (fun k h1 h2 => by simp only [pLv, decide_eq_false_iff_not]; omega)
  have g1 := lg.k K1.kq rfl rfl rfl rfl rfl
  refine ⟨_, rfl, zWp.mono (mv_next ro nv np W L I1 G1 A1 B1 (242600 * k) F1.1 F1.2.1 F1.2.2.1 (by omega) F1.2.2.2.1 F1.2.2.2.2.1 a) ?_⟩
  rintro r2 h2 ⟨I2, G2, A2, B2, rfl, K2, id2, w, rfl⟩
  have R2 := F1.1.k K2 fQv_R pQv_R
  refine ⟨_, rfl, ?_, trivial⟩
  exact zCx.mk (zRf.of R2 F1.2.1 F1.2.2.1 F1.2.2.2.1 id2 fn) (by omega) (by omega) R1 (e1.tr R2.2.1.sy) K2 fQv_c pQv_c ow kd lw g1 (tc.e (K1.1 44 4 rfl) (K1.2.2.1 45 rfl)) (tm.e ((K2.1 52 29 rfl).trans (K1.1 52 29 rfl)) ((K2.2.2.1 71 rfl).trans (K1.2.2.1 71 rfl))) tn
theorem pair2_next (ro : UInt32 → Nat × (Nat → Int32)) (k : Nat) (I : Nat → Nat → Int32) (G : Nat → Nat → Int64) (A : Nat → Nat → Int32) (B : Nat → Nat → Int64) (h : zL2 k I G A B) (hk : k < 512) (a : Int32) : zWp ro 89 0 [(0, .ref 0), (1, .int a)] [] (hS I G A B) 0 0 (zP3 ro 155 [(0, .ref 52), (1, .int a)] k (fun _ _ => True)) := by
  obtain ⟨h1, I3, G3, A3, B3, eh, hx⟩ := h
  have p1 := pair_next ro k I G A B h1 hk a
  obtain ⟨nv1, np1, W1, L1, C1, -⟩ := h1
  have p2 := pairX_next ro k I3 G3 A3 B3 hx (fun nv np W R hp => CV_h eh C1 R hp) hk a
  rw [← eh] at p2
  exact zL_and p1 p2
set_option maxHeartbeats 0 in
theorem pairX_level (ro : UInt32 → Nat × (Nat → Int32)) (k : Nat) (I : Nat → Nat → Int32) (G : Nat → Nat → Int64) (A : Nat → Nat → Int32) (B : Nat → Nat → Int64) (h : zCx k I G A B) (C : ∀ nv np W, cRS 11 nv np A W I G A B → MPa nv np A → CV nv np (1216 * k) I) (hk : k < 512) (a : Int32) (b : Int32) : zWp ro 90 0 [(0, .ref 0), (1, .int a), (2, .int b)] [] (hS I G A B) 0 0 (zPX ro 156 [(0, .ref 52), (1, .int a), (2, .int b)] k (fun _ _ => True)) := by
  obtain ⟨nv, np, W, L, F, R, ow, kd, lw, lg, tl, tc, tm, tn⟩ := h
  have fn := F.2.2.2.2.2
  have hC := C nv np W R F.2.1
  refine zWp.mono (dv_X11_level ro nv np (1216 * k) I G A B hC (by omega) a b) ?_
  rintro r h1 ⟨I1, G1, A1, B1, rfl, K1, -, v, rfl⟩
  have F1 := F.kp K1 pLv_52
  have e1 : PE A A1 := fun k _ _ => (K1.2.2.1 k (pLv_52 k (by omega))).symm
  have R1 := R.k K1.kq ⟨rfl, rfl⟩ (fun j _ _ => rfl) (fun k h1 h2 => by simp only [pLv, decide_eq_false_iff_not]; omega)
  have g1 := lg.k K1.kq rfl rfl rfl rfl rfl
  refine ⟨_, rfl, zWp.mono (mv_level ro nv np W L I1 G1 A1 B1 (242600 * k) F1.1 F1.2.1 F1.2.2.1 (by omega) F1.2.2.2.1 F1.2.2.2.2.1 a b) ?_⟩
  rintro r2 h2 ⟨I2, G2, A2, B2, rfl, K2, id2, w, rfl⟩
  have R2 := F1.1.k K2 fQv_R pQv_R
  refine ⟨_, rfl, ?_, trivial⟩
  exact zCx.mk (zRf.of R2 F1.2.1 F1.2.2.1 F1.2.2.2.1 id2 fn) (by omega) (by omega) R1 (e1.tr R2.2.1.sy) K2 fQv_c pQv_c ow kd lw g1 (tc.e (K1.1 44 4 rfl) (K1.2.2.1 45 rfl)) (tm.e ((K2.1 52 29 rfl).trans (K1.1 52 29 rfl)) ((K2.2.2.1 71 rfl).trans (K1.2.2.1 71 rfl))) tn
theorem pair2_level (ro : UInt32 → Nat × (Nat → Int32)) (k : Nat) (I : Nat → Nat → Int32) (G : Nat → Nat → Int64) (A : Nat → Nat → Int32) (B : Nat → Nat → Int64) (h : zL2 k I G A B) (hk : k < 512) (a : Int32) (b : Int32) : zWp ro 90 0 [(0, .ref 0), (1, .int a), (2, .int b)] [] (hS I G A B) 0 0 (zP2 ro 156 [(0, .ref 52), (1, .int a), (2, .int b)] k (fun _ _ => True)) := by
  obtain ⟨h1, I3, G3, A3, B3, eh, hx⟩ := h
  have p1 := pair_level ro k I G A B h1 hk a b
  obtain ⟨nv1, np1, W1, L1, C1, -⟩ := h1
  have p2 := pairX_level ro k I3 G3 A3 B3 hx (fun nv np W R hp => CV_h eh C1 R hp) hk a b
  rw [← eh] at p2
  exact zP_and p1 p2
set_option maxHeartbeats 0 in
theorem pairX_rate (ro : UInt32 → Nat × (Nat → Int32)) (k : Nat) (I : Nat → Nat → Int32) (G : Nat → Nat → Int64) (A : Nat → Nat → Int32) (B : Nat → Nat → Int64) (h : zCx k I G A B) (C : ∀ nv np W, cRS 11 nv np A W I G A B → MPa nv np A → CV nv np (1216 * k) I) (hk : k < 512) (a : Int32) : zWp ro 91 0 [(0, .ref 0), (1, .int a)] [] (hS I G A B) 0 0 (zPX ro 157 [(0, .ref 52), (1, .int a)] k (fun _ _ => True)) := by
  obtain ⟨nv, np, W, L, F, R, ow, kd, lw, lg, tl, tc, tm, tn⟩ := h
  have fn := F.2.2.2.2.2
  have hC := C nv np W R F.2.1
  refine zWp.mono (dv_X11_rate ro nv np (1216 * k) I G A B hC (by omega) a) ?_
  rintro r h1 ⟨I1, G1, A1, B1, rfl, K1, -, v, rfl⟩
  have F1 := F.kp K1 pLv_52
  have e1 : PE A A1 := fun k _ _ => (K1.2.2.1 k (pLv_52 k (by omega))).symm
  have R1 := R.k K1.kq ⟨rfl, rfl⟩ (fun j _ _ => rfl) (fun k h1 h2 => by simp only [pLv, decide_eq_false_iff_not]; omega)
  have g1 := lg.k K1.kq rfl rfl rfl rfl rfl
  refine ⟨_, rfl, zWp.mono (mv_rate ro nv np W L I1 G1 A1 B1 (242600 * k) F1.1 F1.2.1 F1.2.2.1 (by omega) F1.2.2.2.1 F1.2.2.2.2.1 a) ?_⟩
  rintro r2 h2 ⟨I2, G2, A2, B2, rfl, K2, id2, w, rfl⟩
  have R2 := F1.1.k K2 fQv_R pQv_R
  refine ⟨_, rfl, ?_, trivial⟩
  exact zCx.mk (zRf.of R2 F1.2.1 F1.2.2.1 F1.2.2.2.1 id2 fn) (by omega) (by omega) R1 (e1.tr R2.2.1.sy) K2 fQv_c pQv_c ow kd lw g1 (tc.e (K1.1 44 4 rfl) (K1.2.2.1 45 rfl)) (tm.e ((K2.1 52 29 rfl).trans (K1.1 52 29 rfl)) ((K2.2.2.1 71 rfl).trans (K1.2.2.1 71 rfl))) tn
theorem pair2_rate (ro : UInt32 → Nat × (Nat → Int32)) (k : Nat) (I : Nat → Nat → Int32) (G : Nat → Nat → Int64) (A : Nat → Nat → Int32) (B : Nat → Nat → Int64) (h : zL2 k I G A B) (hk : k < 512) (a : Int32) : zWp ro 91 0 [(0, .ref 0), (1, .int a)] [] (hS I G A B) 0 0 (zP2 ro 157 [(0, .ref 52), (1, .int a)] k (fun _ _ => True)) := by
  obtain ⟨h1, I3, G3, A3, B3, eh, hx⟩ := h
  have p1 := pair_rate ro k I G A B h1 hk a
  obtain ⟨nv1, np1, W1, L1, C1, -⟩ := h1
  have p2 := pairX_rate ro k I3 G3 A3 B3 hx (fun nv np W R hp => CV_h eh C1 R hp) hk a
  rw [← eh] at p2
  exact zP_and p1 p2
set_option maxHeartbeats 0 in
theorem pairX_flow (ro : UInt32 → Nat × (Nat → Int32)) (k : Nat) (I : Nat → Nat → Int32) (G : Nat → Nat → Int64) (A : Nat → Nat → Int32) (B : Nat → Nat → Int64) (h : zCx k I G A B) (C : ∀ nv np W, cRS 11 nv np A W I G A B → MPa nv np A → CV nv np (1216 * k) I) (hk : k < 512) (a : Int32) : zWp ro 92 0 [(0, .ref 0), (1, .int a)] [] (hS I G A B) 0 0 (zPX ro 158 [(0, .ref 52), (1, .int a)] k (fun _ _ => True)) := by
  obtain ⟨nv, np, W, L, F, R, ow, kd, lw, lg, tl, tc, tm, tn⟩ := h
  have fn := F.2.2.2.2.2
  have hC := C nv np W R F.2.1
  refine zWp.mono (dv_X11_flow ro nv np (1216 * k) I G A B hC (by omega) a) ?_
  rintro r h1 ⟨I1, G1, A1, B1, rfl, K1, -, v, rfl⟩
  have F1 := F.kp K1 pLv_52
  have e1 : PE A A1 := fun k _ _ => (K1.2.2.1 k (pLv_52 k (by omega))).symm
  have R1 := R.k K1.kq ⟨rfl, rfl⟩ (fun j _ _ => rfl) (fun k h1 h2 => by simp only [pLv, decide_eq_false_iff_not]; omega)
  have g1 := lg.k K1.kq rfl rfl rfl rfl rfl
  refine ⟨_, rfl, zWp.mono (mv_flow ro nv np W L I1 G1 A1 B1 (242600 * k) F1.1 F1.2.1 F1.2.2.1 (by omega) F1.2.2.2.1 F1.2.2.2.2.1 a) ?_⟩
  rintro r2 h2 ⟨I2, G2, A2, B2, rfl, K2, id2, w, rfl⟩
  have R2 := F1.1.k K2 fQv_R pQv_R
  refine ⟨_, rfl, ?_, trivial⟩
  exact zCx.mk (zRf.of R2 F1.2.1 F1.2.2.1 F1.2.2.2.1 id2 fn) (by omega) (by omega) R1 (e1.tr R2.2.1.sy) K2 fQv_c pQv_c ow kd lw g1 (tc.e (K1.1 44 4 rfl) (K1.2.2.1 45 rfl)) (tm.e ((K2.1 52 29 rfl).trans (K1.1 52 29 rfl)) ((K2.2.2.1 71 rfl).trans (K1.2.2.1 71 rfl))) tn
theorem pair2_flow (ro : UInt32 → Nat × (Nat → Int32)) (k : Nat) (I : Nat → Nat → Int32) (G : Nat → Nat → Int64) (A : Nat → Nat → Int32) (B : Nat → Nat → Int64) (h : zL2 k I G A B) (hk : k < 512) (a : Int32) : zWp ro 92 0 [(0, .ref 0), (1, .int a)] [] (hS I G A B) 0 0 (zP2 ro 158 [(0, .ref 52), (1, .int a)] k (fun _ _ => True)) := by
  obtain ⟨h1, I3, G3, A3, B3, eh, hx⟩ := h
  have p1 := pair_flow ro k I G A B h1 hk a
  obtain ⟨nv1, np1, W1, L1, C1, -⟩ := h1
  have p2 := pairX_flow ro k I3 G3 A3 B3 hx (fun nv np W R hp => CV_h eh C1 R hp) hk a
  rw [← eh] at p2
  exact zP_and p1 p2
set_option maxHeartbeats 0 in
theorem pairX_flood (ro : UInt32 → Nat × (Nat → Int32)) (k : Nat) (I : Nat → Nat → Int32) (G : Nat → Nat → Int64) (A : Nat → Nat → Int32) (B : Nat → Nat → Int64) (h : zCx k I G A B) (C : ∀ nv np W, cRS 11 nv np A W I G A B → MPa nv np A → CV nv np (1216 * k) I) (hk : k < 512) (a : Int32) : zWp ro 93 0 [(0, .ref 0), (1, .int a)] [] (hS I G A B) 0 0 (zPX ro 159 [(0, .ref 52), (1, .int a)] k (fun _ _ => True)) := by
  obtain ⟨nv, np, W, L, F, R, ow, kd, lw, lg, tl, tc, tm, tn⟩ := h
  have fn := F.2.2.2.2.2
  have hC := C nv np W R F.2.1
  refine zWp.mono (dv_X11_flood ro nv np (1216 * k) I G A B hC (by omega) a) ?_
  rintro r h1 ⟨I1, G1, A1, B1, rfl, K1, -, v, rfl⟩
  have F1 := F.kp K1 pLv_52
  have e1 : PE A A1 := fun k _ _ => (K1.2.2.1 k (pLv_52 k (by omega))).symm
  have R1 := R.k K1.kq ⟨rfl, rfl⟩ (fun j _ _ => rfl) (fun k h1 h2 => by simp only [pLv, decide_eq_false_iff_not]; omega)
  have g1 := lg.k K1.kq rfl rfl rfl rfl rfl
  refine ⟨_, rfl, zWp.mono (mv_flood ro nv np W L I1 G1 A1 B1 (242600 * k) F1.1 F1.2.1 F1.2.2.1 (by omega) F1.2.2.2.1 F1.2.2.2.2.1 a) ?_⟩
  rintro r2 h2 ⟨I2, G2, A2, B2, rfl, K2, id2, w, rfl⟩
  have R2 := F1.1.k K2 fQv_R pQv_R
  refine ⟨_, rfl, ?_, trivial⟩
  exact zCx.mk (zRf.of R2 F1.2.1 F1.2.2.1 F1.2.2.2.1 id2 fn) (by omega) (by omega) R1 (e1.tr R2.2.1.sy) K2 fQv_c pQv_c ow kd lw g1 (tc.e (K1.1 44 4 rfl) (K1.2.2.1 45 rfl)) (tm.e ((K2.1 52 29 rfl).trans (K1.1 52 29 rfl)) ((K2.2.2.1 71 rfl).trans (K1.2.2.1 71 rfl))) tn
theorem pair2_flood (ro : UInt32 → Nat × (Nat → Int32)) (k : Nat) (I : Nat → Nat → Int32) (G : Nat → Nat → Int64) (A : Nat → Nat → Int32) (B : Nat → Nat → Int64) (h : zL2 k I G A B) (hk : k < 512) (a : Int32) : zWp ro 93 0 [(0, .ref 0), (1, .int a)] [] (hS I G A B) 0 0 (zP2 ro 159 [(0, .ref 52), (1, .int a)] k (fun _ _ => True)) := by
  obtain ⟨h1, I3, G3, A3, B3, eh, hx⟩ := h
  have p1 := pair_flood ro k I G A B h1 hk a
  obtain ⟨nv1, np1, W1, L1, C1, -⟩ := h1
  have p2 := pairX_flood ro k I3 G3 A3 B3 hx (fun nv np W R hp => CV_h eh C1 R hp) hk a
  rw [← eh] at p2
  exact zP_and p1 p2
set_option maxHeartbeats 0 in
theorem pairX_told (ro : UInt32 → Nat × (Nat → Int32)) (k : Nat) (I : Nat → Nat → Int32) (G : Nat → Nat → Int64) (A : Nat → Nat → Int32) (B : Nat → Nat → Int64) (h : zCx k I G A B) (C : ∀ nv np W, cRS 11 nv np A W I G A B → MPa nv np A → CV nv np (1216 * k) I) (hk : k < 512) (a : Int32) (b : Int32) : zWp ro 94 0 [(0, .ref 0), (1, .int a), (2, .int b)] [] (hS I G A B) 0 0 (zPX ro 160 [(0, .ref 52), (1, .int a), (2, .int b)] k (fun _ _ => True)) := by
  obtain ⟨nv, np, W, L, F, R, ow, kd, lw, lg, tl, tc, tm, tn⟩ := h
  have fn := F.2.2.2.2.2
  have hC := C nv np W R F.2.1
  refine zWp.mono (dv_X11_told ro nv np (1216 * k) I G A B hC (by omega) a b) ?_
  rintro r h1 ⟨I1, G1, A1, B1, rfl, K1, -, v, rfl⟩
  have F1 := F.kp K1 pLv_52
  have e1 : PE A A1 := fun k _ _ => (K1.2.2.1 k (pLv_52 k (by omega))).symm
  have R1 := R.k K1.kq ⟨rfl, rfl⟩ (fun j _ _ => rfl) (fun k h1 h2 => by simp only [pLv, decide_eq_false_iff_not]; omega)
  have g1 := lg.k K1.kq rfl rfl rfl rfl rfl
  refine ⟨_, rfl, zWp.mono (mv_told ro nv np W L I1 G1 A1 B1 (242600 * k) F1.1 F1.2.1 F1.2.2.1 (by omega) F1.2.2.2.1 F1.2.2.2.2.1 a b) ?_⟩
  rintro r2 h2 ⟨I2, G2, A2, B2, rfl, K2, id2, w, rfl⟩
  have R2 := F1.1.k K2 fQv_R pQv_R
  refine ⟨_, rfl, ?_, trivial⟩
  exact zCx.mk (zRf.of R2 F1.2.1 F1.2.2.1 F1.2.2.2.1 id2 fn) (by omega) (by omega) R1 (e1.tr R2.2.1.sy) K2 fQv_c pQv_c ow kd lw g1 (tc.e (K1.1 44 4 rfl) (K1.2.2.1 45 rfl)) (tm.e ((K2.1 52 29 rfl).trans (K1.1 52 29 rfl)) ((K2.2.2.1 71 rfl).trans (K1.2.2.1 71 rfl))) tn
theorem pair2_told (ro : UInt32 → Nat × (Nat → Int32)) (k : Nat) (I : Nat → Nat → Int32) (G : Nat → Nat → Int64) (A : Nat → Nat → Int32) (B : Nat → Nat → Int64) (h : zL2 k I G A B) (hk : k < 512) (a : Int32) (b : Int32) : zWp ro 94 0 [(0, .ref 0), (1, .int a), (2, .int b)] [] (hS I G A B) 0 0 (zP2 ro 160 [(0, .ref 52), (1, .int a), (2, .int b)] k (fun _ _ => True)) := by
  obtain ⟨h1, I3, G3, A3, B3, eh, hx⟩ := h
  have p1 := pair_told ro k I G A B h1 hk a b
  obtain ⟨nv1, np1, W1, L1, C1, -⟩ := h1
  have p2 := pairX_told ro k I3 G3 A3 B3 hx (fun nv np W R hp => CV_h eh C1 R hp) hk a b
  rw [← eh] at p2
  exact zP_and p1 p2
set_option maxHeartbeats 0 in
theorem pairX_pipeTold (ro : UInt32 → Nat × (Nat → Int32)) (k : Nat) (I : Nat → Nat → Int32) (G : Nat → Nat → Int64) (A : Nat → Nat → Int32) (B : Nat → Nat → Int64) (h : zCx k I G A B) (C : ∀ nv np W, cRS 11 nv np A W I G A B → MPa nv np A → CV nv np (1216 * k) I) (hk : k < 512) (a : Int32) (b : Int32) : zWp ro 95 0 [(0, .ref 0), (1, .int a), (2, .int b)] [] (hS I G A B) 0 0 (zPX ro 161 [(0, .ref 52), (1, .int a), (2, .int b)] k (fun _ _ => True)) := by
  obtain ⟨nv, np, W, L, F, R, ow, kd, lw, lg, tl, tc, tm, tn⟩ := h
  have fn := F.2.2.2.2.2
  have hC := C nv np W R F.2.1
  refine zWp.mono (dv_X11_pipeTold ro nv np (1216 * k) I G A B hC (by omega) a b) ?_
  rintro r h1 ⟨I1, G1, A1, B1, rfl, K1, -, v, rfl⟩
  have F1 := F.kp K1 pLv_52
  have e1 : PE A A1 := fun k _ _ => (K1.2.2.1 k (pLv_52 k (by omega))).symm
  have R1 := R.k K1.kq ⟨rfl, rfl⟩ (fun j _ _ => rfl) (fun k h1 h2 => by simp only [pLv, decide_eq_false_iff_not]; omega)
  have g1 := lg.k K1.kq rfl rfl rfl rfl rfl
  refine ⟨_, rfl, zWp.mono (mv_pipeTold ro nv np W L I1 G1 A1 B1 (242600 * k) F1.1 F1.2.1 F1.2.2.1 (by omega) F1.2.2.2.1 F1.2.2.2.2.1 a b) ?_⟩
  rintro r2 h2 ⟨I2, G2, A2, B2, rfl, K2, id2, w, rfl⟩
  have R2 := F1.1.k K2 fQv_R pQv_R
  refine ⟨_, rfl, ?_, trivial⟩
  exact zCx.mk (zRf.of R2 F1.2.1 F1.2.2.1 F1.2.2.2.1 id2 fn) (by omega) (by omega) R1 (e1.tr R2.2.1.sy) K2 fQv_c pQv_c ow kd lw g1 (tc.e (K1.1 44 4 rfl) (K1.2.2.1 45 rfl)) (tm.e ((K2.1 52 29 rfl).trans (K1.1 52 29 rfl)) ((K2.2.2.1 71 rfl).trans (K1.2.2.1 71 rfl))) tn
theorem pair2_pipeTold (ro : UInt32 → Nat × (Nat → Int32)) (k : Nat) (I : Nat → Nat → Int32) (G : Nat → Nat → Int64) (A : Nat → Nat → Int32) (B : Nat → Nat → Int64) (h : zL2 k I G A B) (hk : k < 512) (a : Int32) (b : Int32) : zWp ro 95 0 [(0, .ref 0), (1, .int a), (2, .int b)] [] (hS I G A B) 0 0 (zP2 ro 161 [(0, .ref 52), (1, .int a), (2, .int b)] k (fun _ _ => True)) := by
  obtain ⟨h1, I3, G3, A3, B3, eh, hx⟩ := h
  have p1 := pair_pipeTold ro k I G A B h1 hk a b
  obtain ⟨nv1, np1, W1, L1, C1, -⟩ := h1
  have p2 := pairX_pipeTold ro k I3 G3 A3 B3 hx (fun nv np W R hp => CV_h eh C1 R hp) hk a b
  rw [← eh] at p2
  exact zP_and p1 p2
set_option maxHeartbeats 0 in
theorem pairX_count (ro : UInt32 → Nat × (Nat → Int32)) (k : Nat) (I : Nat → Nat → Int32) (G : Nat → Nat → Int64) (A : Nat → Nat → Int32) (B : Nat → Nat → Int64) (h : zCx k I G A B) (C : ∀ nv np W, cRS 11 nv np A W I G A B → MPa nv np A → CV nv np (1216 * k) I) (hk : k < 512) (a : Int32) : zWp ro 96 0 [(0, .ref 0), (1, .int a)] [] (hS I G A B) 0 0 (zPX ro 162 [(0, .ref 52), (1, .int a)] k (fun _ _ => True)) := by
  obtain ⟨nv, np, W, L, F, R, ow, kd, lw, lg, tl, tc, tm, tn⟩ := h
  have fn := F.2.2.2.2.2
  have hC := C nv np W R F.2.1
  refine zWp.mono (dv_X11_count ro nv np (1216 * k) I G A B hC (by omega) a) ?_
  rintro r h1 ⟨I1, G1, A1, B1, rfl, K1, -, v, rfl⟩
  have F1 := F.kp K1 pLv_52
  have e1 : PE A A1 := fun k _ _ => (K1.2.2.1 k (pLv_52 k (by omega))).symm
  have R1 := R.k K1.kq ⟨rfl, rfl⟩ (fun j _ _ => rfl) (fun k h1 h2 => by simp only [pLv, decide_eq_false_iff_not]; omega)
  have g1 := lg.k K1.kq rfl rfl rfl rfl rfl
  refine ⟨_, rfl, zWp.mono (mv_count ro nv np W L I1 G1 A1 B1 (242600 * k) F1.1 F1.2.1 F1.2.2.1 (by omega) F1.2.2.2.1 F1.2.2.2.2.1 a) ?_⟩
  rintro r2 h2 ⟨I2, G2, A2, B2, rfl, K2, id2, w, rfl⟩
  have R2 := F1.1.k K2 fQv_R pQv_R
  refine ⟨_, rfl, ?_, trivial⟩
  exact zCx.mk (zRf.of R2 F1.2.1 F1.2.2.1 F1.2.2.2.1 id2 fn) (by omega) (by omega) R1 (e1.tr R2.2.1.sy) K2 fQv_c pQv_c ow kd lw g1 (tc.e (K1.1 44 4 rfl) (K1.2.2.1 45 rfl)) (tm.e ((K2.1 52 29 rfl).trans (K1.1 52 29 rfl)) ((K2.2.2.1 71 rfl).trans (K1.2.2.1 71 rfl))) tn
theorem pair2_count (ro : UInt32 → Nat × (Nat → Int32)) (k : Nat) (I : Nat → Nat → Int32) (G : Nat → Nat → Int64) (A : Nat → Nat → Int32) (B : Nat → Nat → Int64) (h : zL2 k I G A B) (hk : k < 512) (a : Int32) : zWp ro 96 0 [(0, .ref 0), (1, .int a)] [] (hS I G A B) 0 0 (zP2 ro 162 [(0, .ref 52), (1, .int a)] k (fun _ _ => True)) := by
  obtain ⟨h1, I3, G3, A3, B3, eh, hx⟩ := h
  have p1 := pair_count ro k I G A B h1 hk a
  obtain ⟨nv1, np1, W1, L1, C1, -⟩ := h1
  have p2 := pairX_count ro k I3 G3 A3 B3 hx (fun nv np W R hp => CV_h eh C1 R hp) hk a
  rw [← eh] at p2
  exact zP_and p1 p2
set_option maxHeartbeats 0 in
theorem pairX_event (ro : UInt32 → Nat × (Nat → Int32)) (k : Nat) (I : Nat → Nat → Int32) (G : Nat → Nat → Int64) (A : Nat → Nat → Int32) (B : Nat → Nat → Int64) (h : zCx k I G A B) (C : ∀ nv np W, cRS 11 nv np A W I G A B → MPa nv np A → CV nv np (1216 * k) I) (hk : k < 512) (a : Int32) (b : Int32) : zWp ro 97 0 [(0, .ref 0), (1, .int a), (2, .int b)] [] (hS I G A B) 0 0 (zPX ro 163 [(0, .ref 52), (1, .int a), (2, .int b)] k (fun _ _ => True)) := by
  obtain ⟨nv, np, W, L, F, R, ow, kd, lw, lg, tl, tc, tm, tn⟩ := h
  have fn := F.2.2.2.2.2
  have hC := C nv np W R F.2.1
  refine zWp.mono (dv_X11_event ro nv np (1216 * k) I G A B hC (by omega) a b) ?_
  rintro r h1 ⟨I1, G1, A1, B1, rfl, K1, -, v, rfl⟩
  have F1 := F.kp K1 pLv_52
  have e1 : PE A A1 := fun k _ _ => (K1.2.2.1 k (pLv_52 k (by omega))).symm
  have R1 := R.k K1.kq ⟨rfl, rfl⟩ (fun j _ _ => rfl) (fun k h1 h2 => by simp only [pLv, decide_eq_false_iff_not]; omega)
  have g1 := lg.k K1.kq rfl rfl rfl rfl rfl
  refine ⟨_, rfl, zWp.mono (mv_event ro nv np W L I1 G1 A1 B1 (242600 * k) F1.1 F1.2.1 F1.2.2.1 (by omega) F1.2.2.2.1 F1.2.2.2.2.1 a b) ?_⟩
  rintro r2 h2 ⟨I2, G2, A2, B2, rfl, K2, id2, w, rfl⟩
  have R2 := F1.1.k K2 fQv_R pQv_R
  refine ⟨_, rfl, ?_, trivial⟩
  exact zCx.mk (zRf.of R2 F1.2.1 F1.2.2.1 F1.2.2.2.1 id2 fn) (by omega) (by omega) R1 (e1.tr R2.2.1.sy) K2 fQv_c pQv_c ow kd lw g1 (tc.e (K1.1 44 4 rfl) (K1.2.2.1 45 rfl)) (tm.e ((K2.1 52 29 rfl).trans (K1.1 52 29 rfl)) ((K2.2.2.1 71 rfl).trans (K1.2.2.1 71 rfl))) tn
theorem pair2_event (ro : UInt32 → Nat × (Nat → Int32)) (k : Nat) (I : Nat → Nat → Int32) (G : Nat → Nat → Int64) (A : Nat → Nat → Int32) (B : Nat → Nat → Int64) (h : zL2 k I G A B) (hk : k < 512) (a : Int32) (b : Int32) : zWp ro 97 0 [(0, .ref 0), (1, .int a), (2, .int b)] [] (hS I G A B) 0 0 (zP2 ro 163 [(0, .ref 52), (1, .int a), (2, .int b)] k (fun _ _ => True)) := by
  obtain ⟨h1, I3, G3, A3, B3, eh, hx⟩ := h
  have p1 := pair_event ro k I G A B h1 hk a b
  obtain ⟨nv1, np1, W1, L1, C1, -⟩ := h1
  have p2 := pairX_event ro k I3 G3 A3 B3 hx (fun nv np W R hp => CV_h eh C1 R hp) hk a b
  rw [← eh] at p2
  exact zP_and p1 p2
set_option maxHeartbeats 0 in
theorem pairX_sum (ro : UInt32 → Nat × (Nat → Int32)) (k : Nat) (I : Nat → Nat → Int32) (G : Nat → Nat → Int64) (A : Nat → Nat → Int32) (B : Nat → Nat → Int64) (h : zCx k I G A B) (C : ∀ nv np W, cRS 11 nv np A W I G A B → MPa nv np A → CV nv np (1216 * k) I) (hk : k < 512) (a : Int32) : zWp ro 98 0 [(0, .ref 0), (1, .int a)] [] (hS I G A B) 0 0 (zPY ro 164 [(0, .ref 52), (1, .int a)] k (fun _ _ => True)) := by
  obtain ⟨nv, np, W, L, F, R, ow, kd, lw, lg, tl, tc, tm, tn⟩ := h
  have fn := F.2.2.2.2.2
  have hC := C nv np W R F.2.1
  refine zWp.mono (dv_X11_sum ro nv np (1216 * k) I G A B hC (by omega) a) ?_
  rintro r h1 ⟨I1, G1, A1, B1, rfl, K1, -, v, rfl⟩
  have F1 := F.kp K1 pLv_52
  have e1 : PE A A1 := fun k _ _ => (K1.2.2.1 k (pLv_52 k (by omega))).symm
  have R1 := R.k K1.kq ⟨rfl, rfl⟩ (fun j _ _ => rfl) (fun k h1 h2 => by simp only [pLv, decide_eq_false_iff_not]; omega)
  have g1 := lg.k K1.kq rfl rfl rfl rfl rfl
  refine ⟨_, rfl, zWp.mono (mv_sum ro nv np W L I1 G1 A1 B1 (242600 * k) F1.1 F1.2.1 F1.2.2.1 (by omega) F1.2.2.2.1 F1.2.2.2.2.1 a) ?_⟩
  rintro r2 h2 ⟨I2, G2, A2, B2, rfl, K2, id2, w, rfl⟩
  have R2 := F1.1.k K2 fQv_R pQv_R
  refine ⟨_, rfl, ?_, trivial⟩
  exact zCx.mk (zRf.of R2 F1.2.1 F1.2.2.1 F1.2.2.2.1 id2 fn) (by omega) (by omega) R1 (e1.tr R2.2.1.sy) K2 fQv_c pQv_c ow kd lw g1 (tc.e (K1.1 44 4 rfl) (K1.2.2.1 45 rfl)) (tm.e ((K2.1 52 29 rfl).trans (K1.1 52 29 rfl)) ((K2.2.2.1 71 rfl).trans (K1.2.2.1 71 rfl))) tn
theorem pair2_sum (ro : UInt32 → Nat × (Nat → Int32)) (k : Nat) (I : Nat → Nat → Int32) (G : Nat → Nat → Int64) (A : Nat → Nat → Int32) (B : Nat → Nat → Int64) (h : zL2 k I G A B) (hk : k < 512) (a : Int32) : zWp ro 98 0 [(0, .ref 0), (1, .int a)] [] (hS I G A B) 0 0 (zP3 ro 164 [(0, .ref 52), (1, .int a)] k (fun _ _ => True)) := by
  obtain ⟨h1, I3, G3, A3, B3, eh, hx⟩ := h
  have p1 := pair_sum ro k I G A B h1 hk a
  obtain ⟨nv1, np1, W1, L1, C1, -⟩ := h1
  have p2 := pairX_sum ro k I3 G3 A3 B3 hx (fun nv np W R hp => CV_h eh C1 R hp) hk a
  rw [← eh] at p2
  exact zL_and p1 p2
set_option maxHeartbeats 0 in
theorem pairX_round (ro : UInt32 → Nat × (Nat → Int32)) (k : Nat) (I : Nat → Nat → Int32) (G : Nat → Nat → Int64) (A : Nat → Nat → Int32) (B : Nat → Nat → Int64) (h : zCx k I G A B) (C : ∀ nv np W, cRS 11 nv np A W I G A B → MPa nv np A → CV nv np (1216 * k) I) (hk : k < 512) (a : Int32) : zWp ro 99 0 [(0, .ref 0), (1, .int a)] [] (hS I G A B) 0 0 (zPX ro 170 [(0, .ref 52), (1, .int a)] k (fun _ _ => True)) := by
  obtain ⟨nv, np, W, L, F, R, ow, kd, lw, lg, tl, tc, tm, tn⟩ := h
  have fn := F.2.2.2.2.2
  have hC := C nv np W R F.2.1
  refine zWp.mono (dv_X11_round ro nv np (1216 * k) I G A B hC (by omega) a) ?_
  rintro r h1 ⟨I1, G1, A1, B1, rfl, K1, -, v, rfl⟩
  have F1 := F.kp K1 pLv_52
  have e1 : PE A A1 := fun k _ _ => (K1.2.2.1 k (pLv_52 k (by omega))).symm
  have R1 := R.k K1.kq ⟨rfl, rfl⟩ (fun j _ _ => rfl) (fun k h1 h2 => by simp only [pLv, decide_eq_false_iff_not]; omega)
  have g1 := lg.k K1.kq rfl rfl rfl rfl rfl
  refine ⟨_, rfl, zWp.mono (mm_round ro nv np A1 W L I1 G1 A1 B1 (242600 * k) a F1.1 F1.2.1 F1.2.2.1 (by omega) (by omega) (by omega) F1.2.2.2.2.1.1) ?_⟩
  rintro r2 h2 ⟨I2, G2, A2, B2, rfl, K2, ⟨L2, R2, ar, ln⟩, i1, w, rfl⟩
  refine ⟨_, rfl, ?_, trivial⟩
  obtain ⟨t, t1, t2⟩ := F1.2.2.2.2.1.2.2
  exact zCx.mk (zRf.of R2 F1.2.1 F1.2.2.1 (qArr.lg F1.2.2.2.1 ar ln) ⟨i1, (K2.1 52 41 rfl).trans F1.2.2.2.2.1.2.1, t, t1, (K2.1 52 29 rfl).trans t2⟩ (by rw [ln]; exact fn)) (by omega) (by omega) R1 (e1.tr R2.2.1.sy) K2 fRo_c pRo_c ow kd lw (g1.ar ar ln) (tc.e (K1.1 44 4 rfl) (K1.2.2.1 45 rfl)) (tm.e ((K2.1 52 29 rfl).trans (K1.1 52 29 rfl)) ((K2.2.2.1 71 rfl).trans (K1.2.2.1 71 rfl))) tn
theorem pair2_round (ro : UInt32 → Nat × (Nat → Int32)) (k : Nat) (I : Nat → Nat → Int32) (G : Nat → Nat → Int64) (A : Nat → Nat → Int32) (B : Nat → Nat → Int64) (h : zL2 k I G A B) (hk : k < 512) (a : Int32) : zWp ro 99 0 [(0, .ref 0), (1, .int a)] [] (hS I G A B) 0 0 (zP2 ro 170 [(0, .ref 52), (1, .int a)] k (fun _ _ => True)) := by
  obtain ⟨h1, I3, G3, A3, B3, eh, hx⟩ := h
  have p1 := pair_round ro k I G A B h1 hk a
  obtain ⟨nv1, np1, W1, L1, C1, -⟩ := h1
  have p2 := pairX_round ro k I3 G3 A3 B3 hx (fun nv np W R hp => CV_h eh C1 R hp) hk a
  rw [← eh] at p2
  exact zP_and p1 p2
set_option maxHeartbeats 0 in
theorem pairX_tune (ro : UInt32 → Nat × (Nat → Int32)) (k : Nat) (I : Nat → Nat → Int32) (G : Nat → Nat → Int64) (A : Nat → Nat → Int32) (B : Nat → Nat → Int64) (h : zCx k I G A B) (C : ∀ nv np W, cRS 11 nv np A W I G A B → MPa nv np A → CV nv np (1216 * k) I) (hk : k < 512) (a : Int32) (b : Int32) (c : Int32) (d : Int32) (e : Int32) : zWp ro 100 0 [(0, .ref 0), (1, .int a), (2, .int b), (3, .int c), (4, .int d), (5, .int e)] [] (hS I G A B) 0 0 (zPX ro 172 [(0, .ref 52), (1, .int a), (2, .int b), (3, .int c), (4, .int d), (5, .int e)] k (fun _ _ => True)) := by
  obtain ⟨nv, np, W, L, F, R, ow, kd, lw, lg, tl, tc, tm, tn⟩ := h
  have fn := F.2.2.2.2.2
  have hC := C nv np W R F.2.1
  refine zWp.mono (dm_tune ro nv np (1216 * k) I G A B hC (by omega) (kd.pe R.2.1) a b c d e) ?_
  rintro r h1 ⟨I1, G1, A1, B1, rfl, K1, -, v, rfl⟩
  have F1 := F.kp K1 pLv_52
  have e1 : PE A A1 := fun k _ _ => (K1.2.2.1 k (pLv_52 k (by omega))).symm
  have R1 := R.k K1.kq ⟨rfl, rfl⟩ (fun j _ _ => rfl) (fun k h1 h2 => by simp only [pLv, decide_eq_false_iff_not]; omega)
  have g1 := lg.k K1.kq rfl rfl rfl rfl rfl
  refine ⟨_, rfl, zWp.mono (mm_tune ro nv np A1 W L I1 G1 A1 B1 (242600 * k) a b c d e F1.1 F1.2.1 F1.2.2.1 (by omega) (by omega) (by omega) F1.2.2.2.2.1.1 F1.2.2.2.2.1.2.1) ?_⟩
  rintro r2 h2 ⟨I2, G2, A2, B2, rfl, K2, ⟨L2, R2, ar, ln⟩, ⟨i1, i2⟩, w, -, rfl⟩
  refine ⟨_, rfl, ?_, trivial⟩
  obtain ⟨t, t1, t2⟩ := F1.2.2.2.2.1.2.2
  exact zCx.mk (zRf.of R2 F1.2.1 F1.2.2.1 (qArr.lg F1.2.2.2.1 ar ln) ⟨i1, i2, t, t1, (K2.1 52 29 rfl).trans t2⟩ (by rw [ln]; exact fn)) (by omega) (by omega) R1 (e1.tr R2.2.1.sy) K2 fTu_c pTu_c ow kd lw (g1.ar ar ln) (tc.e (K1.1 44 4 rfl) (K1.2.2.1 45 rfl)) (tm.e ((K2.1 52 29 rfl).trans (K1.1 52 29 rfl)) ((K2.2.2.1 71 rfl).trans (K1.2.2.1 71 rfl))) tn
theorem pair2_tune (ro : UInt32 → Nat × (Nat → Int32)) (k : Nat) (I : Nat → Nat → Int32) (G : Nat → Nat → Int64) (A : Nat → Nat → Int32) (B : Nat → Nat → Int64) (h : zL2 k I G A B) (hk : k < 512) (a : Int32) (b : Int32) (c : Int32) (d : Int32) (e : Int32) : zWp ro 100 0 [(0, .ref 0), (1, .int a), (2, .int b), (3, .int c), (4, .int d), (5, .int e)] [] (hS I G A B) 0 0 (zP2 ro 172 [(0, .ref 52), (1, .int a), (2, .int b), (3, .int c), (4, .int d), (5, .int e)] k (fun _ _ => True)) := by
  obtain ⟨h1, I3, G3, A3, B3, eh, hx⟩ := h
  have p1 := pair_tune ro k I G A B h1 hk a b c d e
  obtain ⟨nv1, np1, W1, L1, C1, -⟩ := h1
  have p2 := pairX_tune ro k I3 G3 A3 B3 hx (fun nv np W R hp => CV_h eh C1 R hp) hk a b c d e
  rw [← eh] at p2
  exact zP_and p1 p2
def fAc (k j : Nat) : Bool := decide ((k = 0 ∧ j = 7) ∨ k = 44)
def pAc (k : Nat) : Bool := decide (k = 45)
theorem fAc_52 : ∀ k j, 52 ≤ k → fAc k j = false := by
  intro k j h
  simp only [fAc, decide_eq_false_iff_not]
  omega
theorem pAc_52 : ∀ k, 52 ≤ k → pAc k = false := by
  intro k h
  simp only [pAc, decide_eq_false_iff_not]
  omega
noncomputable def cI {α : Type} (p : Prop) (x y : α) : α := @ite α p (Classical.propDecidable p) x y
theorem cI_y {α : Type} {p : Prop} {x y : α} (h : p) : cI p x y = x := if_pos h
theorem cI_n {α : Type} {p : Prop} {x y : α} (h : ¬ p) : cI p x y = y := if_neg h
theorem sw_ne {a j : Int32} {n : Int} (h : a.toInt < 0 ∨ n < a.toInt) (hj : 0 ≤ j.toInt ∧ j.toInt ≤ n) : ¬ a = j := by
  intro e
  rw [e] at h
  omega
noncomputable def an_tl (kd b : Int32) : List Int32 := cI (b = 0) (cI (kd = 0) [10] (cI (kd = 1) [10] (cI (kd = 2) [30, 10] (cI (kd = 3) [41, 10] (cI (kd = 4) [41, 10] []))))) (cI (b = 1) (cI (kd = 0) [11, 10] (cI (kd = 1) [20, 11, 10] (cI (kd = 2) [11, 30, 10] (cI (kd = 3) [11, 41, 10] (cI (kd = 4) [51, 11, 41, 10] []))))) (cI (b = 2) (cI (kd = 0) [12] (cI (kd = 1) [12] (cI (kd = 2) [12] (cI (kd = 3) [40, 12] (cI (kd = 4) [50, 40, 12] []))))) (cI (kd = 0) [13, 11, 10, 12] (cI (kd = 1) [21, 13, 20, 11, 10, 12] (cI (kd = 2) [13, 11, 30, 10, 12] (cI (kd = 3) [13, 11, 41, 10, 40, 12] (cI (kd = 4) [13, 51, 11, 41, 10, 50, 40, 12] [])))))))
set_option maxRecDepth 100000 in
set_option maxHeartbeats 0 in
theorem ct_act (ro : UInt32 → Nat × (Nat → Int32)) (nv np : Nat) (P : Nat → Nat → Int32) (W : qW) (I : Nat → Nat → Int32) (G : Nat → Nat → Int64) (A : Nat → Nat → Int32) (B : Nat → Nat → Int64) (hR : cRS 11 nv np P W I G A B) (hp : MPa nv np P) (hQ : qKd nv P) (a b c : Int32) : zWp ro 101 0 [(0, .ref 0), (1, .int a), (2, .int b), (3, .int c)] [] (hS I G A B) 0 0 (fun r h1 => ∃ I2 G2 A2 B2, h1 = hS I2 G2 A2 B2 ∧ KQ fAc pAc I G A B I2 G2 A2 B2 ∧ ((¬ (qV nv a ∧ qRg b 0 3) ∧ I2 44 4 = I 44 4 ∧ A2 45 = A 45) ∨ ((qV nv a ∧ qRg b 0 3) ∧ cTl (I2 44 4) (A2 45) (an_tl (P 53 a.toNatClampNeg) b))) ∧ ∃ v : Int32, r = some (.int v)) := by
  have h8 := hp.1
  have h14 := hp.2.1
  refine zw_aload_n 1 f101_0 rfl rfl ?_
  refine zw_getfield 4 f101_1 rfl g101_10_11 (hb_0 _ _ _ _) rfl ?_
  refine zw_iload_n 5 f101_4 rfl rfl ?_
  refine zw_virtual_i 8 0 0 [.ref 1, .int a] [(0, .ref 1), (1, .int a)] f101_5 rfl n101_112 k101_112_4 rfl (hb_1 _ _ _ _) (by decide +kernel) (Nat.le_of_ble_eq_true rfl) rfl rfl (by decide +kernel) (by decide +kernel) rfl (Nat.le_of_ble_eq_true rfl) rfl ?_
  refine zw_iload_n 1 f15_0 rfl rfl ?_
  refine zw_if_lt 4 27 f15_1 (by decide +kernel) rfl (fun hc1 => ?_) (fun hc1 => ?_)
  · refine zw_iconst (-1) 28 f15_27 rfl (by decide +kernel) ?_
    refine zw_ireturn f15_28 r15 u15 ⟨_, rfl, ?_⟩
    refine zw_istore _ 10 f101_8 rfl (by decide +kernel) rfl ?_
    refine zw_iload 12 f101_10 rfl zl1_eq ?_
    refine zw_iconst 0 13 f101_12 rfl (by decide +kernel) ?_
    refine zw_iconst 4 14 f101_13 rfl (by decide +kernel) ?_
    refine zw_static_i 17 0 0 [.int (-1), .int 0, .int 4] [] [(0, .int (-1)), (1, .int 0), (2, .int 4)] f101_14 rfl k101_74_99 rfl (by decide +kernel) (Nat.le_of_ble_eq_true rfl) (Nat.le_of_ble_eq_true rfl) rfl rfl (by decide +kernel) (by decide +kernel) rfl (Nat.le_of_ble_eq_true rfl) rfl ?_
    refine zw_iload_n 1 f112_0 rfl rfl ?_
    refine zw_iload_n 2 f112_1 rfl rfl ?_
    refine zw_ic_lt_t 14 f112_2 (by decide +kernel) (by decide +kernel) ?_
    refine zw_iconst 0 15 f112_14 rfl (by decide +kernel) ?_
    refine zw_zreturn f112_15 r112 u112 (by decide +kernel) ⟨_, rfl, ?_⟩
    refine zw_if_eq_t 29 f101_17 (by decide +kernel) (by decide +kernel) ?_
    refine zw_aload_n 30 f101_29 rfl (zl1_ne rfl rfl rfl) ?_
    refine zw_iconst 1 31 f101_30 rfl (by decide +kernel) ?_
    refine zw_virtual_i 34 0 0 [.ref 0, .int 1] [(0, .ref 0), (1, .int 1)] f101_31 rfl n101_78 k101_78_11 rfl (hb_0 _ _ _ _) (by decide +kernel) (Nat.le_of_ble_eq_true rfl) rfl rfl (by decide +kernel) (by decide +kernel) rfl (Nat.le_of_ble_eq_true rfl) rfl ?_
    refine zw_aload_n 1 f105_0 rfl rfl ?_
    refine zw_iload_n 2 f105_1 rfl rfl ?_
    refine zw_put _ 5 f105_2 rfl g105_70_11 (hb_0 _ _ _ _) rfl (Nat.le_of_ble_eq_true rfl) (by decide +kernel) (hi_0_7 _ _ _ _ _) ?_
    refine zw_iconst (-1) 6 f105_5 rfl (by decide +kernel) ?_
    refine zw_ireturn f105_6 r105 u105 ⟨_, rfl, ?_⟩
    refine zw_ireturn f101_34 r101 u101 ?_
    exact ⟨_, _, _, _, rfl, (KQ.i rfl KQ.rf), Or.inl ⟨(fun q => (qV.n0 (by omega) hc1) q.1), rfl, rfl⟩, _, rfl⟩
  · refine zw_iload_n 5 f15_4 rfl rfl ?_
    refine zw_aload_n 6 f15_5 rfl rfl ?_
    refine zw_getI (nI nv) 9 f15_6 rfl g15_39_4 (hb_1 _ _ _ _) rfl hR.1.1 ?_
    refine zw_ic_ge 12 27 f15_9 (by decide +kernel) rfl (fun hc2 => ?_) (fun hc2 => ?_)
    · refine zw_iconst (-1) 28 f15_27 rfl (by decide +kernel) ?_
      refine zw_ireturn f15_28 r15 u15 ⟨_, rfl, ?_⟩
      refine zw_istore _ 10 f101_8 rfl (by decide +kernel) rfl ?_
      refine zw_iload 12 f101_10 rfl zl1_eq ?_
      refine zw_iconst 0 13 f101_12 rfl (by decide +kernel) ?_
      refine zw_iconst 4 14 f101_13 rfl (by decide +kernel) ?_
      refine zw_static_i 17 0 0 [.int (-1), .int 0, .int 4] [] [(0, .int (-1)), (1, .int 0), (2, .int 4)] f101_14 rfl k101_74_99 rfl (by decide +kernel) (Nat.le_of_ble_eq_true rfl) (Nat.le_of_ble_eq_true rfl) rfl rfl (by decide +kernel) (by decide +kernel) rfl (Nat.le_of_ble_eq_true rfl) rfl ?_
      refine zw_iload_n 1 f112_0 rfl rfl ?_
      refine zw_iload_n 2 f112_1 rfl rfl ?_
      refine zw_ic_lt_t 14 f112_2 (by decide +kernel) (by decide +kernel) ?_
      refine zw_iconst 0 15 f112_14 rfl (by decide +kernel) ?_
      refine zw_zreturn f112_15 r112 u112 (by decide +kernel) ⟨_, rfl, ?_⟩
      refine zw_if_eq_t 29 f101_17 (by decide +kernel) (by decide +kernel) ?_
      refine zw_aload_n 30 f101_29 rfl (zl1_ne rfl rfl rfl) ?_
      refine zw_iconst 1 31 f101_30 rfl (by decide +kernel) ?_
      refine zw_virtual_i 34 0 0 [.ref 0, .int 1] [(0, .ref 0), (1, .int 1)] f101_31 rfl n101_78 k101_78_11 rfl (hb_0 _ _ _ _) (by decide +kernel) (Nat.le_of_ble_eq_true rfl) rfl rfl (by decide +kernel) (by decide +kernel) rfl (Nat.le_of_ble_eq_true rfl) rfl ?_
      refine zw_aload_n 1 f105_0 rfl rfl ?_
      refine zw_iload_n 2 f105_1 rfl rfl ?_
      refine zw_put _ 5 f105_2 rfl g105_70_11 (hb_0 _ _ _ _) rfl (Nat.le_of_ble_eq_true rfl) (by decide +kernel) (hi_0_7 _ _ _ _ _) ?_
      refine zw_iconst (-1) 6 f105_5 rfl (by decide +kernel) ?_
      refine zw_ireturn f105_6 r105 u105 ⟨_, rfl, ?_⟩
      refine zw_ireturn f101_34 r101 u101 ?_
      exact ⟨_, _, _, _, rfl, (KQ.i rfl KQ.rf), Or.inl ⟨(fun q => (qV.n2 (by omega) hc2) q.1), rfl, rfl⟩, _, rfl⟩
    · refine zw_iload_n 13 f15_12 rfl rfl ?_
      refine zw_bipush 8 15 f15_13 rfl (by decide +kernel) ?_
      refine zw_ic_ge 18 27 f15_15 (by decide +kernel) rfl (fun hc3 => ?_) (fun hc3 => ?_)
      · refine zw_iconst (-1) 28 f15_27 rfl (by decide +kernel) ?_
        refine zw_ireturn f15_28 r15 u15 ⟨_, rfl, ?_⟩
        refine zw_istore _ 10 f101_8 rfl (by decide +kernel) rfl ?_
        refine zw_iload 12 f101_10 rfl zl1_eq ?_
        refine zw_iconst 0 13 f101_12 rfl (by decide +kernel) ?_
        refine zw_iconst 4 14 f101_13 rfl (by decide +kernel) ?_
        refine zw_static_i 17 0 0 [.int (-1), .int 0, .int 4] [] [(0, .int (-1)), (1, .int 0), (2, .int 4)] f101_14 rfl k101_74_99 rfl (by decide +kernel) (Nat.le_of_ble_eq_true rfl) (Nat.le_of_ble_eq_true rfl) rfl rfl (by decide +kernel) (by decide +kernel) rfl (Nat.le_of_ble_eq_true rfl) rfl ?_
        refine zw_iload_n 1 f112_0 rfl rfl ?_
        refine zw_iload_n 2 f112_1 rfl rfl ?_
        refine zw_ic_lt_t 14 f112_2 (by decide +kernel) (by decide +kernel) ?_
        refine zw_iconst 0 15 f112_14 rfl (by decide +kernel) ?_
        refine zw_zreturn f112_15 r112 u112 (by decide +kernel) ⟨_, rfl, ?_⟩
        refine zw_if_eq_t 29 f101_17 (by decide +kernel) (by decide +kernel) ?_
        refine zw_aload_n 30 f101_29 rfl (zl1_ne rfl rfl rfl) ?_
        refine zw_iconst 1 31 f101_30 rfl (by decide +kernel) ?_
        refine zw_virtual_i 34 0 0 [.ref 0, .int 1] [(0, .ref 0), (1, .int 1)] f101_31 rfl n101_78 k101_78_11 rfl (hb_0 _ _ _ _) (by decide +kernel) (Nat.le_of_ble_eq_true rfl) rfl rfl (by decide +kernel) (by decide +kernel) rfl (Nat.le_of_ble_eq_true rfl) rfl ?_
        refine zw_aload_n 1 f105_0 rfl rfl ?_
        refine zw_iload_n 2 f105_1 rfl rfl ?_
        refine zw_put _ 5 f105_2 rfl g105_70_11 (hb_0 _ _ _ _) rfl (Nat.le_of_ble_eq_true rfl) (by decide +kernel) (hi_0_7 _ _ _ _ _) ?_
        refine zw_iconst (-1) 6 f105_5 rfl (by decide +kernel) ?_
        refine zw_ireturn f105_6 r105 u105 ⟨_, rfl, ?_⟩
        refine zw_ireturn f101_34 r101 u101 ?_
        exact ⟨_, _, _, _, rfl, (KQ.i rfl KQ.rf), Or.inl ⟨(fun q => (qV.n3 (m := 8) (N := 8) (by omega) (by omega) (by decide) hc3) q.1), rfl, rfl⟩, _, rfl⟩
      · refine zw_aload_n 19 f15_18 rfl rfl ?_
        refine zw_getfield 22 f15_19 rfl g15_9_4 (hb_1 _ _ _ _) rfl ?_
        refine zw_iload_n 23 f15_22 rfl rfl ?_
        refine zw_iaload a.toNatClampNeg (P 53 a.toNatClampNeg) 24 f15_23 rfl (hb_2 _ _ _ _) rfl hc1 (zix (by decide) hc1 hc3) (congrFun ((hR.2.1 53 (by omega) (by omega))) a.toNatClampNeg) ?_
        refine zw_goto 28 f15_24 (by decide +kernel) ?_
        refine zw_ireturn f15_28 r15 u15 ⟨_, rfl, ?_⟩
        refine zw_istore _ 10 f101_8 rfl (by decide +kernel) rfl ?_
        refine zw_iload 12 f101_10 rfl zl1_eq ?_
        refine zw_iconst 0 13 f101_12 rfl (by decide +kernel) ?_
        refine zw_iconst 4 14 f101_13 rfl (by decide +kernel) ?_
        refine zw_static_i 17 0 0 [.int (P 53 a.toNatClampNeg), .int 0, .int 4] [] [(0, .int (P 53 a.toNatClampNeg)), (1, .int 0), (2, .int 4)] f101_14 rfl k101_74_99 rfl (by decide +kernel) (Nat.le_of_ble_eq_true rfl) (Nat.le_of_ble_eq_true rfl) rfl rfl (by decide +kernel) (by decide +kernel) rfl (Nat.le_of_ble_eq_true rfl) rfl ?_
        refine zw_iload_n 1 f112_0 rfl rfl ?_
        refine zw_iload_n 2 f112_1 rfl rfl ?_
        refine zw_ic_lt_f 5 14 f112_2 (by decide +kernel) rfl (hQ.1 _ ((qV.ofc (by omega) hc1 hc2)).1).1 ?_
        refine zw_iload_n 6 f112_5 rfl rfl ?_
        refine zw_iload_n 7 f112_6 rfl rfl ?_
        refine zw_ic_gt_f 10 14 f112_7 (by decide +kernel) rfl (hQ.1 _ ((qV.ofc (by omega) hc1 hc2)).1).2 ?_
        refine zw_iconst 1 11 f112_10 rfl (by decide +kernel) ?_
        refine zw_goto 15 f112_11 (by decide +kernel) ?_
        refine zw_zreturn f112_15 r112 u112 (by decide +kernel) ⟨_, rfl, ?_⟩
        refine zw_if_eq_f 20 29 f101_17 (by decide +kernel) rfl (by decide +kernel) ?_
        refine zw_iload_n 21 f101_20 rfl (zl1_ne rfl rfl rfl) ?_
        refine zw_iconst 0 22 f101_21 rfl (by decide +kernel) ?_
        refine zw_iconst 3 23 f101_22 rfl (by decide +kernel) ?_
        refine zw_static_i 26 0 0 [.int b, .int 0, .int 3] [] [(0, .int b), (1, .int 0), (2, .int 3)] f101_23 rfl k101_74_99 rfl (by decide +kernel) (Nat.le_of_ble_eq_true rfl) (Nat.le_of_ble_eq_true rfl) rfl rfl (by decide +kernel) (by decide +kernel) rfl (Nat.le_of_ble_eq_true rfl) rfl ?_
        refine zw_iload_n 1 f112_0 rfl rfl ?_
        refine zw_iload_n 2 f112_1 rfl rfl ?_
        refine zw_ic_lt 5 14 f112_2 (by decide +kernel) rfl (fun hc4 => ?_) (fun hc4 => ?_)
        · refine zw_iconst 0 15 f112_14 rfl (by decide +kernel) ?_
          refine zw_zreturn f112_15 r112 u112 (by decide +kernel) ⟨_, rfl, ?_⟩
          refine zw_if_ne_f 29 35 f101_26 (by decide +kernel) rfl (by decide +kernel) ?_
          refine zw_aload_n 30 f101_29 rfl (zl1_ne rfl rfl rfl) ?_
          refine zw_iconst 1 31 f101_30 rfl (by decide +kernel) ?_
          refine zw_virtual_i 34 0 0 [.ref 0, .int 1] [(0, .ref 0), (1, .int 1)] f101_31 rfl n101_78 k101_78_11 rfl (hb_0 _ _ _ _) (by decide +kernel) (Nat.le_of_ble_eq_true rfl) rfl rfl (by decide +kernel) (by decide +kernel) rfl (Nat.le_of_ble_eq_true rfl) rfl ?_
          refine zw_aload_n 1 f105_0 rfl rfl ?_
          refine zw_iload_n 2 f105_1 rfl rfl ?_
          refine zw_put _ 5 f105_2 rfl g105_70_11 (hb_0 _ _ _ _) rfl (Nat.le_of_ble_eq_true rfl) (by decide +kernel) (hi_0_7 _ _ _ _ _) ?_
          refine zw_iconst (-1) 6 f105_5 rfl (by decide +kernel) ?_
          refine zw_ireturn f105_6 r105 u105 ⟨_, rfl, ?_⟩
          refine zw_ireturn f101_34 r101 u101 ?_
          exact ⟨_, _, _, _, rfl, (KQ.i rfl KQ.rf), Or.inl ⟨(fun q => (fun q => q.1 hc4) q.2), rfl, rfl⟩, _, rfl⟩
        · refine zw_iload_n 6 f112_5 rfl rfl ?_
          refine zw_iload_n 7 f112_6 rfl rfl ?_
          refine zw_ic_gt 10 14 f112_7 (by decide +kernel) rfl (fun hc5 => ?_) (fun hc5 => ?_)
          · refine zw_iconst 0 15 f112_14 rfl (by decide +kernel) ?_
            refine zw_zreturn f112_15 r112 u112 (by decide +kernel) ⟨_, rfl, ?_⟩
            refine zw_if_ne_f 29 35 f101_26 (by decide +kernel) rfl (by decide +kernel) ?_
            refine zw_aload_n 30 f101_29 rfl (zl1_ne rfl rfl rfl) ?_
            refine zw_iconst 1 31 f101_30 rfl (by decide +kernel) ?_
            refine zw_virtual_i 34 0 0 [.ref 0, .int 1] [(0, .ref 0), (1, .int 1)] f101_31 rfl n101_78 k101_78_11 rfl (hb_0 _ _ _ _) (by decide +kernel) (Nat.le_of_ble_eq_true rfl) rfl rfl (by decide +kernel) (by decide +kernel) rfl (Nat.le_of_ble_eq_true rfl) rfl ?_
            refine zw_aload_n 1 f105_0 rfl rfl ?_
            refine zw_iload_n 2 f105_1 rfl rfl ?_
            refine zw_put _ 5 f105_2 rfl g105_70_11 (hb_0 _ _ _ _) rfl (Nat.le_of_ble_eq_true rfl) (by decide +kernel) (hi_0_7 _ _ _ _ _) ?_
            refine zw_iconst (-1) 6 f105_5 rfl (by decide +kernel) ?_
            refine zw_ireturn f105_6 r105 u105 ⟨_, rfl, ?_⟩
            refine zw_ireturn f101_34 r101 u101 ?_
            exact ⟨_, _, _, _, rfl, (KQ.i rfl KQ.rf), Or.inl ⟨(fun q => (fun q => q.2 hc5) q.2), rfl, rfl⟩, _, rfl⟩
          · refine zw_iconst 1 11 f112_10 rfl (by decide +kernel) ?_
            refine zw_goto 15 f112_11 (by decide +kernel) ?_
            refine zw_zreturn f112_15 r112 u112 (by decide +kernel) ⟨_, rfl, ?_⟩
            refine zw_if_ne_t 35 f101_26 (by decide +kernel) (by decide +kernel) ?_
            refine zw_aload_n 36 f101_35 rfl (zl1_ne rfl rfl rfl) ?_
            refine zw_getfield 39 f101_36 rfl g101_51_11 (hb_0 _ _ _ _) rfl ?_
            refine zw_iload 41 f101_39 rfl zl1_eq ?_
            rcases (k5 (x := (P 53 a.toNatClampNeg)) ⟨(hQ.1 _ ((qV.ofc (by omega) hc1 hc2)).1).1, (hQ.1 _ ((qV.ofc (by omega) hc1 hc2)).1).2⟩) with hk | hk | hk | hk | hk
            · refine zw_aaload 0 42 f101_41 rfl (hb_46 _ _ _ _) (by rw [hk]; decide) (by rw [hk]; decide) (by decide) rfl ?_
              refine zw_astore _ 44 f101_42 rfl (by decide +kernel) rfl ?_
              refine zw_aload 46 f101_44 rfl zl1_eq ?_
              refine zw_ifnonnull 55 f101_46 (by decide +kernel) ?_
              refine zw_aload_n 56 f101_55 rfl (zl1_ne rfl rfl (zl1_ne rfl rfl rfl)) ?_
              refine zw_getfield 59 f101_56 rfl g101_45_11 (hb_0 _ _ _ _) rfl ?_
              refine zw_aload_n 60 f101_59 rfl (zl1_ne rfl rfl (zl1_ne rfl rfl rfl)) ?_
              refine zw_getfield 63 f101_60 rfl g101_10_11 (hb_0 _ _ _ _) rfl ?_
              refine zw_aload_n 64 f101_63 rfl (zl1_ne rfl rfl (zl1_ne rfl rfl rfl)) ?_
              refine zw_getfield 67 f101_64 rfl g101_21_11 (hb_0 _ _ _ _) rfl ?_
              refine zw_getfield 70 f101_67 rfl g101_134_10 (hb_11 _ _ _ _) rfl ?_
              refine zw_iload_n 71 f101_70 rfl (zl1_ne rfl rfl (zl1_ne rfl rfl rfl)) ?_
              refine zw_virtual_v 74 0 0 [.ref 44, .ref 1, .ref 12, .int a] [(0, .ref 44), (1, .ref 1), (2, .ref 12), (3, .int a)] f101_71 rfl n101_285 k101_285_0 rfl (hb_44 _ _ _ _) (by decide +kernel) (Nat.le_of_ble_eq_true rfl) rfl rfl (by decide +kernel) (by decide +kernel) rfl (Nat.le_of_ble_eq_true rfl) rfl ?_
              refine zw_aload_n 1 f1_0 rfl rfl ?_
              refine zw_iconst 0 2 f1_1 rfl (by decide +kernel) ?_
              refine zw_put _ 5 f1_2 rfl g1_15_0 (hb_44 _ _ _ _) rfl (Nat.le_of_ble_eq_true rfl) (by decide +kernel) (hi_44_4 _ _ _ _ _) ?_
              refine zw_aload_n 6 f1_5 rfl rfl ?_
              refine zw_iload_n 7 f1_6 rfl rfl ?_
              refine zw_virtual_i 10 0 0 [.ref 1, .int a] [(0, .ref 1), (1, .int a)] f1_7 rfl n1_19 k1_19_4 rfl (hb_1 _ _ _ _) (by decide +kernel) (Nat.le_of_ble_eq_true rfl) rfl rfl (by decide +kernel) (by decide +kernel) rfl (Nat.le_of_ble_eq_true rfl) rfl ?_
              refine zw_iload_n 1 f13_0 rfl rfl ?_
              refine zw_if_lt_f 4 22 f13_1 (by decide +kernel) rfl hc1 ?_
              refine zw_iload_n 5 f13_4 rfl rfl ?_
              refine zw_aload_n 6 f13_5 rfl rfl ?_
              refine zw_getI (nI nv) 9 f13_6 rfl g13_39_4 (hb_1 _ _ _ _) rfl hR.1.1 ?_
              refine zw_ic_ge_f 12 22 f13_9 (by decide +kernel) rfl hc2 ?_
              refine zw_iload_n 13 f13_12 rfl rfl ?_
              refine zw_bipush 8 15 f13_13 rfl (by decide +kernel) ?_
              refine zw_ic_ge_f 18 22 f13_15 (by decide +kernel) rfl hc3 ?_
              refine zw_iconst 1 19 f13_18 rfl (by decide +kernel) ?_
              refine zw_goto 23 f13_19 (by decide +kernel) ?_
              refine zw_zreturn f13_23 r13 u13 (by decide +kernel) ⟨_, rfl, ?_⟩
              refine zw_if_eq_f 13 53 f1_10 (by decide +kernel) rfl (by decide +kernel) ?_
              refine zw_aload_n 14 f1_13 rfl rfl ?_
              refine zw_aload_n 15 f1_14 rfl rfl ?_
              refine zw_getfield 18 f1_15 rfl g1_25_4 (hb_1 _ _ _ _) rfl ?_
              refine zw_iload_n 19 f1_18 rfl rfl ?_
              refine zw_iaload a.toNatClampNeg (P 54 a.toNatClampNeg) 20 f1_19 rfl (hb_3 _ _ _ _) rfl hc1 (zix (by decide) hc1 hc3) (congrFun ((hR.2.1 54 (by omega) (by omega))) a.toNatClampNeg) ?_
              refine zw_put _ 23 f1_20 rfl g1_28_0 (hb_44 _ _ _ _) rfl (Nat.le_of_ble_eq_true rfl) (by decide +kernel) (hi_44_0 _ _ _ _ _) ?_
              refine zw_aload_n 24 f1_23 rfl rfl ?_
              refine zw_aload_n 25 f1_24 rfl rfl ?_
              refine zw_getfield 28 f1_25 rfl g1_31_4 (hb_1 _ _ _ _) rfl ?_
              refine zw_iload_n 29 f1_28 rfl rfl ?_
              refine zw_iaload a.toNatClampNeg (P 55 a.toNatClampNeg) 30 f1_29 rfl (hb_4 _ _ _ _) rfl hc1 (zix (by decide) hc1 hc3) (congrFun ((hR.2.1 55 (by omega) (by omega))) a.toNatClampNeg) ?_
              refine zw_put _ 33 f1_30 rfl g1_34_0 (hb_44 _ _ _ _) rfl (Nat.le_of_ble_eq_true rfl) (by decide +kernel) (hi_44_1 _ _ _ _ _) ?_
              refine zw_aload_n 34 f1_33 rfl rfl ?_
              refine zw_aload_n 35 f1_34 rfl rfl ?_
              refine zw_getfield 38 f1_35 rfl g1_37_4 (hb_1 _ _ _ _) rfl ?_
              refine zw_iload_n 39 f1_38 rfl rfl ?_
              refine zw_iaload a.toNatClampNeg (P 56 a.toNatClampNeg) 40 f1_39 rfl (hb_5 _ _ _ _) rfl hc1 (zix (by decide) hc1 hc3) (congrFun ((hR.2.1 56 (by omega) (by omega))) a.toNatClampNeg) ?_
              refine zw_put _ 43 f1_40 rfl g1_40_0 (hb_44 _ _ _ _) rfl (Nat.le_of_ble_eq_true rfl) (by decide +kernel) (hi_44_2 _ _ _ _ _) ?_
              refine zw_aload_n 44 f1_43 rfl rfl ?_
              refine zw_aload_n 45 f1_44 rfl rfl ?_
              refine zw_getfield 48 f1_45 rfl g1_43_9 (hb_12 _ _ _ _) rfl ?_
              refine zw_iload_n 49 f1_48 rfl rfl ?_
              refine zw_iaload a.toNatClampNeg (A 14 a.toNatClampNeg) 50 f1_49 rfl (hb_14 _ _ _ _) rfl hc1 (zix (by decide) hc1 hc3) rfl ?_
              refine zw_put _ 53 f1_50 rfl g1_48_0 (hb_44 _ _ _ _) rfl (Nat.le_of_ble_eq_true rfl) (by decide +kernel) (hi_44_3 _ _ _ _ _) ?_
              refine zw_vreturn f1_53 r1 u1 ⟨rfl, ?_⟩
              refine zw_iload_n 75 f101_74 rfl (zl1_ne rfl rfl (zl1_ne rfl rfl rfl)) ?_
              rcases zl_sw 2 (by decide) b with hs6 | ⟨hs6k, hs6l, hs6e⟩
              · refine zw_table_o 133 f101_75 hs6 (by decide +kernel) ?_
                refine zw_aload_n 134 f101_133 rfl (zl1_ne rfl rfl (zl1_ne rfl rfl rfl)) ?_
                refine zw_aload 136 f101_134 rfl zl1_eq ?_
                refine zw_iload_n 137 f101_136 rfl (zl1_ne rfl rfl (zl1_ne rfl rfl rfl)) ?_
                refine zw_virtual_i 140 0 0 [.ref 47, .int c] [(0, .ref 47), (1, .int c)] f101_137 rfl n101_298 k101_298_8 rfl (hb_47 _ _ _ _) (by decide +kernel) (Nat.le_of_ble_eq_true rfl) rfl rfl (by decide +kernel) (by decide +kernel) rfl (Nat.le_of_ble_eq_true rfl) rfl ?_
                refine zw_aload_n 1 f40_0 rfl rfl ?_
                refine zw_getfield 4 f40_1 rfl g40_7_8 (hb_47 _ _ _ _) rfl ?_
                refine zw_bipush 13 6 f40_4 rfl (by decide +kernel) ?_
                refine zw_virtual_v 9 0 0 [.ref 44, .int 13] [(0, .ref 44), (1, .int 13)] f40_6 rfl n40_13 k40_13_0 rfl (hb_44 _ _ _ _) (by decide +kernel) (Nat.le_of_ble_eq_true rfl) rfl rfl (by decide +kernel) (by decide +kernel) rfl (Nat.le_of_ble_eq_true rfl) rfl ?_
                refine zw_aload_n 1 f2_0 rfl rfl ?_
                refine zw_getI 0 4 f2_1 rfl g2_15_0 (hb_44 _ _ _ _) rfl rfl ?_
                refine zw_bipush 50 6 f2_4 rfl (by decide +kernel) ?_
                refine zw_ic_ge_f 9 29 f2_6 (by decide +kernel) rfl (by decide +kernel) ?_
                refine zw_aload_n 10 f2_9 rfl rfl ?_
                refine zw_getfield 13 f2_10 rfl g2_9_0 (hb_44 _ _ _ _) rfl ?_
                refine zw_aload_n 14 f2_13 rfl rfl ?_
                refine zw_getI 0 17 f2_14 rfl g2_15_0 (hb_44 _ _ _ _) rfl rfl ?_
                refine zw_iload_n 18 f2_17 rfl rfl ?_
                refine zw_ast 0 _ 19 f2_18 rfl (hb_45 _ _ _ _) (by decide +kernel) (by decide +kernel) (by decide +kernel) (ha_45 _ _ _ _ _) ?_
                refine zw_aload_n 20 f2_19 rfl rfl ?_
                refine zw_dup 21 f2_20 rfl rfl ?_
                refine zw_getI 0 24 f2_21 rfl g2_15_0 (hb_44 _ _ _ _) rfl rfl ?_
                refine zw_iconst 1 25 f2_24 rfl (by decide +kernel) ?_
                refine zw_iadd 1 26 f2_25 rfl (by decide +kernel) ?_
                refine zw_put _ 29 f2_26 rfl g2_15_0 (hb_44 _ _ _ _) rfl (Nat.le_of_ble_eq_true rfl) (by decide +kernel) (hi_44_4 _ _ _ _ _) ?_
                refine zw_vreturn f2_29 r2 u2 ⟨rfl, ?_⟩
                refine zw_aload_n 10 f40_9 rfl rfl ?_
                refine zw_iload_n 11 f40_10 rfl rfl ?_
                refine zw_virtual_i 14 0 0 [.ref 47, .int c] [(0, .ref 47), (1, .int c)] f40_11 rfl n40_27 k40_27_8 rfl (hb_47 _ _ _ _) (by decide +kernel) (Nat.le_of_ble_eq_true rfl) rfl rfl (by decide +kernel) (by decide +kernel) rfl (Nat.le_of_ble_eq_true rfl) rfl ?_
                refine zw_aload_n 1 f38_0 rfl rfl ?_
                refine zw_getfield 4 f38_1 rfl g38_7_8 (hb_47 _ _ _ _) rfl ?_
                refine zw_bipush 11 6 f38_4 rfl (by decide +kernel) ?_
                refine zw_virtual_v 9 0 0 [.ref 44, .int 11] [(0, .ref 44), (1, .int 11)] f38_6 rfl n38_13 k38_13_0 rfl (hb_44 _ _ _ _) (by decide +kernel) (Nat.le_of_ble_eq_true rfl) rfl rfl (by decide +kernel) (by decide +kernel) rfl (Nat.le_of_ble_eq_true rfl) rfl ?_
                refine zw_aload_n 1 f2_0 rfl rfl ?_
                refine zw_getI 1 4 f2_1 rfl g2_15_0 (hb_44 _ _ _ _) rfl rfl ?_
                refine zw_bipush 50 6 f2_4 rfl (by decide +kernel) ?_
                refine zw_ic_ge_f 9 29 f2_6 (by decide +kernel) rfl (by decide +kernel) ?_
                refine zw_aload_n 10 f2_9 rfl rfl ?_
                refine zw_getfield 13 f2_10 rfl g2_9_0 (hb_44 _ _ _ _) rfl ?_
                refine zw_aload_n 14 f2_13 rfl rfl ?_
                refine zw_getI 1 17 f2_14 rfl g2_15_0 (hb_44 _ _ _ _) rfl rfl ?_
                refine zw_iload_n 18 f2_17 rfl rfl ?_
                refine zw_ast 1 _ 19 f2_18 rfl (hb_45 _ _ _ _) (by decide +kernel) (by decide +kernel) (by decide +kernel) (ha_45 _ _ _ _ _) ?_
                refine zw_aload_n 20 f2_19 rfl rfl ?_
                refine zw_dup 21 f2_20 rfl rfl ?_
                refine zw_getI 1 24 f2_21 rfl g2_15_0 (hb_44 _ _ _ _) rfl rfl ?_
                refine zw_iconst 1 25 f2_24 rfl (by decide +kernel) ?_
                refine zw_iadd 2 26 f2_25 rfl (by decide +kernel) ?_
                refine zw_put _ 29 f2_26 rfl g2_15_0 (hb_44 _ _ _ _) rfl (Nat.le_of_ble_eq_true rfl) (by decide +kernel) (hi_44_4 _ _ _ _ _) ?_
                refine zw_vreturn f2_29 r2 u2 ⟨rfl, ?_⟩
                refine zw_aload_n 10 f38_9 rfl rfl ?_
                refine zw_iload_n 11 f38_10 rfl rfl ?_
                refine zw_virtual_i 14 0 0 [.ref 47, .int c] [(0, .ref 47), (1, .int c)] f38_11 rfl n38_23 k38_23_8 rfl (hb_47 _ _ _ _) (by decide +kernel) (Nat.le_of_ble_eq_true rfl) rfl rfl (by decide +kernel) (by decide +kernel) rfl (Nat.le_of_ble_eq_true rfl) rfl ?_
                refine zw_aload_n 1 f37_0 rfl rfl ?_
                refine zw_getfield 4 f37_1 rfl g37_7_8 (hb_47 _ _ _ _) rfl ?_
                refine zw_bipush 10 6 f37_4 rfl (by decide +kernel) ?_
                refine zw_virtual_v 9 0 0 [.ref 44, .int 10] [(0, .ref 44), (1, .int 10)] f37_6 rfl n37_13 k37_13_0 rfl (hb_44 _ _ _ _) (by decide +kernel) (Nat.le_of_ble_eq_true rfl) rfl rfl (by decide +kernel) (by decide +kernel) rfl (Nat.le_of_ble_eq_true rfl) rfl ?_
                refine zw_aload_n 1 f2_0 rfl rfl ?_
                refine zw_getI 2 4 f2_1 rfl g2_15_0 (hb_44 _ _ _ _) rfl rfl ?_
                refine zw_bipush 50 6 f2_4 rfl (by decide +kernel) ?_
                refine zw_ic_ge_f 9 29 f2_6 (by decide +kernel) rfl (by decide +kernel) ?_
                refine zw_aload_n 10 f2_9 rfl rfl ?_
                refine zw_getfield 13 f2_10 rfl g2_9_0 (hb_44 _ _ _ _) rfl ?_
                refine zw_aload_n 14 f2_13 rfl rfl ?_
                refine zw_getI 2 17 f2_14 rfl g2_15_0 (hb_44 _ _ _ _) rfl rfl ?_
                refine zw_iload_n 18 f2_17 rfl rfl ?_
                refine zw_ast 2 _ 19 f2_18 rfl (hb_45 _ _ _ _) (by decide +kernel) (by decide +kernel) (by decide +kernel) (ha_45 _ _ _ _ _) ?_
                refine zw_aload_n 20 f2_19 rfl rfl ?_
                refine zw_dup 21 f2_20 rfl rfl ?_
                refine zw_getI 2 24 f2_21 rfl g2_15_0 (hb_44 _ _ _ _) rfl rfl ?_
                refine zw_iconst 1 25 f2_24 rfl (by decide +kernel) ?_
                refine zw_iadd 3 26 f2_25 rfl (by decide +kernel) ?_
                refine zw_put _ 29 f2_26 rfl g2_15_0 (hb_44 _ _ _ _) rfl (Nat.le_of_ble_eq_true rfl) (by decide +kernel) (hi_44_4 _ _ _ _ _) ?_
                refine zw_vreturn f2_29 r2 u2 ⟨rfl, ?_⟩
                refine zw_iload_n 10 f37_9 rfl rfl ?_
                refine zw_aload_n 11 f37_10 rfl rfl ?_
                refine zw_getfield 14 f37_11 rfl g37_7_8 (hb_47 _ _ _ _) rfl ?_
                refine zw_getI (P 54 a.toNatClampNeg) 17 f37_14 rfl g37_19_0 (hb_44 _ _ _ _) rfl rfl ?_
                refine zw_iadd (c + (P 54 a.toNatClampNeg)) 18 f37_17 rfl rfl ?_
                refine zw_ireturn f37_18 r37 u37 ⟨_, rfl, ?_⟩
                refine zw_iconst 3 15 f38_14 rfl (by decide +kernel) ?_
                refine zw_imul ((c + (P 54 a.toNatClampNeg)) * 3) 16 f38_15 rfl rfl ?_
                refine zw_ireturn f38_16 r38 u38 ⟨_, rfl, ?_⟩
                refine zw_aload_n 15 f40_14 rfl rfl ?_
                refine zw_iload_n 16 f40_15 rfl rfl ?_
                refine zw_virtual_i 19 0 0 [.ref 47, .int c] [(0, .ref 47), (1, .int c)] f40_16 rfl n40_30 k40_30_8 rfl (hb_47 _ _ _ _) (by decide +kernel) (Nat.le_of_ble_eq_true rfl) rfl rfl (by decide +kernel) (by decide +kernel) rfl (Nat.le_of_ble_eq_true rfl) rfl ?_
                refine zw_aload_n 1 f39_0 rfl rfl ?_
                refine zw_getfield 4 f39_1 rfl g39_7_8 (hb_47 _ _ _ _) rfl ?_
                refine zw_bipush 12 6 f39_4 rfl (by decide +kernel) ?_
                refine zw_virtual_v 9 0 0 [.ref 44, .int 12] [(0, .ref 44), (1, .int 12)] f39_6 rfl n39_13 k39_13_0 rfl (hb_44 _ _ _ _) (by decide +kernel) (Nat.le_of_ble_eq_true rfl) rfl rfl (by decide +kernel) (by decide +kernel) rfl (Nat.le_of_ble_eq_true rfl) rfl ?_
                refine zw_aload_n 1 f2_0 rfl rfl ?_
                refine zw_getI 3 4 f2_1 rfl g2_15_0 (hb_44 _ _ _ _) rfl rfl ?_
                refine zw_bipush 50 6 f2_4 rfl (by decide +kernel) ?_
                refine zw_ic_ge_f 9 29 f2_6 (by decide +kernel) rfl (by decide +kernel) ?_
                refine zw_aload_n 10 f2_9 rfl rfl ?_
                refine zw_getfield 13 f2_10 rfl g2_9_0 (hb_44 _ _ _ _) rfl ?_
                refine zw_aload_n 14 f2_13 rfl rfl ?_
                refine zw_getI 3 17 f2_14 rfl g2_15_0 (hb_44 _ _ _ _) rfl rfl ?_
                refine zw_iload_n 18 f2_17 rfl rfl ?_
                refine zw_ast 3 _ 19 f2_18 rfl (hb_45 _ _ _ _) (by decide +kernel) (by decide +kernel) (by decide +kernel) (ha_45 _ _ _ _ _) ?_
                refine zw_aload_n 20 f2_19 rfl rfl ?_
                refine zw_dup 21 f2_20 rfl rfl ?_
                refine zw_getI 3 24 f2_21 rfl g2_15_0 (hb_44 _ _ _ _) rfl rfl ?_
                refine zw_iconst 1 25 f2_24 rfl (by decide +kernel) ?_
                refine zw_iadd 4 26 f2_25 rfl (by decide +kernel) ?_
                refine zw_put _ 29 f2_26 rfl g2_15_0 (hb_44 _ _ _ _) rfl (Nat.le_of_ble_eq_true rfl) (by decide +kernel) (hi_44_4 _ _ _ _ _) ?_
                refine zw_vreturn f2_29 r2 u2 ⟨rfl, ?_⟩
                refine zw_iload_n 10 f39_9 rfl rfl ?_
                refine zw_aload_n 11 f39_10 rfl rfl ?_
                refine zw_getfield 14 f39_11 rfl g39_7_8 (hb_47 _ _ _ _) rfl ?_
                refine zw_getI (P 54 a.toNatClampNeg) 17 f39_14 rfl g39_19_0 (hb_44 _ _ _ _) rfl rfl ?_
                refine zw_ixor (c ^^^ (P 54 a.toNatClampNeg)) 18 f39_17 rfl rfl ?_
                refine zw_ireturn f39_18 r39 u39 ⟨_, rfl, ?_⟩
                refine zw_isub (((c + (P 54 a.toNatClampNeg)) * 3) - (c ^^^ (P 54 a.toNatClampNeg))) 20 f40_19 rfl rfl ?_
                refine zw_ireturn f40_20 r40 u40 ⟨_, rfl, ?_⟩
                refine zw_virtual_i 143 0 0 [.ref 0, .int (((c + (P 54 a.toNatClampNeg)) * 3) - (c ^^^ (P 54 a.toNatClampNeg)))] [(0, .ref 0), (1, .int (((c + (P 54 a.toNatClampNeg)) * 3) - (c ^^^ (P 54 a.toNatClampNeg))))] f101_140 rfl n101_181 k101_181_11 rfl (hb_0 _ _ _ _) (by decide +kernel) (Nat.le_of_ble_eq_true rfl) rfl rfl (by decide +kernel) (by decide +kernel) rfl (Nat.le_of_ble_eq_true rfl) rfl ?_
                refine zw_aload_n 1 f106_0 rfl rfl ?_
                refine zw_iconst 0 2 f106_1 rfl (by decide +kernel) ?_
                refine zw_put _ 5 f106_2 rfl g106_70_11 (hb_0 _ _ _ _) rfl (Nat.le_of_ble_eq_true rfl) (by decide +kernel) (hi_0_7 _ _ _ _ _) ?_
                refine zw_iload_n 6 f106_5 rfl rfl ?_
                refine zw_ireturn f106_6 r106 u106 ⟨_, rfl, ?_⟩
                refine zw_ireturn f101_143 r101 u101 ?_
                exact ⟨_, _, _, _, rfl, (KQ.i rfl (KQ.i rfl (KQ.a rfl (KQ.i rfl (KQ.a rfl (KQ.i rfl (KQ.a rfl (KQ.i rfl (KQ.a rfl (KQ.i rfl (KQ.i rfl (KQ.i rfl (KQ.i rfl (KQ.i rfl KQ.rf)))))))))))))), Or.inr ⟨⟨(qV.ofc (by omega) hc1 hc2), ⟨hc4, hc5⟩⟩, by rw [show an_tl (P 53 a.toNatClampNeg) b = [13, 11, 10, 12] from ((cI_n (sw_ne hs6 (by decide))).trans ((cI_n (sw_ne hs6 (by decide))).trans ((cI_n (sw_ne hs6 (by decide))).trans (cI_y hk))))]; exact ⟨rfl, by intro i hi; rcases (show i = 0 ∨ i = 1 ∨ i = 2 ∨ i = 3 by have q : i < 4 := hi; omega) with rfl | rfl | rfl | rfl <;> rfl⟩⟩, _, rfl⟩
              · rcases (show hs6k = 0 ∨ hs6k = 1 ∨ hs6k = 2 by omega) with rfl | rfl | rfl
                · refine zw_table_k 25 100 f101_75 hs6e (by decide +kernel) (by decide +kernel) (by decide +kernel) ?_
                  refine zw_aload_n 101 f101_100 rfl (zl1_ne rfl rfl (zl1_ne rfl rfl rfl)) ?_
                  refine zw_aload 103 f101_101 rfl zl1_eq ?_
                  refine zw_iload_n 104 f101_103 rfl (zl1_ne rfl rfl (zl1_ne rfl rfl rfl)) ?_
                  refine zw_virtual_i 107 0 0 [.ref 47, .int c] [(0, .ref 47), (1, .int c)] f101_104 rfl n101_289 k101_289_8 rfl (hb_47 _ _ _ _) (by decide +kernel) (Nat.le_of_ble_eq_true rfl) rfl rfl (by decide +kernel) (by decide +kernel) rfl (Nat.le_of_ble_eq_true rfl) rfl ?_
                  refine zw_aload_n 1 f37_0 rfl rfl ?_
                  refine zw_getfield 4 f37_1 rfl g37_7_8 (hb_47 _ _ _ _) rfl ?_
                  refine zw_bipush 10 6 f37_4 rfl (by decide +kernel) ?_
                  refine zw_virtual_v 9 0 0 [.ref 44, .int 10] [(0, .ref 44), (1, .int 10)] f37_6 rfl n37_13 k37_13_0 rfl (hb_44 _ _ _ _) (by decide +kernel) (Nat.le_of_ble_eq_true rfl) rfl rfl (by decide +kernel) (by decide +kernel) rfl (Nat.le_of_ble_eq_true rfl) rfl ?_
                  refine zw_aload_n 1 f2_0 rfl rfl ?_
                  refine zw_getI 0 4 f2_1 rfl g2_15_0 (hb_44 _ _ _ _) rfl rfl ?_
                  refine zw_bipush 50 6 f2_4 rfl (by decide +kernel) ?_
                  refine zw_ic_ge_f 9 29 f2_6 (by decide +kernel) rfl (by decide +kernel) ?_
                  refine zw_aload_n 10 f2_9 rfl rfl ?_
                  refine zw_getfield 13 f2_10 rfl g2_9_0 (hb_44 _ _ _ _) rfl ?_
                  refine zw_aload_n 14 f2_13 rfl rfl ?_
                  refine zw_getI 0 17 f2_14 rfl g2_15_0 (hb_44 _ _ _ _) rfl rfl ?_
                  refine zw_iload_n 18 f2_17 rfl rfl ?_
                  refine zw_ast 0 _ 19 f2_18 rfl (hb_45 _ _ _ _) (by decide +kernel) (by decide +kernel) (by decide +kernel) (ha_45 _ _ _ _ _) ?_
                  refine zw_aload_n 20 f2_19 rfl rfl ?_
                  refine zw_dup 21 f2_20 rfl rfl ?_
                  refine zw_getI 0 24 f2_21 rfl g2_15_0 (hb_44 _ _ _ _) rfl rfl ?_
                  refine zw_iconst 1 25 f2_24 rfl (by decide +kernel) ?_
                  refine zw_iadd 1 26 f2_25 rfl (by decide +kernel) ?_
                  refine zw_put _ 29 f2_26 rfl g2_15_0 (hb_44 _ _ _ _) rfl (Nat.le_of_ble_eq_true rfl) (by decide +kernel) (hi_44_4 _ _ _ _ _) ?_
                  refine zw_vreturn f2_29 r2 u2 ⟨rfl, ?_⟩
                  refine zw_iload_n 10 f37_9 rfl rfl ?_
                  refine zw_aload_n 11 f37_10 rfl rfl ?_
                  refine zw_getfield 14 f37_11 rfl g37_7_8 (hb_47 _ _ _ _) rfl ?_
                  refine zw_getI (P 54 a.toNatClampNeg) 17 f37_14 rfl g37_19_0 (hb_44 _ _ _ _) rfl rfl ?_
                  refine zw_iadd (c + (P 54 a.toNatClampNeg)) 18 f37_17 rfl rfl ?_
                  refine zw_ireturn f37_18 r37 u37 ⟨_, rfl, ?_⟩
                  refine zw_virtual_i 110 0 0 [.ref 0, .int (c + (P 54 a.toNatClampNeg))] [(0, .ref 0), (1, .int (c + (P 54 a.toNatClampNeg)))] f101_107 rfl n101_181 k101_181_11 rfl (hb_0 _ _ _ _) (by decide +kernel) (Nat.le_of_ble_eq_true rfl) rfl rfl (by decide +kernel) (by decide +kernel) rfl (Nat.le_of_ble_eq_true rfl) rfl ?_
                  refine zw_aload_n 1 f106_0 rfl rfl ?_
                  refine zw_iconst 0 2 f106_1 rfl (by decide +kernel) ?_
                  refine zw_put _ 5 f106_2 rfl g106_70_11 (hb_0 _ _ _ _) rfl (Nat.le_of_ble_eq_true rfl) (by decide +kernel) (hi_0_7 _ _ _ _ _) ?_
                  refine zw_iload_n 6 f106_5 rfl rfl ?_
                  refine zw_ireturn f106_6 r106 u106 ⟨_, rfl, ?_⟩
                  refine zw_ireturn f101_110 r101 u101 ?_
                  exact ⟨_, _, _, _, rfl, (KQ.i rfl (KQ.i rfl (KQ.a rfl (KQ.i rfl (KQ.i rfl (KQ.i rfl (KQ.i rfl (KQ.i rfl KQ.rf)))))))), Or.inr ⟨⟨(qV.ofc (by omega) hc1 hc2), ⟨hc4, hc5⟩⟩, by rw [show an_tl (P 53 a.toNatClampNeg) b = [10] from ((cI_y (show b = 0 from hs6e)).trans (cI_y hk))]; exact ⟨rfl, by intro i hi; rcases (show i = 0 by have q : i < 1 := hi; omega) with rfl <;> rfl⟩⟩, _, rfl⟩
                · refine zw_table_k 36 111 f101_75 hs6e (by decide +kernel) (by decide +kernel) (by decide +kernel) ?_
                  refine zw_aload_n 112 f101_111 rfl (zl1_ne rfl rfl (zl1_ne rfl rfl rfl)) ?_
                  refine zw_aload 114 f101_112 rfl zl1_eq ?_
                  refine zw_iload_n 115 f101_114 rfl (zl1_ne rfl rfl (zl1_ne rfl rfl rfl)) ?_
                  refine zw_virtual_i 118 0 0 [.ref 47, .int c] [(0, .ref 47), (1, .int c)] f101_115 rfl n101_292 k101_292_8 rfl (hb_47 _ _ _ _) (by decide +kernel) (Nat.le_of_ble_eq_true rfl) rfl rfl (by decide +kernel) (by decide +kernel) rfl (Nat.le_of_ble_eq_true rfl) rfl ?_
                  refine zw_aload_n 1 f38_0 rfl rfl ?_
                  refine zw_getfield 4 f38_1 rfl g38_7_8 (hb_47 _ _ _ _) rfl ?_
                  refine zw_bipush 11 6 f38_4 rfl (by decide +kernel) ?_
                  refine zw_virtual_v 9 0 0 [.ref 44, .int 11] [(0, .ref 44), (1, .int 11)] f38_6 rfl n38_13 k38_13_0 rfl (hb_44 _ _ _ _) (by decide +kernel) (Nat.le_of_ble_eq_true rfl) rfl rfl (by decide +kernel) (by decide +kernel) rfl (Nat.le_of_ble_eq_true rfl) rfl ?_
                  refine zw_aload_n 1 f2_0 rfl rfl ?_
                  refine zw_getI 0 4 f2_1 rfl g2_15_0 (hb_44 _ _ _ _) rfl rfl ?_
                  refine zw_bipush 50 6 f2_4 rfl (by decide +kernel) ?_
                  refine zw_ic_ge_f 9 29 f2_6 (by decide +kernel) rfl (by decide +kernel) ?_
                  refine zw_aload_n 10 f2_9 rfl rfl ?_
                  refine zw_getfield 13 f2_10 rfl g2_9_0 (hb_44 _ _ _ _) rfl ?_
                  refine zw_aload_n 14 f2_13 rfl rfl ?_
                  refine zw_getI 0 17 f2_14 rfl g2_15_0 (hb_44 _ _ _ _) rfl rfl ?_
                  refine zw_iload_n 18 f2_17 rfl rfl ?_
                  refine zw_ast 0 _ 19 f2_18 rfl (hb_45 _ _ _ _) (by decide +kernel) (by decide +kernel) (by decide +kernel) (ha_45 _ _ _ _ _) ?_
                  refine zw_aload_n 20 f2_19 rfl rfl ?_
                  refine zw_dup 21 f2_20 rfl rfl ?_
                  refine zw_getI 0 24 f2_21 rfl g2_15_0 (hb_44 _ _ _ _) rfl rfl ?_
                  refine zw_iconst 1 25 f2_24 rfl (by decide +kernel) ?_
                  refine zw_iadd 1 26 f2_25 rfl (by decide +kernel) ?_
                  refine zw_put _ 29 f2_26 rfl g2_15_0 (hb_44 _ _ _ _) rfl (Nat.le_of_ble_eq_true rfl) (by decide +kernel) (hi_44_4 _ _ _ _ _) ?_
                  refine zw_vreturn f2_29 r2 u2 ⟨rfl, ?_⟩
                  refine zw_aload_n 10 f38_9 rfl rfl ?_
                  refine zw_iload_n 11 f38_10 rfl rfl ?_
                  refine zw_virtual_i 14 0 0 [.ref 47, .int c] [(0, .ref 47), (1, .int c)] f38_11 rfl n38_23 k38_23_8 rfl (hb_47 _ _ _ _) (by decide +kernel) (Nat.le_of_ble_eq_true rfl) rfl rfl (by decide +kernel) (by decide +kernel) rfl (Nat.le_of_ble_eq_true rfl) rfl ?_
                  refine zw_aload_n 1 f37_0 rfl rfl ?_
                  refine zw_getfield 4 f37_1 rfl g37_7_8 (hb_47 _ _ _ _) rfl ?_
                  refine zw_bipush 10 6 f37_4 rfl (by decide +kernel) ?_
                  refine zw_virtual_v 9 0 0 [.ref 44, .int 10] [(0, .ref 44), (1, .int 10)] f37_6 rfl n37_13 k37_13_0 rfl (hb_44 _ _ _ _) (by decide +kernel) (Nat.le_of_ble_eq_true rfl) rfl rfl (by decide +kernel) (by decide +kernel) rfl (Nat.le_of_ble_eq_true rfl) rfl ?_
                  refine zw_aload_n 1 f2_0 rfl rfl ?_
                  refine zw_getI 1 4 f2_1 rfl g2_15_0 (hb_44 _ _ _ _) rfl rfl ?_
                  refine zw_bipush 50 6 f2_4 rfl (by decide +kernel) ?_
                  refine zw_ic_ge_f 9 29 f2_6 (by decide +kernel) rfl (by decide +kernel) ?_
                  refine zw_aload_n 10 f2_9 rfl rfl ?_
                  refine zw_getfield 13 f2_10 rfl g2_9_0 (hb_44 _ _ _ _) rfl ?_
                  refine zw_aload_n 14 f2_13 rfl rfl ?_
                  refine zw_getI 1 17 f2_14 rfl g2_15_0 (hb_44 _ _ _ _) rfl rfl ?_
                  refine zw_iload_n 18 f2_17 rfl rfl ?_
                  refine zw_ast 1 _ 19 f2_18 rfl (hb_45 _ _ _ _) (by decide +kernel) (by decide +kernel) (by decide +kernel) (ha_45 _ _ _ _ _) ?_
                  refine zw_aload_n 20 f2_19 rfl rfl ?_
                  refine zw_dup 21 f2_20 rfl rfl ?_
                  refine zw_getI 1 24 f2_21 rfl g2_15_0 (hb_44 _ _ _ _) rfl rfl ?_
                  refine zw_iconst 1 25 f2_24 rfl (by decide +kernel) ?_
                  refine zw_iadd 2 26 f2_25 rfl (by decide +kernel) ?_
                  refine zw_put _ 29 f2_26 rfl g2_15_0 (hb_44 _ _ _ _) rfl (Nat.le_of_ble_eq_true rfl) (by decide +kernel) (hi_44_4 _ _ _ _ _) ?_
                  refine zw_vreturn f2_29 r2 u2 ⟨rfl, ?_⟩
                  refine zw_iload_n 10 f37_9 rfl rfl ?_
                  refine zw_aload_n 11 f37_10 rfl rfl ?_
                  refine zw_getfield 14 f37_11 rfl g37_7_8 (hb_47 _ _ _ _) rfl ?_
                  refine zw_getI (P 54 a.toNatClampNeg) 17 f37_14 rfl g37_19_0 (hb_44 _ _ _ _) rfl rfl ?_
                  refine zw_iadd (c + (P 54 a.toNatClampNeg)) 18 f37_17 rfl rfl ?_
                  refine zw_ireturn f37_18 r37 u37 ⟨_, rfl, ?_⟩
                  refine zw_iconst 3 15 f38_14 rfl (by decide +kernel) ?_
                  refine zw_imul ((c + (P 54 a.toNatClampNeg)) * 3) 16 f38_15 rfl rfl ?_
                  refine zw_ireturn f38_16 r38 u38 ⟨_, rfl, ?_⟩
                  refine zw_virtual_i 121 0 0 [.ref 0, .int ((c + (P 54 a.toNatClampNeg)) * 3)] [(0, .ref 0), (1, .int ((c + (P 54 a.toNatClampNeg)) * 3))] f101_118 rfl n101_181 k101_181_11 rfl (hb_0 _ _ _ _) (by decide +kernel) (Nat.le_of_ble_eq_true rfl) rfl rfl (by decide +kernel) (by decide +kernel) rfl (Nat.le_of_ble_eq_true rfl) rfl ?_
                  refine zw_aload_n 1 f106_0 rfl rfl ?_
                  refine zw_iconst 0 2 f106_1 rfl (by decide +kernel) ?_
                  refine zw_put _ 5 f106_2 rfl g106_70_11 (hb_0 _ _ _ _) rfl (Nat.le_of_ble_eq_true rfl) (by decide +kernel) (hi_0_7 _ _ _ _ _) ?_
                  refine zw_iload_n 6 f106_5 rfl rfl ?_
                  refine zw_ireturn f106_6 r106 u106 ⟨_, rfl, ?_⟩
                  refine zw_ireturn f101_121 r101 u101 ?_
                  exact ⟨_, _, _, _, rfl, (KQ.i rfl (KQ.i rfl (KQ.a rfl (KQ.i rfl (KQ.a rfl (KQ.i rfl (KQ.i rfl (KQ.i rfl (KQ.i rfl (KQ.i rfl KQ.rf)))))))))), Or.inr ⟨⟨(qV.ofc (by omega) hc1 hc2), ⟨hc4, hc5⟩⟩, by rw [show an_tl (P 53 a.toNatClampNeg) b = [11, 10] from ((cI_n (kne (show b = 1 from hs6e) (by decide))).trans ((cI_y (show b = 1 from hs6e)).trans (cI_y hk)))]; exact ⟨rfl, by intro i hi; rcases (show i = 0 ∨ i = 1 by have q : i < 2 := hi; omega) with rfl | rfl <;> rfl⟩⟩, _, rfl⟩
                · refine zw_table_k 47 122 f101_75 hs6e (by decide +kernel) (by decide +kernel) (by decide +kernel) ?_
                  refine zw_aload_n 123 f101_122 rfl (zl1_ne rfl rfl (zl1_ne rfl rfl rfl)) ?_
                  refine zw_aload 125 f101_123 rfl zl1_eq ?_
                  refine zw_iload_n 126 f101_125 rfl (zl1_ne rfl rfl (zl1_ne rfl rfl rfl)) ?_
                  refine zw_virtual_i 129 0 0 [.ref 47, .int c] [(0, .ref 47), (1, .int c)] f101_126 rfl n101_295 k101_295_8 rfl (hb_47 _ _ _ _) (by decide +kernel) (Nat.le_of_ble_eq_true rfl) rfl rfl (by decide +kernel) (by decide +kernel) rfl (Nat.le_of_ble_eq_true rfl) rfl ?_
                  refine zw_aload_n 1 f39_0 rfl rfl ?_
                  refine zw_getfield 4 f39_1 rfl g39_7_8 (hb_47 _ _ _ _) rfl ?_
                  refine zw_bipush 12 6 f39_4 rfl (by decide +kernel) ?_
                  refine zw_virtual_v 9 0 0 [.ref 44, .int 12] [(0, .ref 44), (1, .int 12)] f39_6 rfl n39_13 k39_13_0 rfl (hb_44 _ _ _ _) (by decide +kernel) (Nat.le_of_ble_eq_true rfl) rfl rfl (by decide +kernel) (by decide +kernel) rfl (Nat.le_of_ble_eq_true rfl) rfl ?_
                  refine zw_aload_n 1 f2_0 rfl rfl ?_
                  refine zw_getI 0 4 f2_1 rfl g2_15_0 (hb_44 _ _ _ _) rfl rfl ?_
                  refine zw_bipush 50 6 f2_4 rfl (by decide +kernel) ?_
                  refine zw_ic_ge_f 9 29 f2_6 (by decide +kernel) rfl (by decide +kernel) ?_
                  refine zw_aload_n 10 f2_9 rfl rfl ?_
                  refine zw_getfield 13 f2_10 rfl g2_9_0 (hb_44 _ _ _ _) rfl ?_
                  refine zw_aload_n 14 f2_13 rfl rfl ?_
                  refine zw_getI 0 17 f2_14 rfl g2_15_0 (hb_44 _ _ _ _) rfl rfl ?_
                  refine zw_iload_n 18 f2_17 rfl rfl ?_
                  refine zw_ast 0 _ 19 f2_18 rfl (hb_45 _ _ _ _) (by decide +kernel) (by decide +kernel) (by decide +kernel) (ha_45 _ _ _ _ _) ?_
                  refine zw_aload_n 20 f2_19 rfl rfl ?_
                  refine zw_dup 21 f2_20 rfl rfl ?_
                  refine zw_getI 0 24 f2_21 rfl g2_15_0 (hb_44 _ _ _ _) rfl rfl ?_
                  refine zw_iconst 1 25 f2_24 rfl (by decide +kernel) ?_
                  refine zw_iadd 1 26 f2_25 rfl (by decide +kernel) ?_
                  refine zw_put _ 29 f2_26 rfl g2_15_0 (hb_44 _ _ _ _) rfl (Nat.le_of_ble_eq_true rfl) (by decide +kernel) (hi_44_4 _ _ _ _ _) ?_
                  refine zw_vreturn f2_29 r2 u2 ⟨rfl, ?_⟩
                  refine zw_iload_n 10 f39_9 rfl rfl ?_
                  refine zw_aload_n 11 f39_10 rfl rfl ?_
                  refine zw_getfield 14 f39_11 rfl g39_7_8 (hb_47 _ _ _ _) rfl ?_
                  refine zw_getI (P 54 a.toNatClampNeg) 17 f39_14 rfl g39_19_0 (hb_44 _ _ _ _) rfl rfl ?_
                  refine zw_ixor (c ^^^ (P 54 a.toNatClampNeg)) 18 f39_17 rfl rfl ?_
                  refine zw_ireturn f39_18 r39 u39 ⟨_, rfl, ?_⟩
                  refine zw_virtual_i 132 0 0 [.ref 0, .int (c ^^^ (P 54 a.toNatClampNeg))] [(0, .ref 0), (1, .int (c ^^^ (P 54 a.toNatClampNeg)))] f101_129 rfl n101_181 k101_181_11 rfl (hb_0 _ _ _ _) (by decide +kernel) (Nat.le_of_ble_eq_true rfl) rfl rfl (by decide +kernel) (by decide +kernel) rfl (Nat.le_of_ble_eq_true rfl) rfl ?_
                  refine zw_aload_n 1 f106_0 rfl rfl ?_
                  refine zw_iconst 0 2 f106_1 rfl (by decide +kernel) ?_
                  refine zw_put _ 5 f106_2 rfl g106_70_11 (hb_0 _ _ _ _) rfl (Nat.le_of_ble_eq_true rfl) (by decide +kernel) (hi_0_7 _ _ _ _ _) ?_
                  refine zw_iload_n 6 f106_5 rfl rfl ?_
                  refine zw_ireturn f106_6 r106 u106 ⟨_, rfl, ?_⟩
                  refine zw_ireturn f101_132 r101 u101 ?_
                  exact ⟨_, _, _, _, rfl, (KQ.i rfl (KQ.i rfl (KQ.a rfl (KQ.i rfl (KQ.i rfl (KQ.i rfl (KQ.i rfl (KQ.i rfl KQ.rf)))))))), Or.inr ⟨⟨(qV.ofc (by omega) hc1 hc2), ⟨hc4, hc5⟩⟩, by rw [show an_tl (P 53 a.toNatClampNeg) b = [12] from ((cI_n (kne (show b = 2 from hs6e) (by decide))).trans ((cI_n (kne (show b = 2 from hs6e) (by decide))).trans ((cI_y (show b = 2 from hs6e)).trans (cI_y hk))))]; exact ⟨rfl, by intro i hi; rcases (show i = 0 by have q : i < 1 := hi; omega) with rfl <;> rfl⟩⟩, _, rfl⟩
            · refine zw_aaload 1 42 f101_41 rfl (hb_46 _ _ _ _) (by rw [hk]; decide) (by rw [hk]; decide) (by decide) rfl ?_
              refine zw_astore _ 44 f101_42 rfl (by decide +kernel) rfl ?_
              refine zw_aload 46 f101_44 rfl zl1_eq ?_
              refine zw_ifnonnull 55 f101_46 (by decide +kernel) ?_
              refine zw_aload_n 56 f101_55 rfl (zl1_ne rfl rfl (zl1_ne rfl rfl rfl)) ?_
              refine zw_getfield 59 f101_56 rfl g101_45_11 (hb_0 _ _ _ _) rfl ?_
              refine zw_aload_n 60 f101_59 rfl (zl1_ne rfl rfl (zl1_ne rfl rfl rfl)) ?_
              refine zw_getfield 63 f101_60 rfl g101_10_11 (hb_0 _ _ _ _) rfl ?_
              refine zw_aload_n 64 f101_63 rfl (zl1_ne rfl rfl (zl1_ne rfl rfl rfl)) ?_
              refine zw_getfield 67 f101_64 rfl g101_21_11 (hb_0 _ _ _ _) rfl ?_
              refine zw_getfield 70 f101_67 rfl g101_134_10 (hb_11 _ _ _ _) rfl ?_
              refine zw_iload_n 71 f101_70 rfl (zl1_ne rfl rfl (zl1_ne rfl rfl rfl)) ?_
              refine zw_virtual_v 74 0 0 [.ref 44, .ref 1, .ref 12, .int a] [(0, .ref 44), (1, .ref 1), (2, .ref 12), (3, .int a)] f101_71 rfl n101_285 k101_285_0 rfl (hb_44 _ _ _ _) (by decide +kernel) (Nat.le_of_ble_eq_true rfl) rfl rfl (by decide +kernel) (by decide +kernel) rfl (Nat.le_of_ble_eq_true rfl) rfl ?_
              refine zw_aload_n 1 f1_0 rfl rfl ?_
              refine zw_iconst 0 2 f1_1 rfl (by decide +kernel) ?_
              refine zw_put _ 5 f1_2 rfl g1_15_0 (hb_44 _ _ _ _) rfl (Nat.le_of_ble_eq_true rfl) (by decide +kernel) (hi_44_4 _ _ _ _ _) ?_
              refine zw_aload_n 6 f1_5 rfl rfl ?_
              refine zw_iload_n 7 f1_6 rfl rfl ?_
              refine zw_virtual_i 10 0 0 [.ref 1, .int a] [(0, .ref 1), (1, .int a)] f1_7 rfl n1_19 k1_19_4 rfl (hb_1 _ _ _ _) (by decide +kernel) (Nat.le_of_ble_eq_true rfl) rfl rfl (by decide +kernel) (by decide +kernel) rfl (Nat.le_of_ble_eq_true rfl) rfl ?_
              refine zw_iload_n 1 f13_0 rfl rfl ?_
              refine zw_if_lt_f 4 22 f13_1 (by decide +kernel) rfl hc1 ?_
              refine zw_iload_n 5 f13_4 rfl rfl ?_
              refine zw_aload_n 6 f13_5 rfl rfl ?_
              refine zw_getI (nI nv) 9 f13_6 rfl g13_39_4 (hb_1 _ _ _ _) rfl hR.1.1 ?_
              refine zw_ic_ge_f 12 22 f13_9 (by decide +kernel) rfl hc2 ?_
              refine zw_iload_n 13 f13_12 rfl rfl ?_
              refine zw_bipush 8 15 f13_13 rfl (by decide +kernel) ?_
              refine zw_ic_ge_f 18 22 f13_15 (by decide +kernel) rfl hc3 ?_
              refine zw_iconst 1 19 f13_18 rfl (by decide +kernel) ?_
              refine zw_goto 23 f13_19 (by decide +kernel) ?_
              refine zw_zreturn f13_23 r13 u13 (by decide +kernel) ⟨_, rfl, ?_⟩
              refine zw_if_eq_f 13 53 f1_10 (by decide +kernel) rfl (by decide +kernel) ?_
              refine zw_aload_n 14 f1_13 rfl rfl ?_
              refine zw_aload_n 15 f1_14 rfl rfl ?_
              refine zw_getfield 18 f1_15 rfl g1_25_4 (hb_1 _ _ _ _) rfl ?_
              refine zw_iload_n 19 f1_18 rfl rfl ?_
              refine zw_iaload a.toNatClampNeg (P 54 a.toNatClampNeg) 20 f1_19 rfl (hb_3 _ _ _ _) rfl hc1 (zix (by decide) hc1 hc3) (congrFun ((hR.2.1 54 (by omega) (by omega))) a.toNatClampNeg) ?_
              refine zw_put _ 23 f1_20 rfl g1_28_0 (hb_44 _ _ _ _) rfl (Nat.le_of_ble_eq_true rfl) (by decide +kernel) (hi_44_0 _ _ _ _ _) ?_
              refine zw_aload_n 24 f1_23 rfl rfl ?_
              refine zw_aload_n 25 f1_24 rfl rfl ?_
              refine zw_getfield 28 f1_25 rfl g1_31_4 (hb_1 _ _ _ _) rfl ?_
              refine zw_iload_n 29 f1_28 rfl rfl ?_
              refine zw_iaload a.toNatClampNeg (P 55 a.toNatClampNeg) 30 f1_29 rfl (hb_4 _ _ _ _) rfl hc1 (zix (by decide) hc1 hc3) (congrFun ((hR.2.1 55 (by omega) (by omega))) a.toNatClampNeg) ?_
              refine zw_put _ 33 f1_30 rfl g1_34_0 (hb_44 _ _ _ _) rfl (Nat.le_of_ble_eq_true rfl) (by decide +kernel) (hi_44_1 _ _ _ _ _) ?_
              refine zw_aload_n 34 f1_33 rfl rfl ?_
              refine zw_aload_n 35 f1_34 rfl rfl ?_
              refine zw_getfield 38 f1_35 rfl g1_37_4 (hb_1 _ _ _ _) rfl ?_
              refine zw_iload_n 39 f1_38 rfl rfl ?_
              refine zw_iaload a.toNatClampNeg (P 56 a.toNatClampNeg) 40 f1_39 rfl (hb_5 _ _ _ _) rfl hc1 (zix (by decide) hc1 hc3) (congrFun ((hR.2.1 56 (by omega) (by omega))) a.toNatClampNeg) ?_
              refine zw_put _ 43 f1_40 rfl g1_40_0 (hb_44 _ _ _ _) rfl (Nat.le_of_ble_eq_true rfl) (by decide +kernel) (hi_44_2 _ _ _ _ _) ?_
              refine zw_aload_n 44 f1_43 rfl rfl ?_
              refine zw_aload_n 45 f1_44 rfl rfl ?_
              refine zw_getfield 48 f1_45 rfl g1_43_9 (hb_12 _ _ _ _) rfl ?_
              refine zw_iload_n 49 f1_48 rfl rfl ?_
              refine zw_iaload a.toNatClampNeg (A 14 a.toNatClampNeg) 50 f1_49 rfl (hb_14 _ _ _ _) rfl hc1 (zix (by decide) hc1 hc3) rfl ?_
              refine zw_put _ 53 f1_50 rfl g1_48_0 (hb_44 _ _ _ _) rfl (Nat.le_of_ble_eq_true rfl) (by decide +kernel) (hi_44_3 _ _ _ _ _) ?_
              refine zw_vreturn f1_53 r1 u1 ⟨rfl, ?_⟩
              refine zw_iload_n 75 f101_74 rfl (zl1_ne rfl rfl (zl1_ne rfl rfl rfl)) ?_
              rcases zl_sw 2 (by decide) b with hs7 | ⟨hs7k, hs7l, hs7e⟩
              · refine zw_table_o 133 f101_75 hs7 (by decide +kernel) ?_
                refine zw_aload_n 134 f101_133 rfl (zl1_ne rfl rfl (zl1_ne rfl rfl rfl)) ?_
                refine zw_aload 136 f101_134 rfl zl1_eq ?_
                refine zw_iload_n 137 f101_136 rfl (zl1_ne rfl rfl (zl1_ne rfl rfl rfl)) ?_
                refine zw_virtual_i 140 0 0 [.ref 48, .int c] [(0, .ref 48), (1, .int c)] f101_137 rfl n101_298 k101_298_6 rfl (hb_48 _ _ _ _) (by decide +kernel) (Nat.le_of_ble_eq_true rfl) rfl rfl (by decide +kernel) (by decide +kernel) rfl (Nat.le_of_ble_eq_true rfl) rfl ?_
                refine zw_aload_n 1 f33_0 rfl rfl ?_
                refine zw_getfield 4 f33_1 rfl g33_7_6 (hb_48 _ _ _ _) rfl ?_
                refine zw_bipush 21 6 f33_4 rfl (by decide +kernel) ?_
                refine zw_virtual_v 9 0 0 [.ref 44, .int 21] [(0, .ref 44), (1, .int 21)] f33_6 rfl n33_13 k33_13_0 rfl (hb_44 _ _ _ _) (by decide +kernel) (Nat.le_of_ble_eq_true rfl) rfl rfl (by decide +kernel) (by decide +kernel) rfl (Nat.le_of_ble_eq_true rfl) rfl ?_
                refine zw_aload_n 1 f2_0 rfl rfl ?_
                refine zw_getI 0 4 f2_1 rfl g2_15_0 (hb_44 _ _ _ _) rfl rfl ?_
                refine zw_bipush 50 6 f2_4 rfl (by decide +kernel) ?_
                refine zw_ic_ge_f 9 29 f2_6 (by decide +kernel) rfl (by decide +kernel) ?_
                refine zw_aload_n 10 f2_9 rfl rfl ?_
                refine zw_getfield 13 f2_10 rfl g2_9_0 (hb_44 _ _ _ _) rfl ?_
                refine zw_aload_n 14 f2_13 rfl rfl ?_
                refine zw_getI 0 17 f2_14 rfl g2_15_0 (hb_44 _ _ _ _) rfl rfl ?_
                refine zw_iload_n 18 f2_17 rfl rfl ?_
                refine zw_ast 0 _ 19 f2_18 rfl (hb_45 _ _ _ _) (by decide +kernel) (by decide +kernel) (by decide +kernel) (ha_45 _ _ _ _ _) ?_
                refine zw_aload_n 20 f2_19 rfl rfl ?_
                refine zw_dup 21 f2_20 rfl rfl ?_
                refine zw_getI 0 24 f2_21 rfl g2_15_0 (hb_44 _ _ _ _) rfl rfl ?_
                refine zw_iconst 1 25 f2_24 rfl (by decide +kernel) ?_
                refine zw_iadd 1 26 f2_25 rfl (by decide +kernel) ?_
                refine zw_put _ 29 f2_26 rfl g2_15_0 (hb_44 _ _ _ _) rfl (Nat.le_of_ble_eq_true rfl) (by decide +kernel) (hi_44_4 _ _ _ _ _) ?_
                refine zw_vreturn f2_29 r2 u2 ⟨rfl, ?_⟩
                refine zw_aload_n 10 f33_9 rfl rfl ?_
                refine zw_iload_n 11 f33_10 rfl rfl ?_
                refine zw_iconst 2 12 f33_11 rfl (by decide +kernel) ?_
                refine zw_imul (c * 2) 13 f33_12 rfl rfl ?_
                refine zw_super_i 16 0 0 [.ref 48, .int (c * 2)] [(0, .ref 48), (1, .int (c * 2))] f33_13 rfl k33_27_99 k33_27_98 (by decide +kernel) rfl (hb_48 _ _ _ _) (by decide +kernel) (Nat.le_of_ble_eq_true rfl) rfl rfl (by decide +kernel) (by decide +kernel) rfl (Nat.le_of_ble_eq_true rfl) rfl ?_
                refine zw_aload_n 1 f40_0 rfl rfl ?_
                refine zw_getfield 4 f40_1 rfl g40_7_6 (hb_48 _ _ _ _) rfl ?_
                refine zw_bipush 13 6 f40_4 rfl (by decide +kernel) ?_
                refine zw_virtual_v 9 0 0 [.ref 44, .int 13] [(0, .ref 44), (1, .int 13)] f40_6 rfl n40_13 k40_13_0 rfl (hb_44 _ _ _ _) (by decide +kernel) (Nat.le_of_ble_eq_true rfl) rfl rfl (by decide +kernel) (by decide +kernel) rfl (Nat.le_of_ble_eq_true rfl) rfl ?_
                refine zw_aload_n 1 f2_0 rfl rfl ?_
                refine zw_getI 1 4 f2_1 rfl g2_15_0 (hb_44 _ _ _ _) rfl rfl ?_
                refine zw_bipush 50 6 f2_4 rfl (by decide +kernel) ?_
                refine zw_ic_ge_f 9 29 f2_6 (by decide +kernel) rfl (by decide +kernel) ?_
                refine zw_aload_n 10 f2_9 rfl rfl ?_
                refine zw_getfield 13 f2_10 rfl g2_9_0 (hb_44 _ _ _ _) rfl ?_
                refine zw_aload_n 14 f2_13 rfl rfl ?_
                refine zw_getI 1 17 f2_14 rfl g2_15_0 (hb_44 _ _ _ _) rfl rfl ?_
                refine zw_iload_n 18 f2_17 rfl rfl ?_
                refine zw_ast 1 _ 19 f2_18 rfl (hb_45 _ _ _ _) (by decide +kernel) (by decide +kernel) (by decide +kernel) (ha_45 _ _ _ _ _) ?_
                refine zw_aload_n 20 f2_19 rfl rfl ?_
                refine zw_dup 21 f2_20 rfl rfl ?_
                refine zw_getI 1 24 f2_21 rfl g2_15_0 (hb_44 _ _ _ _) rfl rfl ?_
                refine zw_iconst 1 25 f2_24 rfl (by decide +kernel) ?_
                refine zw_iadd 2 26 f2_25 rfl (by decide +kernel) ?_
                refine zw_put _ 29 f2_26 rfl g2_15_0 (hb_44 _ _ _ _) rfl (Nat.le_of_ble_eq_true rfl) (by decide +kernel) (hi_44_4 _ _ _ _ _) ?_
                refine zw_vreturn f2_29 r2 u2 ⟨rfl, ?_⟩
                refine zw_aload_n 10 f40_9 rfl rfl ?_
                refine zw_iload_n 11 f40_10 rfl rfl ?_
                refine zw_virtual_i 14 0 0 [.ref 48, .int (c * 2)] [(0, .ref 48), (1, .int (c * 2))] f40_11 rfl n40_27 k40_27_6 rfl (hb_48 _ _ _ _) (by decide +kernel) (Nat.le_of_ble_eq_true rfl) rfl rfl (by decide +kernel) (by decide +kernel) rfl (Nat.le_of_ble_eq_true rfl) rfl ?_
                refine zw_aload_n 1 f32_0 rfl rfl ?_
                refine zw_getfield 4 f32_1 rfl g32_7_6 (hb_48 _ _ _ _) rfl ?_
                refine zw_bipush 20 6 f32_4 rfl (by decide +kernel) ?_
                refine zw_virtual_v 9 0 0 [.ref 44, .int 20] [(0, .ref 44), (1, .int 20)] f32_6 rfl n32_13 k32_13_0 rfl (hb_44 _ _ _ _) (by decide +kernel) (Nat.le_of_ble_eq_true rfl) rfl rfl (by decide +kernel) (by decide +kernel) rfl (Nat.le_of_ble_eq_true rfl) rfl ?_
                refine zw_aload_n 1 f2_0 rfl rfl ?_
                refine zw_getI 2 4 f2_1 rfl g2_15_0 (hb_44 _ _ _ _) rfl rfl ?_
                refine zw_bipush 50 6 f2_4 rfl (by decide +kernel) ?_
                refine zw_ic_ge_f 9 29 f2_6 (by decide +kernel) rfl (by decide +kernel) ?_
                refine zw_aload_n 10 f2_9 rfl rfl ?_
                refine zw_getfield 13 f2_10 rfl g2_9_0 (hb_44 _ _ _ _) rfl ?_
                refine zw_aload_n 14 f2_13 rfl rfl ?_
                refine zw_getI 2 17 f2_14 rfl g2_15_0 (hb_44 _ _ _ _) rfl rfl ?_
                refine zw_iload_n 18 f2_17 rfl rfl ?_
                refine zw_ast 2 _ 19 f2_18 rfl (hb_45 _ _ _ _) (by decide +kernel) (by decide +kernel) (by decide +kernel) (ha_45 _ _ _ _ _) ?_
                refine zw_aload_n 20 f2_19 rfl rfl ?_
                refine zw_dup 21 f2_20 rfl rfl ?_
                refine zw_getI 2 24 f2_21 rfl g2_15_0 (hb_44 _ _ _ _) rfl rfl ?_
                refine zw_iconst 1 25 f2_24 rfl (by decide +kernel) ?_
                refine zw_iadd 3 26 f2_25 rfl (by decide +kernel) ?_
                refine zw_put _ 29 f2_26 rfl g2_15_0 (hb_44 _ _ _ _) rfl (Nat.le_of_ble_eq_true rfl) (by decide +kernel) (hi_44_4 _ _ _ _ _) ?_
                refine zw_vreturn f2_29 r2 u2 ⟨rfl, ?_⟩
                refine zw_aload_n 10 f32_9 rfl rfl ?_
                refine zw_iload_n 11 f32_10 rfl rfl ?_
                refine zw_super_i 14 0 0 [.ref 48, .int (c * 2)] [(0, .ref 48), (1, .int (c * 2))] f32_11 rfl k32_19_99 k32_19_98 (by decide +kernel) rfl (hb_48 _ _ _ _) (by decide +kernel) (Nat.le_of_ble_eq_true rfl) rfl rfl (by decide +kernel) (by decide +kernel) rfl (Nat.le_of_ble_eq_true rfl) rfl ?_
                refine zw_aload_n 1 f38_0 rfl rfl ?_
                refine zw_getfield 4 f38_1 rfl g38_7_6 (hb_48 _ _ _ _) rfl ?_
                refine zw_bipush 11 6 f38_4 rfl (by decide +kernel) ?_
                refine zw_virtual_v 9 0 0 [.ref 44, .int 11] [(0, .ref 44), (1, .int 11)] f38_6 rfl n38_13 k38_13_0 rfl (hb_44 _ _ _ _) (by decide +kernel) (Nat.le_of_ble_eq_true rfl) rfl rfl (by decide +kernel) (by decide +kernel) rfl (Nat.le_of_ble_eq_true rfl) rfl ?_
                refine zw_aload_n 1 f2_0 rfl rfl ?_
                refine zw_getI 3 4 f2_1 rfl g2_15_0 (hb_44 _ _ _ _) rfl rfl ?_
                refine zw_bipush 50 6 f2_4 rfl (by decide +kernel) ?_
                refine zw_ic_ge_f 9 29 f2_6 (by decide +kernel) rfl (by decide +kernel) ?_
                refine zw_aload_n 10 f2_9 rfl rfl ?_
                refine zw_getfield 13 f2_10 rfl g2_9_0 (hb_44 _ _ _ _) rfl ?_
                refine zw_aload_n 14 f2_13 rfl rfl ?_
                refine zw_getI 3 17 f2_14 rfl g2_15_0 (hb_44 _ _ _ _) rfl rfl ?_
                refine zw_iload_n 18 f2_17 rfl rfl ?_
                refine zw_ast 3 _ 19 f2_18 rfl (hb_45 _ _ _ _) (by decide +kernel) (by decide +kernel) (by decide +kernel) (ha_45 _ _ _ _ _) ?_
                refine zw_aload_n 20 f2_19 rfl rfl ?_
                refine zw_dup 21 f2_20 rfl rfl ?_
                refine zw_getI 3 24 f2_21 rfl g2_15_0 (hb_44 _ _ _ _) rfl rfl ?_
                refine zw_iconst 1 25 f2_24 rfl (by decide +kernel) ?_
                refine zw_iadd 4 26 f2_25 rfl (by decide +kernel) ?_
                refine zw_put _ 29 f2_26 rfl g2_15_0 (hb_44 _ _ _ _) rfl (Nat.le_of_ble_eq_true rfl) (by decide +kernel) (hi_44_4 _ _ _ _ _) ?_
                refine zw_vreturn f2_29 r2 u2 ⟨rfl, ?_⟩
                refine zw_aload_n 10 f38_9 rfl rfl ?_
                refine zw_iload_n 11 f38_10 rfl rfl ?_
                refine zw_virtual_i 14 0 0 [.ref 48, .int (c * 2)] [(0, .ref 48), (1, .int (c * 2))] f38_11 rfl n38_23 k38_23_6 rfl (hb_48 _ _ _ _) (by decide +kernel) (Nat.le_of_ble_eq_true rfl) rfl rfl (by decide +kernel) (by decide +kernel) rfl (Nat.le_of_ble_eq_true rfl) rfl ?_
                refine zw_aload_n 1 f37_0 rfl rfl ?_
                refine zw_getfield 4 f37_1 rfl g37_7_6 (hb_48 _ _ _ _) rfl ?_
                refine zw_bipush 10 6 f37_4 rfl (by decide +kernel) ?_
                refine zw_virtual_v 9 0 0 [.ref 44, .int 10] [(0, .ref 44), (1, .int 10)] f37_6 rfl n37_13 k37_13_0 rfl (hb_44 _ _ _ _) (by decide +kernel) (Nat.le_of_ble_eq_true rfl) rfl rfl (by decide +kernel) (by decide +kernel) rfl (Nat.le_of_ble_eq_true rfl) rfl ?_
                refine zw_aload_n 1 f2_0 rfl rfl ?_
                refine zw_getI 4 4 f2_1 rfl g2_15_0 (hb_44 _ _ _ _) rfl rfl ?_
                refine zw_bipush 50 6 f2_4 rfl (by decide +kernel) ?_
                refine zw_ic_ge_f 9 29 f2_6 (by decide +kernel) rfl (by decide +kernel) ?_
                refine zw_aload_n 10 f2_9 rfl rfl ?_
                refine zw_getfield 13 f2_10 rfl g2_9_0 (hb_44 _ _ _ _) rfl ?_
                refine zw_aload_n 14 f2_13 rfl rfl ?_
                refine zw_getI 4 17 f2_14 rfl g2_15_0 (hb_44 _ _ _ _) rfl rfl ?_
                refine zw_iload_n 18 f2_17 rfl rfl ?_
                refine zw_ast 4 _ 19 f2_18 rfl (hb_45 _ _ _ _) (by decide +kernel) (by decide +kernel) (by decide +kernel) (ha_45 _ _ _ _ _) ?_
                refine zw_aload_n 20 f2_19 rfl rfl ?_
                refine zw_dup 21 f2_20 rfl rfl ?_
                refine zw_getI 4 24 f2_21 rfl g2_15_0 (hb_44 _ _ _ _) rfl rfl ?_
                refine zw_iconst 1 25 f2_24 rfl (by decide +kernel) ?_
                refine zw_iadd 5 26 f2_25 rfl (by decide +kernel) ?_
                refine zw_put _ 29 f2_26 rfl g2_15_0 (hb_44 _ _ _ _) rfl (Nat.le_of_ble_eq_true rfl) (by decide +kernel) (hi_44_4 _ _ _ _ _) ?_
                refine zw_vreturn f2_29 r2 u2 ⟨rfl, ?_⟩
                refine zw_iload_n 10 f37_9 rfl rfl ?_
                refine zw_aload_n 11 f37_10 rfl rfl ?_
                refine zw_getfield 14 f37_11 rfl g37_7_6 (hb_48 _ _ _ _) rfl ?_
                refine zw_getI (P 54 a.toNatClampNeg) 17 f37_14 rfl g37_19_0 (hb_44 _ _ _ _) rfl rfl ?_
                refine zw_iadd ((c * 2) + (P 54 a.toNatClampNeg)) 18 f37_17 rfl rfl ?_
                refine zw_ireturn f37_18 r37 u37 ⟨_, rfl, ?_⟩
                refine zw_iconst 3 15 f38_14 rfl (by decide +kernel) ?_
                refine zw_imul (((c * 2) + (P 54 a.toNatClampNeg)) * 3) 16 f38_15 rfl rfl ?_
                refine zw_ireturn f38_16 r38 u38 ⟨_, rfl, ?_⟩
                refine zw_aload_n 15 f32_14 rfl rfl ?_
                refine zw_getfield 18 f32_15 rfl g32_7_6 (hb_48 _ _ _ _) rfl ?_
                refine zw_getI (P 55 a.toNatClampNeg) 21 f32_18 rfl g32_23_0 (hb_44 _ _ _ _) rfl rfl ?_
                refine zw_iadd ((((c * 2) + (P 54 a.toNatClampNeg)) * 3) + (P 55 a.toNatClampNeg)) 22 f32_21 rfl rfl ?_
                refine zw_ireturn f32_22 r32 u32 ⟨_, rfl, ?_⟩
                refine zw_aload_n 15 f40_14 rfl rfl ?_
                refine zw_iload_n 16 f40_15 rfl rfl ?_
                refine zw_virtual_i 19 0 0 [.ref 48, .int (c * 2)] [(0, .ref 48), (1, .int (c * 2))] f40_16 rfl n40_30 k40_30_6 rfl (hb_48 _ _ _ _) (by decide +kernel) (Nat.le_of_ble_eq_true rfl) rfl rfl (by decide +kernel) (by decide +kernel) rfl (Nat.le_of_ble_eq_true rfl) rfl ?_
                refine zw_aload_n 1 f39_0 rfl rfl ?_
                refine zw_getfield 4 f39_1 rfl g39_7_6 (hb_48 _ _ _ _) rfl ?_
                refine zw_bipush 12 6 f39_4 rfl (by decide +kernel) ?_
                refine zw_virtual_v 9 0 0 [.ref 44, .int 12] [(0, .ref 44), (1, .int 12)] f39_6 rfl n39_13 k39_13_0 rfl (hb_44 _ _ _ _) (by decide +kernel) (Nat.le_of_ble_eq_true rfl) rfl rfl (by decide +kernel) (by decide +kernel) rfl (Nat.le_of_ble_eq_true rfl) rfl ?_
                refine zw_aload_n 1 f2_0 rfl rfl ?_
                refine zw_getI 5 4 f2_1 rfl g2_15_0 (hb_44 _ _ _ _) rfl rfl ?_
                refine zw_bipush 50 6 f2_4 rfl (by decide +kernel) ?_
                refine zw_ic_ge_f 9 29 f2_6 (by decide +kernel) rfl (by decide +kernel) ?_
                refine zw_aload_n 10 f2_9 rfl rfl ?_
                refine zw_getfield 13 f2_10 rfl g2_9_0 (hb_44 _ _ _ _) rfl ?_
                refine zw_aload_n 14 f2_13 rfl rfl ?_
                refine zw_getI 5 17 f2_14 rfl g2_15_0 (hb_44 _ _ _ _) rfl rfl ?_
                refine zw_iload_n 18 f2_17 rfl rfl ?_
                refine zw_ast 5 _ 19 f2_18 rfl (hb_45 _ _ _ _) (by decide +kernel) (by decide +kernel) (by decide +kernel) (ha_45 _ _ _ _ _) ?_
                refine zw_aload_n 20 f2_19 rfl rfl ?_
                refine zw_dup 21 f2_20 rfl rfl ?_
                refine zw_getI 5 24 f2_21 rfl g2_15_0 (hb_44 _ _ _ _) rfl rfl ?_
                refine zw_iconst 1 25 f2_24 rfl (by decide +kernel) ?_
                refine zw_iadd 6 26 f2_25 rfl (by decide +kernel) ?_
                refine zw_put _ 29 f2_26 rfl g2_15_0 (hb_44 _ _ _ _) rfl (Nat.le_of_ble_eq_true rfl) (by decide +kernel) (hi_44_4 _ _ _ _ _) ?_
                refine zw_vreturn f2_29 r2 u2 ⟨rfl, ?_⟩
                refine zw_iload_n 10 f39_9 rfl rfl ?_
                refine zw_aload_n 11 f39_10 rfl rfl ?_
                refine zw_getfield 14 f39_11 rfl g39_7_6 (hb_48 _ _ _ _) rfl ?_
                refine zw_getI (P 54 a.toNatClampNeg) 17 f39_14 rfl g39_19_0 (hb_44 _ _ _ _) rfl rfl ?_
                refine zw_ixor ((c * 2) ^^^ (P 54 a.toNatClampNeg)) 18 f39_17 rfl rfl ?_
                refine zw_ireturn f39_18 r39 u39 ⟨_, rfl, ?_⟩
                refine zw_isub (((((c * 2) + (P 54 a.toNatClampNeg)) * 3) + (P 55 a.toNatClampNeg)) - ((c * 2) ^^^ (P 54 a.toNatClampNeg))) 20 f40_19 rfl rfl ?_
                refine zw_ireturn f40_20 r40 u40 ⟨_, rfl, ?_⟩
                refine zw_ireturn f33_16 r33 u33 ⟨_, rfl, ?_⟩
                refine zw_virtual_i 143 0 0 [.ref 0, .int (((((c * 2) + (P 54 a.toNatClampNeg)) * 3) + (P 55 a.toNatClampNeg)) - ((c * 2) ^^^ (P 54 a.toNatClampNeg)))] [(0, .ref 0), (1, .int (((((c * 2) + (P 54 a.toNatClampNeg)) * 3) + (P 55 a.toNatClampNeg)) - ((c * 2) ^^^ (P 54 a.toNatClampNeg))))] f101_140 rfl n101_181 k101_181_11 rfl (hb_0 _ _ _ _) (by decide +kernel) (Nat.le_of_ble_eq_true rfl) rfl rfl (by decide +kernel) (by decide +kernel) rfl (Nat.le_of_ble_eq_true rfl) rfl ?_
                refine zw_aload_n 1 f106_0 rfl rfl ?_
                refine zw_iconst 0 2 f106_1 rfl (by decide +kernel) ?_
                refine zw_put _ 5 f106_2 rfl g106_70_11 (hb_0 _ _ _ _) rfl (Nat.le_of_ble_eq_true rfl) (by decide +kernel) (hi_0_7 _ _ _ _ _) ?_
                refine zw_iload_n 6 f106_5 rfl rfl ?_
                refine zw_ireturn f106_6 r106 u106 ⟨_, rfl, ?_⟩
                refine zw_ireturn f101_143 r101 u101 ?_
                exact ⟨_, _, _, _, rfl, (KQ.i rfl (KQ.i rfl (KQ.a rfl (KQ.i rfl (KQ.a rfl (KQ.i rfl (KQ.a rfl (KQ.i rfl (KQ.a rfl (KQ.i rfl (KQ.a rfl (KQ.i rfl (KQ.a rfl (KQ.i rfl (KQ.i rfl (KQ.i rfl (KQ.i rfl (KQ.i rfl KQ.rf)))))))))))))))))), Or.inr ⟨⟨(qV.ofc (by omega) hc1 hc2), ⟨hc4, hc5⟩⟩, by rw [show an_tl (P 53 a.toNatClampNeg) b = [21, 13, 20, 11, 10, 12] from ((cI_n (sw_ne hs7 (by decide))).trans ((cI_n (sw_ne hs7 (by decide))).trans ((cI_n (sw_ne hs7 (by decide))).trans ((cI_n (kne hk (by decide))).trans (cI_y hk)))))]; exact ⟨rfl, by intro i hi; rcases (show i = 0 ∨ i = 1 ∨ i = 2 ∨ i = 3 ∨ i = 4 ∨ i = 5 by have q : i < 6 := hi; omega) with rfl | rfl | rfl | rfl | rfl | rfl <;> rfl⟩⟩, _, rfl⟩
              · rcases (show hs7k = 0 ∨ hs7k = 1 ∨ hs7k = 2 by omega) with rfl | rfl | rfl
                · refine zw_table_k 25 100 f101_75 hs7e (by decide +kernel) (by decide +kernel) (by decide +kernel) ?_
                  refine zw_aload_n 101 f101_100 rfl (zl1_ne rfl rfl (zl1_ne rfl rfl rfl)) ?_
                  refine zw_aload 103 f101_101 rfl zl1_eq ?_
                  refine zw_iload_n 104 f101_103 rfl (zl1_ne rfl rfl (zl1_ne rfl rfl rfl)) ?_
                  refine zw_virtual_i 107 0 0 [.ref 48, .int c] [(0, .ref 48), (1, .int c)] f101_104 rfl n101_289 k101_289_6 rfl (hb_48 _ _ _ _) (by decide +kernel) (Nat.le_of_ble_eq_true rfl) rfl rfl (by decide +kernel) (by decide +kernel) rfl (Nat.le_of_ble_eq_true rfl) rfl ?_
                  refine zw_aload_n 1 f37_0 rfl rfl ?_
                  refine zw_getfield 4 f37_1 rfl g37_7_6 (hb_48 _ _ _ _) rfl ?_
                  refine zw_bipush 10 6 f37_4 rfl (by decide +kernel) ?_
                  refine zw_virtual_v 9 0 0 [.ref 44, .int 10] [(0, .ref 44), (1, .int 10)] f37_6 rfl n37_13 k37_13_0 rfl (hb_44 _ _ _ _) (by decide +kernel) (Nat.le_of_ble_eq_true rfl) rfl rfl (by decide +kernel) (by decide +kernel) rfl (Nat.le_of_ble_eq_true rfl) rfl ?_
                  refine zw_aload_n 1 f2_0 rfl rfl ?_
                  refine zw_getI 0 4 f2_1 rfl g2_15_0 (hb_44 _ _ _ _) rfl rfl ?_
                  refine zw_bipush 50 6 f2_4 rfl (by decide +kernel) ?_
                  refine zw_ic_ge_f 9 29 f2_6 (by decide +kernel) rfl (by decide +kernel) ?_
                  refine zw_aload_n 10 f2_9 rfl rfl ?_
                  refine zw_getfield 13 f2_10 rfl g2_9_0 (hb_44 _ _ _ _) rfl ?_
                  refine zw_aload_n 14 f2_13 rfl rfl ?_
                  refine zw_getI 0 17 f2_14 rfl g2_15_0 (hb_44 _ _ _ _) rfl rfl ?_
                  refine zw_iload_n 18 f2_17 rfl rfl ?_
                  refine zw_ast 0 _ 19 f2_18 rfl (hb_45 _ _ _ _) (by decide +kernel) (by decide +kernel) (by decide +kernel) (ha_45 _ _ _ _ _) ?_
                  refine zw_aload_n 20 f2_19 rfl rfl ?_
                  refine zw_dup 21 f2_20 rfl rfl ?_
                  refine zw_getI 0 24 f2_21 rfl g2_15_0 (hb_44 _ _ _ _) rfl rfl ?_
                  refine zw_iconst 1 25 f2_24 rfl (by decide +kernel) ?_
                  refine zw_iadd 1 26 f2_25 rfl (by decide +kernel) ?_
                  refine zw_put _ 29 f2_26 rfl g2_15_0 (hb_44 _ _ _ _) rfl (Nat.le_of_ble_eq_true rfl) (by decide +kernel) (hi_44_4 _ _ _ _ _) ?_
                  refine zw_vreturn f2_29 r2 u2 ⟨rfl, ?_⟩
                  refine zw_iload_n 10 f37_9 rfl rfl ?_
                  refine zw_aload_n 11 f37_10 rfl rfl ?_
                  refine zw_getfield 14 f37_11 rfl g37_7_6 (hb_48 _ _ _ _) rfl ?_
                  refine zw_getI (P 54 a.toNatClampNeg) 17 f37_14 rfl g37_19_0 (hb_44 _ _ _ _) rfl rfl ?_
                  refine zw_iadd (c + (P 54 a.toNatClampNeg)) 18 f37_17 rfl rfl ?_
                  refine zw_ireturn f37_18 r37 u37 ⟨_, rfl, ?_⟩
                  refine zw_virtual_i 110 0 0 [.ref 0, .int (c + (P 54 a.toNatClampNeg))] [(0, .ref 0), (1, .int (c + (P 54 a.toNatClampNeg)))] f101_107 rfl n101_181 k101_181_11 rfl (hb_0 _ _ _ _) (by decide +kernel) (Nat.le_of_ble_eq_true rfl) rfl rfl (by decide +kernel) (by decide +kernel) rfl (Nat.le_of_ble_eq_true rfl) rfl ?_
                  refine zw_aload_n 1 f106_0 rfl rfl ?_
                  refine zw_iconst 0 2 f106_1 rfl (by decide +kernel) ?_
                  refine zw_put _ 5 f106_2 rfl g106_70_11 (hb_0 _ _ _ _) rfl (Nat.le_of_ble_eq_true rfl) (by decide +kernel) (hi_0_7 _ _ _ _ _) ?_
                  refine zw_iload_n 6 f106_5 rfl rfl ?_
                  refine zw_ireturn f106_6 r106 u106 ⟨_, rfl, ?_⟩
                  refine zw_ireturn f101_110 r101 u101 ?_
                  exact ⟨_, _, _, _, rfl, (KQ.i rfl (KQ.i rfl (KQ.a rfl (KQ.i rfl (KQ.i rfl (KQ.i rfl (KQ.i rfl (KQ.i rfl KQ.rf)))))))), Or.inr ⟨⟨(qV.ofc (by omega) hc1 hc2), ⟨hc4, hc5⟩⟩, by rw [show an_tl (P 53 a.toNatClampNeg) b = [10] from ((cI_y (show b = 0 from hs7e)).trans ((cI_n (kne hk (by decide))).trans (cI_y hk)))]; exact ⟨rfl, by intro i hi; rcases (show i = 0 by have q : i < 1 := hi; omega) with rfl <;> rfl⟩⟩, _, rfl⟩
                · refine zw_table_k 36 111 f101_75 hs7e (by decide +kernel) (by decide +kernel) (by decide +kernel) ?_
                  refine zw_aload_n 112 f101_111 rfl (zl1_ne rfl rfl (zl1_ne rfl rfl rfl)) ?_
                  refine zw_aload 114 f101_112 rfl zl1_eq ?_
                  refine zw_iload_n 115 f101_114 rfl (zl1_ne rfl rfl (zl1_ne rfl rfl rfl)) ?_
                  refine zw_virtual_i 118 0 0 [.ref 48, .int c] [(0, .ref 48), (1, .int c)] f101_115 rfl n101_292 k101_292_6 rfl (hb_48 _ _ _ _) (by decide +kernel) (Nat.le_of_ble_eq_true rfl) rfl rfl (by decide +kernel) (by decide +kernel) rfl (Nat.le_of_ble_eq_true rfl) rfl ?_
                  refine zw_aload_n 1 f32_0 rfl rfl ?_
                  refine zw_getfield 4 f32_1 rfl g32_7_6 (hb_48 _ _ _ _) rfl ?_
                  refine zw_bipush 20 6 f32_4 rfl (by decide +kernel) ?_
                  refine zw_virtual_v 9 0 0 [.ref 44, .int 20] [(0, .ref 44), (1, .int 20)] f32_6 rfl n32_13 k32_13_0 rfl (hb_44 _ _ _ _) (by decide +kernel) (Nat.le_of_ble_eq_true rfl) rfl rfl (by decide +kernel) (by decide +kernel) rfl (Nat.le_of_ble_eq_true rfl) rfl ?_
                  refine zw_aload_n 1 f2_0 rfl rfl ?_
                  refine zw_getI 0 4 f2_1 rfl g2_15_0 (hb_44 _ _ _ _) rfl rfl ?_
                  refine zw_bipush 50 6 f2_4 rfl (by decide +kernel) ?_
                  refine zw_ic_ge_f 9 29 f2_6 (by decide +kernel) rfl (by decide +kernel) ?_
                  refine zw_aload_n 10 f2_9 rfl rfl ?_
                  refine zw_getfield 13 f2_10 rfl g2_9_0 (hb_44 _ _ _ _) rfl ?_
                  refine zw_aload_n 14 f2_13 rfl rfl ?_
                  refine zw_getI 0 17 f2_14 rfl g2_15_0 (hb_44 _ _ _ _) rfl rfl ?_
                  refine zw_iload_n 18 f2_17 rfl rfl ?_
                  refine zw_ast 0 _ 19 f2_18 rfl (hb_45 _ _ _ _) (by decide +kernel) (by decide +kernel) (by decide +kernel) (ha_45 _ _ _ _ _) ?_
                  refine zw_aload_n 20 f2_19 rfl rfl ?_
                  refine zw_dup 21 f2_20 rfl rfl ?_
                  refine zw_getI 0 24 f2_21 rfl g2_15_0 (hb_44 _ _ _ _) rfl rfl ?_
                  refine zw_iconst 1 25 f2_24 rfl (by decide +kernel) ?_
                  refine zw_iadd 1 26 f2_25 rfl (by decide +kernel) ?_
                  refine zw_put _ 29 f2_26 rfl g2_15_0 (hb_44 _ _ _ _) rfl (Nat.le_of_ble_eq_true rfl) (by decide +kernel) (hi_44_4 _ _ _ _ _) ?_
                  refine zw_vreturn f2_29 r2 u2 ⟨rfl, ?_⟩
                  refine zw_aload_n 10 f32_9 rfl rfl ?_
                  refine zw_iload_n 11 f32_10 rfl rfl ?_
                  refine zw_super_i 14 0 0 [.ref 48, .int c] [(0, .ref 48), (1, .int c)] f32_11 rfl k32_19_99 k32_19_98 (by decide +kernel) rfl (hb_48 _ _ _ _) (by decide +kernel) (Nat.le_of_ble_eq_true rfl) rfl rfl (by decide +kernel) (by decide +kernel) rfl (Nat.le_of_ble_eq_true rfl) rfl ?_
                  refine zw_aload_n 1 f38_0 rfl rfl ?_
                  refine zw_getfield 4 f38_1 rfl g38_7_6 (hb_48 _ _ _ _) rfl ?_
                  refine zw_bipush 11 6 f38_4 rfl (by decide +kernel) ?_
                  refine zw_virtual_v 9 0 0 [.ref 44, .int 11] [(0, .ref 44), (1, .int 11)] f38_6 rfl n38_13 k38_13_0 rfl (hb_44 _ _ _ _) (by decide +kernel) (Nat.le_of_ble_eq_true rfl) rfl rfl (by decide +kernel) (by decide +kernel) rfl (Nat.le_of_ble_eq_true rfl) rfl ?_
                  refine zw_aload_n 1 f2_0 rfl rfl ?_
                  refine zw_getI 1 4 f2_1 rfl g2_15_0 (hb_44 _ _ _ _) rfl rfl ?_
                  refine zw_bipush 50 6 f2_4 rfl (by decide +kernel) ?_
                  refine zw_ic_ge_f 9 29 f2_6 (by decide +kernel) rfl (by decide +kernel) ?_
                  refine zw_aload_n 10 f2_9 rfl rfl ?_
                  refine zw_getfield 13 f2_10 rfl g2_9_0 (hb_44 _ _ _ _) rfl ?_
                  refine zw_aload_n 14 f2_13 rfl rfl ?_
                  refine zw_getI 1 17 f2_14 rfl g2_15_0 (hb_44 _ _ _ _) rfl rfl ?_
                  refine zw_iload_n 18 f2_17 rfl rfl ?_
                  refine zw_ast 1 _ 19 f2_18 rfl (hb_45 _ _ _ _) (by decide +kernel) (by decide +kernel) (by decide +kernel) (ha_45 _ _ _ _ _) ?_
                  refine zw_aload_n 20 f2_19 rfl rfl ?_
                  refine zw_dup 21 f2_20 rfl rfl ?_
                  refine zw_getI 1 24 f2_21 rfl g2_15_0 (hb_44 _ _ _ _) rfl rfl ?_
                  refine zw_iconst 1 25 f2_24 rfl (by decide +kernel) ?_
                  refine zw_iadd 2 26 f2_25 rfl (by decide +kernel) ?_
                  refine zw_put _ 29 f2_26 rfl g2_15_0 (hb_44 _ _ _ _) rfl (Nat.le_of_ble_eq_true rfl) (by decide +kernel) (hi_44_4 _ _ _ _ _) ?_
                  refine zw_vreturn f2_29 r2 u2 ⟨rfl, ?_⟩
                  refine zw_aload_n 10 f38_9 rfl rfl ?_
                  refine zw_iload_n 11 f38_10 rfl rfl ?_
                  refine zw_virtual_i 14 0 0 [.ref 48, .int c] [(0, .ref 48), (1, .int c)] f38_11 rfl n38_23 k38_23_6 rfl (hb_48 _ _ _ _) (by decide +kernel) (Nat.le_of_ble_eq_true rfl) rfl rfl (by decide +kernel) (by decide +kernel) rfl (Nat.le_of_ble_eq_true rfl) rfl ?_
                  refine zw_aload_n 1 f37_0 rfl rfl ?_
                  refine zw_getfield 4 f37_1 rfl g37_7_6 (hb_48 _ _ _ _) rfl ?_
                  refine zw_bipush 10 6 f37_4 rfl (by decide +kernel) ?_
                  refine zw_virtual_v 9 0 0 [.ref 44, .int 10] [(0, .ref 44), (1, .int 10)] f37_6 rfl n37_13 k37_13_0 rfl (hb_44 _ _ _ _) (by decide +kernel) (Nat.le_of_ble_eq_true rfl) rfl rfl (by decide +kernel) (by decide +kernel) rfl (Nat.le_of_ble_eq_true rfl) rfl ?_
                  refine zw_aload_n 1 f2_0 rfl rfl ?_
                  refine zw_getI 2 4 f2_1 rfl g2_15_0 (hb_44 _ _ _ _) rfl rfl ?_
                  refine zw_bipush 50 6 f2_4 rfl (by decide +kernel) ?_
                  refine zw_ic_ge_f 9 29 f2_6 (by decide +kernel) rfl (by decide +kernel) ?_
                  refine zw_aload_n 10 f2_9 rfl rfl ?_
                  refine zw_getfield 13 f2_10 rfl g2_9_0 (hb_44 _ _ _ _) rfl ?_
                  refine zw_aload_n 14 f2_13 rfl rfl ?_
                  refine zw_getI 2 17 f2_14 rfl g2_15_0 (hb_44 _ _ _ _) rfl rfl ?_
                  refine zw_iload_n 18 f2_17 rfl rfl ?_
                  refine zw_ast 2 _ 19 f2_18 rfl (hb_45 _ _ _ _) (by decide +kernel) (by decide +kernel) (by decide +kernel) (ha_45 _ _ _ _ _) ?_
                  refine zw_aload_n 20 f2_19 rfl rfl ?_
                  refine zw_dup 21 f2_20 rfl rfl ?_
                  refine zw_getI 2 24 f2_21 rfl g2_15_0 (hb_44 _ _ _ _) rfl rfl ?_
                  refine zw_iconst 1 25 f2_24 rfl (by decide +kernel) ?_
                  refine zw_iadd 3 26 f2_25 rfl (by decide +kernel) ?_
                  refine zw_put _ 29 f2_26 rfl g2_15_0 (hb_44 _ _ _ _) rfl (Nat.le_of_ble_eq_true rfl) (by decide +kernel) (hi_44_4 _ _ _ _ _) ?_
                  refine zw_vreturn f2_29 r2 u2 ⟨rfl, ?_⟩
                  refine zw_iload_n 10 f37_9 rfl rfl ?_
                  refine zw_aload_n 11 f37_10 rfl rfl ?_
                  refine zw_getfield 14 f37_11 rfl g37_7_6 (hb_48 _ _ _ _) rfl ?_
                  refine zw_getI (P 54 a.toNatClampNeg) 17 f37_14 rfl g37_19_0 (hb_44 _ _ _ _) rfl rfl ?_
                  refine zw_iadd (c + (P 54 a.toNatClampNeg)) 18 f37_17 rfl rfl ?_
                  refine zw_ireturn f37_18 r37 u37 ⟨_, rfl, ?_⟩
                  refine zw_iconst 3 15 f38_14 rfl (by decide +kernel) ?_
                  refine zw_imul ((c + (P 54 a.toNatClampNeg)) * 3) 16 f38_15 rfl rfl ?_
                  refine zw_ireturn f38_16 r38 u38 ⟨_, rfl, ?_⟩
                  refine zw_aload_n 15 f32_14 rfl rfl ?_
                  refine zw_getfield 18 f32_15 rfl g32_7_6 (hb_48 _ _ _ _) rfl ?_
                  refine zw_getI (P 55 a.toNatClampNeg) 21 f32_18 rfl g32_23_0 (hb_44 _ _ _ _) rfl rfl ?_
                  refine zw_iadd (((c + (P 54 a.toNatClampNeg)) * 3) + (P 55 a.toNatClampNeg)) 22 f32_21 rfl rfl ?_
                  refine zw_ireturn f32_22 r32 u32 ⟨_, rfl, ?_⟩
                  refine zw_virtual_i 121 0 0 [.ref 0, .int (((c + (P 54 a.toNatClampNeg)) * 3) + (P 55 a.toNatClampNeg))] [(0, .ref 0), (1, .int (((c + (P 54 a.toNatClampNeg)) * 3) + (P 55 a.toNatClampNeg)))] f101_118 rfl n101_181 k101_181_11 rfl (hb_0 _ _ _ _) (by decide +kernel) (Nat.le_of_ble_eq_true rfl) rfl rfl (by decide +kernel) (by decide +kernel) rfl (Nat.le_of_ble_eq_true rfl) rfl ?_
                  refine zw_aload_n 1 f106_0 rfl rfl ?_
                  refine zw_iconst 0 2 f106_1 rfl (by decide +kernel) ?_
                  refine zw_put _ 5 f106_2 rfl g106_70_11 (hb_0 _ _ _ _) rfl (Nat.le_of_ble_eq_true rfl) (by decide +kernel) (hi_0_7 _ _ _ _ _) ?_
                  refine zw_iload_n 6 f106_5 rfl rfl ?_
                  refine zw_ireturn f106_6 r106 u106 ⟨_, rfl, ?_⟩
                  refine zw_ireturn f101_121 r101 u101 ?_
                  exact ⟨_, _, _, _, rfl, (KQ.i rfl (KQ.i rfl (KQ.a rfl (KQ.i rfl (KQ.a rfl (KQ.i rfl (KQ.a rfl (KQ.i rfl (KQ.i rfl (KQ.i rfl (KQ.i rfl (KQ.i rfl KQ.rf)))))))))))), Or.inr ⟨⟨(qV.ofc (by omega) hc1 hc2), ⟨hc4, hc5⟩⟩, by rw [show an_tl (P 53 a.toNatClampNeg) b = [20, 11, 10] from ((cI_n (kne (show b = 1 from hs7e) (by decide))).trans ((cI_y (show b = 1 from hs7e)).trans ((cI_n (kne hk (by decide))).trans (cI_y hk))))]; exact ⟨rfl, by intro i hi; rcases (show i = 0 ∨ i = 1 ∨ i = 2 by have q : i < 3 := hi; omega) with rfl | rfl | rfl <;> rfl⟩⟩, _, rfl⟩
                · refine zw_table_k 47 122 f101_75 hs7e (by decide +kernel) (by decide +kernel) (by decide +kernel) ?_
                  refine zw_aload_n 123 f101_122 rfl (zl1_ne rfl rfl (zl1_ne rfl rfl rfl)) ?_
                  refine zw_aload 125 f101_123 rfl zl1_eq ?_
                  refine zw_iload_n 126 f101_125 rfl (zl1_ne rfl rfl (zl1_ne rfl rfl rfl)) ?_
                  refine zw_virtual_i 129 0 0 [.ref 48, .int c] [(0, .ref 48), (1, .int c)] f101_126 rfl n101_295 k101_295_6 rfl (hb_48 _ _ _ _) (by decide +kernel) (Nat.le_of_ble_eq_true rfl) rfl rfl (by decide +kernel) (by decide +kernel) rfl (Nat.le_of_ble_eq_true rfl) rfl ?_
                  refine zw_aload_n 1 f39_0 rfl rfl ?_
                  refine zw_getfield 4 f39_1 rfl g39_7_6 (hb_48 _ _ _ _) rfl ?_
                  refine zw_bipush 12 6 f39_4 rfl (by decide +kernel) ?_
                  refine zw_virtual_v 9 0 0 [.ref 44, .int 12] [(0, .ref 44), (1, .int 12)] f39_6 rfl n39_13 k39_13_0 rfl (hb_44 _ _ _ _) (by decide +kernel) (Nat.le_of_ble_eq_true rfl) rfl rfl (by decide +kernel) (by decide +kernel) rfl (Nat.le_of_ble_eq_true rfl) rfl ?_
                  refine zw_aload_n 1 f2_0 rfl rfl ?_
                  refine zw_getI 0 4 f2_1 rfl g2_15_0 (hb_44 _ _ _ _) rfl rfl ?_
                  refine zw_bipush 50 6 f2_4 rfl (by decide +kernel) ?_
                  refine zw_ic_ge_f 9 29 f2_6 (by decide +kernel) rfl (by decide +kernel) ?_
                  refine zw_aload_n 10 f2_9 rfl rfl ?_
                  refine zw_getfield 13 f2_10 rfl g2_9_0 (hb_44 _ _ _ _) rfl ?_
                  refine zw_aload_n 14 f2_13 rfl rfl ?_
                  refine zw_getI 0 17 f2_14 rfl g2_15_0 (hb_44 _ _ _ _) rfl rfl ?_
                  refine zw_iload_n 18 f2_17 rfl rfl ?_
                  refine zw_ast 0 _ 19 f2_18 rfl (hb_45 _ _ _ _) (by decide +kernel) (by decide +kernel) (by decide +kernel) (ha_45 _ _ _ _ _) ?_
                  refine zw_aload_n 20 f2_19 rfl rfl ?_
                  refine zw_dup 21 f2_20 rfl rfl ?_
                  refine zw_getI 0 24 f2_21 rfl g2_15_0 (hb_44 _ _ _ _) rfl rfl ?_
                  refine zw_iconst 1 25 f2_24 rfl (by decide +kernel) ?_
                  refine zw_iadd 1 26 f2_25 rfl (by decide +kernel) ?_
                  refine zw_put _ 29 f2_26 rfl g2_15_0 (hb_44 _ _ _ _) rfl (Nat.le_of_ble_eq_true rfl) (by decide +kernel) (hi_44_4 _ _ _ _ _) ?_
                  refine zw_vreturn f2_29 r2 u2 ⟨rfl, ?_⟩
                  refine zw_iload_n 10 f39_9 rfl rfl ?_
                  refine zw_aload_n 11 f39_10 rfl rfl ?_
                  refine zw_getfield 14 f39_11 rfl g39_7_6 (hb_48 _ _ _ _) rfl ?_
                  refine zw_getI (P 54 a.toNatClampNeg) 17 f39_14 rfl g39_19_0 (hb_44 _ _ _ _) rfl rfl ?_
                  refine zw_ixor (c ^^^ (P 54 a.toNatClampNeg)) 18 f39_17 rfl rfl ?_
                  refine zw_ireturn f39_18 r39 u39 ⟨_, rfl, ?_⟩
                  refine zw_virtual_i 132 0 0 [.ref 0, .int (c ^^^ (P 54 a.toNatClampNeg))] [(0, .ref 0), (1, .int (c ^^^ (P 54 a.toNatClampNeg)))] f101_129 rfl n101_181 k101_181_11 rfl (hb_0 _ _ _ _) (by decide +kernel) (Nat.le_of_ble_eq_true rfl) rfl rfl (by decide +kernel) (by decide +kernel) rfl (Nat.le_of_ble_eq_true rfl) rfl ?_
                  refine zw_aload_n 1 f106_0 rfl rfl ?_
                  refine zw_iconst 0 2 f106_1 rfl (by decide +kernel) ?_
                  refine zw_put _ 5 f106_2 rfl g106_70_11 (hb_0 _ _ _ _) rfl (Nat.le_of_ble_eq_true rfl) (by decide +kernel) (hi_0_7 _ _ _ _ _) ?_
                  refine zw_iload_n 6 f106_5 rfl rfl ?_
                  refine zw_ireturn f106_6 r106 u106 ⟨_, rfl, ?_⟩
                  refine zw_ireturn f101_132 r101 u101 ?_
                  exact ⟨_, _, _, _, rfl, (KQ.i rfl (KQ.i rfl (KQ.a rfl (KQ.i rfl (KQ.i rfl (KQ.i rfl (KQ.i rfl (KQ.i rfl KQ.rf)))))))), Or.inr ⟨⟨(qV.ofc (by omega) hc1 hc2), ⟨hc4, hc5⟩⟩, by rw [show an_tl (P 53 a.toNatClampNeg) b = [12] from ((cI_n (kne (show b = 2 from hs7e) (by decide))).trans ((cI_n (kne (show b = 2 from hs7e) (by decide))).trans ((cI_y (show b = 2 from hs7e)).trans ((cI_n (kne hk (by decide))).trans (cI_y hk)))))]; exact ⟨rfl, by intro i hi; rcases (show i = 0 by have q : i < 1 := hi; omega) with rfl <;> rfl⟩⟩, _, rfl⟩
            · refine zw_aaload 2 42 f101_41 rfl (hb_46 _ _ _ _) (by rw [hk]; decide) (by rw [hk]; decide) (by decide) rfl ?_
              refine zw_astore _ 44 f101_42 rfl (by decide +kernel) rfl ?_
              refine zw_aload 46 f101_44 rfl zl1_eq ?_
              refine zw_ifnonnull 55 f101_46 (by decide +kernel) ?_
              refine zw_aload_n 56 f101_55 rfl (zl1_ne rfl rfl (zl1_ne rfl rfl rfl)) ?_
              refine zw_getfield 59 f101_56 rfl g101_45_11 (hb_0 _ _ _ _) rfl ?_
              refine zw_aload_n 60 f101_59 rfl (zl1_ne rfl rfl (zl1_ne rfl rfl rfl)) ?_
              refine zw_getfield 63 f101_60 rfl g101_10_11 (hb_0 _ _ _ _) rfl ?_
              refine zw_aload_n 64 f101_63 rfl (zl1_ne rfl rfl (zl1_ne rfl rfl rfl)) ?_
              refine zw_getfield 67 f101_64 rfl g101_21_11 (hb_0 _ _ _ _) rfl ?_
              refine zw_getfield 70 f101_67 rfl g101_134_10 (hb_11 _ _ _ _) rfl ?_
              refine zw_iload_n 71 f101_70 rfl (zl1_ne rfl rfl (zl1_ne rfl rfl rfl)) ?_
              refine zw_virtual_v 74 0 0 [.ref 44, .ref 1, .ref 12, .int a] [(0, .ref 44), (1, .ref 1), (2, .ref 12), (3, .int a)] f101_71 rfl n101_285 k101_285_0 rfl (hb_44 _ _ _ _) (by decide +kernel) (Nat.le_of_ble_eq_true rfl) rfl rfl (by decide +kernel) (by decide +kernel) rfl (Nat.le_of_ble_eq_true rfl) rfl ?_
              refine zw_aload_n 1 f1_0 rfl rfl ?_
              refine zw_iconst 0 2 f1_1 rfl (by decide +kernel) ?_
              refine zw_put _ 5 f1_2 rfl g1_15_0 (hb_44 _ _ _ _) rfl (Nat.le_of_ble_eq_true rfl) (by decide +kernel) (hi_44_4 _ _ _ _ _) ?_
              refine zw_aload_n 6 f1_5 rfl rfl ?_
              refine zw_iload_n 7 f1_6 rfl rfl ?_
              refine zw_virtual_i 10 0 0 [.ref 1, .int a] [(0, .ref 1), (1, .int a)] f1_7 rfl n1_19 k1_19_4 rfl (hb_1 _ _ _ _) (by decide +kernel) (Nat.le_of_ble_eq_true rfl) rfl rfl (by decide +kernel) (by decide +kernel) rfl (Nat.le_of_ble_eq_true rfl) rfl ?_
              refine zw_iload_n 1 f13_0 rfl rfl ?_
              refine zw_if_lt_f 4 22 f13_1 (by decide +kernel) rfl hc1 ?_
              refine zw_iload_n 5 f13_4 rfl rfl ?_
              refine zw_aload_n 6 f13_5 rfl rfl ?_
              refine zw_getI (nI nv) 9 f13_6 rfl g13_39_4 (hb_1 _ _ _ _) rfl hR.1.1 ?_
              refine zw_ic_ge_f 12 22 f13_9 (by decide +kernel) rfl hc2 ?_
              refine zw_iload_n 13 f13_12 rfl rfl ?_
              refine zw_bipush 8 15 f13_13 rfl (by decide +kernel) ?_
              refine zw_ic_ge_f 18 22 f13_15 (by decide +kernel) rfl hc3 ?_
              refine zw_iconst 1 19 f13_18 rfl (by decide +kernel) ?_
              refine zw_goto 23 f13_19 (by decide +kernel) ?_
              refine zw_zreturn f13_23 r13 u13 (by decide +kernel) ⟨_, rfl, ?_⟩
              refine zw_if_eq_f 13 53 f1_10 (by decide +kernel) rfl (by decide +kernel) ?_
              refine zw_aload_n 14 f1_13 rfl rfl ?_
              refine zw_aload_n 15 f1_14 rfl rfl ?_
              refine zw_getfield 18 f1_15 rfl g1_25_4 (hb_1 _ _ _ _) rfl ?_
              refine zw_iload_n 19 f1_18 rfl rfl ?_
              refine zw_iaload a.toNatClampNeg (P 54 a.toNatClampNeg) 20 f1_19 rfl (hb_3 _ _ _ _) rfl hc1 (zix (by decide) hc1 hc3) (congrFun ((hR.2.1 54 (by omega) (by omega))) a.toNatClampNeg) ?_
              refine zw_put _ 23 f1_20 rfl g1_28_0 (hb_44 _ _ _ _) rfl (Nat.le_of_ble_eq_true rfl) (by decide +kernel) (hi_44_0 _ _ _ _ _) ?_
              refine zw_aload_n 24 f1_23 rfl rfl ?_
              refine zw_aload_n 25 f1_24 rfl rfl ?_
              refine zw_getfield 28 f1_25 rfl g1_31_4 (hb_1 _ _ _ _) rfl ?_
              refine zw_iload_n 29 f1_28 rfl rfl ?_
              refine zw_iaload a.toNatClampNeg (P 55 a.toNatClampNeg) 30 f1_29 rfl (hb_4 _ _ _ _) rfl hc1 (zix (by decide) hc1 hc3) (congrFun ((hR.2.1 55 (by omega) (by omega))) a.toNatClampNeg) ?_
              refine zw_put _ 33 f1_30 rfl g1_34_0 (hb_44 _ _ _ _) rfl (Nat.le_of_ble_eq_true rfl) (by decide +kernel) (hi_44_1 _ _ _ _ _) ?_
              refine zw_aload_n 34 f1_33 rfl rfl ?_
              refine zw_aload_n 35 f1_34 rfl rfl ?_
              refine zw_getfield 38 f1_35 rfl g1_37_4 (hb_1 _ _ _ _) rfl ?_
              refine zw_iload_n 39 f1_38 rfl rfl ?_
              refine zw_iaload a.toNatClampNeg (P 56 a.toNatClampNeg) 40 f1_39 rfl (hb_5 _ _ _ _) rfl hc1 (zix (by decide) hc1 hc3) (congrFun ((hR.2.1 56 (by omega) (by omega))) a.toNatClampNeg) ?_
              refine zw_put _ 43 f1_40 rfl g1_40_0 (hb_44 _ _ _ _) rfl (Nat.le_of_ble_eq_true rfl) (by decide +kernel) (hi_44_2 _ _ _ _ _) ?_
              refine zw_aload_n 44 f1_43 rfl rfl ?_
              refine zw_aload_n 45 f1_44 rfl rfl ?_
              refine zw_getfield 48 f1_45 rfl g1_43_9 (hb_12 _ _ _ _) rfl ?_
              refine zw_iload_n 49 f1_48 rfl rfl ?_
              refine zw_iaload a.toNatClampNeg (A 14 a.toNatClampNeg) 50 f1_49 rfl (hb_14 _ _ _ _) rfl hc1 (zix (by decide) hc1 hc3) rfl ?_
              refine zw_put _ 53 f1_50 rfl g1_48_0 (hb_44 _ _ _ _) rfl (Nat.le_of_ble_eq_true rfl) (by decide +kernel) (hi_44_3 _ _ _ _ _) ?_
              refine zw_vreturn f1_53 r1 u1 ⟨rfl, ?_⟩
              refine zw_iload_n 75 f101_74 rfl (zl1_ne rfl rfl (zl1_ne rfl rfl rfl)) ?_
              rcases zl_sw 2 (by decide) b with hs8 | ⟨hs8k, hs8l, hs8e⟩
              · refine zw_table_o 133 f101_75 hs8 (by decide +kernel) ?_
                refine zw_aload_n 134 f101_133 rfl (zl1_ne rfl rfl (zl1_ne rfl rfl rfl)) ?_
                refine zw_aload 136 f101_134 rfl zl1_eq ?_
                refine zw_iload_n 137 f101_136 rfl (zl1_ne rfl rfl (zl1_ne rfl rfl rfl)) ?_
                refine zw_virtual_i 140 0 0 [.ref 49, .int c] [(0, .ref 49), (1, .int c)] f101_137 rfl n101_298 k101_298_7 rfl (hb_49 _ _ _ _) (by decide +kernel) (Nat.le_of_ble_eq_true rfl) rfl rfl (by decide +kernel) (by decide +kernel) rfl (Nat.le_of_ble_eq_true rfl) rfl ?_
                refine zw_aload_n 1 f40_0 rfl rfl ?_
                refine zw_getfield 4 f40_1 rfl g40_7_7 (hb_49 _ _ _ _) rfl ?_
                refine zw_bipush 13 6 f40_4 rfl (by decide +kernel) ?_
                refine zw_virtual_v 9 0 0 [.ref 44, .int 13] [(0, .ref 44), (1, .int 13)] f40_6 rfl n40_13 k40_13_0 rfl (hb_44 _ _ _ _) (by decide +kernel) (Nat.le_of_ble_eq_true rfl) rfl rfl (by decide +kernel) (by decide +kernel) rfl (Nat.le_of_ble_eq_true rfl) rfl ?_
                refine zw_aload_n 1 f2_0 rfl rfl ?_
                refine zw_getI 0 4 f2_1 rfl g2_15_0 (hb_44 _ _ _ _) rfl rfl ?_
                refine zw_bipush 50 6 f2_4 rfl (by decide +kernel) ?_
                refine zw_ic_ge_f 9 29 f2_6 (by decide +kernel) rfl (by decide +kernel) ?_
                refine zw_aload_n 10 f2_9 rfl rfl ?_
                refine zw_getfield 13 f2_10 rfl g2_9_0 (hb_44 _ _ _ _) rfl ?_
                refine zw_aload_n 14 f2_13 rfl rfl ?_
                refine zw_getI 0 17 f2_14 rfl g2_15_0 (hb_44 _ _ _ _) rfl rfl ?_
                refine zw_iload_n 18 f2_17 rfl rfl ?_
                refine zw_ast 0 _ 19 f2_18 rfl (hb_45 _ _ _ _) (by decide +kernel) (by decide +kernel) (by decide +kernel) (ha_45 _ _ _ _ _) ?_
                refine zw_aload_n 20 f2_19 rfl rfl ?_
                refine zw_dup 21 f2_20 rfl rfl ?_
                refine zw_getI 0 24 f2_21 rfl g2_15_0 (hb_44 _ _ _ _) rfl rfl ?_
                refine zw_iconst 1 25 f2_24 rfl (by decide +kernel) ?_
                refine zw_iadd 1 26 f2_25 rfl (by decide +kernel) ?_
                refine zw_put _ 29 f2_26 rfl g2_15_0 (hb_44 _ _ _ _) rfl (Nat.le_of_ble_eq_true rfl) (by decide +kernel) (hi_44_4 _ _ _ _ _) ?_
                refine zw_vreturn f2_29 r2 u2 ⟨rfl, ?_⟩
                refine zw_aload_n 10 f40_9 rfl rfl ?_
                refine zw_iload_n 11 f40_10 rfl rfl ?_
                refine zw_virtual_i 14 0 0 [.ref 49, .int c] [(0, .ref 49), (1, .int c)] f40_11 rfl n40_27 k40_27_7 rfl (hb_49 _ _ _ _) (by decide +kernel) (Nat.le_of_ble_eq_true rfl) rfl rfl (by decide +kernel) (by decide +kernel) rfl (Nat.le_of_ble_eq_true rfl) rfl ?_
                refine zw_aload_n 1 f38_0 rfl rfl ?_
                refine zw_getfield 4 f38_1 rfl g38_7_7 (hb_49 _ _ _ _) rfl ?_
                refine zw_bipush 11 6 f38_4 rfl (by decide +kernel) ?_
                refine zw_virtual_v 9 0 0 [.ref 44, .int 11] [(0, .ref 44), (1, .int 11)] f38_6 rfl n38_13 k38_13_0 rfl (hb_44 _ _ _ _) (by decide +kernel) (Nat.le_of_ble_eq_true rfl) rfl rfl (by decide +kernel) (by decide +kernel) rfl (Nat.le_of_ble_eq_true rfl) rfl ?_
                refine zw_aload_n 1 f2_0 rfl rfl ?_
                refine zw_getI 1 4 f2_1 rfl g2_15_0 (hb_44 _ _ _ _) rfl rfl ?_
                refine zw_bipush 50 6 f2_4 rfl (by decide +kernel) ?_
                refine zw_ic_ge_f 9 29 f2_6 (by decide +kernel) rfl (by decide +kernel) ?_
                refine zw_aload_n 10 f2_9 rfl rfl ?_
                refine zw_getfield 13 f2_10 rfl g2_9_0 (hb_44 _ _ _ _) rfl ?_
                refine zw_aload_n 14 f2_13 rfl rfl ?_
                refine zw_getI 1 17 f2_14 rfl g2_15_0 (hb_44 _ _ _ _) rfl rfl ?_
                refine zw_iload_n 18 f2_17 rfl rfl ?_
                refine zw_ast 1 _ 19 f2_18 rfl (hb_45 _ _ _ _) (by decide +kernel) (by decide +kernel) (by decide +kernel) (ha_45 _ _ _ _ _) ?_
                refine zw_aload_n 20 f2_19 rfl rfl ?_
                refine zw_dup 21 f2_20 rfl rfl ?_
                refine zw_getI 1 24 f2_21 rfl g2_15_0 (hb_44 _ _ _ _) rfl rfl ?_
                refine zw_iconst 1 25 f2_24 rfl (by decide +kernel) ?_
                refine zw_iadd 2 26 f2_25 rfl (by decide +kernel) ?_
                refine zw_put _ 29 f2_26 rfl g2_15_0 (hb_44 _ _ _ _) rfl (Nat.le_of_ble_eq_true rfl) (by decide +kernel) (hi_44_4 _ _ _ _ _) ?_
                refine zw_vreturn f2_29 r2 u2 ⟨rfl, ?_⟩
                refine zw_aload_n 10 f38_9 rfl rfl ?_
                refine zw_iload_n 11 f38_10 rfl rfl ?_
                refine zw_virtual_i 14 0 0 [.ref 49, .int c] [(0, .ref 49), (1, .int c)] f38_11 rfl n38_23 k38_23_7 rfl (hb_49 _ _ _ _) (by decide +kernel) (Nat.le_of_ble_eq_true rfl) rfl rfl (by decide +kernel) (by decide +kernel) rfl (Nat.le_of_ble_eq_true rfl) rfl ?_
                refine zw_aload_n 1 f35_0 rfl rfl ?_
                refine zw_getfield 4 f35_1 rfl g35_7_7 (hb_49 _ _ _ _) rfl ?_
                refine zw_bipush 30 6 f35_4 rfl (by decide +kernel) ?_
                refine zw_virtual_v 9 0 0 [.ref 44, .int 30] [(0, .ref 44), (1, .int 30)] f35_6 rfl n35_13 k35_13_0 rfl (hb_44 _ _ _ _) (by decide +kernel) (Nat.le_of_ble_eq_true rfl) rfl rfl (by decide +kernel) (by decide +kernel) rfl (Nat.le_of_ble_eq_true rfl) rfl ?_
                refine zw_aload_n 1 f2_0 rfl rfl ?_
                refine zw_getI 2 4 f2_1 rfl g2_15_0 (hb_44 _ _ _ _) rfl rfl ?_
                refine zw_bipush 50 6 f2_4 rfl (by decide +kernel) ?_
                refine zw_ic_ge_f 9 29 f2_6 (by decide +kernel) rfl (by decide +kernel) ?_
                refine zw_aload_n 10 f2_9 rfl rfl ?_
                refine zw_getfield 13 f2_10 rfl g2_9_0 (hb_44 _ _ _ _) rfl ?_
                refine zw_aload_n 14 f2_13 rfl rfl ?_
                refine zw_getI 2 17 f2_14 rfl g2_15_0 (hb_44 _ _ _ _) rfl rfl ?_
                refine zw_iload_n 18 f2_17 rfl rfl ?_
                refine zw_ast 2 _ 19 f2_18 rfl (hb_45 _ _ _ _) (by decide +kernel) (by decide +kernel) (by decide +kernel) (ha_45 _ _ _ _ _) ?_
                refine zw_aload_n 20 f2_19 rfl rfl ?_
                refine zw_dup 21 f2_20 rfl rfl ?_
                refine zw_getI 2 24 f2_21 rfl g2_15_0 (hb_44 _ _ _ _) rfl rfl ?_
                refine zw_iconst 1 25 f2_24 rfl (by decide +kernel) ?_
                refine zw_iadd 3 26 f2_25 rfl (by decide +kernel) ?_
                refine zw_put _ 29 f2_26 rfl g2_15_0 (hb_44 _ _ _ _) rfl (Nat.le_of_ble_eq_true rfl) (by decide +kernel) (hi_44_4 _ _ _ _ _) ?_
                refine zw_vreturn f2_29 r2 u2 ⟨rfl, ?_⟩
                refine zw_aload_n 10 f35_9 rfl rfl ?_
                refine zw_iload_n 11 f35_10 rfl rfl ?_
                refine zw_super_i 14 0 0 [.ref 49, .int c] [(0, .ref 49), (1, .int c)] f35_11 rfl k35_19_99 k35_19_98 (by decide +kernel) rfl (hb_49 _ _ _ _) (by decide +kernel) (Nat.le_of_ble_eq_true rfl) rfl rfl (by decide +kernel) (by decide +kernel) rfl (Nat.le_of_ble_eq_true rfl) rfl ?_
                refine zw_aload_n 1 f37_0 rfl rfl ?_
                refine zw_getfield 4 f37_1 rfl g37_7_7 (hb_49 _ _ _ _) rfl ?_
                refine zw_bipush 10 6 f37_4 rfl (by decide +kernel) ?_
                refine zw_virtual_v 9 0 0 [.ref 44, .int 10] [(0, .ref 44), (1, .int 10)] f37_6 rfl n37_13 k37_13_0 rfl (hb_44 _ _ _ _) (by decide +kernel) (Nat.le_of_ble_eq_true rfl) rfl rfl (by decide +kernel) (by decide +kernel) rfl (Nat.le_of_ble_eq_true rfl) rfl ?_
                refine zw_aload_n 1 f2_0 rfl rfl ?_
                refine zw_getI 3 4 f2_1 rfl g2_15_0 (hb_44 _ _ _ _) rfl rfl ?_
                refine zw_bipush 50 6 f2_4 rfl (by decide +kernel) ?_
                refine zw_ic_ge_f 9 29 f2_6 (by decide +kernel) rfl (by decide +kernel) ?_
                refine zw_aload_n 10 f2_9 rfl rfl ?_
                refine zw_getfield 13 f2_10 rfl g2_9_0 (hb_44 _ _ _ _) rfl ?_
                refine zw_aload_n 14 f2_13 rfl rfl ?_
                refine zw_getI 3 17 f2_14 rfl g2_15_0 (hb_44 _ _ _ _) rfl rfl ?_
                refine zw_iload_n 18 f2_17 rfl rfl ?_
                refine zw_ast 3 _ 19 f2_18 rfl (hb_45 _ _ _ _) (by decide +kernel) (by decide +kernel) (by decide +kernel) (ha_45 _ _ _ _ _) ?_
                refine zw_aload_n 20 f2_19 rfl rfl ?_
                refine zw_dup 21 f2_20 rfl rfl ?_
                refine zw_getI 3 24 f2_21 rfl g2_15_0 (hb_44 _ _ _ _) rfl rfl ?_
                refine zw_iconst 1 25 f2_24 rfl (by decide +kernel) ?_
                refine zw_iadd 4 26 f2_25 rfl (by decide +kernel) ?_
                refine zw_put _ 29 f2_26 rfl g2_15_0 (hb_44 _ _ _ _) rfl (Nat.le_of_ble_eq_true rfl) (by decide +kernel) (hi_44_4 _ _ _ _ _) ?_
                refine zw_vreturn f2_29 r2 u2 ⟨rfl, ?_⟩
                refine zw_iload_n 10 f37_9 rfl rfl ?_
                refine zw_aload_n 11 f37_10 rfl rfl ?_
                refine zw_getfield 14 f37_11 rfl g37_7_7 (hb_49 _ _ _ _) rfl ?_
                refine zw_getI (P 54 a.toNatClampNeg) 17 f37_14 rfl g37_19_0 (hb_44 _ _ _ _) rfl rfl ?_
                refine zw_iadd (c + (P 54 a.toNatClampNeg)) 18 f37_17 rfl rfl ?_
                refine zw_ireturn f37_18 r37 u37 ⟨_, rfl, ?_⟩
                refine zw_iconst 2 15 f35_14 rfl (by decide +kernel) ?_
                refine zw_imul ((c + (P 54 a.toNatClampNeg)) * 2) 16 f35_15 rfl rfl ?_
                refine zw_ireturn f35_16 r35 u35 ⟨_, rfl, ?_⟩
                refine zw_iconst 3 15 f38_14 rfl (by decide +kernel) ?_
                refine zw_imul (((c + (P 54 a.toNatClampNeg)) * 2) * 3) 16 f38_15 rfl rfl ?_
                refine zw_ireturn f38_16 r38 u38 ⟨_, rfl, ?_⟩
                refine zw_aload_n 15 f40_14 rfl rfl ?_
                refine zw_iload_n 16 f40_15 rfl rfl ?_
                refine zw_virtual_i 19 0 0 [.ref 49, .int c] [(0, .ref 49), (1, .int c)] f40_16 rfl n40_30 k40_30_7 rfl (hb_49 _ _ _ _) (by decide +kernel) (Nat.le_of_ble_eq_true rfl) rfl rfl (by decide +kernel) (by decide +kernel) rfl (Nat.le_of_ble_eq_true rfl) rfl ?_
                refine zw_aload_n 1 f39_0 rfl rfl ?_
                refine zw_getfield 4 f39_1 rfl g39_7_7 (hb_49 _ _ _ _) rfl ?_
                refine zw_bipush 12 6 f39_4 rfl (by decide +kernel) ?_
                refine zw_virtual_v 9 0 0 [.ref 44, .int 12] [(0, .ref 44), (1, .int 12)] f39_6 rfl n39_13 k39_13_0 rfl (hb_44 _ _ _ _) (by decide +kernel) (Nat.le_of_ble_eq_true rfl) rfl rfl (by decide +kernel) (by decide +kernel) rfl (Nat.le_of_ble_eq_true rfl) rfl ?_
                refine zw_aload_n 1 f2_0 rfl rfl ?_
                refine zw_getI 4 4 f2_1 rfl g2_15_0 (hb_44 _ _ _ _) rfl rfl ?_
                refine zw_bipush 50 6 f2_4 rfl (by decide +kernel) ?_
                refine zw_ic_ge_f 9 29 f2_6 (by decide +kernel) rfl (by decide +kernel) ?_
                refine zw_aload_n 10 f2_9 rfl rfl ?_
                refine zw_getfield 13 f2_10 rfl g2_9_0 (hb_44 _ _ _ _) rfl ?_
                refine zw_aload_n 14 f2_13 rfl rfl ?_
                refine zw_getI 4 17 f2_14 rfl g2_15_0 (hb_44 _ _ _ _) rfl rfl ?_
                refine zw_iload_n 18 f2_17 rfl rfl ?_
                refine zw_ast 4 _ 19 f2_18 rfl (hb_45 _ _ _ _) (by decide +kernel) (by decide +kernel) (by decide +kernel) (ha_45 _ _ _ _ _) ?_
                refine zw_aload_n 20 f2_19 rfl rfl ?_
                refine zw_dup 21 f2_20 rfl rfl ?_
                refine zw_getI 4 24 f2_21 rfl g2_15_0 (hb_44 _ _ _ _) rfl rfl ?_
                refine zw_iconst 1 25 f2_24 rfl (by decide +kernel) ?_
                refine zw_iadd 5 26 f2_25 rfl (by decide +kernel) ?_
                refine zw_put _ 29 f2_26 rfl g2_15_0 (hb_44 _ _ _ _) rfl (Nat.le_of_ble_eq_true rfl) (by decide +kernel) (hi_44_4 _ _ _ _ _) ?_
                refine zw_vreturn f2_29 r2 u2 ⟨rfl, ?_⟩
                refine zw_iload_n 10 f39_9 rfl rfl ?_
                refine zw_aload_n 11 f39_10 rfl rfl ?_
                refine zw_getfield 14 f39_11 rfl g39_7_7 (hb_49 _ _ _ _) rfl ?_
                refine zw_getI (P 54 a.toNatClampNeg) 17 f39_14 rfl g39_19_0 (hb_44 _ _ _ _) rfl rfl ?_
                refine zw_ixor (c ^^^ (P 54 a.toNatClampNeg)) 18 f39_17 rfl rfl ?_
                refine zw_ireturn f39_18 r39 u39 ⟨_, rfl, ?_⟩
                refine zw_isub ((((c + (P 54 a.toNatClampNeg)) * 2) * 3) - (c ^^^ (P 54 a.toNatClampNeg))) 20 f40_19 rfl rfl ?_
                refine zw_ireturn f40_20 r40 u40 ⟨_, rfl, ?_⟩
                refine zw_virtual_i 143 0 0 [.ref 0, .int ((((c + (P 54 a.toNatClampNeg)) * 2) * 3) - (c ^^^ (P 54 a.toNatClampNeg)))] [(0, .ref 0), (1, .int ((((c + (P 54 a.toNatClampNeg)) * 2) * 3) - (c ^^^ (P 54 a.toNatClampNeg))))] f101_140 rfl n101_181 k101_181_11 rfl (hb_0 _ _ _ _) (by decide +kernel) (Nat.le_of_ble_eq_true rfl) rfl rfl (by decide +kernel) (by decide +kernel) rfl (Nat.le_of_ble_eq_true rfl) rfl ?_
                refine zw_aload_n 1 f106_0 rfl rfl ?_
                refine zw_iconst 0 2 f106_1 rfl (by decide +kernel) ?_
                refine zw_put _ 5 f106_2 rfl g106_70_11 (hb_0 _ _ _ _) rfl (Nat.le_of_ble_eq_true rfl) (by decide +kernel) (hi_0_7 _ _ _ _ _) ?_
                refine zw_iload_n 6 f106_5 rfl rfl ?_
                refine zw_ireturn f106_6 r106 u106 ⟨_, rfl, ?_⟩
                refine zw_ireturn f101_143 r101 u101 ?_
                exact ⟨_, _, _, _, rfl, (KQ.i rfl (KQ.i rfl (KQ.a rfl (KQ.i rfl (KQ.a rfl (KQ.i rfl (KQ.a rfl (KQ.i rfl (KQ.a rfl (KQ.i rfl (KQ.a rfl (KQ.i rfl (KQ.i rfl (KQ.i rfl (KQ.i rfl (KQ.i rfl KQ.rf)))))))))))))))), Or.inr ⟨⟨(qV.ofc (by omega) hc1 hc2), ⟨hc4, hc5⟩⟩, by rw [show an_tl (P 53 a.toNatClampNeg) b = [13, 11, 30, 10, 12] from ((cI_n (sw_ne hs8 (by decide))).trans ((cI_n (sw_ne hs8 (by decide))).trans ((cI_n (sw_ne hs8 (by decide))).trans ((cI_n (kne hk (by decide))).trans ((cI_n (kne hk (by decide))).trans (cI_y hk))))))]; exact ⟨rfl, by intro i hi; rcases (show i = 0 ∨ i = 1 ∨ i = 2 ∨ i = 3 ∨ i = 4 by have q : i < 5 := hi; omega) with rfl | rfl | rfl | rfl | rfl <;> rfl⟩⟩, _, rfl⟩
              · rcases (show hs8k = 0 ∨ hs8k = 1 ∨ hs8k = 2 by omega) with rfl | rfl | rfl
                · refine zw_table_k 25 100 f101_75 hs8e (by decide +kernel) (by decide +kernel) (by decide +kernel) ?_
                  refine zw_aload_n 101 f101_100 rfl (zl1_ne rfl rfl (zl1_ne rfl rfl rfl)) ?_
                  refine zw_aload 103 f101_101 rfl zl1_eq ?_
                  refine zw_iload_n 104 f101_103 rfl (zl1_ne rfl rfl (zl1_ne rfl rfl rfl)) ?_
                  refine zw_virtual_i 107 0 0 [.ref 49, .int c] [(0, .ref 49), (1, .int c)] f101_104 rfl n101_289 k101_289_7 rfl (hb_49 _ _ _ _) (by decide +kernel) (Nat.le_of_ble_eq_true rfl) rfl rfl (by decide +kernel) (by decide +kernel) rfl (Nat.le_of_ble_eq_true rfl) rfl ?_
                  refine zw_aload_n 1 f35_0 rfl rfl ?_
                  refine zw_getfield 4 f35_1 rfl g35_7_7 (hb_49 _ _ _ _) rfl ?_
                  refine zw_bipush 30 6 f35_4 rfl (by decide +kernel) ?_
                  refine zw_virtual_v 9 0 0 [.ref 44, .int 30] [(0, .ref 44), (1, .int 30)] f35_6 rfl n35_13 k35_13_0 rfl (hb_44 _ _ _ _) (by decide +kernel) (Nat.le_of_ble_eq_true rfl) rfl rfl (by decide +kernel) (by decide +kernel) rfl (Nat.le_of_ble_eq_true rfl) rfl ?_
                  refine zw_aload_n 1 f2_0 rfl rfl ?_
                  refine zw_getI 0 4 f2_1 rfl g2_15_0 (hb_44 _ _ _ _) rfl rfl ?_
                  refine zw_bipush 50 6 f2_4 rfl (by decide +kernel) ?_
                  refine zw_ic_ge_f 9 29 f2_6 (by decide +kernel) rfl (by decide +kernel) ?_
                  refine zw_aload_n 10 f2_9 rfl rfl ?_
                  refine zw_getfield 13 f2_10 rfl g2_9_0 (hb_44 _ _ _ _) rfl ?_
                  refine zw_aload_n 14 f2_13 rfl rfl ?_
                  refine zw_getI 0 17 f2_14 rfl g2_15_0 (hb_44 _ _ _ _) rfl rfl ?_
                  refine zw_iload_n 18 f2_17 rfl rfl ?_
                  refine zw_ast 0 _ 19 f2_18 rfl (hb_45 _ _ _ _) (by decide +kernel) (by decide +kernel) (by decide +kernel) (ha_45 _ _ _ _ _) ?_
                  refine zw_aload_n 20 f2_19 rfl rfl ?_
                  refine zw_dup 21 f2_20 rfl rfl ?_
                  refine zw_getI 0 24 f2_21 rfl g2_15_0 (hb_44 _ _ _ _) rfl rfl ?_
                  refine zw_iconst 1 25 f2_24 rfl (by decide +kernel) ?_
                  refine zw_iadd 1 26 f2_25 rfl (by decide +kernel) ?_
                  refine zw_put _ 29 f2_26 rfl g2_15_0 (hb_44 _ _ _ _) rfl (Nat.le_of_ble_eq_true rfl) (by decide +kernel) (hi_44_4 _ _ _ _ _) ?_
                  refine zw_vreturn f2_29 r2 u2 ⟨rfl, ?_⟩
                  refine zw_aload_n 10 f35_9 rfl rfl ?_
                  refine zw_iload_n 11 f35_10 rfl rfl ?_
                  refine zw_super_i 14 0 0 [.ref 49, .int c] [(0, .ref 49), (1, .int c)] f35_11 rfl k35_19_99 k35_19_98 (by decide +kernel) rfl (hb_49 _ _ _ _) (by decide +kernel) (Nat.le_of_ble_eq_true rfl) rfl rfl (by decide +kernel) (by decide +kernel) rfl (Nat.le_of_ble_eq_true rfl) rfl ?_
                  refine zw_aload_n 1 f37_0 rfl rfl ?_
                  refine zw_getfield 4 f37_1 rfl g37_7_7 (hb_49 _ _ _ _) rfl ?_
                  refine zw_bipush 10 6 f37_4 rfl (by decide +kernel) ?_
                  refine zw_virtual_v 9 0 0 [.ref 44, .int 10] [(0, .ref 44), (1, .int 10)] f37_6 rfl n37_13 k37_13_0 rfl (hb_44 _ _ _ _) (by decide +kernel) (Nat.le_of_ble_eq_true rfl) rfl rfl (by decide +kernel) (by decide +kernel) rfl (Nat.le_of_ble_eq_true rfl) rfl ?_
                  refine zw_aload_n 1 f2_0 rfl rfl ?_
                  refine zw_getI 1 4 f2_1 rfl g2_15_0 (hb_44 _ _ _ _) rfl rfl ?_
                  refine zw_bipush 50 6 f2_4 rfl (by decide +kernel) ?_
                  refine zw_ic_ge_f 9 29 f2_6 (by decide +kernel) rfl (by decide +kernel) ?_
                  refine zw_aload_n 10 f2_9 rfl rfl ?_
                  refine zw_getfield 13 f2_10 rfl g2_9_0 (hb_44 _ _ _ _) rfl ?_
                  refine zw_aload_n 14 f2_13 rfl rfl ?_
                  refine zw_getI 1 17 f2_14 rfl g2_15_0 (hb_44 _ _ _ _) rfl rfl ?_
                  refine zw_iload_n 18 f2_17 rfl rfl ?_
                  refine zw_ast 1 _ 19 f2_18 rfl (hb_45 _ _ _ _) (by decide +kernel) (by decide +kernel) (by decide +kernel) (ha_45 _ _ _ _ _) ?_
                  refine zw_aload_n 20 f2_19 rfl rfl ?_
                  refine zw_dup 21 f2_20 rfl rfl ?_
                  refine zw_getI 1 24 f2_21 rfl g2_15_0 (hb_44 _ _ _ _) rfl rfl ?_
                  refine zw_iconst 1 25 f2_24 rfl (by decide +kernel) ?_
                  refine zw_iadd 2 26 f2_25 rfl (by decide +kernel) ?_
                  refine zw_put _ 29 f2_26 rfl g2_15_0 (hb_44 _ _ _ _) rfl (Nat.le_of_ble_eq_true rfl) (by decide +kernel) (hi_44_4 _ _ _ _ _) ?_
                  refine zw_vreturn f2_29 r2 u2 ⟨rfl, ?_⟩
                  refine zw_iload_n 10 f37_9 rfl rfl ?_
                  refine zw_aload_n 11 f37_10 rfl rfl ?_
                  refine zw_getfield 14 f37_11 rfl g37_7_7 (hb_49 _ _ _ _) rfl ?_
                  refine zw_getI (P 54 a.toNatClampNeg) 17 f37_14 rfl g37_19_0 (hb_44 _ _ _ _) rfl rfl ?_
                  refine zw_iadd (c + (P 54 a.toNatClampNeg)) 18 f37_17 rfl rfl ?_
                  refine zw_ireturn f37_18 r37 u37 ⟨_, rfl, ?_⟩
                  refine zw_iconst 2 15 f35_14 rfl (by decide +kernel) ?_
                  refine zw_imul ((c + (P 54 a.toNatClampNeg)) * 2) 16 f35_15 rfl rfl ?_
                  refine zw_ireturn f35_16 r35 u35 ⟨_, rfl, ?_⟩
                  refine zw_virtual_i 110 0 0 [.ref 0, .int ((c + (P 54 a.toNatClampNeg)) * 2)] [(0, .ref 0), (1, .int ((c + (P 54 a.toNatClampNeg)) * 2))] f101_107 rfl n101_181 k101_181_11 rfl (hb_0 _ _ _ _) (by decide +kernel) (Nat.le_of_ble_eq_true rfl) rfl rfl (by decide +kernel) (by decide +kernel) rfl (Nat.le_of_ble_eq_true rfl) rfl ?_
                  refine zw_aload_n 1 f106_0 rfl rfl ?_
                  refine zw_iconst 0 2 f106_1 rfl (by decide +kernel) ?_
                  refine zw_put _ 5 f106_2 rfl g106_70_11 (hb_0 _ _ _ _) rfl (Nat.le_of_ble_eq_true rfl) (by decide +kernel) (hi_0_7 _ _ _ _ _) ?_
                  refine zw_iload_n 6 f106_5 rfl rfl ?_
                  refine zw_ireturn f106_6 r106 u106 ⟨_, rfl, ?_⟩
                  refine zw_ireturn f101_110 r101 u101 ?_
                  exact ⟨_, _, _, _, rfl, (KQ.i rfl (KQ.i rfl (KQ.a rfl (KQ.i rfl (KQ.a rfl (KQ.i rfl (KQ.i rfl (KQ.i rfl (KQ.i rfl (KQ.i rfl KQ.rf)))))))))), Or.inr ⟨⟨(qV.ofc (by omega) hc1 hc2), ⟨hc4, hc5⟩⟩, by rw [show an_tl (P 53 a.toNatClampNeg) b = [30, 10] from ((cI_y (show b = 0 from hs8e)).trans ((cI_n (kne hk (by decide))).trans ((cI_n (kne hk (by decide))).trans (cI_y hk))))]; exact ⟨rfl, by intro i hi; rcases (show i = 0 ∨ i = 1 by have q : i < 2 := hi; omega) with rfl | rfl <;> rfl⟩⟩, _, rfl⟩
                · refine zw_table_k 36 111 f101_75 hs8e (by decide +kernel) (by decide +kernel) (by decide +kernel) ?_
                  refine zw_aload_n 112 f101_111 rfl (zl1_ne rfl rfl (zl1_ne rfl rfl rfl)) ?_
                  refine zw_aload 114 f101_112 rfl zl1_eq ?_
                  refine zw_iload_n 115 f101_114 rfl (zl1_ne rfl rfl (zl1_ne rfl rfl rfl)) ?_
                  refine zw_virtual_i 118 0 0 [.ref 49, .int c] [(0, .ref 49), (1, .int c)] f101_115 rfl n101_292 k101_292_7 rfl (hb_49 _ _ _ _) (by decide +kernel) (Nat.le_of_ble_eq_true rfl) rfl rfl (by decide +kernel) (by decide +kernel) rfl (Nat.le_of_ble_eq_true rfl) rfl ?_
                  refine zw_aload_n 1 f38_0 rfl rfl ?_
                  refine zw_getfield 4 f38_1 rfl g38_7_7 (hb_49 _ _ _ _) rfl ?_
                  refine zw_bipush 11 6 f38_4 rfl (by decide +kernel) ?_
                  refine zw_virtual_v 9 0 0 [.ref 44, .int 11] [(0, .ref 44), (1, .int 11)] f38_6 rfl n38_13 k38_13_0 rfl (hb_44 _ _ _ _) (by decide +kernel) (Nat.le_of_ble_eq_true rfl) rfl rfl (by decide +kernel) (by decide +kernel) rfl (Nat.le_of_ble_eq_true rfl) rfl ?_
                  refine zw_aload_n 1 f2_0 rfl rfl ?_
                  refine zw_getI 0 4 f2_1 rfl g2_15_0 (hb_44 _ _ _ _) rfl rfl ?_
                  refine zw_bipush 50 6 f2_4 rfl (by decide +kernel) ?_
                  refine zw_ic_ge_f 9 29 f2_6 (by decide +kernel) rfl (by decide +kernel) ?_
                  refine zw_aload_n 10 f2_9 rfl rfl ?_
                  refine zw_getfield 13 f2_10 rfl g2_9_0 (hb_44 _ _ _ _) rfl ?_
                  refine zw_aload_n 14 f2_13 rfl rfl ?_
                  refine zw_getI 0 17 f2_14 rfl g2_15_0 (hb_44 _ _ _ _) rfl rfl ?_
                  refine zw_iload_n 18 f2_17 rfl rfl ?_
                  refine zw_ast 0 _ 19 f2_18 rfl (hb_45 _ _ _ _) (by decide +kernel) (by decide +kernel) (by decide +kernel) (ha_45 _ _ _ _ _) ?_
                  refine zw_aload_n 20 f2_19 rfl rfl ?_
                  refine zw_dup 21 f2_20 rfl rfl ?_
                  refine zw_getI 0 24 f2_21 rfl g2_15_0 (hb_44 _ _ _ _) rfl rfl ?_
                  refine zw_iconst 1 25 f2_24 rfl (by decide +kernel) ?_
                  refine zw_iadd 1 26 f2_25 rfl (by decide +kernel) ?_
                  refine zw_put _ 29 f2_26 rfl g2_15_0 (hb_44 _ _ _ _) rfl (Nat.le_of_ble_eq_true rfl) (by decide +kernel) (hi_44_4 _ _ _ _ _) ?_
                  refine zw_vreturn f2_29 r2 u2 ⟨rfl, ?_⟩
                  refine zw_aload_n 10 f38_9 rfl rfl ?_
                  refine zw_iload_n 11 f38_10 rfl rfl ?_
                  refine zw_virtual_i 14 0 0 [.ref 49, .int c] [(0, .ref 49), (1, .int c)] f38_11 rfl n38_23 k38_23_7 rfl (hb_49 _ _ _ _) (by decide +kernel) (Nat.le_of_ble_eq_true rfl) rfl rfl (by decide +kernel) (by decide +kernel) rfl (Nat.le_of_ble_eq_true rfl) rfl ?_
                  refine zw_aload_n 1 f35_0 rfl rfl ?_
                  refine zw_getfield 4 f35_1 rfl g35_7_7 (hb_49 _ _ _ _) rfl ?_
                  refine zw_bipush 30 6 f35_4 rfl (by decide +kernel) ?_
                  refine zw_virtual_v 9 0 0 [.ref 44, .int 30] [(0, .ref 44), (1, .int 30)] f35_6 rfl n35_13 k35_13_0 rfl (hb_44 _ _ _ _) (by decide +kernel) (Nat.le_of_ble_eq_true rfl) rfl rfl (by decide +kernel) (by decide +kernel) rfl (Nat.le_of_ble_eq_true rfl) rfl ?_
                  refine zw_aload_n 1 f2_0 rfl rfl ?_
                  refine zw_getI 1 4 f2_1 rfl g2_15_0 (hb_44 _ _ _ _) rfl rfl ?_
                  refine zw_bipush 50 6 f2_4 rfl (by decide +kernel) ?_
                  refine zw_ic_ge_f 9 29 f2_6 (by decide +kernel) rfl (by decide +kernel) ?_
                  refine zw_aload_n 10 f2_9 rfl rfl ?_
                  refine zw_getfield 13 f2_10 rfl g2_9_0 (hb_44 _ _ _ _) rfl ?_
                  refine zw_aload_n 14 f2_13 rfl rfl ?_
                  refine zw_getI 1 17 f2_14 rfl g2_15_0 (hb_44 _ _ _ _) rfl rfl ?_
                  refine zw_iload_n 18 f2_17 rfl rfl ?_
                  refine zw_ast 1 _ 19 f2_18 rfl (hb_45 _ _ _ _) (by decide +kernel) (by decide +kernel) (by decide +kernel) (ha_45 _ _ _ _ _) ?_
                  refine zw_aload_n 20 f2_19 rfl rfl ?_
                  refine zw_dup 21 f2_20 rfl rfl ?_
                  refine zw_getI 1 24 f2_21 rfl g2_15_0 (hb_44 _ _ _ _) rfl rfl ?_
                  refine zw_iconst 1 25 f2_24 rfl (by decide +kernel) ?_
                  refine zw_iadd 2 26 f2_25 rfl (by decide +kernel) ?_
                  refine zw_put _ 29 f2_26 rfl g2_15_0 (hb_44 _ _ _ _) rfl (Nat.le_of_ble_eq_true rfl) (by decide +kernel) (hi_44_4 _ _ _ _ _) ?_
                  refine zw_vreturn f2_29 r2 u2 ⟨rfl, ?_⟩
                  refine zw_aload_n 10 f35_9 rfl rfl ?_
                  refine zw_iload_n 11 f35_10 rfl rfl ?_
                  refine zw_super_i 14 0 0 [.ref 49, .int c] [(0, .ref 49), (1, .int c)] f35_11 rfl k35_19_99 k35_19_98 (by decide +kernel) rfl (hb_49 _ _ _ _) (by decide +kernel) (Nat.le_of_ble_eq_true rfl) rfl rfl (by decide +kernel) (by decide +kernel) rfl (Nat.le_of_ble_eq_true rfl) rfl ?_
                  refine zw_aload_n 1 f37_0 rfl rfl ?_
                  refine zw_getfield 4 f37_1 rfl g37_7_7 (hb_49 _ _ _ _) rfl ?_
                  refine zw_bipush 10 6 f37_4 rfl (by decide +kernel) ?_
                  refine zw_virtual_v 9 0 0 [.ref 44, .int 10] [(0, .ref 44), (1, .int 10)] f37_6 rfl n37_13 k37_13_0 rfl (hb_44 _ _ _ _) (by decide +kernel) (Nat.le_of_ble_eq_true rfl) rfl rfl (by decide +kernel) (by decide +kernel) rfl (Nat.le_of_ble_eq_true rfl) rfl ?_
                  refine zw_aload_n 1 f2_0 rfl rfl ?_
                  refine zw_getI 2 4 f2_1 rfl g2_15_0 (hb_44 _ _ _ _) rfl rfl ?_
                  refine zw_bipush 50 6 f2_4 rfl (by decide +kernel) ?_
                  refine zw_ic_ge_f 9 29 f2_6 (by decide +kernel) rfl (by decide +kernel) ?_
                  refine zw_aload_n 10 f2_9 rfl rfl ?_
                  refine zw_getfield 13 f2_10 rfl g2_9_0 (hb_44 _ _ _ _) rfl ?_
                  refine zw_aload_n 14 f2_13 rfl rfl ?_
                  refine zw_getI 2 17 f2_14 rfl g2_15_0 (hb_44 _ _ _ _) rfl rfl ?_
                  refine zw_iload_n 18 f2_17 rfl rfl ?_
                  refine zw_ast 2 _ 19 f2_18 rfl (hb_45 _ _ _ _) (by decide +kernel) (by decide +kernel) (by decide +kernel) (ha_45 _ _ _ _ _) ?_
                  refine zw_aload_n 20 f2_19 rfl rfl ?_
                  refine zw_dup 21 f2_20 rfl rfl ?_
                  refine zw_getI 2 24 f2_21 rfl g2_15_0 (hb_44 _ _ _ _) rfl rfl ?_
                  refine zw_iconst 1 25 f2_24 rfl (by decide +kernel) ?_
                  refine zw_iadd 3 26 f2_25 rfl (by decide +kernel) ?_
                  refine zw_put _ 29 f2_26 rfl g2_15_0 (hb_44 _ _ _ _) rfl (Nat.le_of_ble_eq_true rfl) (by decide +kernel) (hi_44_4 _ _ _ _ _) ?_
                  refine zw_vreturn f2_29 r2 u2 ⟨rfl, ?_⟩
                  refine zw_iload_n 10 f37_9 rfl rfl ?_
                  refine zw_aload_n 11 f37_10 rfl rfl ?_
                  refine zw_getfield 14 f37_11 rfl g37_7_7 (hb_49 _ _ _ _) rfl ?_
                  refine zw_getI (P 54 a.toNatClampNeg) 17 f37_14 rfl g37_19_0 (hb_44 _ _ _ _) rfl rfl ?_
                  refine zw_iadd (c + (P 54 a.toNatClampNeg)) 18 f37_17 rfl rfl ?_
                  refine zw_ireturn f37_18 r37 u37 ⟨_, rfl, ?_⟩
                  refine zw_iconst 2 15 f35_14 rfl (by decide +kernel) ?_
                  refine zw_imul ((c + (P 54 a.toNatClampNeg)) * 2) 16 f35_15 rfl rfl ?_
                  refine zw_ireturn f35_16 r35 u35 ⟨_, rfl, ?_⟩
                  refine zw_iconst 3 15 f38_14 rfl (by decide +kernel) ?_
                  refine zw_imul (((c + (P 54 a.toNatClampNeg)) * 2) * 3) 16 f38_15 rfl rfl ?_
                  refine zw_ireturn f38_16 r38 u38 ⟨_, rfl, ?_⟩
                  refine zw_virtual_i 121 0 0 [.ref 0, .int (((c + (P 54 a.toNatClampNeg)) * 2) * 3)] [(0, .ref 0), (1, .int (((c + (P 54 a.toNatClampNeg)) * 2) * 3))] f101_118 rfl n101_181 k101_181_11 rfl (hb_0 _ _ _ _) (by decide +kernel) (Nat.le_of_ble_eq_true rfl) rfl rfl (by decide +kernel) (by decide +kernel) rfl (Nat.le_of_ble_eq_true rfl) rfl ?_
                  refine zw_aload_n 1 f106_0 rfl rfl ?_
                  refine zw_iconst 0 2 f106_1 rfl (by decide +kernel) ?_
                  refine zw_put _ 5 f106_2 rfl g106_70_11 (hb_0 _ _ _ _) rfl (Nat.le_of_ble_eq_true rfl) (by decide +kernel) (hi_0_7 _ _ _ _ _) ?_
                  refine zw_iload_n 6 f106_5 rfl rfl ?_
                  refine zw_ireturn f106_6 r106 u106 ⟨_, rfl, ?_⟩
                  refine zw_ireturn f101_121 r101 u101 ?_
                  exact ⟨_, _, _, _, rfl, (KQ.i rfl (KQ.i rfl (KQ.a rfl (KQ.i rfl (KQ.a rfl (KQ.i rfl (KQ.a rfl (KQ.i rfl (KQ.i rfl (KQ.i rfl (KQ.i rfl (KQ.i rfl KQ.rf)))))))))))), Or.inr ⟨⟨(qV.ofc (by omega) hc1 hc2), ⟨hc4, hc5⟩⟩, by rw [show an_tl (P 53 a.toNatClampNeg) b = [11, 30, 10] from ((cI_n (kne (show b = 1 from hs8e) (by decide))).trans ((cI_y (show b = 1 from hs8e)).trans ((cI_n (kne hk (by decide))).trans ((cI_n (kne hk (by decide))).trans (cI_y hk)))))]; exact ⟨rfl, by intro i hi; rcases (show i = 0 ∨ i = 1 ∨ i = 2 by have q : i < 3 := hi; omega) with rfl | rfl | rfl <;> rfl⟩⟩, _, rfl⟩
                · refine zw_table_k 47 122 f101_75 hs8e (by decide +kernel) (by decide +kernel) (by decide +kernel) ?_
                  refine zw_aload_n 123 f101_122 rfl (zl1_ne rfl rfl (zl1_ne rfl rfl rfl)) ?_
                  refine zw_aload 125 f101_123 rfl zl1_eq ?_
                  refine zw_iload_n 126 f101_125 rfl (zl1_ne rfl rfl (zl1_ne rfl rfl rfl)) ?_
                  refine zw_virtual_i 129 0 0 [.ref 49, .int c] [(0, .ref 49), (1, .int c)] f101_126 rfl n101_295 k101_295_7 rfl (hb_49 _ _ _ _) (by decide +kernel) (Nat.le_of_ble_eq_true rfl) rfl rfl (by decide +kernel) (by decide +kernel) rfl (Nat.le_of_ble_eq_true rfl) rfl ?_
                  refine zw_aload_n 1 f39_0 rfl rfl ?_
                  refine zw_getfield 4 f39_1 rfl g39_7_7 (hb_49 _ _ _ _) rfl ?_
                  refine zw_bipush 12 6 f39_4 rfl (by decide +kernel) ?_
                  refine zw_virtual_v 9 0 0 [.ref 44, .int 12] [(0, .ref 44), (1, .int 12)] f39_6 rfl n39_13 k39_13_0 rfl (hb_44 _ _ _ _) (by decide +kernel) (Nat.le_of_ble_eq_true rfl) rfl rfl (by decide +kernel) (by decide +kernel) rfl (Nat.le_of_ble_eq_true rfl) rfl ?_
                  refine zw_aload_n 1 f2_0 rfl rfl ?_
                  refine zw_getI 0 4 f2_1 rfl g2_15_0 (hb_44 _ _ _ _) rfl rfl ?_
                  refine zw_bipush 50 6 f2_4 rfl (by decide +kernel) ?_
                  refine zw_ic_ge_f 9 29 f2_6 (by decide +kernel) rfl (by decide +kernel) ?_
                  refine zw_aload_n 10 f2_9 rfl rfl ?_
                  refine zw_getfield 13 f2_10 rfl g2_9_0 (hb_44 _ _ _ _) rfl ?_
                  refine zw_aload_n 14 f2_13 rfl rfl ?_
                  refine zw_getI 0 17 f2_14 rfl g2_15_0 (hb_44 _ _ _ _) rfl rfl ?_
                  refine zw_iload_n 18 f2_17 rfl rfl ?_
                  refine zw_ast 0 _ 19 f2_18 rfl (hb_45 _ _ _ _) (by decide +kernel) (by decide +kernel) (by decide +kernel) (ha_45 _ _ _ _ _) ?_
                  refine zw_aload_n 20 f2_19 rfl rfl ?_
                  refine zw_dup 21 f2_20 rfl rfl ?_
                  refine zw_getI 0 24 f2_21 rfl g2_15_0 (hb_44 _ _ _ _) rfl rfl ?_
                  refine zw_iconst 1 25 f2_24 rfl (by decide +kernel) ?_
                  refine zw_iadd 1 26 f2_25 rfl (by decide +kernel) ?_
                  refine zw_put _ 29 f2_26 rfl g2_15_0 (hb_44 _ _ _ _) rfl (Nat.le_of_ble_eq_true rfl) (by decide +kernel) (hi_44_4 _ _ _ _ _) ?_
                  refine zw_vreturn f2_29 r2 u2 ⟨rfl, ?_⟩
                  refine zw_iload_n 10 f39_9 rfl rfl ?_
                  refine zw_aload_n 11 f39_10 rfl rfl ?_
                  refine zw_getfield 14 f39_11 rfl g39_7_7 (hb_49 _ _ _ _) rfl ?_
                  refine zw_getI (P 54 a.toNatClampNeg) 17 f39_14 rfl g39_19_0 (hb_44 _ _ _ _) rfl rfl ?_
                  refine zw_ixor (c ^^^ (P 54 a.toNatClampNeg)) 18 f39_17 rfl rfl ?_
                  refine zw_ireturn f39_18 r39 u39 ⟨_, rfl, ?_⟩
                  refine zw_virtual_i 132 0 0 [.ref 0, .int (c ^^^ (P 54 a.toNatClampNeg))] [(0, .ref 0), (1, .int (c ^^^ (P 54 a.toNatClampNeg)))] f101_129 rfl n101_181 k101_181_11 rfl (hb_0 _ _ _ _) (by decide +kernel) (Nat.le_of_ble_eq_true rfl) rfl rfl (by decide +kernel) (by decide +kernel) rfl (Nat.le_of_ble_eq_true rfl) rfl ?_
                  refine zw_aload_n 1 f106_0 rfl rfl ?_
                  refine zw_iconst 0 2 f106_1 rfl (by decide +kernel) ?_
                  refine zw_put _ 5 f106_2 rfl g106_70_11 (hb_0 _ _ _ _) rfl (Nat.le_of_ble_eq_true rfl) (by decide +kernel) (hi_0_7 _ _ _ _ _) ?_
                  refine zw_iload_n 6 f106_5 rfl rfl ?_
                  refine zw_ireturn f106_6 r106 u106 ⟨_, rfl, ?_⟩
                  refine zw_ireturn f101_132 r101 u101 ?_
                  exact ⟨_, _, _, _, rfl, (KQ.i rfl (KQ.i rfl (KQ.a rfl (KQ.i rfl (KQ.i rfl (KQ.i rfl (KQ.i rfl (KQ.i rfl KQ.rf)))))))), Or.inr ⟨⟨(qV.ofc (by omega) hc1 hc2), ⟨hc4, hc5⟩⟩, by rw [show an_tl (P 53 a.toNatClampNeg) b = [12] from ((cI_n (kne (show b = 2 from hs8e) (by decide))).trans ((cI_n (kne (show b = 2 from hs8e) (by decide))).trans ((cI_y (show b = 2 from hs8e)).trans ((cI_n (kne hk (by decide))).trans ((cI_n (kne hk (by decide))).trans (cI_y hk))))))]; exact ⟨rfl, by intro i hi; rcases (show i = 0 by have q : i < 1 := hi; omega) with rfl <;> rfl⟩⟩, _, rfl⟩
            · refine zw_aaload 3 42 f101_41 rfl (hb_46 _ _ _ _) (by rw [hk]; decide) (by rw [hk]; decide) (by decide) rfl ?_
              refine zw_astore _ 44 f101_42 rfl (by decide +kernel) rfl ?_
              refine zw_aload 46 f101_44 rfl zl1_eq ?_
              refine zw_ifnonnull 55 f101_46 (by decide +kernel) ?_
              refine zw_aload_n 56 f101_55 rfl (zl1_ne rfl rfl (zl1_ne rfl rfl rfl)) ?_
              refine zw_getfield 59 f101_56 rfl g101_45_11 (hb_0 _ _ _ _) rfl ?_
              refine zw_aload_n 60 f101_59 rfl (zl1_ne rfl rfl (zl1_ne rfl rfl rfl)) ?_
              refine zw_getfield 63 f101_60 rfl g101_10_11 (hb_0 _ _ _ _) rfl ?_
              refine zw_aload_n 64 f101_63 rfl (zl1_ne rfl rfl (zl1_ne rfl rfl rfl)) ?_
              refine zw_getfield 67 f101_64 rfl g101_21_11 (hb_0 _ _ _ _) rfl ?_
              refine zw_getfield 70 f101_67 rfl g101_134_10 (hb_11 _ _ _ _) rfl ?_
              refine zw_iload_n 71 f101_70 rfl (zl1_ne rfl rfl (zl1_ne rfl rfl rfl)) ?_
              refine zw_virtual_v 74 0 0 [.ref 44, .ref 1, .ref 12, .int a] [(0, .ref 44), (1, .ref 1), (2, .ref 12), (3, .int a)] f101_71 rfl n101_285 k101_285_0 rfl (hb_44 _ _ _ _) (by decide +kernel) (Nat.le_of_ble_eq_true rfl) rfl rfl (by decide +kernel) (by decide +kernel) rfl (Nat.le_of_ble_eq_true rfl) rfl ?_
              refine zw_aload_n 1 f1_0 rfl rfl ?_
              refine zw_iconst 0 2 f1_1 rfl (by decide +kernel) ?_
              refine zw_put _ 5 f1_2 rfl g1_15_0 (hb_44 _ _ _ _) rfl (Nat.le_of_ble_eq_true rfl) (by decide +kernel) (hi_44_4 _ _ _ _ _) ?_
              refine zw_aload_n 6 f1_5 rfl rfl ?_
              refine zw_iload_n 7 f1_6 rfl rfl ?_
              refine zw_virtual_i 10 0 0 [.ref 1, .int a] [(0, .ref 1), (1, .int a)] f1_7 rfl n1_19 k1_19_4 rfl (hb_1 _ _ _ _) (by decide +kernel) (Nat.le_of_ble_eq_true rfl) rfl rfl (by decide +kernel) (by decide +kernel) rfl (Nat.le_of_ble_eq_true rfl) rfl ?_
              refine zw_iload_n 1 f13_0 rfl rfl ?_
              refine zw_if_lt_f 4 22 f13_1 (by decide +kernel) rfl hc1 ?_
              refine zw_iload_n 5 f13_4 rfl rfl ?_
              refine zw_aload_n 6 f13_5 rfl rfl ?_
              refine zw_getI (nI nv) 9 f13_6 rfl g13_39_4 (hb_1 _ _ _ _) rfl hR.1.1 ?_
              refine zw_ic_ge_f 12 22 f13_9 (by decide +kernel) rfl hc2 ?_
              refine zw_iload_n 13 f13_12 rfl rfl ?_
              refine zw_bipush 8 15 f13_13 rfl (by decide +kernel) ?_
              refine zw_ic_ge_f 18 22 f13_15 (by decide +kernel) rfl hc3 ?_
              refine zw_iconst 1 19 f13_18 rfl (by decide +kernel) ?_
              refine zw_goto 23 f13_19 (by decide +kernel) ?_
              refine zw_zreturn f13_23 r13 u13 (by decide +kernel) ⟨_, rfl, ?_⟩
              refine zw_if_eq_f 13 53 f1_10 (by decide +kernel) rfl (by decide +kernel) ?_
              refine zw_aload_n 14 f1_13 rfl rfl ?_
              refine zw_aload_n 15 f1_14 rfl rfl ?_
              refine zw_getfield 18 f1_15 rfl g1_25_4 (hb_1 _ _ _ _) rfl ?_
              refine zw_iload_n 19 f1_18 rfl rfl ?_
              refine zw_iaload a.toNatClampNeg (P 54 a.toNatClampNeg) 20 f1_19 rfl (hb_3 _ _ _ _) rfl hc1 (zix (by decide) hc1 hc3) (congrFun ((hR.2.1 54 (by omega) (by omega))) a.toNatClampNeg) ?_
              refine zw_put _ 23 f1_20 rfl g1_28_0 (hb_44 _ _ _ _) rfl (Nat.le_of_ble_eq_true rfl) (by decide +kernel) (hi_44_0 _ _ _ _ _) ?_
              refine zw_aload_n 24 f1_23 rfl rfl ?_
              refine zw_aload_n 25 f1_24 rfl rfl ?_
              refine zw_getfield 28 f1_25 rfl g1_31_4 (hb_1 _ _ _ _) rfl ?_
              refine zw_iload_n 29 f1_28 rfl rfl ?_
              refine zw_iaload a.toNatClampNeg (P 55 a.toNatClampNeg) 30 f1_29 rfl (hb_4 _ _ _ _) rfl hc1 (zix (by decide) hc1 hc3) (congrFun ((hR.2.1 55 (by omega) (by omega))) a.toNatClampNeg) ?_
              refine zw_put _ 33 f1_30 rfl g1_34_0 (hb_44 _ _ _ _) rfl (Nat.le_of_ble_eq_true rfl) (by decide +kernel) (hi_44_1 _ _ _ _ _) ?_
              refine zw_aload_n 34 f1_33 rfl rfl ?_
              refine zw_aload_n 35 f1_34 rfl rfl ?_
              refine zw_getfield 38 f1_35 rfl g1_37_4 (hb_1 _ _ _ _) rfl ?_
              refine zw_iload_n 39 f1_38 rfl rfl ?_
              refine zw_iaload a.toNatClampNeg (P 56 a.toNatClampNeg) 40 f1_39 rfl (hb_5 _ _ _ _) rfl hc1 (zix (by decide) hc1 hc3) (congrFun ((hR.2.1 56 (by omega) (by omega))) a.toNatClampNeg) ?_
              refine zw_put _ 43 f1_40 rfl g1_40_0 (hb_44 _ _ _ _) rfl (Nat.le_of_ble_eq_true rfl) (by decide +kernel) (hi_44_2 _ _ _ _ _) ?_
              refine zw_aload_n 44 f1_43 rfl rfl ?_
              refine zw_aload_n 45 f1_44 rfl rfl ?_
              refine zw_getfield 48 f1_45 rfl g1_43_9 (hb_12 _ _ _ _) rfl ?_
              refine zw_iload_n 49 f1_48 rfl rfl ?_
              refine zw_iaload a.toNatClampNeg (A 14 a.toNatClampNeg) 50 f1_49 rfl (hb_14 _ _ _ _) rfl hc1 (zix (by decide) hc1 hc3) rfl ?_
              refine zw_put _ 53 f1_50 rfl g1_48_0 (hb_44 _ _ _ _) rfl (Nat.le_of_ble_eq_true rfl) (by decide +kernel) (hi_44_3 _ _ _ _ _) ?_
              refine zw_vreturn f1_53 r1 u1 ⟨rfl, ?_⟩
              refine zw_iload_n 75 f101_74 rfl (zl1_ne rfl rfl (zl1_ne rfl rfl rfl)) ?_
              rcases zl_sw 2 (by decide) b with hs9 | ⟨hs9k, hs9l, hs9e⟩
              · refine zw_table_o 133 f101_75 hs9 (by decide +kernel) ?_
                refine zw_aload_n 134 f101_133 rfl (zl1_ne rfl rfl (zl1_ne rfl rfl rfl)) ?_
                refine zw_aload 136 f101_134 rfl zl1_eq ?_
                refine zw_iload_n 137 f101_136 rfl (zl1_ne rfl rfl (zl1_ne rfl rfl rfl)) ?_
                refine zw_virtual_i 140 0 0 [.ref 50, .int c] [(0, .ref 50), (1, .int c)] f101_137 rfl n101_298 k101_298_2 rfl (hb_50 _ _ _ _) (by decide +kernel) (Nat.le_of_ble_eq_true rfl) rfl rfl (by decide +kernel) (by decide +kernel) rfl (Nat.le_of_ble_eq_true rfl) rfl ?_
                refine zw_aload_n 1 f40_0 rfl rfl ?_
                refine zw_getfield 4 f40_1 rfl g40_7_2 (hb_50 _ _ _ _) rfl ?_
                refine zw_bipush 13 6 f40_4 rfl (by decide +kernel) ?_
                refine zw_virtual_v 9 0 0 [.ref 44, .int 13] [(0, .ref 44), (1, .int 13)] f40_6 rfl n40_13 k40_13_0 rfl (hb_44 _ _ _ _) (by decide +kernel) (Nat.le_of_ble_eq_true rfl) rfl rfl (by decide +kernel) (by decide +kernel) rfl (Nat.le_of_ble_eq_true rfl) rfl ?_
                refine zw_aload_n 1 f2_0 rfl rfl ?_
                refine zw_getI 0 4 f2_1 rfl g2_15_0 (hb_44 _ _ _ _) rfl rfl ?_
                refine zw_bipush 50 6 f2_4 rfl (by decide +kernel) ?_
                refine zw_ic_ge_f 9 29 f2_6 (by decide +kernel) rfl (by decide +kernel) ?_
                refine zw_aload_n 10 f2_9 rfl rfl ?_
                refine zw_getfield 13 f2_10 rfl g2_9_0 (hb_44 _ _ _ _) rfl ?_
                refine zw_aload_n 14 f2_13 rfl rfl ?_
                refine zw_getI 0 17 f2_14 rfl g2_15_0 (hb_44 _ _ _ _) rfl rfl ?_
                refine zw_iload_n 18 f2_17 rfl rfl ?_
                refine zw_ast 0 _ 19 f2_18 rfl (hb_45 _ _ _ _) (by decide +kernel) (by decide +kernel) (by decide +kernel) (ha_45 _ _ _ _ _) ?_
                refine zw_aload_n 20 f2_19 rfl rfl ?_
                refine zw_dup 21 f2_20 rfl rfl ?_
                refine zw_getI 0 24 f2_21 rfl g2_15_0 (hb_44 _ _ _ _) rfl rfl ?_
                refine zw_iconst 1 25 f2_24 rfl (by decide +kernel) ?_
                refine zw_iadd 1 26 f2_25 rfl (by decide +kernel) ?_
                refine zw_put _ 29 f2_26 rfl g2_15_0 (hb_44 _ _ _ _) rfl (Nat.le_of_ble_eq_true rfl) (by decide +kernel) (hi_44_4 _ _ _ _ _) ?_
                refine zw_vreturn f2_29 r2 u2 ⟨rfl, ?_⟩
                refine zw_aload_n 10 f40_9 rfl rfl ?_
                refine zw_iload_n 11 f40_10 rfl rfl ?_
                refine zw_virtual_i 14 0 0 [.ref 50, .int c] [(0, .ref 50), (1, .int c)] f40_11 rfl n40_27 k40_27_2 rfl (hb_50 _ _ _ _) (by decide +kernel) (Nat.le_of_ble_eq_true rfl) rfl rfl (by decide +kernel) (by decide +kernel) rfl (Nat.le_of_ble_eq_true rfl) rfl ?_
                refine zw_aload_n 1 f38_0 rfl rfl ?_
                refine zw_getfield 4 f38_1 rfl g38_7_2 (hb_50 _ _ _ _) rfl ?_
                refine zw_bipush 11 6 f38_4 rfl (by decide +kernel) ?_
                refine zw_virtual_v 9 0 0 [.ref 44, .int 11] [(0, .ref 44), (1, .int 11)] f38_6 rfl n38_13 k38_13_0 rfl (hb_44 _ _ _ _) (by decide +kernel) (Nat.le_of_ble_eq_true rfl) rfl rfl (by decide +kernel) (by decide +kernel) rfl (Nat.le_of_ble_eq_true rfl) rfl ?_
                refine zw_aload_n 1 f2_0 rfl rfl ?_
                refine zw_getI 1 4 f2_1 rfl g2_15_0 (hb_44 _ _ _ _) rfl rfl ?_
                refine zw_bipush 50 6 f2_4 rfl (by decide +kernel) ?_
                refine zw_ic_ge_f 9 29 f2_6 (by decide +kernel) rfl (by decide +kernel) ?_
                refine zw_aload_n 10 f2_9 rfl rfl ?_
                refine zw_getfield 13 f2_10 rfl g2_9_0 (hb_44 _ _ _ _) rfl ?_
                refine zw_aload_n 14 f2_13 rfl rfl ?_
                refine zw_getI 1 17 f2_14 rfl g2_15_0 (hb_44 _ _ _ _) rfl rfl ?_
                refine zw_iload_n 18 f2_17 rfl rfl ?_
                refine zw_ast 1 _ 19 f2_18 rfl (hb_45 _ _ _ _) (by decide +kernel) (by decide +kernel) (by decide +kernel) (ha_45 _ _ _ _ _) ?_
                refine zw_aload_n 20 f2_19 rfl rfl ?_
                refine zw_dup 21 f2_20 rfl rfl ?_
                refine zw_getI 1 24 f2_21 rfl g2_15_0 (hb_44 _ _ _ _) rfl rfl ?_
                refine zw_iconst 1 25 f2_24 rfl (by decide +kernel) ?_
                refine zw_iadd 2 26 f2_25 rfl (by decide +kernel) ?_
                refine zw_put _ 29 f2_26 rfl g2_15_0 (hb_44 _ _ _ _) rfl (Nat.le_of_ble_eq_true rfl) (by decide +kernel) (hi_44_4 _ _ _ _ _) ?_
                refine zw_vreturn f2_29 r2 u2 ⟨rfl, ?_⟩
                refine zw_aload_n 10 f38_9 rfl rfl ?_
                refine zw_iload_n 11 f38_10 rfl rfl ?_
                refine zw_virtual_i 14 0 0 [.ref 50, .int c] [(0, .ref 50), (1, .int c)] f38_11 rfl n38_23 k38_23_2 rfl (hb_50 _ _ _ _) (by decide +kernel) (Nat.le_of_ble_eq_true rfl) rfl rfl (by decide +kernel) (by decide +kernel) rfl (Nat.le_of_ble_eq_true rfl) rfl ?_
                refine zw_aload_n 1 f8_0 rfl rfl ?_
                refine zw_getfield 4 f8_1 rfl g8_7_2 (hb_50 _ _ _ _) rfl ?_
                refine zw_bipush 41 6 f8_4 rfl (by decide +kernel) ?_
                refine zw_virtual_v 9 0 0 [.ref 44, .int 41] [(0, .ref 44), (1, .int 41)] f8_6 rfl n8_13 k8_13_0 rfl (hb_44 _ _ _ _) (by decide +kernel) (Nat.le_of_ble_eq_true rfl) rfl rfl (by decide +kernel) (by decide +kernel) rfl (Nat.le_of_ble_eq_true rfl) rfl ?_
                refine zw_aload_n 1 f2_0 rfl rfl ?_
                refine zw_getI 2 4 f2_1 rfl g2_15_0 (hb_44 _ _ _ _) rfl rfl ?_
                refine zw_bipush 50 6 f2_4 rfl (by decide +kernel) ?_
                refine zw_ic_ge_f 9 29 f2_6 (by decide +kernel) rfl (by decide +kernel) ?_
                refine zw_aload_n 10 f2_9 rfl rfl ?_
                refine zw_getfield 13 f2_10 rfl g2_9_0 (hb_44 _ _ _ _) rfl ?_
                refine zw_aload_n 14 f2_13 rfl rfl ?_
                refine zw_getI 2 17 f2_14 rfl g2_15_0 (hb_44 _ _ _ _) rfl rfl ?_
                refine zw_iload_n 18 f2_17 rfl rfl ?_
                refine zw_ast 2 _ 19 f2_18 rfl (hb_45 _ _ _ _) (by decide +kernel) (by decide +kernel) (by decide +kernel) (ha_45 _ _ _ _ _) ?_
                refine zw_aload_n 20 f2_19 rfl rfl ?_
                refine zw_dup 21 f2_20 rfl rfl ?_
                refine zw_getI 2 24 f2_21 rfl g2_15_0 (hb_44 _ _ _ _) rfl rfl ?_
                refine zw_iconst 1 25 f2_24 rfl (by decide +kernel) ?_
                refine zw_iadd 3 26 f2_25 rfl (by decide +kernel) ?_
                refine zw_put _ 29 f2_26 rfl g2_15_0 (hb_44 _ _ _ _) rfl (Nat.le_of_ble_eq_true rfl) (by decide +kernel) (hi_44_4 _ _ _ _ _) ?_
                refine zw_vreturn f2_29 r2 u2 ⟨rfl, ?_⟩
                refine zw_aload_n 10 f8_9 rfl rfl ?_
                refine zw_iload_n 11 f8_10 rfl rfl ?_
                refine zw_aload_n 12 f8_11 rfl rfl ?_
                refine zw_getfield 15 f8_12 rfl g8_7_2 (hb_50 _ _ _ _) rfl ?_
                refine zw_getI (P 55 a.toNatClampNeg) 18 f8_15 rfl g8_27_0 (hb_44 _ _ _ _) rfl rfl ?_
                refine zw_iadd (c + (P 55 a.toNatClampNeg)) 19 f8_18 rfl rfl ?_
                refine zw_super_i 22 0 0 [.ref 50, .int (c + (P 55 a.toNatClampNeg))] [(0, .ref 50), (1, .int (c + (P 55 a.toNatClampNeg)))] f8_19 rfl k8_30_99 k8_30_98 (by decide +kernel) rfl (hb_50 _ _ _ _) (by decide +kernel) (Nat.le_of_ble_eq_true rfl) rfl rfl (by decide +kernel) (by decide +kernel) rfl (Nat.le_of_ble_eq_true rfl) rfl ?_
                refine zw_aload_n 1 f37_0 rfl rfl ?_
                refine zw_getfield 4 f37_1 rfl g37_7_2 (hb_50 _ _ _ _) rfl ?_
                refine zw_bipush 10 6 f37_4 rfl (by decide +kernel) ?_
                refine zw_virtual_v 9 0 0 [.ref 44, .int 10] [(0, .ref 44), (1, .int 10)] f37_6 rfl n37_13 k37_13_0 rfl (hb_44 _ _ _ _) (by decide +kernel) (Nat.le_of_ble_eq_true rfl) rfl rfl (by decide +kernel) (by decide +kernel) rfl (Nat.le_of_ble_eq_true rfl) rfl ?_
                refine zw_aload_n 1 f2_0 rfl rfl ?_
                refine zw_getI 3 4 f2_1 rfl g2_15_0 (hb_44 _ _ _ _) rfl rfl ?_
                refine zw_bipush 50 6 f2_4 rfl (by decide +kernel) ?_
                refine zw_ic_ge_f 9 29 f2_6 (by decide +kernel) rfl (by decide +kernel) ?_
                refine zw_aload_n 10 f2_9 rfl rfl ?_
                refine zw_getfield 13 f2_10 rfl g2_9_0 (hb_44 _ _ _ _) rfl ?_
                refine zw_aload_n 14 f2_13 rfl rfl ?_
                refine zw_getI 3 17 f2_14 rfl g2_15_0 (hb_44 _ _ _ _) rfl rfl ?_
                refine zw_iload_n 18 f2_17 rfl rfl ?_
                refine zw_ast 3 _ 19 f2_18 rfl (hb_45 _ _ _ _) (by decide +kernel) (by decide +kernel) (by decide +kernel) (ha_45 _ _ _ _ _) ?_
                refine zw_aload_n 20 f2_19 rfl rfl ?_
                refine zw_dup 21 f2_20 rfl rfl ?_
                refine zw_getI 3 24 f2_21 rfl g2_15_0 (hb_44 _ _ _ _) rfl rfl ?_
                refine zw_iconst 1 25 f2_24 rfl (by decide +kernel) ?_
                refine zw_iadd 4 26 f2_25 rfl (by decide +kernel) ?_
                refine zw_put _ 29 f2_26 rfl g2_15_0 (hb_44 _ _ _ _) rfl (Nat.le_of_ble_eq_true rfl) (by decide +kernel) (hi_44_4 _ _ _ _ _) ?_
                refine zw_vreturn f2_29 r2 u2 ⟨rfl, ?_⟩
                refine zw_iload_n 10 f37_9 rfl rfl ?_
                refine zw_aload_n 11 f37_10 rfl rfl ?_
                refine zw_getfield 14 f37_11 rfl g37_7_2 (hb_50 _ _ _ _) rfl ?_
                refine zw_getI (P 54 a.toNatClampNeg) 17 f37_14 rfl g37_19_0 (hb_44 _ _ _ _) rfl rfl ?_
                refine zw_iadd ((c + (P 55 a.toNatClampNeg)) + (P 54 a.toNatClampNeg)) 18 f37_17 rfl rfl ?_
                refine zw_ireturn f37_18 r37 u37 ⟨_, rfl, ?_⟩
                refine zw_ireturn f8_22 r8 u8 ⟨_, rfl, ?_⟩
                refine zw_iconst 3 15 f38_14 rfl (by decide +kernel) ?_
                refine zw_imul (((c + (P 55 a.toNatClampNeg)) + (P 54 a.toNatClampNeg)) * 3) 16 f38_15 rfl rfl ?_
                refine zw_ireturn f38_16 r38 u38 ⟨_, rfl, ?_⟩
                refine zw_aload_n 15 f40_14 rfl rfl ?_
                refine zw_iload_n 16 f40_15 rfl rfl ?_
                refine zw_virtual_i 19 0 0 [.ref 50, .int c] [(0, .ref 50), (1, .int c)] f40_16 rfl n40_30 k40_30_2 rfl (hb_50 _ _ _ _) (by decide +kernel) (Nat.le_of_ble_eq_true rfl) rfl rfl (by decide +kernel) (by decide +kernel) rfl (Nat.le_of_ble_eq_true rfl) rfl ?_
                refine zw_aload_n 1 f7_0 rfl rfl ?_
                refine zw_getfield 4 f7_1 rfl g7_7_2 (hb_50 _ _ _ _) rfl ?_
                refine zw_bipush 40 6 f7_4 rfl (by decide +kernel) ?_
                refine zw_virtual_v 9 0 0 [.ref 44, .int 40] [(0, .ref 44), (1, .int 40)] f7_6 rfl n7_13 k7_13_0 rfl (hb_44 _ _ _ _) (by decide +kernel) (Nat.le_of_ble_eq_true rfl) rfl rfl (by decide +kernel) (by decide +kernel) rfl (Nat.le_of_ble_eq_true rfl) rfl ?_
                refine zw_aload_n 1 f2_0 rfl rfl ?_
                refine zw_getI 4 4 f2_1 rfl g2_15_0 (hb_44 _ _ _ _) rfl rfl ?_
                refine zw_bipush 50 6 f2_4 rfl (by decide +kernel) ?_
                refine zw_ic_ge_f 9 29 f2_6 (by decide +kernel) rfl (by decide +kernel) ?_
                refine zw_aload_n 10 f2_9 rfl rfl ?_
                refine zw_getfield 13 f2_10 rfl g2_9_0 (hb_44 _ _ _ _) rfl ?_
                refine zw_aload_n 14 f2_13 rfl rfl ?_
                refine zw_getI 4 17 f2_14 rfl g2_15_0 (hb_44 _ _ _ _) rfl rfl ?_
                refine zw_iload_n 18 f2_17 rfl rfl ?_
                refine zw_ast 4 _ 19 f2_18 rfl (hb_45 _ _ _ _) (by decide +kernel) (by decide +kernel) (by decide +kernel) (ha_45 _ _ _ _ _) ?_
                refine zw_aload_n 20 f2_19 rfl rfl ?_
                refine zw_dup 21 f2_20 rfl rfl ?_
                refine zw_getI 4 24 f2_21 rfl g2_15_0 (hb_44 _ _ _ _) rfl rfl ?_
                refine zw_iconst 1 25 f2_24 rfl (by decide +kernel) ?_
                refine zw_iadd 5 26 f2_25 rfl (by decide +kernel) ?_
                refine zw_put _ 29 f2_26 rfl g2_15_0 (hb_44 _ _ _ _) rfl (Nat.le_of_ble_eq_true rfl) (by decide +kernel) (hi_44_4 _ _ _ _ _) ?_
                refine zw_vreturn f2_29 r2 u2 ⟨rfl, ?_⟩
                refine zw_aload_n 10 f7_9 rfl rfl ?_
                refine zw_iload_n 11 f7_10 rfl rfl ?_
                refine zw_super_i 14 0 0 [.ref 50, .int c] [(0, .ref 50), (1, .int c)] f7_11 rfl k7_19_99 k7_19_98 (by decide +kernel) rfl (hb_50 _ _ _ _) (by decide +kernel) (Nat.le_of_ble_eq_true rfl) rfl rfl (by decide +kernel) (by decide +kernel) rfl (Nat.le_of_ble_eq_true rfl) rfl ?_
                refine zw_aload_n 1 f39_0 rfl rfl ?_
                refine zw_getfield 4 f39_1 rfl g39_7_2 (hb_50 _ _ _ _) rfl ?_
                refine zw_bipush 12 6 f39_4 rfl (by decide +kernel) ?_
                refine zw_virtual_v 9 0 0 [.ref 44, .int 12] [(0, .ref 44), (1, .int 12)] f39_6 rfl n39_13 k39_13_0 rfl (hb_44 _ _ _ _) (by decide +kernel) (Nat.le_of_ble_eq_true rfl) rfl rfl (by decide +kernel) (by decide +kernel) rfl (Nat.le_of_ble_eq_true rfl) rfl ?_
                refine zw_aload_n 1 f2_0 rfl rfl ?_
                refine zw_getI 5 4 f2_1 rfl g2_15_0 (hb_44 _ _ _ _) rfl rfl ?_
                refine zw_bipush 50 6 f2_4 rfl (by decide +kernel) ?_
                refine zw_ic_ge_f 9 29 f2_6 (by decide +kernel) rfl (by decide +kernel) ?_
                refine zw_aload_n 10 f2_9 rfl rfl ?_
                refine zw_getfield 13 f2_10 rfl g2_9_0 (hb_44 _ _ _ _) rfl ?_
                refine zw_aload_n 14 f2_13 rfl rfl ?_
                refine zw_getI 5 17 f2_14 rfl g2_15_0 (hb_44 _ _ _ _) rfl rfl ?_
                refine zw_iload_n 18 f2_17 rfl rfl ?_
                refine zw_ast 5 _ 19 f2_18 rfl (hb_45 _ _ _ _) (by decide +kernel) (by decide +kernel) (by decide +kernel) (ha_45 _ _ _ _ _) ?_
                refine zw_aload_n 20 f2_19 rfl rfl ?_
                refine zw_dup 21 f2_20 rfl rfl ?_
                refine zw_getI 5 24 f2_21 rfl g2_15_0 (hb_44 _ _ _ _) rfl rfl ?_
                refine zw_iconst 1 25 f2_24 rfl (by decide +kernel) ?_
                refine zw_iadd 6 26 f2_25 rfl (by decide +kernel) ?_
                refine zw_put _ 29 f2_26 rfl g2_15_0 (hb_44 _ _ _ _) rfl (Nat.le_of_ble_eq_true rfl) (by decide +kernel) (hi_44_4 _ _ _ _ _) ?_
                refine zw_vreturn f2_29 r2 u2 ⟨rfl, ?_⟩
                refine zw_iload_n 10 f39_9 rfl rfl ?_
                refine zw_aload_n 11 f39_10 rfl rfl ?_
                refine zw_getfield 14 f39_11 rfl g39_7_2 (hb_50 _ _ _ _) rfl ?_
                refine zw_getI (P 54 a.toNatClampNeg) 17 f39_14 rfl g39_19_0 (hb_44 _ _ _ _) rfl rfl ?_
                refine zw_ixor (c ^^^ (P 54 a.toNatClampNeg)) 18 f39_17 rfl rfl ?_
                refine zw_ireturn f39_18 r39 u39 ⟨_, rfl, ?_⟩
                refine zw_aload_n 15 f7_14 rfl rfl ?_
                refine zw_getfield 18 f7_15 rfl g7_7_2 (hb_50 _ _ _ _) rfl ?_
                refine zw_getI (P 56 a.toNatClampNeg) 21 f7_18 rfl g7_23_0 (hb_44 _ _ _ _) rfl rfl ?_
                refine zw_iadd ((c ^^^ (P 54 a.toNatClampNeg)) + (P 56 a.toNatClampNeg)) 22 f7_21 rfl rfl ?_
                refine zw_ireturn f7_22 r7 u7 ⟨_, rfl, ?_⟩
                refine zw_isub ((((c + (P 55 a.toNatClampNeg)) + (P 54 a.toNatClampNeg)) * 3) - ((c ^^^ (P 54 a.toNatClampNeg)) + (P 56 a.toNatClampNeg))) 20 f40_19 rfl rfl ?_
                refine zw_ireturn f40_20 r40 u40 ⟨_, rfl, ?_⟩
                refine zw_virtual_i 143 0 0 [.ref 0, .int ((((c + (P 55 a.toNatClampNeg)) + (P 54 a.toNatClampNeg)) * 3) - ((c ^^^ (P 54 a.toNatClampNeg)) + (P 56 a.toNatClampNeg)))] [(0, .ref 0), (1, .int ((((c + (P 55 a.toNatClampNeg)) + (P 54 a.toNatClampNeg)) * 3) - ((c ^^^ (P 54 a.toNatClampNeg)) + (P 56 a.toNatClampNeg))))] f101_140 rfl n101_181 k101_181_11 rfl (hb_0 _ _ _ _) (by decide +kernel) (Nat.le_of_ble_eq_true rfl) rfl rfl (by decide +kernel) (by decide +kernel) rfl (Nat.le_of_ble_eq_true rfl) rfl ?_
                refine zw_aload_n 1 f106_0 rfl rfl ?_
                refine zw_iconst 0 2 f106_1 rfl (by decide +kernel) ?_
                refine zw_put _ 5 f106_2 rfl g106_70_11 (hb_0 _ _ _ _) rfl (Nat.le_of_ble_eq_true rfl) (by decide +kernel) (hi_0_7 _ _ _ _ _) ?_
                refine zw_iload_n 6 f106_5 rfl rfl ?_
                refine zw_ireturn f106_6 r106 u106 ⟨_, rfl, ?_⟩
                refine zw_ireturn f101_143 r101 u101 ?_
                exact ⟨_, _, _, _, rfl, (KQ.i rfl (KQ.i rfl (KQ.a rfl (KQ.i rfl (KQ.a rfl (KQ.i rfl (KQ.a rfl (KQ.i rfl (KQ.a rfl (KQ.i rfl (KQ.a rfl (KQ.i rfl (KQ.a rfl (KQ.i rfl (KQ.i rfl (KQ.i rfl (KQ.i rfl (KQ.i rfl KQ.rf)))))))))))))))))), Or.inr ⟨⟨(qV.ofc (by omega) hc1 hc2), ⟨hc4, hc5⟩⟩, by rw [show an_tl (P 53 a.toNatClampNeg) b = [13, 11, 41, 10, 40, 12] from ((cI_n (sw_ne hs9 (by decide))).trans ((cI_n (sw_ne hs9 (by decide))).trans ((cI_n (sw_ne hs9 (by decide))).trans ((cI_n (kne hk (by decide))).trans ((cI_n (kne hk (by decide))).trans ((cI_n (kne hk (by decide))).trans (cI_y hk)))))))]; exact ⟨rfl, by intro i hi; rcases (show i = 0 ∨ i = 1 ∨ i = 2 ∨ i = 3 ∨ i = 4 ∨ i = 5 by have q : i < 6 := hi; omega) with rfl | rfl | rfl | rfl | rfl | rfl <;> rfl⟩⟩, _, rfl⟩
              · rcases (show hs9k = 0 ∨ hs9k = 1 ∨ hs9k = 2 by omega) with rfl | rfl | rfl
                · refine zw_table_k 25 100 f101_75 hs9e (by decide +kernel) (by decide +kernel) (by decide +kernel) ?_
                  refine zw_aload_n 101 f101_100 rfl (zl1_ne rfl rfl (zl1_ne rfl rfl rfl)) ?_
                  refine zw_aload 103 f101_101 rfl zl1_eq ?_
                  refine zw_iload_n 104 f101_103 rfl (zl1_ne rfl rfl (zl1_ne rfl rfl rfl)) ?_
                  refine zw_virtual_i 107 0 0 [.ref 50, .int c] [(0, .ref 50), (1, .int c)] f101_104 rfl n101_289 k101_289_2 rfl (hb_50 _ _ _ _) (by decide +kernel) (Nat.le_of_ble_eq_true rfl) rfl rfl (by decide +kernel) (by decide +kernel) rfl (Nat.le_of_ble_eq_true rfl) rfl ?_
                  refine zw_aload_n 1 f8_0 rfl rfl ?_
                  refine zw_getfield 4 f8_1 rfl g8_7_2 (hb_50 _ _ _ _) rfl ?_
                  refine zw_bipush 41 6 f8_4 rfl (by decide +kernel) ?_
                  refine zw_virtual_v 9 0 0 [.ref 44, .int 41] [(0, .ref 44), (1, .int 41)] f8_6 rfl n8_13 k8_13_0 rfl (hb_44 _ _ _ _) (by decide +kernel) (Nat.le_of_ble_eq_true rfl) rfl rfl (by decide +kernel) (by decide +kernel) rfl (Nat.le_of_ble_eq_true rfl) rfl ?_
                  refine zw_aload_n 1 f2_0 rfl rfl ?_
                  refine zw_getI 0 4 f2_1 rfl g2_15_0 (hb_44 _ _ _ _) rfl rfl ?_
                  refine zw_bipush 50 6 f2_4 rfl (by decide +kernel) ?_
                  refine zw_ic_ge_f 9 29 f2_6 (by decide +kernel) rfl (by decide +kernel) ?_
                  refine zw_aload_n 10 f2_9 rfl rfl ?_
                  refine zw_getfield 13 f2_10 rfl g2_9_0 (hb_44 _ _ _ _) rfl ?_
                  refine zw_aload_n 14 f2_13 rfl rfl ?_
                  refine zw_getI 0 17 f2_14 rfl g2_15_0 (hb_44 _ _ _ _) rfl rfl ?_
                  refine zw_iload_n 18 f2_17 rfl rfl ?_
                  refine zw_ast 0 _ 19 f2_18 rfl (hb_45 _ _ _ _) (by decide +kernel) (by decide +kernel) (by decide +kernel) (ha_45 _ _ _ _ _) ?_
                  refine zw_aload_n 20 f2_19 rfl rfl ?_
                  refine zw_dup 21 f2_20 rfl rfl ?_
                  refine zw_getI 0 24 f2_21 rfl g2_15_0 (hb_44 _ _ _ _) rfl rfl ?_
                  refine zw_iconst 1 25 f2_24 rfl (by decide +kernel) ?_
                  refine zw_iadd 1 26 f2_25 rfl (by decide +kernel) ?_
                  refine zw_put _ 29 f2_26 rfl g2_15_0 (hb_44 _ _ _ _) rfl (Nat.le_of_ble_eq_true rfl) (by decide +kernel) (hi_44_4 _ _ _ _ _) ?_
                  refine zw_vreturn f2_29 r2 u2 ⟨rfl, ?_⟩
                  refine zw_aload_n 10 f8_9 rfl rfl ?_
                  refine zw_iload_n 11 f8_10 rfl rfl ?_
                  refine zw_aload_n 12 f8_11 rfl rfl ?_
                  refine zw_getfield 15 f8_12 rfl g8_7_2 (hb_50 _ _ _ _) rfl ?_
                  refine zw_getI (P 55 a.toNatClampNeg) 18 f8_15 rfl g8_27_0 (hb_44 _ _ _ _) rfl rfl ?_
                  refine zw_iadd (c + (P 55 a.toNatClampNeg)) 19 f8_18 rfl rfl ?_
                  refine zw_super_i 22 0 0 [.ref 50, .int (c + (P 55 a.toNatClampNeg))] [(0, .ref 50), (1, .int (c + (P 55 a.toNatClampNeg)))] f8_19 rfl k8_30_99 k8_30_98 (by decide +kernel) rfl (hb_50 _ _ _ _) (by decide +kernel) (Nat.le_of_ble_eq_true rfl) rfl rfl (by decide +kernel) (by decide +kernel) rfl (Nat.le_of_ble_eq_true rfl) rfl ?_
                  refine zw_aload_n 1 f37_0 rfl rfl ?_
                  refine zw_getfield 4 f37_1 rfl g37_7_2 (hb_50 _ _ _ _) rfl ?_
                  refine zw_bipush 10 6 f37_4 rfl (by decide +kernel) ?_
                  refine zw_virtual_v 9 0 0 [.ref 44, .int 10] [(0, .ref 44), (1, .int 10)] f37_6 rfl n37_13 k37_13_0 rfl (hb_44 _ _ _ _) (by decide +kernel) (Nat.le_of_ble_eq_true rfl) rfl rfl (by decide +kernel) (by decide +kernel) rfl (Nat.le_of_ble_eq_true rfl) rfl ?_
                  refine zw_aload_n 1 f2_0 rfl rfl ?_
                  refine zw_getI 1 4 f2_1 rfl g2_15_0 (hb_44 _ _ _ _) rfl rfl ?_
                  refine zw_bipush 50 6 f2_4 rfl (by decide +kernel) ?_
                  refine zw_ic_ge_f 9 29 f2_6 (by decide +kernel) rfl (by decide +kernel) ?_
                  refine zw_aload_n 10 f2_9 rfl rfl ?_
                  refine zw_getfield 13 f2_10 rfl g2_9_0 (hb_44 _ _ _ _) rfl ?_
                  refine zw_aload_n 14 f2_13 rfl rfl ?_
                  refine zw_getI 1 17 f2_14 rfl g2_15_0 (hb_44 _ _ _ _) rfl rfl ?_
                  refine zw_iload_n 18 f2_17 rfl rfl ?_
                  refine zw_ast 1 _ 19 f2_18 rfl (hb_45 _ _ _ _) (by decide +kernel) (by decide +kernel) (by decide +kernel) (ha_45 _ _ _ _ _) ?_
                  refine zw_aload_n 20 f2_19 rfl rfl ?_
                  refine zw_dup 21 f2_20 rfl rfl ?_
                  refine zw_getI 1 24 f2_21 rfl g2_15_0 (hb_44 _ _ _ _) rfl rfl ?_
                  refine zw_iconst 1 25 f2_24 rfl (by decide +kernel) ?_
                  refine zw_iadd 2 26 f2_25 rfl (by decide +kernel) ?_
                  refine zw_put _ 29 f2_26 rfl g2_15_0 (hb_44 _ _ _ _) rfl (Nat.le_of_ble_eq_true rfl) (by decide +kernel) (hi_44_4 _ _ _ _ _) ?_
                  refine zw_vreturn f2_29 r2 u2 ⟨rfl, ?_⟩
                  refine zw_iload_n 10 f37_9 rfl rfl ?_
                  refine zw_aload_n 11 f37_10 rfl rfl ?_
                  refine zw_getfield 14 f37_11 rfl g37_7_2 (hb_50 _ _ _ _) rfl ?_
                  refine zw_getI (P 54 a.toNatClampNeg) 17 f37_14 rfl g37_19_0 (hb_44 _ _ _ _) rfl rfl ?_
                  refine zw_iadd ((c + (P 55 a.toNatClampNeg)) + (P 54 a.toNatClampNeg)) 18 f37_17 rfl rfl ?_
                  refine zw_ireturn f37_18 r37 u37 ⟨_, rfl, ?_⟩
                  refine zw_ireturn f8_22 r8 u8 ⟨_, rfl, ?_⟩
                  refine zw_virtual_i 110 0 0 [.ref 0, .int ((c + (P 55 a.toNatClampNeg)) + (P 54 a.toNatClampNeg))] [(0, .ref 0), (1, .int ((c + (P 55 a.toNatClampNeg)) + (P 54 a.toNatClampNeg)))] f101_107 rfl n101_181 k101_181_11 rfl (hb_0 _ _ _ _) (by decide +kernel) (Nat.le_of_ble_eq_true rfl) rfl rfl (by decide +kernel) (by decide +kernel) rfl (Nat.le_of_ble_eq_true rfl) rfl ?_
                  refine zw_aload_n 1 f106_0 rfl rfl ?_
                  refine zw_iconst 0 2 f106_1 rfl (by decide +kernel) ?_
                  refine zw_put _ 5 f106_2 rfl g106_70_11 (hb_0 _ _ _ _) rfl (Nat.le_of_ble_eq_true rfl) (by decide +kernel) (hi_0_7 _ _ _ _ _) ?_
                  refine zw_iload_n 6 f106_5 rfl rfl ?_
                  refine zw_ireturn f106_6 r106 u106 ⟨_, rfl, ?_⟩
                  refine zw_ireturn f101_110 r101 u101 ?_
                  exact ⟨_, _, _, _, rfl, (KQ.i rfl (KQ.i rfl (KQ.a rfl (KQ.i rfl (KQ.a rfl (KQ.i rfl (KQ.i rfl (KQ.i rfl (KQ.i rfl (KQ.i rfl KQ.rf)))))))))), Or.inr ⟨⟨(qV.ofc (by omega) hc1 hc2), ⟨hc4, hc5⟩⟩, by rw [show an_tl (P 53 a.toNatClampNeg) b = [41, 10] from ((cI_y (show b = 0 from hs9e)).trans ((cI_n (kne hk (by decide))).trans ((cI_n (kne hk (by decide))).trans ((cI_n (kne hk (by decide))).trans (cI_y hk)))))]; exact ⟨rfl, by intro i hi; rcases (show i = 0 ∨ i = 1 by have q : i < 2 := hi; omega) with rfl | rfl <;> rfl⟩⟩, _, rfl⟩
                · refine zw_table_k 36 111 f101_75 hs9e (by decide +kernel) (by decide +kernel) (by decide +kernel) ?_
                  refine zw_aload_n 112 f101_111 rfl (zl1_ne rfl rfl (zl1_ne rfl rfl rfl)) ?_
                  refine zw_aload 114 f101_112 rfl zl1_eq ?_
                  refine zw_iload_n 115 f101_114 rfl (zl1_ne rfl rfl (zl1_ne rfl rfl rfl)) ?_
                  refine zw_virtual_i 118 0 0 [.ref 50, .int c] [(0, .ref 50), (1, .int c)] f101_115 rfl n101_292 k101_292_2 rfl (hb_50 _ _ _ _) (by decide +kernel) (Nat.le_of_ble_eq_true rfl) rfl rfl (by decide +kernel) (by decide +kernel) rfl (Nat.le_of_ble_eq_true rfl) rfl ?_
                  refine zw_aload_n 1 f38_0 rfl rfl ?_
                  refine zw_getfield 4 f38_1 rfl g38_7_2 (hb_50 _ _ _ _) rfl ?_
                  refine zw_bipush 11 6 f38_4 rfl (by decide +kernel) ?_
                  refine zw_virtual_v 9 0 0 [.ref 44, .int 11] [(0, .ref 44), (1, .int 11)] f38_6 rfl n38_13 k38_13_0 rfl (hb_44 _ _ _ _) (by decide +kernel) (Nat.le_of_ble_eq_true rfl) rfl rfl (by decide +kernel) (by decide +kernel) rfl (Nat.le_of_ble_eq_true rfl) rfl ?_
                  refine zw_aload_n 1 f2_0 rfl rfl ?_
                  refine zw_getI 0 4 f2_1 rfl g2_15_0 (hb_44 _ _ _ _) rfl rfl ?_
                  refine zw_bipush 50 6 f2_4 rfl (by decide +kernel) ?_
                  refine zw_ic_ge_f 9 29 f2_6 (by decide +kernel) rfl (by decide +kernel) ?_
                  refine zw_aload_n 10 f2_9 rfl rfl ?_
                  refine zw_getfield 13 f2_10 rfl g2_9_0 (hb_44 _ _ _ _) rfl ?_
                  refine zw_aload_n 14 f2_13 rfl rfl ?_
                  refine zw_getI 0 17 f2_14 rfl g2_15_0 (hb_44 _ _ _ _) rfl rfl ?_
                  refine zw_iload_n 18 f2_17 rfl rfl ?_
                  refine zw_ast 0 _ 19 f2_18 rfl (hb_45 _ _ _ _) (by decide +kernel) (by decide +kernel) (by decide +kernel) (ha_45 _ _ _ _ _) ?_
                  refine zw_aload_n 20 f2_19 rfl rfl ?_
                  refine zw_dup 21 f2_20 rfl rfl ?_
                  refine zw_getI 0 24 f2_21 rfl g2_15_0 (hb_44 _ _ _ _) rfl rfl ?_
                  refine zw_iconst 1 25 f2_24 rfl (by decide +kernel) ?_
                  refine zw_iadd 1 26 f2_25 rfl (by decide +kernel) ?_
                  refine zw_put _ 29 f2_26 rfl g2_15_0 (hb_44 _ _ _ _) rfl (Nat.le_of_ble_eq_true rfl) (by decide +kernel) (hi_44_4 _ _ _ _ _) ?_
                  refine zw_vreturn f2_29 r2 u2 ⟨rfl, ?_⟩
                  refine zw_aload_n 10 f38_9 rfl rfl ?_
                  refine zw_iload_n 11 f38_10 rfl rfl ?_
                  refine zw_virtual_i 14 0 0 [.ref 50, .int c] [(0, .ref 50), (1, .int c)] f38_11 rfl n38_23 k38_23_2 rfl (hb_50 _ _ _ _) (by decide +kernel) (Nat.le_of_ble_eq_true rfl) rfl rfl (by decide +kernel) (by decide +kernel) rfl (Nat.le_of_ble_eq_true rfl) rfl ?_
                  refine zw_aload_n 1 f8_0 rfl rfl ?_
                  refine zw_getfield 4 f8_1 rfl g8_7_2 (hb_50 _ _ _ _) rfl ?_
                  refine zw_bipush 41 6 f8_4 rfl (by decide +kernel) ?_
                  refine zw_virtual_v 9 0 0 [.ref 44, .int 41] [(0, .ref 44), (1, .int 41)] f8_6 rfl n8_13 k8_13_0 rfl (hb_44 _ _ _ _) (by decide +kernel) (Nat.le_of_ble_eq_true rfl) rfl rfl (by decide +kernel) (by decide +kernel) rfl (Nat.le_of_ble_eq_true rfl) rfl ?_
                  refine zw_aload_n 1 f2_0 rfl rfl ?_
                  refine zw_getI 1 4 f2_1 rfl g2_15_0 (hb_44 _ _ _ _) rfl rfl ?_
                  refine zw_bipush 50 6 f2_4 rfl (by decide +kernel) ?_
                  refine zw_ic_ge_f 9 29 f2_6 (by decide +kernel) rfl (by decide +kernel) ?_
                  refine zw_aload_n 10 f2_9 rfl rfl ?_
                  refine zw_getfield 13 f2_10 rfl g2_9_0 (hb_44 _ _ _ _) rfl ?_
                  refine zw_aload_n 14 f2_13 rfl rfl ?_
                  refine zw_getI 1 17 f2_14 rfl g2_15_0 (hb_44 _ _ _ _) rfl rfl ?_
                  refine zw_iload_n 18 f2_17 rfl rfl ?_
                  refine zw_ast 1 _ 19 f2_18 rfl (hb_45 _ _ _ _) (by decide +kernel) (by decide +kernel) (by decide +kernel) (ha_45 _ _ _ _ _) ?_
                  refine zw_aload_n 20 f2_19 rfl rfl ?_
                  refine zw_dup 21 f2_20 rfl rfl ?_
                  refine zw_getI 1 24 f2_21 rfl g2_15_0 (hb_44 _ _ _ _) rfl rfl ?_
                  refine zw_iconst 1 25 f2_24 rfl (by decide +kernel) ?_
                  refine zw_iadd 2 26 f2_25 rfl (by decide +kernel) ?_
                  refine zw_put _ 29 f2_26 rfl g2_15_0 (hb_44 _ _ _ _) rfl (Nat.le_of_ble_eq_true rfl) (by decide +kernel) (hi_44_4 _ _ _ _ _) ?_
                  refine zw_vreturn f2_29 r2 u2 ⟨rfl, ?_⟩
                  refine zw_aload_n 10 f8_9 rfl rfl ?_
                  refine zw_iload_n 11 f8_10 rfl rfl ?_
                  refine zw_aload_n 12 f8_11 rfl rfl ?_
                  refine zw_getfield 15 f8_12 rfl g8_7_2 (hb_50 _ _ _ _) rfl ?_
                  refine zw_getI (P 55 a.toNatClampNeg) 18 f8_15 rfl g8_27_0 (hb_44 _ _ _ _) rfl rfl ?_
                  refine zw_iadd (c + (P 55 a.toNatClampNeg)) 19 f8_18 rfl rfl ?_
                  refine zw_super_i 22 0 0 [.ref 50, .int (c + (P 55 a.toNatClampNeg))] [(0, .ref 50), (1, .int (c + (P 55 a.toNatClampNeg)))] f8_19 rfl k8_30_99 k8_30_98 (by decide +kernel) rfl (hb_50 _ _ _ _) (by decide +kernel) (Nat.le_of_ble_eq_true rfl) rfl rfl (by decide +kernel) (by decide +kernel) rfl (Nat.le_of_ble_eq_true rfl) rfl ?_
                  refine zw_aload_n 1 f37_0 rfl rfl ?_
                  refine zw_getfield 4 f37_1 rfl g37_7_2 (hb_50 _ _ _ _) rfl ?_
                  refine zw_bipush 10 6 f37_4 rfl (by decide +kernel) ?_
                  refine zw_virtual_v 9 0 0 [.ref 44, .int 10] [(0, .ref 44), (1, .int 10)] f37_6 rfl n37_13 k37_13_0 rfl (hb_44 _ _ _ _) (by decide +kernel) (Nat.le_of_ble_eq_true rfl) rfl rfl (by decide +kernel) (by decide +kernel) rfl (Nat.le_of_ble_eq_true rfl) rfl ?_
                  refine zw_aload_n 1 f2_0 rfl rfl ?_
                  refine zw_getI 2 4 f2_1 rfl g2_15_0 (hb_44 _ _ _ _) rfl rfl ?_
                  refine zw_bipush 50 6 f2_4 rfl (by decide +kernel) ?_
                  refine zw_ic_ge_f 9 29 f2_6 (by decide +kernel) rfl (by decide +kernel) ?_
                  refine zw_aload_n 10 f2_9 rfl rfl ?_
                  refine zw_getfield 13 f2_10 rfl g2_9_0 (hb_44 _ _ _ _) rfl ?_
                  refine zw_aload_n 14 f2_13 rfl rfl ?_
                  refine zw_getI 2 17 f2_14 rfl g2_15_0 (hb_44 _ _ _ _) rfl rfl ?_
                  refine zw_iload_n 18 f2_17 rfl rfl ?_
                  refine zw_ast 2 _ 19 f2_18 rfl (hb_45 _ _ _ _) (by decide +kernel) (by decide +kernel) (by decide +kernel) (ha_45 _ _ _ _ _) ?_
                  refine zw_aload_n 20 f2_19 rfl rfl ?_
                  refine zw_dup 21 f2_20 rfl rfl ?_
                  refine zw_getI 2 24 f2_21 rfl g2_15_0 (hb_44 _ _ _ _) rfl rfl ?_
                  refine zw_iconst 1 25 f2_24 rfl (by decide +kernel) ?_
                  refine zw_iadd 3 26 f2_25 rfl (by decide +kernel) ?_
                  refine zw_put _ 29 f2_26 rfl g2_15_0 (hb_44 _ _ _ _) rfl (Nat.le_of_ble_eq_true rfl) (by decide +kernel) (hi_44_4 _ _ _ _ _) ?_
                  refine zw_vreturn f2_29 r2 u2 ⟨rfl, ?_⟩
                  refine zw_iload_n 10 f37_9 rfl rfl ?_
                  refine zw_aload_n 11 f37_10 rfl rfl ?_
                  refine zw_getfield 14 f37_11 rfl g37_7_2 (hb_50 _ _ _ _) rfl ?_
                  refine zw_getI (P 54 a.toNatClampNeg) 17 f37_14 rfl g37_19_0 (hb_44 _ _ _ _) rfl rfl ?_
                  refine zw_iadd ((c + (P 55 a.toNatClampNeg)) + (P 54 a.toNatClampNeg)) 18 f37_17 rfl rfl ?_
                  refine zw_ireturn f37_18 r37 u37 ⟨_, rfl, ?_⟩
                  refine zw_ireturn f8_22 r8 u8 ⟨_, rfl, ?_⟩
                  refine zw_iconst 3 15 f38_14 rfl (by decide +kernel) ?_
                  refine zw_imul (((c + (P 55 a.toNatClampNeg)) + (P 54 a.toNatClampNeg)) * 3) 16 f38_15 rfl rfl ?_
                  refine zw_ireturn f38_16 r38 u38 ⟨_, rfl, ?_⟩
                  refine zw_virtual_i 121 0 0 [.ref 0, .int (((c + (P 55 a.toNatClampNeg)) + (P 54 a.toNatClampNeg)) * 3)] [(0, .ref 0), (1, .int (((c + (P 55 a.toNatClampNeg)) + (P 54 a.toNatClampNeg)) * 3))] f101_118 rfl n101_181 k101_181_11 rfl (hb_0 _ _ _ _) (by decide +kernel) (Nat.le_of_ble_eq_true rfl) rfl rfl (by decide +kernel) (by decide +kernel) rfl (Nat.le_of_ble_eq_true rfl) rfl ?_
                  refine zw_aload_n 1 f106_0 rfl rfl ?_
                  refine zw_iconst 0 2 f106_1 rfl (by decide +kernel) ?_
                  refine zw_put _ 5 f106_2 rfl g106_70_11 (hb_0 _ _ _ _) rfl (Nat.le_of_ble_eq_true rfl) (by decide +kernel) (hi_0_7 _ _ _ _ _) ?_
                  refine zw_iload_n 6 f106_5 rfl rfl ?_
                  refine zw_ireturn f106_6 r106 u106 ⟨_, rfl, ?_⟩
                  refine zw_ireturn f101_121 r101 u101 ?_
                  exact ⟨_, _, _, _, rfl, (KQ.i rfl (KQ.i rfl (KQ.a rfl (KQ.i rfl (KQ.a rfl (KQ.i rfl (KQ.a rfl (KQ.i rfl (KQ.i rfl (KQ.i rfl (KQ.i rfl (KQ.i rfl KQ.rf)))))))))))), Or.inr ⟨⟨(qV.ofc (by omega) hc1 hc2), ⟨hc4, hc5⟩⟩, by rw [show an_tl (P 53 a.toNatClampNeg) b = [11, 41, 10] from ((cI_n (kne (show b = 1 from hs9e) (by decide))).trans ((cI_y (show b = 1 from hs9e)).trans ((cI_n (kne hk (by decide))).trans ((cI_n (kne hk (by decide))).trans ((cI_n (kne hk (by decide))).trans (cI_y hk))))))]; exact ⟨rfl, by intro i hi; rcases (show i = 0 ∨ i = 1 ∨ i = 2 by have q : i < 3 := hi; omega) with rfl | rfl | rfl <;> rfl⟩⟩, _, rfl⟩
                · refine zw_table_k 47 122 f101_75 hs9e (by decide +kernel) (by decide +kernel) (by decide +kernel) ?_
                  refine zw_aload_n 123 f101_122 rfl (zl1_ne rfl rfl (zl1_ne rfl rfl rfl)) ?_
                  refine zw_aload 125 f101_123 rfl zl1_eq ?_
                  refine zw_iload_n 126 f101_125 rfl (zl1_ne rfl rfl (zl1_ne rfl rfl rfl)) ?_
                  refine zw_virtual_i 129 0 0 [.ref 50, .int c] [(0, .ref 50), (1, .int c)] f101_126 rfl n101_295 k101_295_2 rfl (hb_50 _ _ _ _) (by decide +kernel) (Nat.le_of_ble_eq_true rfl) rfl rfl (by decide +kernel) (by decide +kernel) rfl (Nat.le_of_ble_eq_true rfl) rfl ?_
                  refine zw_aload_n 1 f7_0 rfl rfl ?_
                  refine zw_getfield 4 f7_1 rfl g7_7_2 (hb_50 _ _ _ _) rfl ?_
                  refine zw_bipush 40 6 f7_4 rfl (by decide +kernel) ?_
                  refine zw_virtual_v 9 0 0 [.ref 44, .int 40] [(0, .ref 44), (1, .int 40)] f7_6 rfl n7_13 k7_13_0 rfl (hb_44 _ _ _ _) (by decide +kernel) (Nat.le_of_ble_eq_true rfl) rfl rfl (by decide +kernel) (by decide +kernel) rfl (Nat.le_of_ble_eq_true rfl) rfl ?_
                  refine zw_aload_n 1 f2_0 rfl rfl ?_
                  refine zw_getI 0 4 f2_1 rfl g2_15_0 (hb_44 _ _ _ _) rfl rfl ?_
                  refine zw_bipush 50 6 f2_4 rfl (by decide +kernel) ?_
                  refine zw_ic_ge_f 9 29 f2_6 (by decide +kernel) rfl (by decide +kernel) ?_
                  refine zw_aload_n 10 f2_9 rfl rfl ?_
                  refine zw_getfield 13 f2_10 rfl g2_9_0 (hb_44 _ _ _ _) rfl ?_
                  refine zw_aload_n 14 f2_13 rfl rfl ?_
                  refine zw_getI 0 17 f2_14 rfl g2_15_0 (hb_44 _ _ _ _) rfl rfl ?_
                  refine zw_iload_n 18 f2_17 rfl rfl ?_
                  refine zw_ast 0 _ 19 f2_18 rfl (hb_45 _ _ _ _) (by decide +kernel) (by decide +kernel) (by decide +kernel) (ha_45 _ _ _ _ _) ?_
                  refine zw_aload_n 20 f2_19 rfl rfl ?_
                  refine zw_dup 21 f2_20 rfl rfl ?_
                  refine zw_getI 0 24 f2_21 rfl g2_15_0 (hb_44 _ _ _ _) rfl rfl ?_
                  refine zw_iconst 1 25 f2_24 rfl (by decide +kernel) ?_
                  refine zw_iadd 1 26 f2_25 rfl (by decide +kernel) ?_
                  refine zw_put _ 29 f2_26 rfl g2_15_0 (hb_44 _ _ _ _) rfl (Nat.le_of_ble_eq_true rfl) (by decide +kernel) (hi_44_4 _ _ _ _ _) ?_
                  refine zw_vreturn f2_29 r2 u2 ⟨rfl, ?_⟩
                  refine zw_aload_n 10 f7_9 rfl rfl ?_
                  refine zw_iload_n 11 f7_10 rfl rfl ?_
                  refine zw_super_i 14 0 0 [.ref 50, .int c] [(0, .ref 50), (1, .int c)] f7_11 rfl k7_19_99 k7_19_98 (by decide +kernel) rfl (hb_50 _ _ _ _) (by decide +kernel) (Nat.le_of_ble_eq_true rfl) rfl rfl (by decide +kernel) (by decide +kernel) rfl (Nat.le_of_ble_eq_true rfl) rfl ?_
                  refine zw_aload_n 1 f39_0 rfl rfl ?_
                  refine zw_getfield 4 f39_1 rfl g39_7_2 (hb_50 _ _ _ _) rfl ?_
                  refine zw_bipush 12 6 f39_4 rfl (by decide +kernel) ?_
                  refine zw_virtual_v 9 0 0 [.ref 44, .int 12] [(0, .ref 44), (1, .int 12)] f39_6 rfl n39_13 k39_13_0 rfl (hb_44 _ _ _ _) (by decide +kernel) (Nat.le_of_ble_eq_true rfl) rfl rfl (by decide +kernel) (by decide +kernel) rfl (Nat.le_of_ble_eq_true rfl) rfl ?_
                  refine zw_aload_n 1 f2_0 rfl rfl ?_
                  refine zw_getI 1 4 f2_1 rfl g2_15_0 (hb_44 _ _ _ _) rfl rfl ?_
                  refine zw_bipush 50 6 f2_4 rfl (by decide +kernel) ?_
                  refine zw_ic_ge_f 9 29 f2_6 (by decide +kernel) rfl (by decide +kernel) ?_
                  refine zw_aload_n 10 f2_9 rfl rfl ?_
                  refine zw_getfield 13 f2_10 rfl g2_9_0 (hb_44 _ _ _ _) rfl ?_
                  refine zw_aload_n 14 f2_13 rfl rfl ?_
                  refine zw_getI 1 17 f2_14 rfl g2_15_0 (hb_44 _ _ _ _) rfl rfl ?_
                  refine zw_iload_n 18 f2_17 rfl rfl ?_
                  refine zw_ast 1 _ 19 f2_18 rfl (hb_45 _ _ _ _) (by decide +kernel) (by decide +kernel) (by decide +kernel) (ha_45 _ _ _ _ _) ?_
                  refine zw_aload_n 20 f2_19 rfl rfl ?_
                  refine zw_dup 21 f2_20 rfl rfl ?_
                  refine zw_getI 1 24 f2_21 rfl g2_15_0 (hb_44 _ _ _ _) rfl rfl ?_
                  refine zw_iconst 1 25 f2_24 rfl (by decide +kernel) ?_
                  refine zw_iadd 2 26 f2_25 rfl (by decide +kernel) ?_
                  refine zw_put _ 29 f2_26 rfl g2_15_0 (hb_44 _ _ _ _) rfl (Nat.le_of_ble_eq_true rfl) (by decide +kernel) (hi_44_4 _ _ _ _ _) ?_
                  refine zw_vreturn f2_29 r2 u2 ⟨rfl, ?_⟩
                  refine zw_iload_n 10 f39_9 rfl rfl ?_
                  refine zw_aload_n 11 f39_10 rfl rfl ?_
                  refine zw_getfield 14 f39_11 rfl g39_7_2 (hb_50 _ _ _ _) rfl ?_
                  refine zw_getI (P 54 a.toNatClampNeg) 17 f39_14 rfl g39_19_0 (hb_44 _ _ _ _) rfl rfl ?_
                  refine zw_ixor (c ^^^ (P 54 a.toNatClampNeg)) 18 f39_17 rfl rfl ?_
                  refine zw_ireturn f39_18 r39 u39 ⟨_, rfl, ?_⟩
                  refine zw_aload_n 15 f7_14 rfl rfl ?_
                  refine zw_getfield 18 f7_15 rfl g7_7_2 (hb_50 _ _ _ _) rfl ?_
                  refine zw_getI (P 56 a.toNatClampNeg) 21 f7_18 rfl g7_23_0 (hb_44 _ _ _ _) rfl rfl ?_
                  refine zw_iadd ((c ^^^ (P 54 a.toNatClampNeg)) + (P 56 a.toNatClampNeg)) 22 f7_21 rfl rfl ?_
                  refine zw_ireturn f7_22 r7 u7 ⟨_, rfl, ?_⟩
                  refine zw_virtual_i 132 0 0 [.ref 0, .int ((c ^^^ (P 54 a.toNatClampNeg)) + (P 56 a.toNatClampNeg))] [(0, .ref 0), (1, .int ((c ^^^ (P 54 a.toNatClampNeg)) + (P 56 a.toNatClampNeg)))] f101_129 rfl n101_181 k101_181_11 rfl (hb_0 _ _ _ _) (by decide +kernel) (Nat.le_of_ble_eq_true rfl) rfl rfl (by decide +kernel) (by decide +kernel) rfl (Nat.le_of_ble_eq_true rfl) rfl ?_
                  refine zw_aload_n 1 f106_0 rfl rfl ?_
                  refine zw_iconst 0 2 f106_1 rfl (by decide +kernel) ?_
                  refine zw_put _ 5 f106_2 rfl g106_70_11 (hb_0 _ _ _ _) rfl (Nat.le_of_ble_eq_true rfl) (by decide +kernel) (hi_0_7 _ _ _ _ _) ?_
                  refine zw_iload_n 6 f106_5 rfl rfl ?_
                  refine zw_ireturn f106_6 r106 u106 ⟨_, rfl, ?_⟩
                  refine zw_ireturn f101_132 r101 u101 ?_
                  exact ⟨_, _, _, _, rfl, (KQ.i rfl (KQ.i rfl (KQ.a rfl (KQ.i rfl (KQ.a rfl (KQ.i rfl (KQ.i rfl (KQ.i rfl (KQ.i rfl (KQ.i rfl KQ.rf)))))))))), Or.inr ⟨⟨(qV.ofc (by omega) hc1 hc2), ⟨hc4, hc5⟩⟩, by rw [show an_tl (P 53 a.toNatClampNeg) b = [40, 12] from ((cI_n (kne (show b = 2 from hs9e) (by decide))).trans ((cI_n (kne (show b = 2 from hs9e) (by decide))).trans ((cI_y (show b = 2 from hs9e)).trans ((cI_n (kne hk (by decide))).trans ((cI_n (kne hk (by decide))).trans ((cI_n (kne hk (by decide))).trans (cI_y hk)))))))]; exact ⟨rfl, by intro i hi; rcases (show i = 0 ∨ i = 1 by have q : i < 2 := hi; omega) with rfl | rfl <;> rfl⟩⟩, _, rfl⟩
            · refine zw_aaload 4 42 f101_41 rfl (hb_46 _ _ _ _) (by rw [hk]; decide) (by rw [hk]; decide) (by decide) rfl ?_
              refine zw_astore _ 44 f101_42 rfl (by decide +kernel) rfl ?_
              refine zw_aload 46 f101_44 rfl zl1_eq ?_
              refine zw_ifnonnull 55 f101_46 (by decide +kernel) ?_
              refine zw_aload_n 56 f101_55 rfl (zl1_ne rfl rfl (zl1_ne rfl rfl rfl)) ?_
              refine zw_getfield 59 f101_56 rfl g101_45_11 (hb_0 _ _ _ _) rfl ?_
              refine zw_aload_n 60 f101_59 rfl (zl1_ne rfl rfl (zl1_ne rfl rfl rfl)) ?_
              refine zw_getfield 63 f101_60 rfl g101_10_11 (hb_0 _ _ _ _) rfl ?_
              refine zw_aload_n 64 f101_63 rfl (zl1_ne rfl rfl (zl1_ne rfl rfl rfl)) ?_
              refine zw_getfield 67 f101_64 rfl g101_21_11 (hb_0 _ _ _ _) rfl ?_
              refine zw_getfield 70 f101_67 rfl g101_134_10 (hb_11 _ _ _ _) rfl ?_
              refine zw_iload_n 71 f101_70 rfl (zl1_ne rfl rfl (zl1_ne rfl rfl rfl)) ?_
              refine zw_virtual_v 74 0 0 [.ref 44, .ref 1, .ref 12, .int a] [(0, .ref 44), (1, .ref 1), (2, .ref 12), (3, .int a)] f101_71 rfl n101_285 k101_285_0 rfl (hb_44 _ _ _ _) (by decide +kernel) (Nat.le_of_ble_eq_true rfl) rfl rfl (by decide +kernel) (by decide +kernel) rfl (Nat.le_of_ble_eq_true rfl) rfl ?_
              refine zw_aload_n 1 f1_0 rfl rfl ?_
              refine zw_iconst 0 2 f1_1 rfl (by decide +kernel) ?_
              refine zw_put _ 5 f1_2 rfl g1_15_0 (hb_44 _ _ _ _) rfl (Nat.le_of_ble_eq_true rfl) (by decide +kernel) (hi_44_4 _ _ _ _ _) ?_
              refine zw_aload_n 6 f1_5 rfl rfl ?_
              refine zw_iload_n 7 f1_6 rfl rfl ?_
              refine zw_virtual_i 10 0 0 [.ref 1, .int a] [(0, .ref 1), (1, .int a)] f1_7 rfl n1_19 k1_19_4 rfl (hb_1 _ _ _ _) (by decide +kernel) (Nat.le_of_ble_eq_true rfl) rfl rfl (by decide +kernel) (by decide +kernel) rfl (Nat.le_of_ble_eq_true rfl) rfl ?_
              refine zw_iload_n 1 f13_0 rfl rfl ?_
              refine zw_if_lt_f 4 22 f13_1 (by decide +kernel) rfl hc1 ?_
              refine zw_iload_n 5 f13_4 rfl rfl ?_
              refine zw_aload_n 6 f13_5 rfl rfl ?_
              refine zw_getI (nI nv) 9 f13_6 rfl g13_39_4 (hb_1 _ _ _ _) rfl hR.1.1 ?_
              refine zw_ic_ge_f 12 22 f13_9 (by decide +kernel) rfl hc2 ?_
              refine zw_iload_n 13 f13_12 rfl rfl ?_
              refine zw_bipush 8 15 f13_13 rfl (by decide +kernel) ?_
              refine zw_ic_ge_f 18 22 f13_15 (by decide +kernel) rfl hc3 ?_
              refine zw_iconst 1 19 f13_18 rfl (by decide +kernel) ?_
              refine zw_goto 23 f13_19 (by decide +kernel) ?_
              refine zw_zreturn f13_23 r13 u13 (by decide +kernel) ⟨_, rfl, ?_⟩
              refine zw_if_eq_f 13 53 f1_10 (by decide +kernel) rfl (by decide +kernel) ?_
              refine zw_aload_n 14 f1_13 rfl rfl ?_
              refine zw_aload_n 15 f1_14 rfl rfl ?_
              refine zw_getfield 18 f1_15 rfl g1_25_4 (hb_1 _ _ _ _) rfl ?_
              refine zw_iload_n 19 f1_18 rfl rfl ?_
              refine zw_iaload a.toNatClampNeg (P 54 a.toNatClampNeg) 20 f1_19 rfl (hb_3 _ _ _ _) rfl hc1 (zix (by decide) hc1 hc3) (congrFun ((hR.2.1 54 (by omega) (by omega))) a.toNatClampNeg) ?_
              refine zw_put _ 23 f1_20 rfl g1_28_0 (hb_44 _ _ _ _) rfl (Nat.le_of_ble_eq_true rfl) (by decide +kernel) (hi_44_0 _ _ _ _ _) ?_
              refine zw_aload_n 24 f1_23 rfl rfl ?_
              refine zw_aload_n 25 f1_24 rfl rfl ?_
              refine zw_getfield 28 f1_25 rfl g1_31_4 (hb_1 _ _ _ _) rfl ?_
              refine zw_iload_n 29 f1_28 rfl rfl ?_
              refine zw_iaload a.toNatClampNeg (P 55 a.toNatClampNeg) 30 f1_29 rfl (hb_4 _ _ _ _) rfl hc1 (zix (by decide) hc1 hc3) (congrFun ((hR.2.1 55 (by omega) (by omega))) a.toNatClampNeg) ?_
              refine zw_put _ 33 f1_30 rfl g1_34_0 (hb_44 _ _ _ _) rfl (Nat.le_of_ble_eq_true rfl) (by decide +kernel) (hi_44_1 _ _ _ _ _) ?_
              refine zw_aload_n 34 f1_33 rfl rfl ?_
              refine zw_aload_n 35 f1_34 rfl rfl ?_
              refine zw_getfield 38 f1_35 rfl g1_37_4 (hb_1 _ _ _ _) rfl ?_
              refine zw_iload_n 39 f1_38 rfl rfl ?_
              refine zw_iaload a.toNatClampNeg (P 56 a.toNatClampNeg) 40 f1_39 rfl (hb_5 _ _ _ _) rfl hc1 (zix (by decide) hc1 hc3) (congrFun ((hR.2.1 56 (by omega) (by omega))) a.toNatClampNeg) ?_
              refine zw_put _ 43 f1_40 rfl g1_40_0 (hb_44 _ _ _ _) rfl (Nat.le_of_ble_eq_true rfl) (by decide +kernel) (hi_44_2 _ _ _ _ _) ?_
              refine zw_aload_n 44 f1_43 rfl rfl ?_
              refine zw_aload_n 45 f1_44 rfl rfl ?_
              refine zw_getfield 48 f1_45 rfl g1_43_9 (hb_12 _ _ _ _) rfl ?_
              refine zw_iload_n 49 f1_48 rfl rfl ?_
              refine zw_iaload a.toNatClampNeg (A 14 a.toNatClampNeg) 50 f1_49 rfl (hb_14 _ _ _ _) rfl hc1 (zix (by decide) hc1 hc3) rfl ?_
              refine zw_put _ 53 f1_50 rfl g1_48_0 (hb_44 _ _ _ _) rfl (Nat.le_of_ble_eq_true rfl) (by decide +kernel) (hi_44_3 _ _ _ _ _) ?_
              refine zw_vreturn f1_53 r1 u1 ⟨rfl, ?_⟩
              refine zw_iload_n 75 f101_74 rfl (zl1_ne rfl rfl (zl1_ne rfl rfl rfl)) ?_
              rcases zl_sw 2 (by decide) b with hs10 | ⟨hs10k, hs10l, hs10e⟩
              · refine zw_table_o 133 f101_75 hs10 (by decide +kernel) ?_
                refine zw_aload_n 134 f101_133 rfl (zl1_ne rfl rfl (zl1_ne rfl rfl rfl)) ?_
                refine zw_aload 136 f101_134 rfl zl1_eq ?_
                refine zw_iload_n 137 f101_136 rfl (zl1_ne rfl rfl (zl1_ne rfl rfl rfl)) ?_
                refine zw_virtual_i 140 0 0 [.ref 51, .int c] [(0, .ref 51), (1, .int c)] f101_137 rfl n101_298 k101_298_1 rfl (hb_51 _ _ _ _) (by decide +kernel) (Nat.le_of_ble_eq_true rfl) rfl rfl (by decide +kernel) (by decide +kernel) rfl (Nat.le_of_ble_eq_true rfl) rfl ?_
                refine zw_aload_n 1 f40_0 rfl rfl ?_
                refine zw_getfield 4 f40_1 rfl g40_7_1 (hb_51 _ _ _ _) rfl ?_
                refine zw_bipush 13 6 f40_4 rfl (by decide +kernel) ?_
                refine zw_virtual_v 9 0 0 [.ref 44, .int 13] [(0, .ref 44), (1, .int 13)] f40_6 rfl n40_13 k40_13_0 rfl (hb_44 _ _ _ _) (by decide +kernel) (Nat.le_of_ble_eq_true rfl) rfl rfl (by decide +kernel) (by decide +kernel) rfl (Nat.le_of_ble_eq_true rfl) rfl ?_
                refine zw_aload_n 1 f2_0 rfl rfl ?_
                refine zw_getI 0 4 f2_1 rfl g2_15_0 (hb_44 _ _ _ _) rfl rfl ?_
                refine zw_bipush 50 6 f2_4 rfl (by decide +kernel) ?_
                refine zw_ic_ge_f 9 29 f2_6 (by decide +kernel) rfl (by decide +kernel) ?_
                refine zw_aload_n 10 f2_9 rfl rfl ?_
                refine zw_getfield 13 f2_10 rfl g2_9_0 (hb_44 _ _ _ _) rfl ?_
                refine zw_aload_n 14 f2_13 rfl rfl ?_
                refine zw_getI 0 17 f2_14 rfl g2_15_0 (hb_44 _ _ _ _) rfl rfl ?_
                refine zw_iload_n 18 f2_17 rfl rfl ?_
                refine zw_ast 0 _ 19 f2_18 rfl (hb_45 _ _ _ _) (by decide +kernel) (by decide +kernel) (by decide +kernel) (ha_45 _ _ _ _ _) ?_
                refine zw_aload_n 20 f2_19 rfl rfl ?_
                refine zw_dup 21 f2_20 rfl rfl ?_
                refine zw_getI 0 24 f2_21 rfl g2_15_0 (hb_44 _ _ _ _) rfl rfl ?_
                refine zw_iconst 1 25 f2_24 rfl (by decide +kernel) ?_
                refine zw_iadd 1 26 f2_25 rfl (by decide +kernel) ?_
                refine zw_put _ 29 f2_26 rfl g2_15_0 (hb_44 _ _ _ _) rfl (Nat.le_of_ble_eq_true rfl) (by decide +kernel) (hi_44_4 _ _ _ _ _) ?_
                refine zw_vreturn f2_29 r2 u2 ⟨rfl, ?_⟩
                refine zw_aload_n 10 f40_9 rfl rfl ?_
                refine zw_iload_n 11 f40_10 rfl rfl ?_
                refine zw_virtual_i 14 0 0 [.ref 51, .int c] [(0, .ref 51), (1, .int c)] f40_11 rfl n40_27 k40_27_1 rfl (hb_51 _ _ _ _) (by decide +kernel) (Nat.le_of_ble_eq_true rfl) rfl rfl (by decide +kernel) (by decide +kernel) rfl (Nat.le_of_ble_eq_true rfl) rfl ?_
                refine zw_aload_n 1 f5_0 rfl rfl ?_
                refine zw_getfield 4 f5_1 rfl g5_7_1 (hb_51 _ _ _ _) rfl ?_
                refine zw_bipush 51 6 f5_4 rfl (by decide +kernel) ?_
                refine zw_virtual_v 9 0 0 [.ref 44, .int 51] [(0, .ref 44), (1, .int 51)] f5_6 rfl n5_13 k5_13_0 rfl (hb_44 _ _ _ _) (by decide +kernel) (Nat.le_of_ble_eq_true rfl) rfl rfl (by decide +kernel) (by decide +kernel) rfl (Nat.le_of_ble_eq_true rfl) rfl ?_
                refine zw_aload_n 1 f2_0 rfl rfl ?_
                refine zw_getI 1 4 f2_1 rfl g2_15_0 (hb_44 _ _ _ _) rfl rfl ?_
                refine zw_bipush 50 6 f2_4 rfl (by decide +kernel) ?_
                refine zw_ic_ge_f 9 29 f2_6 (by decide +kernel) rfl (by decide +kernel) ?_
                refine zw_aload_n 10 f2_9 rfl rfl ?_
                refine zw_getfield 13 f2_10 rfl g2_9_0 (hb_44 _ _ _ _) rfl ?_
                refine zw_aload_n 14 f2_13 rfl rfl ?_
                refine zw_getI 1 17 f2_14 rfl g2_15_0 (hb_44 _ _ _ _) rfl rfl ?_
                refine zw_iload_n 18 f2_17 rfl rfl ?_
                refine zw_ast 1 _ 19 f2_18 rfl (hb_45 _ _ _ _) (by decide +kernel) (by decide +kernel) (by decide +kernel) (ha_45 _ _ _ _ _) ?_
                refine zw_aload_n 20 f2_19 rfl rfl ?_
                refine zw_dup 21 f2_20 rfl rfl ?_
                refine zw_getI 1 24 f2_21 rfl g2_15_0 (hb_44 _ _ _ _) rfl rfl ?_
                refine zw_iconst 1 25 f2_24 rfl (by decide +kernel) ?_
                refine zw_iadd 2 26 f2_25 rfl (by decide +kernel) ?_
                refine zw_put _ 29 f2_26 rfl g2_15_0 (hb_44 _ _ _ _) rfl (Nat.le_of_ble_eq_true rfl) (by decide +kernel) (hi_44_4 _ _ _ _ _) ?_
                refine zw_vreturn f2_29 r2 u2 ⟨rfl, ?_⟩
                refine zw_aload_n 10 f5_9 rfl rfl ?_
                refine zw_iload_n 11 f5_10 rfl rfl ?_
                refine zw_super_i 14 0 0 [.ref 51, .int c] [(0, .ref 51), (1, .int c)] f5_11 rfl k5_27_99 k5_27_98 (by decide +kernel) rfl (hb_51 _ _ _ _) (by decide +kernel) (Nat.le_of_ble_eq_true rfl) rfl rfl (by decide +kernel) (by decide +kernel) rfl (Nat.le_of_ble_eq_true rfl) rfl ?_
                refine zw_aload_n 1 f38_0 rfl rfl ?_
                refine zw_getfield 4 f38_1 rfl g38_7_1 (hb_51 _ _ _ _) rfl ?_
                refine zw_bipush 11 6 f38_4 rfl (by decide +kernel) ?_
                refine zw_virtual_v 9 0 0 [.ref 44, .int 11] [(0, .ref 44), (1, .int 11)] f38_6 rfl n38_13 k38_13_0 rfl (hb_44 _ _ _ _) (by decide +kernel) (Nat.le_of_ble_eq_true rfl) rfl rfl (by decide +kernel) (by decide +kernel) rfl (Nat.le_of_ble_eq_true rfl) rfl ?_
                refine zw_aload_n 1 f2_0 rfl rfl ?_
                refine zw_getI 2 4 f2_1 rfl g2_15_0 (hb_44 _ _ _ _) rfl rfl ?_
                refine zw_bipush 50 6 f2_4 rfl (by decide +kernel) ?_
                refine zw_ic_ge_f 9 29 f2_6 (by decide +kernel) rfl (by decide +kernel) ?_
                refine zw_aload_n 10 f2_9 rfl rfl ?_
                refine zw_getfield 13 f2_10 rfl g2_9_0 (hb_44 _ _ _ _) rfl ?_
                refine zw_aload_n 14 f2_13 rfl rfl ?_
                refine zw_getI 2 17 f2_14 rfl g2_15_0 (hb_44 _ _ _ _) rfl rfl ?_
                refine zw_iload_n 18 f2_17 rfl rfl ?_
                refine zw_ast 2 _ 19 f2_18 rfl (hb_45 _ _ _ _) (by decide +kernel) (by decide +kernel) (by decide +kernel) (ha_45 _ _ _ _ _) ?_
                refine zw_aload_n 20 f2_19 rfl rfl ?_
                refine zw_dup 21 f2_20 rfl rfl ?_
                refine zw_getI 2 24 f2_21 rfl g2_15_0 (hb_44 _ _ _ _) rfl rfl ?_
                refine zw_iconst 1 25 f2_24 rfl (by decide +kernel) ?_
                refine zw_iadd 3 26 f2_25 rfl (by decide +kernel) ?_
                refine zw_put _ 29 f2_26 rfl g2_15_0 (hb_44 _ _ _ _) rfl (Nat.le_of_ble_eq_true rfl) (by decide +kernel) (hi_44_4 _ _ _ _ _) ?_
                refine zw_vreturn f2_29 r2 u2 ⟨rfl, ?_⟩
                refine zw_aload_n 10 f38_9 rfl rfl ?_
                refine zw_iload_n 11 f38_10 rfl rfl ?_
                refine zw_virtual_i 14 0 0 [.ref 51, .int c] [(0, .ref 51), (1, .int c)] f38_11 rfl n38_23 k38_23_1 rfl (hb_51 _ _ _ _) (by decide +kernel) (Nat.le_of_ble_eq_true rfl) rfl rfl (by decide +kernel) (by decide +kernel) rfl (Nat.le_of_ble_eq_true rfl) rfl ?_
                refine zw_aload_n 1 f8_0 rfl rfl ?_
                refine zw_getfield 4 f8_1 rfl g8_7_1 (hb_51 _ _ _ _) rfl ?_
                refine zw_bipush 41 6 f8_4 rfl (by decide +kernel) ?_
                refine zw_virtual_v 9 0 0 [.ref 44, .int 41] [(0, .ref 44), (1, .int 41)] f8_6 rfl n8_13 k8_13_0 rfl (hb_44 _ _ _ _) (by decide +kernel) (Nat.le_of_ble_eq_true rfl) rfl rfl (by decide +kernel) (by decide +kernel) rfl (Nat.le_of_ble_eq_true rfl) rfl ?_
                refine zw_aload_n 1 f2_0 rfl rfl ?_
                refine zw_getI 3 4 f2_1 rfl g2_15_0 (hb_44 _ _ _ _) rfl rfl ?_
                refine zw_bipush 50 6 f2_4 rfl (by decide +kernel) ?_
                refine zw_ic_ge_f 9 29 f2_6 (by decide +kernel) rfl (by decide +kernel) ?_
                refine zw_aload_n 10 f2_9 rfl rfl ?_
                refine zw_getfield 13 f2_10 rfl g2_9_0 (hb_44 _ _ _ _) rfl ?_
                refine zw_aload_n 14 f2_13 rfl rfl ?_
                refine zw_getI 3 17 f2_14 rfl g2_15_0 (hb_44 _ _ _ _) rfl rfl ?_
                refine zw_iload_n 18 f2_17 rfl rfl ?_
                refine zw_ast 3 _ 19 f2_18 rfl (hb_45 _ _ _ _) (by decide +kernel) (by decide +kernel) (by decide +kernel) (ha_45 _ _ _ _ _) ?_
                refine zw_aload_n 20 f2_19 rfl rfl ?_
                refine zw_dup 21 f2_20 rfl rfl ?_
                refine zw_getI 3 24 f2_21 rfl g2_15_0 (hb_44 _ _ _ _) rfl rfl ?_
                refine zw_iconst 1 25 f2_24 rfl (by decide +kernel) ?_
                refine zw_iadd 4 26 f2_25 rfl (by decide +kernel) ?_
                refine zw_put _ 29 f2_26 rfl g2_15_0 (hb_44 _ _ _ _) rfl (Nat.le_of_ble_eq_true rfl) (by decide +kernel) (hi_44_4 _ _ _ _ _) ?_
                refine zw_vreturn f2_29 r2 u2 ⟨rfl, ?_⟩
                refine zw_aload_n 10 f8_9 rfl rfl ?_
                refine zw_iload_n 11 f8_10 rfl rfl ?_
                refine zw_aload_n 12 f8_11 rfl rfl ?_
                refine zw_getfield 15 f8_12 rfl g8_7_1 (hb_51 _ _ _ _) rfl ?_
                refine zw_getI (P 55 a.toNatClampNeg) 18 f8_15 rfl g8_27_0 (hb_44 _ _ _ _) rfl rfl ?_
                refine zw_iadd (c + (P 55 a.toNatClampNeg)) 19 f8_18 rfl rfl ?_
                refine zw_super_i 22 0 0 [.ref 51, .int (c + (P 55 a.toNatClampNeg))] [(0, .ref 51), (1, .int (c + (P 55 a.toNatClampNeg)))] f8_19 rfl k8_30_99 k8_30_98 (by decide +kernel) rfl (hb_51 _ _ _ _) (by decide +kernel) (Nat.le_of_ble_eq_true rfl) rfl rfl (by decide +kernel) (by decide +kernel) rfl (Nat.le_of_ble_eq_true rfl) rfl ?_
                refine zw_aload_n 1 f37_0 rfl rfl ?_
                refine zw_getfield 4 f37_1 rfl g37_7_1 (hb_51 _ _ _ _) rfl ?_
                refine zw_bipush 10 6 f37_4 rfl (by decide +kernel) ?_
                refine zw_virtual_v 9 0 0 [.ref 44, .int 10] [(0, .ref 44), (1, .int 10)] f37_6 rfl n37_13 k37_13_0 rfl (hb_44 _ _ _ _) (by decide +kernel) (Nat.le_of_ble_eq_true rfl) rfl rfl (by decide +kernel) (by decide +kernel) rfl (Nat.le_of_ble_eq_true rfl) rfl ?_
                refine zw_aload_n 1 f2_0 rfl rfl ?_
                refine zw_getI 4 4 f2_1 rfl g2_15_0 (hb_44 _ _ _ _) rfl rfl ?_
                refine zw_bipush 50 6 f2_4 rfl (by decide +kernel) ?_
                refine zw_ic_ge_f 9 29 f2_6 (by decide +kernel) rfl (by decide +kernel) ?_
                refine zw_aload_n 10 f2_9 rfl rfl ?_
                refine zw_getfield 13 f2_10 rfl g2_9_0 (hb_44 _ _ _ _) rfl ?_
                refine zw_aload_n 14 f2_13 rfl rfl ?_
                refine zw_getI 4 17 f2_14 rfl g2_15_0 (hb_44 _ _ _ _) rfl rfl ?_
                refine zw_iload_n 18 f2_17 rfl rfl ?_
                refine zw_ast 4 _ 19 f2_18 rfl (hb_45 _ _ _ _) (by decide +kernel) (by decide +kernel) (by decide +kernel) (ha_45 _ _ _ _ _) ?_
                refine zw_aload_n 20 f2_19 rfl rfl ?_
                refine zw_dup 21 f2_20 rfl rfl ?_
                refine zw_getI 4 24 f2_21 rfl g2_15_0 (hb_44 _ _ _ _) rfl rfl ?_
                refine zw_iconst 1 25 f2_24 rfl (by decide +kernel) ?_
                refine zw_iadd 5 26 f2_25 rfl (by decide +kernel) ?_
                refine zw_put _ 29 f2_26 rfl g2_15_0 (hb_44 _ _ _ _) rfl (Nat.le_of_ble_eq_true rfl) (by decide +kernel) (hi_44_4 _ _ _ _ _) ?_
                refine zw_vreturn f2_29 r2 u2 ⟨rfl, ?_⟩
                refine zw_iload_n 10 f37_9 rfl rfl ?_
                refine zw_aload_n 11 f37_10 rfl rfl ?_
                refine zw_getfield 14 f37_11 rfl g37_7_1 (hb_51 _ _ _ _) rfl ?_
                refine zw_getI (P 54 a.toNatClampNeg) 17 f37_14 rfl g37_19_0 (hb_44 _ _ _ _) rfl rfl ?_
                refine zw_iadd ((c + (P 55 a.toNatClampNeg)) + (P 54 a.toNatClampNeg)) 18 f37_17 rfl rfl ?_
                refine zw_ireturn f37_18 r37 u37 ⟨_, rfl, ?_⟩
                refine zw_ireturn f8_22 r8 u8 ⟨_, rfl, ?_⟩
                refine zw_iconst 3 15 f38_14 rfl (by decide +kernel) ?_
                refine zw_imul (((c + (P 55 a.toNatClampNeg)) + (P 54 a.toNatClampNeg)) * 3) 16 f38_15 rfl rfl ?_
                refine zw_ireturn f38_16 r38 u38 ⟨_, rfl, ?_⟩
                refine zw_aload_n 15 f5_14 rfl rfl ?_
                refine zw_getfield 18 f5_15 rfl g5_7_1 (hb_51 _ _ _ _) rfl ?_
                refine zw_getI (A 14 a.toNatClampNeg) 21 f5_18 rfl g5_23_0 (hb_44 _ _ _ _) rfl rfl ?_
                refine zw_ixor ((((c + (P 55 a.toNatClampNeg)) + (P 54 a.toNatClampNeg)) * 3) ^^^ (A 14 a.toNatClampNeg)) 22 f5_21 rfl rfl ?_
                refine zw_ireturn f5_22 r5 u5 ⟨_, rfl, ?_⟩
                refine zw_aload_n 15 f40_14 rfl rfl ?_
                refine zw_iload_n 16 f40_15 rfl rfl ?_
                refine zw_virtual_i 19 0 0 [.ref 51, .int c] [(0, .ref 51), (1, .int c)] f40_16 rfl n40_30 k40_30_1 rfl (hb_51 _ _ _ _) (by decide +kernel) (Nat.le_of_ble_eq_true rfl) rfl rfl (by decide +kernel) (by decide +kernel) rfl (Nat.le_of_ble_eq_true rfl) rfl ?_
                refine zw_aload_n 1 f4_0 rfl rfl ?_
                refine zw_getfield 4 f4_1 rfl g4_7_1 (hb_51 _ _ _ _) rfl ?_
                refine zw_bipush 50 6 f4_4 rfl (by decide +kernel) ?_
                refine zw_virtual_v 9 0 0 [.ref 44, .int 50] [(0, .ref 44), (1, .int 50)] f4_6 rfl n4_13 k4_13_0 rfl (hb_44 _ _ _ _) (by decide +kernel) (Nat.le_of_ble_eq_true rfl) rfl rfl (by decide +kernel) (by decide +kernel) rfl (Nat.le_of_ble_eq_true rfl) rfl ?_
                refine zw_aload_n 1 f2_0 rfl rfl ?_
                refine zw_getI 5 4 f2_1 rfl g2_15_0 (hb_44 _ _ _ _) rfl rfl ?_
                refine zw_bipush 50 6 f2_4 rfl (by decide +kernel) ?_
                refine zw_ic_ge_f 9 29 f2_6 (by decide +kernel) rfl (by decide +kernel) ?_
                refine zw_aload_n 10 f2_9 rfl rfl ?_
                refine zw_getfield 13 f2_10 rfl g2_9_0 (hb_44 _ _ _ _) rfl ?_
                refine zw_aload_n 14 f2_13 rfl rfl ?_
                refine zw_getI 5 17 f2_14 rfl g2_15_0 (hb_44 _ _ _ _) rfl rfl ?_
                refine zw_iload_n 18 f2_17 rfl rfl ?_
                refine zw_ast 5 _ 19 f2_18 rfl (hb_45 _ _ _ _) (by decide +kernel) (by decide +kernel) (by decide +kernel) (ha_45 _ _ _ _ _) ?_
                refine zw_aload_n 20 f2_19 rfl rfl ?_
                refine zw_dup 21 f2_20 rfl rfl ?_
                refine zw_getI 5 24 f2_21 rfl g2_15_0 (hb_44 _ _ _ _) rfl rfl ?_
                refine zw_iconst 1 25 f2_24 rfl (by decide +kernel) ?_
                refine zw_iadd 6 26 f2_25 rfl (by decide +kernel) ?_
                refine zw_put _ 29 f2_26 rfl g2_15_0 (hb_44 _ _ _ _) rfl (Nat.le_of_ble_eq_true rfl) (by decide +kernel) (hi_44_4 _ _ _ _ _) ?_
                refine zw_vreturn f2_29 r2 u2 ⟨rfl, ?_⟩
                refine zw_aload_n 10 f4_9 rfl rfl ?_
                refine zw_iload_n 11 f4_10 rfl rfl ?_
                refine zw_super_i 14 0 0 [.ref 51, .int c] [(0, .ref 51), (1, .int c)] f4_11 rfl k4_19_99 k4_19_98 (by decide +kernel) rfl (hb_51 _ _ _ _) (by decide +kernel) (Nat.le_of_ble_eq_true rfl) rfl rfl (by decide +kernel) (by decide +kernel) rfl (Nat.le_of_ble_eq_true rfl) rfl ?_
                refine zw_aload_n 1 f7_0 rfl rfl ?_
                refine zw_getfield 4 f7_1 rfl g7_7_1 (hb_51 _ _ _ _) rfl ?_
                refine zw_bipush 40 6 f7_4 rfl (by decide +kernel) ?_
                refine zw_virtual_v 9 0 0 [.ref 44, .int 40] [(0, .ref 44), (1, .int 40)] f7_6 rfl n7_13 k7_13_0 rfl (hb_44 _ _ _ _) (by decide +kernel) (Nat.le_of_ble_eq_true rfl) rfl rfl (by decide +kernel) (by decide +kernel) rfl (Nat.le_of_ble_eq_true rfl) rfl ?_
                refine zw_aload_n 1 f2_0 rfl rfl ?_
                refine zw_getI 6 4 f2_1 rfl g2_15_0 (hb_44 _ _ _ _) rfl rfl ?_
                refine zw_bipush 50 6 f2_4 rfl (by decide +kernel) ?_
                refine zw_ic_ge_f 9 29 f2_6 (by decide +kernel) rfl (by decide +kernel) ?_
                refine zw_aload_n 10 f2_9 rfl rfl ?_
                refine zw_getfield 13 f2_10 rfl g2_9_0 (hb_44 _ _ _ _) rfl ?_
                refine zw_aload_n 14 f2_13 rfl rfl ?_
                refine zw_getI 6 17 f2_14 rfl g2_15_0 (hb_44 _ _ _ _) rfl rfl ?_
                refine zw_iload_n 18 f2_17 rfl rfl ?_
                refine zw_ast 6 _ 19 f2_18 rfl (hb_45 _ _ _ _) (by decide +kernel) (by decide +kernel) (by decide +kernel) (ha_45 _ _ _ _ _) ?_
                refine zw_aload_n 20 f2_19 rfl rfl ?_
                refine zw_dup 21 f2_20 rfl rfl ?_
                refine zw_getI 6 24 f2_21 rfl g2_15_0 (hb_44 _ _ _ _) rfl rfl ?_
                refine zw_iconst 1 25 f2_24 rfl (by decide +kernel) ?_
                refine zw_iadd 7 26 f2_25 rfl (by decide +kernel) ?_
                refine zw_put _ 29 f2_26 rfl g2_15_0 (hb_44 _ _ _ _) rfl (Nat.le_of_ble_eq_true rfl) (by decide +kernel) (hi_44_4 _ _ _ _ _) ?_
                refine zw_vreturn f2_29 r2 u2 ⟨rfl, ?_⟩
                refine zw_aload_n 10 f7_9 rfl rfl ?_
                refine zw_iload_n 11 f7_10 rfl rfl ?_
                refine zw_super_i 14 0 0 [.ref 51, .int c] [(0, .ref 51), (1, .int c)] f7_11 rfl k7_19_99 k7_19_98 (by decide +kernel) rfl (hb_51 _ _ _ _) (by decide +kernel) (Nat.le_of_ble_eq_true rfl) rfl rfl (by decide +kernel) (by decide +kernel) rfl (Nat.le_of_ble_eq_true rfl) rfl ?_
                refine zw_aload_n 1 f39_0 rfl rfl ?_
                refine zw_getfield 4 f39_1 rfl g39_7_1 (hb_51 _ _ _ _) rfl ?_
                refine zw_bipush 12 6 f39_4 rfl (by decide +kernel) ?_
                refine zw_virtual_v 9 0 0 [.ref 44, .int 12] [(0, .ref 44), (1, .int 12)] f39_6 rfl n39_13 k39_13_0 rfl (hb_44 _ _ _ _) (by decide +kernel) (Nat.le_of_ble_eq_true rfl) rfl rfl (by decide +kernel) (by decide +kernel) rfl (Nat.le_of_ble_eq_true rfl) rfl ?_
                refine zw_aload_n 1 f2_0 rfl rfl ?_
                refine zw_getI 7 4 f2_1 rfl g2_15_0 (hb_44 _ _ _ _) rfl rfl ?_
                refine zw_bipush 50 6 f2_4 rfl (by decide +kernel) ?_
                refine zw_ic_ge_f 9 29 f2_6 (by decide +kernel) rfl (by decide +kernel) ?_
                refine zw_aload_n 10 f2_9 rfl rfl ?_
                refine zw_getfield 13 f2_10 rfl g2_9_0 (hb_44 _ _ _ _) rfl ?_
                refine zw_aload_n 14 f2_13 rfl rfl ?_
                refine zw_getI 7 17 f2_14 rfl g2_15_0 (hb_44 _ _ _ _) rfl rfl ?_
                refine zw_iload_n 18 f2_17 rfl rfl ?_
                refine zw_ast 7 _ 19 f2_18 rfl (hb_45 _ _ _ _) (by decide +kernel) (by decide +kernel) (by decide +kernel) (ha_45 _ _ _ _ _) ?_
                refine zw_aload_n 20 f2_19 rfl rfl ?_
                refine zw_dup 21 f2_20 rfl rfl ?_
                refine zw_getI 7 24 f2_21 rfl g2_15_0 (hb_44 _ _ _ _) rfl rfl ?_
                refine zw_iconst 1 25 f2_24 rfl (by decide +kernel) ?_
                refine zw_iadd 8 26 f2_25 rfl (by decide +kernel) ?_
                refine zw_put _ 29 f2_26 rfl g2_15_0 (hb_44 _ _ _ _) rfl (Nat.le_of_ble_eq_true rfl) (by decide +kernel) (hi_44_4 _ _ _ _ _) ?_
                refine zw_vreturn f2_29 r2 u2 ⟨rfl, ?_⟩
                refine zw_iload_n 10 f39_9 rfl rfl ?_
                refine zw_aload_n 11 f39_10 rfl rfl ?_
                refine zw_getfield 14 f39_11 rfl g39_7_1 (hb_51 _ _ _ _) rfl ?_
                refine zw_getI (P 54 a.toNatClampNeg) 17 f39_14 rfl g39_19_0 (hb_44 _ _ _ _) rfl rfl ?_
                refine zw_ixor (c ^^^ (P 54 a.toNatClampNeg)) 18 f39_17 rfl rfl ?_
                refine zw_ireturn f39_18 r39 u39 ⟨_, rfl, ?_⟩
                refine zw_aload_n 15 f7_14 rfl rfl ?_
                refine zw_getfield 18 f7_15 rfl g7_7_1 (hb_51 _ _ _ _) rfl ?_
                refine zw_getI (P 56 a.toNatClampNeg) 21 f7_18 rfl g7_23_0 (hb_44 _ _ _ _) rfl rfl ?_
                refine zw_iadd ((c ^^^ (P 54 a.toNatClampNeg)) + (P 56 a.toNatClampNeg)) 22 f7_21 rfl rfl ?_
                refine zw_ireturn f7_22 r7 u7 ⟨_, rfl, ?_⟩
                refine zw_aload_n 15 f4_14 rfl rfl ?_
                refine zw_getfield 18 f4_15 rfl g4_7_1 (hb_51 _ _ _ _) rfl ?_
                refine zw_getI (A 14 a.toNatClampNeg) 21 f4_18 rfl g4_23_0 (hb_44 _ _ _ _) rfl rfl ?_
                refine zw_iadd (((c ^^^ (P 54 a.toNatClampNeg)) + (P 56 a.toNatClampNeg)) + (A 14 a.toNatClampNeg)) 22 f4_21 rfl rfl ?_
                refine zw_ireturn f4_22 r4 u4 ⟨_, rfl, ?_⟩
                refine zw_isub (((((c + (P 55 a.toNatClampNeg)) + (P 54 a.toNatClampNeg)) * 3) ^^^ (A 14 a.toNatClampNeg)) - (((c ^^^ (P 54 a.toNatClampNeg)) + (P 56 a.toNatClampNeg)) + (A 14 a.toNatClampNeg))) 20 f40_19 rfl rfl ?_
                refine zw_ireturn f40_20 r40 u40 ⟨_, rfl, ?_⟩
                refine zw_virtual_i 143 0 0 [.ref 0, .int (((((c + (P 55 a.toNatClampNeg)) + (P 54 a.toNatClampNeg)) * 3) ^^^ (A 14 a.toNatClampNeg)) - (((c ^^^ (P 54 a.toNatClampNeg)) + (P 56 a.toNatClampNeg)) + (A 14 a.toNatClampNeg)))] [(0, .ref 0), (1, .int (((((c + (P 55 a.toNatClampNeg)) + (P 54 a.toNatClampNeg)) * 3) ^^^ (A 14 a.toNatClampNeg)) - (((c ^^^ (P 54 a.toNatClampNeg)) + (P 56 a.toNatClampNeg)) + (A 14 a.toNatClampNeg))))] f101_140 rfl n101_181 k101_181_11 rfl (hb_0 _ _ _ _) (by decide +kernel) (Nat.le_of_ble_eq_true rfl) rfl rfl (by decide +kernel) (by decide +kernel) rfl (Nat.le_of_ble_eq_true rfl) rfl ?_
                refine zw_aload_n 1 f106_0 rfl rfl ?_
                refine zw_iconst 0 2 f106_1 rfl (by decide +kernel) ?_
                refine zw_put _ 5 f106_2 rfl g106_70_11 (hb_0 _ _ _ _) rfl (Nat.le_of_ble_eq_true rfl) (by decide +kernel) (hi_0_7 _ _ _ _ _) ?_
                refine zw_iload_n 6 f106_5 rfl rfl ?_
                refine zw_ireturn f106_6 r106 u106 ⟨_, rfl, ?_⟩
                refine zw_ireturn f101_143 r101 u101 ?_
                exact ⟨_, _, _, _, rfl, (KQ.i rfl (KQ.i rfl (KQ.a rfl (KQ.i rfl (KQ.a rfl (KQ.i rfl (KQ.a rfl (KQ.i rfl (KQ.a rfl (KQ.i rfl (KQ.a rfl (KQ.i rfl (KQ.a rfl (KQ.i rfl (KQ.a rfl (KQ.i rfl (KQ.a rfl (KQ.i rfl (KQ.i rfl (KQ.i rfl (KQ.i rfl (KQ.i rfl KQ.rf)))))))))))))))))))))), Or.inr ⟨⟨(qV.ofc (by omega) hc1 hc2), ⟨hc4, hc5⟩⟩, by rw [show an_tl (P 53 a.toNatClampNeg) b = [13, 51, 11, 41, 10, 50, 40, 12] from ((cI_n (sw_ne hs10 (by decide))).trans ((cI_n (sw_ne hs10 (by decide))).trans ((cI_n (sw_ne hs10 (by decide))).trans ((cI_n (kne hk (by decide))).trans ((cI_n (kne hk (by decide))).trans ((cI_n (kne hk (by decide))).trans ((cI_n (kne hk (by decide))).trans (cI_y hk))))))))]; exact ⟨rfl, by intro i hi; rcases (show i = 0 ∨ i = 1 ∨ i = 2 ∨ i = 3 ∨ i = 4 ∨ i = 5 ∨ i = 6 ∨ i = 7 by have q : i < 8 := hi; omega) with rfl | rfl | rfl | rfl | rfl | rfl | rfl | rfl <;> rfl⟩⟩, _, rfl⟩
              · rcases (show hs10k = 0 ∨ hs10k = 1 ∨ hs10k = 2 by omega) with rfl | rfl | rfl
                · refine zw_table_k 25 100 f101_75 hs10e (by decide +kernel) (by decide +kernel) (by decide +kernel) ?_
                  refine zw_aload_n 101 f101_100 rfl (zl1_ne rfl rfl (zl1_ne rfl rfl rfl)) ?_
                  refine zw_aload 103 f101_101 rfl zl1_eq ?_
                  refine zw_iload_n 104 f101_103 rfl (zl1_ne rfl rfl (zl1_ne rfl rfl rfl)) ?_
                  refine zw_virtual_i 107 0 0 [.ref 51, .int c] [(0, .ref 51), (1, .int c)] f101_104 rfl n101_289 k101_289_1 rfl (hb_51 _ _ _ _) (by decide +kernel) (Nat.le_of_ble_eq_true rfl) rfl rfl (by decide +kernel) (by decide +kernel) rfl (Nat.le_of_ble_eq_true rfl) rfl ?_
                  refine zw_aload_n 1 f8_0 rfl rfl ?_
                  refine zw_getfield 4 f8_1 rfl g8_7_1 (hb_51 _ _ _ _) rfl ?_
                  refine zw_bipush 41 6 f8_4 rfl (by decide +kernel) ?_
                  refine zw_virtual_v 9 0 0 [.ref 44, .int 41] [(0, .ref 44), (1, .int 41)] f8_6 rfl n8_13 k8_13_0 rfl (hb_44 _ _ _ _) (by decide +kernel) (Nat.le_of_ble_eq_true rfl) rfl rfl (by decide +kernel) (by decide +kernel) rfl (Nat.le_of_ble_eq_true rfl) rfl ?_
                  refine zw_aload_n 1 f2_0 rfl rfl ?_
                  refine zw_getI 0 4 f2_1 rfl g2_15_0 (hb_44 _ _ _ _) rfl rfl ?_
                  refine zw_bipush 50 6 f2_4 rfl (by decide +kernel) ?_
                  refine zw_ic_ge_f 9 29 f2_6 (by decide +kernel) rfl (by decide +kernel) ?_
                  refine zw_aload_n 10 f2_9 rfl rfl ?_
                  refine zw_getfield 13 f2_10 rfl g2_9_0 (hb_44 _ _ _ _) rfl ?_
                  refine zw_aload_n 14 f2_13 rfl rfl ?_
                  refine zw_getI 0 17 f2_14 rfl g2_15_0 (hb_44 _ _ _ _) rfl rfl ?_
                  refine zw_iload_n 18 f2_17 rfl rfl ?_
                  refine zw_ast 0 _ 19 f2_18 rfl (hb_45 _ _ _ _) (by decide +kernel) (by decide +kernel) (by decide +kernel) (ha_45 _ _ _ _ _) ?_
                  refine zw_aload_n 20 f2_19 rfl rfl ?_
                  refine zw_dup 21 f2_20 rfl rfl ?_
                  refine zw_getI 0 24 f2_21 rfl g2_15_0 (hb_44 _ _ _ _) rfl rfl ?_
                  refine zw_iconst 1 25 f2_24 rfl (by decide +kernel) ?_
                  refine zw_iadd 1 26 f2_25 rfl (by decide +kernel) ?_
                  refine zw_put _ 29 f2_26 rfl g2_15_0 (hb_44 _ _ _ _) rfl (Nat.le_of_ble_eq_true rfl) (by decide +kernel) (hi_44_4 _ _ _ _ _) ?_
                  refine zw_vreturn f2_29 r2 u2 ⟨rfl, ?_⟩
                  refine zw_aload_n 10 f8_9 rfl rfl ?_
                  refine zw_iload_n 11 f8_10 rfl rfl ?_
                  refine zw_aload_n 12 f8_11 rfl rfl ?_
                  refine zw_getfield 15 f8_12 rfl g8_7_1 (hb_51 _ _ _ _) rfl ?_
                  refine zw_getI (P 55 a.toNatClampNeg) 18 f8_15 rfl g8_27_0 (hb_44 _ _ _ _) rfl rfl ?_
                  refine zw_iadd (c + (P 55 a.toNatClampNeg)) 19 f8_18 rfl rfl ?_
                  refine zw_super_i 22 0 0 [.ref 51, .int (c + (P 55 a.toNatClampNeg))] [(0, .ref 51), (1, .int (c + (P 55 a.toNatClampNeg)))] f8_19 rfl k8_30_99 k8_30_98 (by decide +kernel) rfl (hb_51 _ _ _ _) (by decide +kernel) (Nat.le_of_ble_eq_true rfl) rfl rfl (by decide +kernel) (by decide +kernel) rfl (Nat.le_of_ble_eq_true rfl) rfl ?_
                  refine zw_aload_n 1 f37_0 rfl rfl ?_
                  refine zw_getfield 4 f37_1 rfl g37_7_1 (hb_51 _ _ _ _) rfl ?_
                  refine zw_bipush 10 6 f37_4 rfl (by decide +kernel) ?_
                  refine zw_virtual_v 9 0 0 [.ref 44, .int 10] [(0, .ref 44), (1, .int 10)] f37_6 rfl n37_13 k37_13_0 rfl (hb_44 _ _ _ _) (by decide +kernel) (Nat.le_of_ble_eq_true rfl) rfl rfl (by decide +kernel) (by decide +kernel) rfl (Nat.le_of_ble_eq_true rfl) rfl ?_
                  refine zw_aload_n 1 f2_0 rfl rfl ?_
                  refine zw_getI 1 4 f2_1 rfl g2_15_0 (hb_44 _ _ _ _) rfl rfl ?_
                  refine zw_bipush 50 6 f2_4 rfl (by decide +kernel) ?_
                  refine zw_ic_ge_f 9 29 f2_6 (by decide +kernel) rfl (by decide +kernel) ?_
                  refine zw_aload_n 10 f2_9 rfl rfl ?_
                  refine zw_getfield 13 f2_10 rfl g2_9_0 (hb_44 _ _ _ _) rfl ?_
                  refine zw_aload_n 14 f2_13 rfl rfl ?_
                  refine zw_getI 1 17 f2_14 rfl g2_15_0 (hb_44 _ _ _ _) rfl rfl ?_
                  refine zw_iload_n 18 f2_17 rfl rfl ?_
                  refine zw_ast 1 _ 19 f2_18 rfl (hb_45 _ _ _ _) (by decide +kernel) (by decide +kernel) (by decide +kernel) (ha_45 _ _ _ _ _) ?_
                  refine zw_aload_n 20 f2_19 rfl rfl ?_
                  refine zw_dup 21 f2_20 rfl rfl ?_
                  refine zw_getI 1 24 f2_21 rfl g2_15_0 (hb_44 _ _ _ _) rfl rfl ?_
                  refine zw_iconst 1 25 f2_24 rfl (by decide +kernel) ?_
                  refine zw_iadd 2 26 f2_25 rfl (by decide +kernel) ?_
                  refine zw_put _ 29 f2_26 rfl g2_15_0 (hb_44 _ _ _ _) rfl (Nat.le_of_ble_eq_true rfl) (by decide +kernel) (hi_44_4 _ _ _ _ _) ?_
                  refine zw_vreturn f2_29 r2 u2 ⟨rfl, ?_⟩
                  refine zw_iload_n 10 f37_9 rfl rfl ?_
                  refine zw_aload_n 11 f37_10 rfl rfl ?_
                  refine zw_getfield 14 f37_11 rfl g37_7_1 (hb_51 _ _ _ _) rfl ?_
                  refine zw_getI (P 54 a.toNatClampNeg) 17 f37_14 rfl g37_19_0 (hb_44 _ _ _ _) rfl rfl ?_
                  refine zw_iadd ((c + (P 55 a.toNatClampNeg)) + (P 54 a.toNatClampNeg)) 18 f37_17 rfl rfl ?_
                  refine zw_ireturn f37_18 r37 u37 ⟨_, rfl, ?_⟩
                  refine zw_ireturn f8_22 r8 u8 ⟨_, rfl, ?_⟩
                  refine zw_virtual_i 110 0 0 [.ref 0, .int ((c + (P 55 a.toNatClampNeg)) + (P 54 a.toNatClampNeg))] [(0, .ref 0), (1, .int ((c + (P 55 a.toNatClampNeg)) + (P 54 a.toNatClampNeg)))] f101_107 rfl n101_181 k101_181_11 rfl (hb_0 _ _ _ _) (by decide +kernel) (Nat.le_of_ble_eq_true rfl) rfl rfl (by decide +kernel) (by decide +kernel) rfl (Nat.le_of_ble_eq_true rfl) rfl ?_
                  refine zw_aload_n 1 f106_0 rfl rfl ?_
                  refine zw_iconst 0 2 f106_1 rfl (by decide +kernel) ?_
                  refine zw_put _ 5 f106_2 rfl g106_70_11 (hb_0 _ _ _ _) rfl (Nat.le_of_ble_eq_true rfl) (by decide +kernel) (hi_0_7 _ _ _ _ _) ?_
                  refine zw_iload_n 6 f106_5 rfl rfl ?_
                  refine zw_ireturn f106_6 r106 u106 ⟨_, rfl, ?_⟩
                  refine zw_ireturn f101_110 r101 u101 ?_
                  exact ⟨_, _, _, _, rfl, (KQ.i rfl (KQ.i rfl (KQ.a rfl (KQ.i rfl (KQ.a rfl (KQ.i rfl (KQ.i rfl (KQ.i rfl (KQ.i rfl (KQ.i rfl KQ.rf)))))))))), Or.inr ⟨⟨(qV.ofc (by omega) hc1 hc2), ⟨hc4, hc5⟩⟩, by rw [show an_tl (P 53 a.toNatClampNeg) b = [41, 10] from ((cI_y (show b = 0 from hs10e)).trans ((cI_n (kne hk (by decide))).trans ((cI_n (kne hk (by decide))).trans ((cI_n (kne hk (by decide))).trans ((cI_n (kne hk (by decide))).trans (cI_y hk))))))]; exact ⟨rfl, by intro i hi; rcases (show i = 0 ∨ i = 1 by have q : i < 2 := hi; omega) with rfl | rfl <;> rfl⟩⟩, _, rfl⟩
                · refine zw_table_k 36 111 f101_75 hs10e (by decide +kernel) (by decide +kernel) (by decide +kernel) ?_
                  refine zw_aload_n 112 f101_111 rfl (zl1_ne rfl rfl (zl1_ne rfl rfl rfl)) ?_
                  refine zw_aload 114 f101_112 rfl zl1_eq ?_
                  refine zw_iload_n 115 f101_114 rfl (zl1_ne rfl rfl (zl1_ne rfl rfl rfl)) ?_
                  refine zw_virtual_i 118 0 0 [.ref 51, .int c] [(0, .ref 51), (1, .int c)] f101_115 rfl n101_292 k101_292_1 rfl (hb_51 _ _ _ _) (by decide +kernel) (Nat.le_of_ble_eq_true rfl) rfl rfl (by decide +kernel) (by decide +kernel) rfl (Nat.le_of_ble_eq_true rfl) rfl ?_
                  refine zw_aload_n 1 f5_0 rfl rfl ?_
                  refine zw_getfield 4 f5_1 rfl g5_7_1 (hb_51 _ _ _ _) rfl ?_
                  refine zw_bipush 51 6 f5_4 rfl (by decide +kernel) ?_
                  refine zw_virtual_v 9 0 0 [.ref 44, .int 51] [(0, .ref 44), (1, .int 51)] f5_6 rfl n5_13 k5_13_0 rfl (hb_44 _ _ _ _) (by decide +kernel) (Nat.le_of_ble_eq_true rfl) rfl rfl (by decide +kernel) (by decide +kernel) rfl (Nat.le_of_ble_eq_true rfl) rfl ?_
                  refine zw_aload_n 1 f2_0 rfl rfl ?_
                  refine zw_getI 0 4 f2_1 rfl g2_15_0 (hb_44 _ _ _ _) rfl rfl ?_
                  refine zw_bipush 50 6 f2_4 rfl (by decide +kernel) ?_
                  refine zw_ic_ge_f 9 29 f2_6 (by decide +kernel) rfl (by decide +kernel) ?_
                  refine zw_aload_n 10 f2_9 rfl rfl ?_
                  refine zw_getfield 13 f2_10 rfl g2_9_0 (hb_44 _ _ _ _) rfl ?_
                  refine zw_aload_n 14 f2_13 rfl rfl ?_
                  refine zw_getI 0 17 f2_14 rfl g2_15_0 (hb_44 _ _ _ _) rfl rfl ?_
                  refine zw_iload_n 18 f2_17 rfl rfl ?_
                  refine zw_ast 0 _ 19 f2_18 rfl (hb_45 _ _ _ _) (by decide +kernel) (by decide +kernel) (by decide +kernel) (ha_45 _ _ _ _ _) ?_
                  refine zw_aload_n 20 f2_19 rfl rfl ?_
                  refine zw_dup 21 f2_20 rfl rfl ?_
                  refine zw_getI 0 24 f2_21 rfl g2_15_0 (hb_44 _ _ _ _) rfl rfl ?_
                  refine zw_iconst 1 25 f2_24 rfl (by decide +kernel) ?_
                  refine zw_iadd 1 26 f2_25 rfl (by decide +kernel) ?_
                  refine zw_put _ 29 f2_26 rfl g2_15_0 (hb_44 _ _ _ _) rfl (Nat.le_of_ble_eq_true rfl) (by decide +kernel) (hi_44_4 _ _ _ _ _) ?_
                  refine zw_vreturn f2_29 r2 u2 ⟨rfl, ?_⟩
                  refine zw_aload_n 10 f5_9 rfl rfl ?_
                  refine zw_iload_n 11 f5_10 rfl rfl ?_
                  refine zw_super_i 14 0 0 [.ref 51, .int c] [(0, .ref 51), (1, .int c)] f5_11 rfl k5_27_99 k5_27_98 (by decide +kernel) rfl (hb_51 _ _ _ _) (by decide +kernel) (Nat.le_of_ble_eq_true rfl) rfl rfl (by decide +kernel) (by decide +kernel) rfl (Nat.le_of_ble_eq_true rfl) rfl ?_
                  refine zw_aload_n 1 f38_0 rfl rfl ?_
                  refine zw_getfield 4 f38_1 rfl g38_7_1 (hb_51 _ _ _ _) rfl ?_
                  refine zw_bipush 11 6 f38_4 rfl (by decide +kernel) ?_
                  refine zw_virtual_v 9 0 0 [.ref 44, .int 11] [(0, .ref 44), (1, .int 11)] f38_6 rfl n38_13 k38_13_0 rfl (hb_44 _ _ _ _) (by decide +kernel) (Nat.le_of_ble_eq_true rfl) rfl rfl (by decide +kernel) (by decide +kernel) rfl (Nat.le_of_ble_eq_true rfl) rfl ?_
                  refine zw_aload_n 1 f2_0 rfl rfl ?_
                  refine zw_getI 1 4 f2_1 rfl g2_15_0 (hb_44 _ _ _ _) rfl rfl ?_
                  refine zw_bipush 50 6 f2_4 rfl (by decide +kernel) ?_
                  refine zw_ic_ge_f 9 29 f2_6 (by decide +kernel) rfl (by decide +kernel) ?_
                  refine zw_aload_n 10 f2_9 rfl rfl ?_
                  refine zw_getfield 13 f2_10 rfl g2_9_0 (hb_44 _ _ _ _) rfl ?_
                  refine zw_aload_n 14 f2_13 rfl rfl ?_
                  refine zw_getI 1 17 f2_14 rfl g2_15_0 (hb_44 _ _ _ _) rfl rfl ?_
                  refine zw_iload_n 18 f2_17 rfl rfl ?_
                  refine zw_ast 1 _ 19 f2_18 rfl (hb_45 _ _ _ _) (by decide +kernel) (by decide +kernel) (by decide +kernel) (ha_45 _ _ _ _ _) ?_
                  refine zw_aload_n 20 f2_19 rfl rfl ?_
                  refine zw_dup 21 f2_20 rfl rfl ?_
                  refine zw_getI 1 24 f2_21 rfl g2_15_0 (hb_44 _ _ _ _) rfl rfl ?_
                  refine zw_iconst 1 25 f2_24 rfl (by decide +kernel) ?_
                  refine zw_iadd 2 26 f2_25 rfl (by decide +kernel) ?_
                  refine zw_put _ 29 f2_26 rfl g2_15_0 (hb_44 _ _ _ _) rfl (Nat.le_of_ble_eq_true rfl) (by decide +kernel) (hi_44_4 _ _ _ _ _) ?_
                  refine zw_vreturn f2_29 r2 u2 ⟨rfl, ?_⟩
                  refine zw_aload_n 10 f38_9 rfl rfl ?_
                  refine zw_iload_n 11 f38_10 rfl rfl ?_
                  refine zw_virtual_i 14 0 0 [.ref 51, .int c] [(0, .ref 51), (1, .int c)] f38_11 rfl n38_23 k38_23_1 rfl (hb_51 _ _ _ _) (by decide +kernel) (Nat.le_of_ble_eq_true rfl) rfl rfl (by decide +kernel) (by decide +kernel) rfl (Nat.le_of_ble_eq_true rfl) rfl ?_
                  refine zw_aload_n 1 f8_0 rfl rfl ?_
                  refine zw_getfield 4 f8_1 rfl g8_7_1 (hb_51 _ _ _ _) rfl ?_
                  refine zw_bipush 41 6 f8_4 rfl (by decide +kernel) ?_
                  refine zw_virtual_v 9 0 0 [.ref 44, .int 41] [(0, .ref 44), (1, .int 41)] f8_6 rfl n8_13 k8_13_0 rfl (hb_44 _ _ _ _) (by decide +kernel) (Nat.le_of_ble_eq_true rfl) rfl rfl (by decide +kernel) (by decide +kernel) rfl (Nat.le_of_ble_eq_true rfl) rfl ?_
                  refine zw_aload_n 1 f2_0 rfl rfl ?_
                  refine zw_getI 2 4 f2_1 rfl g2_15_0 (hb_44 _ _ _ _) rfl rfl ?_
                  refine zw_bipush 50 6 f2_4 rfl (by decide +kernel) ?_
                  refine zw_ic_ge_f 9 29 f2_6 (by decide +kernel) rfl (by decide +kernel) ?_
                  refine zw_aload_n 10 f2_9 rfl rfl ?_
                  refine zw_getfield 13 f2_10 rfl g2_9_0 (hb_44 _ _ _ _) rfl ?_
                  refine zw_aload_n 14 f2_13 rfl rfl ?_
                  refine zw_getI 2 17 f2_14 rfl g2_15_0 (hb_44 _ _ _ _) rfl rfl ?_
                  refine zw_iload_n 18 f2_17 rfl rfl ?_
                  refine zw_ast 2 _ 19 f2_18 rfl (hb_45 _ _ _ _) (by decide +kernel) (by decide +kernel) (by decide +kernel) (ha_45 _ _ _ _ _) ?_
                  refine zw_aload_n 20 f2_19 rfl rfl ?_
                  refine zw_dup 21 f2_20 rfl rfl ?_
                  refine zw_getI 2 24 f2_21 rfl g2_15_0 (hb_44 _ _ _ _) rfl rfl ?_
                  refine zw_iconst 1 25 f2_24 rfl (by decide +kernel) ?_
                  refine zw_iadd 3 26 f2_25 rfl (by decide +kernel) ?_
                  refine zw_put _ 29 f2_26 rfl g2_15_0 (hb_44 _ _ _ _) rfl (Nat.le_of_ble_eq_true rfl) (by decide +kernel) (hi_44_4 _ _ _ _ _) ?_
                  refine zw_vreturn f2_29 r2 u2 ⟨rfl, ?_⟩
                  refine zw_aload_n 10 f8_9 rfl rfl ?_
                  refine zw_iload_n 11 f8_10 rfl rfl ?_
                  refine zw_aload_n 12 f8_11 rfl rfl ?_
                  refine zw_getfield 15 f8_12 rfl g8_7_1 (hb_51 _ _ _ _) rfl ?_
                  refine zw_getI (P 55 a.toNatClampNeg) 18 f8_15 rfl g8_27_0 (hb_44 _ _ _ _) rfl rfl ?_
                  refine zw_iadd (c + (P 55 a.toNatClampNeg)) 19 f8_18 rfl rfl ?_
                  refine zw_super_i 22 0 0 [.ref 51, .int (c + (P 55 a.toNatClampNeg))] [(0, .ref 51), (1, .int (c + (P 55 a.toNatClampNeg)))] f8_19 rfl k8_30_99 k8_30_98 (by decide +kernel) rfl (hb_51 _ _ _ _) (by decide +kernel) (Nat.le_of_ble_eq_true rfl) rfl rfl (by decide +kernel) (by decide +kernel) rfl (Nat.le_of_ble_eq_true rfl) rfl ?_
                  refine zw_aload_n 1 f37_0 rfl rfl ?_
                  refine zw_getfield 4 f37_1 rfl g37_7_1 (hb_51 _ _ _ _) rfl ?_
                  refine zw_bipush 10 6 f37_4 rfl (by decide +kernel) ?_
                  refine zw_virtual_v 9 0 0 [.ref 44, .int 10] [(0, .ref 44), (1, .int 10)] f37_6 rfl n37_13 k37_13_0 rfl (hb_44 _ _ _ _) (by decide +kernel) (Nat.le_of_ble_eq_true rfl) rfl rfl (by decide +kernel) (by decide +kernel) rfl (Nat.le_of_ble_eq_true rfl) rfl ?_
                  refine zw_aload_n 1 f2_0 rfl rfl ?_
                  refine zw_getI 3 4 f2_1 rfl g2_15_0 (hb_44 _ _ _ _) rfl rfl ?_
                  refine zw_bipush 50 6 f2_4 rfl (by decide +kernel) ?_
                  refine zw_ic_ge_f 9 29 f2_6 (by decide +kernel) rfl (by decide +kernel) ?_
                  refine zw_aload_n 10 f2_9 rfl rfl ?_
                  refine zw_getfield 13 f2_10 rfl g2_9_0 (hb_44 _ _ _ _) rfl ?_
                  refine zw_aload_n 14 f2_13 rfl rfl ?_
                  refine zw_getI 3 17 f2_14 rfl g2_15_0 (hb_44 _ _ _ _) rfl rfl ?_
                  refine zw_iload_n 18 f2_17 rfl rfl ?_
                  refine zw_ast 3 _ 19 f2_18 rfl (hb_45 _ _ _ _) (by decide +kernel) (by decide +kernel) (by decide +kernel) (ha_45 _ _ _ _ _) ?_
                  refine zw_aload_n 20 f2_19 rfl rfl ?_
                  refine zw_dup 21 f2_20 rfl rfl ?_
                  refine zw_getI 3 24 f2_21 rfl g2_15_0 (hb_44 _ _ _ _) rfl rfl ?_
                  refine zw_iconst 1 25 f2_24 rfl (by decide +kernel) ?_
                  refine zw_iadd 4 26 f2_25 rfl (by decide +kernel) ?_
                  refine zw_put _ 29 f2_26 rfl g2_15_0 (hb_44 _ _ _ _) rfl (Nat.le_of_ble_eq_true rfl) (by decide +kernel) (hi_44_4 _ _ _ _ _) ?_
                  refine zw_vreturn f2_29 r2 u2 ⟨rfl, ?_⟩
                  refine zw_iload_n 10 f37_9 rfl rfl ?_
                  refine zw_aload_n 11 f37_10 rfl rfl ?_
                  refine zw_getfield 14 f37_11 rfl g37_7_1 (hb_51 _ _ _ _) rfl ?_
                  refine zw_getI (P 54 a.toNatClampNeg) 17 f37_14 rfl g37_19_0 (hb_44 _ _ _ _) rfl rfl ?_
                  refine zw_iadd ((c + (P 55 a.toNatClampNeg)) + (P 54 a.toNatClampNeg)) 18 f37_17 rfl rfl ?_
                  refine zw_ireturn f37_18 r37 u37 ⟨_, rfl, ?_⟩
                  refine zw_ireturn f8_22 r8 u8 ⟨_, rfl, ?_⟩
                  refine zw_iconst 3 15 f38_14 rfl (by decide +kernel) ?_
                  refine zw_imul (((c + (P 55 a.toNatClampNeg)) + (P 54 a.toNatClampNeg)) * 3) 16 f38_15 rfl rfl ?_
                  refine zw_ireturn f38_16 r38 u38 ⟨_, rfl, ?_⟩
                  refine zw_aload_n 15 f5_14 rfl rfl ?_
                  refine zw_getfield 18 f5_15 rfl g5_7_1 (hb_51 _ _ _ _) rfl ?_
                  refine zw_getI (A 14 a.toNatClampNeg) 21 f5_18 rfl g5_23_0 (hb_44 _ _ _ _) rfl rfl ?_
                  refine zw_ixor ((((c + (P 55 a.toNatClampNeg)) + (P 54 a.toNatClampNeg)) * 3) ^^^ (A 14 a.toNatClampNeg)) 22 f5_21 rfl rfl ?_
                  refine zw_ireturn f5_22 r5 u5 ⟨_, rfl, ?_⟩
                  refine zw_virtual_i 121 0 0 [.ref 0, .int ((((c + (P 55 a.toNatClampNeg)) + (P 54 a.toNatClampNeg)) * 3) ^^^ (A 14 a.toNatClampNeg))] [(0, .ref 0), (1, .int ((((c + (P 55 a.toNatClampNeg)) + (P 54 a.toNatClampNeg)) * 3) ^^^ (A 14 a.toNatClampNeg)))] f101_118 rfl n101_181 k101_181_11 rfl (hb_0 _ _ _ _) (by decide +kernel) (Nat.le_of_ble_eq_true rfl) rfl rfl (by decide +kernel) (by decide +kernel) rfl (Nat.le_of_ble_eq_true rfl) rfl ?_
                  refine zw_aload_n 1 f106_0 rfl rfl ?_
                  refine zw_iconst 0 2 f106_1 rfl (by decide +kernel) ?_
                  refine zw_put _ 5 f106_2 rfl g106_70_11 (hb_0 _ _ _ _) rfl (Nat.le_of_ble_eq_true rfl) (by decide +kernel) (hi_0_7 _ _ _ _ _) ?_
                  refine zw_iload_n 6 f106_5 rfl rfl ?_
                  refine zw_ireturn f106_6 r106 u106 ⟨_, rfl, ?_⟩
                  refine zw_ireturn f101_121 r101 u101 ?_
                  exact ⟨_, _, _, _, rfl, (KQ.i rfl (KQ.i rfl (KQ.a rfl (KQ.i rfl (KQ.a rfl (KQ.i rfl (KQ.a rfl (KQ.i rfl (KQ.a rfl (KQ.i rfl (KQ.i rfl (KQ.i rfl (KQ.i rfl (KQ.i rfl KQ.rf)))))))))))))), Or.inr ⟨⟨(qV.ofc (by omega) hc1 hc2), ⟨hc4, hc5⟩⟩, by rw [show an_tl (P 53 a.toNatClampNeg) b = [51, 11, 41, 10] from ((cI_n (kne (show b = 1 from hs10e) (by decide))).trans ((cI_y (show b = 1 from hs10e)).trans ((cI_n (kne hk (by decide))).trans ((cI_n (kne hk (by decide))).trans ((cI_n (kne hk (by decide))).trans ((cI_n (kne hk (by decide))).trans (cI_y hk)))))))]; exact ⟨rfl, by intro i hi; rcases (show i = 0 ∨ i = 1 ∨ i = 2 ∨ i = 3 by have q : i < 4 := hi; omega) with rfl | rfl | rfl | rfl <;> rfl⟩⟩, _, rfl⟩
                · refine zw_table_k 47 122 f101_75 hs10e (by decide +kernel) (by decide +kernel) (by decide +kernel) ?_
                  refine zw_aload_n 123 f101_122 rfl (zl1_ne rfl rfl (zl1_ne rfl rfl rfl)) ?_
                  refine zw_aload 125 f101_123 rfl zl1_eq ?_
                  refine zw_iload_n 126 f101_125 rfl (zl1_ne rfl rfl (zl1_ne rfl rfl rfl)) ?_
                  refine zw_virtual_i 129 0 0 [.ref 51, .int c] [(0, .ref 51), (1, .int c)] f101_126 rfl n101_295 k101_295_1 rfl (hb_51 _ _ _ _) (by decide +kernel) (Nat.le_of_ble_eq_true rfl) rfl rfl (by decide +kernel) (by decide +kernel) rfl (Nat.le_of_ble_eq_true rfl) rfl ?_
                  refine zw_aload_n 1 f4_0 rfl rfl ?_
                  refine zw_getfield 4 f4_1 rfl g4_7_1 (hb_51 _ _ _ _) rfl ?_
                  refine zw_bipush 50 6 f4_4 rfl (by decide +kernel) ?_
                  refine zw_virtual_v 9 0 0 [.ref 44, .int 50] [(0, .ref 44), (1, .int 50)] f4_6 rfl n4_13 k4_13_0 rfl (hb_44 _ _ _ _) (by decide +kernel) (Nat.le_of_ble_eq_true rfl) rfl rfl (by decide +kernel) (by decide +kernel) rfl (Nat.le_of_ble_eq_true rfl) rfl ?_
                  refine zw_aload_n 1 f2_0 rfl rfl ?_
                  refine zw_getI 0 4 f2_1 rfl g2_15_0 (hb_44 _ _ _ _) rfl rfl ?_
                  refine zw_bipush 50 6 f2_4 rfl (by decide +kernel) ?_
                  refine zw_ic_ge_f 9 29 f2_6 (by decide +kernel) rfl (by decide +kernel) ?_
                  refine zw_aload_n 10 f2_9 rfl rfl ?_
                  refine zw_getfield 13 f2_10 rfl g2_9_0 (hb_44 _ _ _ _) rfl ?_
                  refine zw_aload_n 14 f2_13 rfl rfl ?_
                  refine zw_getI 0 17 f2_14 rfl g2_15_0 (hb_44 _ _ _ _) rfl rfl ?_
                  refine zw_iload_n 18 f2_17 rfl rfl ?_
                  refine zw_ast 0 _ 19 f2_18 rfl (hb_45 _ _ _ _) (by decide +kernel) (by decide +kernel) (by decide +kernel) (ha_45 _ _ _ _ _) ?_
                  refine zw_aload_n 20 f2_19 rfl rfl ?_
                  refine zw_dup 21 f2_20 rfl rfl ?_
                  refine zw_getI 0 24 f2_21 rfl g2_15_0 (hb_44 _ _ _ _) rfl rfl ?_
                  refine zw_iconst 1 25 f2_24 rfl (by decide +kernel) ?_
                  refine zw_iadd 1 26 f2_25 rfl (by decide +kernel) ?_
                  refine zw_put _ 29 f2_26 rfl g2_15_0 (hb_44 _ _ _ _) rfl (Nat.le_of_ble_eq_true rfl) (by decide +kernel) (hi_44_4 _ _ _ _ _) ?_
                  refine zw_vreturn f2_29 r2 u2 ⟨rfl, ?_⟩
                  refine zw_aload_n 10 f4_9 rfl rfl ?_
                  refine zw_iload_n 11 f4_10 rfl rfl ?_
                  refine zw_super_i 14 0 0 [.ref 51, .int c] [(0, .ref 51), (1, .int c)] f4_11 rfl k4_19_99 k4_19_98 (by decide +kernel) rfl (hb_51 _ _ _ _) (by decide +kernel) (Nat.le_of_ble_eq_true rfl) rfl rfl (by decide +kernel) (by decide +kernel) rfl (Nat.le_of_ble_eq_true rfl) rfl ?_
                  refine zw_aload_n 1 f7_0 rfl rfl ?_
                  refine zw_getfield 4 f7_1 rfl g7_7_1 (hb_51 _ _ _ _) rfl ?_
                  refine zw_bipush 40 6 f7_4 rfl (by decide +kernel) ?_
                  refine zw_virtual_v 9 0 0 [.ref 44, .int 40] [(0, .ref 44), (1, .int 40)] f7_6 rfl n7_13 k7_13_0 rfl (hb_44 _ _ _ _) (by decide +kernel) (Nat.le_of_ble_eq_true rfl) rfl rfl (by decide +kernel) (by decide +kernel) rfl (Nat.le_of_ble_eq_true rfl) rfl ?_
                  refine zw_aload_n 1 f2_0 rfl rfl ?_
                  refine zw_getI 1 4 f2_1 rfl g2_15_0 (hb_44 _ _ _ _) rfl rfl ?_
                  refine zw_bipush 50 6 f2_4 rfl (by decide +kernel) ?_
                  refine zw_ic_ge_f 9 29 f2_6 (by decide +kernel) rfl (by decide +kernel) ?_
                  refine zw_aload_n 10 f2_9 rfl rfl ?_
                  refine zw_getfield 13 f2_10 rfl g2_9_0 (hb_44 _ _ _ _) rfl ?_
                  refine zw_aload_n 14 f2_13 rfl rfl ?_
                  refine zw_getI 1 17 f2_14 rfl g2_15_0 (hb_44 _ _ _ _) rfl rfl ?_
                  refine zw_iload_n 18 f2_17 rfl rfl ?_
                  refine zw_ast 1 _ 19 f2_18 rfl (hb_45 _ _ _ _) (by decide +kernel) (by decide +kernel) (by decide +kernel) (ha_45 _ _ _ _ _) ?_
                  refine zw_aload_n 20 f2_19 rfl rfl ?_
                  refine zw_dup 21 f2_20 rfl rfl ?_
                  refine zw_getI 1 24 f2_21 rfl g2_15_0 (hb_44 _ _ _ _) rfl rfl ?_
                  refine zw_iconst 1 25 f2_24 rfl (by decide +kernel) ?_
                  refine zw_iadd 2 26 f2_25 rfl (by decide +kernel) ?_
                  refine zw_put _ 29 f2_26 rfl g2_15_0 (hb_44 _ _ _ _) rfl (Nat.le_of_ble_eq_true rfl) (by decide +kernel) (hi_44_4 _ _ _ _ _) ?_
                  refine zw_vreturn f2_29 r2 u2 ⟨rfl, ?_⟩
                  refine zw_aload_n 10 f7_9 rfl rfl ?_
                  refine zw_iload_n 11 f7_10 rfl rfl ?_
                  refine zw_super_i 14 0 0 [.ref 51, .int c] [(0, .ref 51), (1, .int c)] f7_11 rfl k7_19_99 k7_19_98 (by decide +kernel) rfl (hb_51 _ _ _ _) (by decide +kernel) (Nat.le_of_ble_eq_true rfl) rfl rfl (by decide +kernel) (by decide +kernel) rfl (Nat.le_of_ble_eq_true rfl) rfl ?_
                  refine zw_aload_n 1 f39_0 rfl rfl ?_
                  refine zw_getfield 4 f39_1 rfl g39_7_1 (hb_51 _ _ _ _) rfl ?_
                  refine zw_bipush 12 6 f39_4 rfl (by decide +kernel) ?_
                  refine zw_virtual_v 9 0 0 [.ref 44, .int 12] [(0, .ref 44), (1, .int 12)] f39_6 rfl n39_13 k39_13_0 rfl (hb_44 _ _ _ _) (by decide +kernel) (Nat.le_of_ble_eq_true rfl) rfl rfl (by decide +kernel) (by decide +kernel) rfl (Nat.le_of_ble_eq_true rfl) rfl ?_
                  refine zw_aload_n 1 f2_0 rfl rfl ?_
                  refine zw_getI 2 4 f2_1 rfl g2_15_0 (hb_44 _ _ _ _) rfl rfl ?_
                  refine zw_bipush 50 6 f2_4 rfl (by decide +kernel) ?_
                  refine zw_ic_ge_f 9 29 f2_6 (by decide +kernel) rfl (by decide +kernel) ?_
                  refine zw_aload_n 10 f2_9 rfl rfl ?_
                  refine zw_getfield 13 f2_10 rfl g2_9_0 (hb_44 _ _ _ _) rfl ?_
                  refine zw_aload_n 14 f2_13 rfl rfl ?_
                  refine zw_getI 2 17 f2_14 rfl g2_15_0 (hb_44 _ _ _ _) rfl rfl ?_
                  refine zw_iload_n 18 f2_17 rfl rfl ?_
                  refine zw_ast 2 _ 19 f2_18 rfl (hb_45 _ _ _ _) (by decide +kernel) (by decide +kernel) (by decide +kernel) (ha_45 _ _ _ _ _) ?_
                  refine zw_aload_n 20 f2_19 rfl rfl ?_
                  refine zw_dup 21 f2_20 rfl rfl ?_
                  refine zw_getI 2 24 f2_21 rfl g2_15_0 (hb_44 _ _ _ _) rfl rfl ?_
                  refine zw_iconst 1 25 f2_24 rfl (by decide +kernel) ?_
                  refine zw_iadd 3 26 f2_25 rfl (by decide +kernel) ?_
                  refine zw_put _ 29 f2_26 rfl g2_15_0 (hb_44 _ _ _ _) rfl (Nat.le_of_ble_eq_true rfl) (by decide +kernel) (hi_44_4 _ _ _ _ _) ?_
                  refine zw_vreturn f2_29 r2 u2 ⟨rfl, ?_⟩
                  refine zw_iload_n 10 f39_9 rfl rfl ?_
                  refine zw_aload_n 11 f39_10 rfl rfl ?_
                  refine zw_getfield 14 f39_11 rfl g39_7_1 (hb_51 _ _ _ _) rfl ?_
                  refine zw_getI (P 54 a.toNatClampNeg) 17 f39_14 rfl g39_19_0 (hb_44 _ _ _ _) rfl rfl ?_
                  refine zw_ixor (c ^^^ (P 54 a.toNatClampNeg)) 18 f39_17 rfl rfl ?_
                  refine zw_ireturn f39_18 r39 u39 ⟨_, rfl, ?_⟩
                  refine zw_aload_n 15 f7_14 rfl rfl ?_
                  refine zw_getfield 18 f7_15 rfl g7_7_1 (hb_51 _ _ _ _) rfl ?_
                  refine zw_getI (P 56 a.toNatClampNeg) 21 f7_18 rfl g7_23_0 (hb_44 _ _ _ _) rfl rfl ?_
                  refine zw_iadd ((c ^^^ (P 54 a.toNatClampNeg)) + (P 56 a.toNatClampNeg)) 22 f7_21 rfl rfl ?_
                  refine zw_ireturn f7_22 r7 u7 ⟨_, rfl, ?_⟩
                  refine zw_aload_n 15 f4_14 rfl rfl ?_
                  refine zw_getfield 18 f4_15 rfl g4_7_1 (hb_51 _ _ _ _) rfl ?_
                  refine zw_getI (A 14 a.toNatClampNeg) 21 f4_18 rfl g4_23_0 (hb_44 _ _ _ _) rfl rfl ?_
                  refine zw_iadd (((c ^^^ (P 54 a.toNatClampNeg)) + (P 56 a.toNatClampNeg)) + (A 14 a.toNatClampNeg)) 22 f4_21 rfl rfl ?_
                  refine zw_ireturn f4_22 r4 u4 ⟨_, rfl, ?_⟩
                  refine zw_virtual_i 132 0 0 [.ref 0, .int (((c ^^^ (P 54 a.toNatClampNeg)) + (P 56 a.toNatClampNeg)) + (A 14 a.toNatClampNeg))] [(0, .ref 0), (1, .int (((c ^^^ (P 54 a.toNatClampNeg)) + (P 56 a.toNatClampNeg)) + (A 14 a.toNatClampNeg)))] f101_129 rfl n101_181 k101_181_11 rfl (hb_0 _ _ _ _) (by decide +kernel) (Nat.le_of_ble_eq_true rfl) rfl rfl (by decide +kernel) (by decide +kernel) rfl (Nat.le_of_ble_eq_true rfl) rfl ?_
                  refine zw_aload_n 1 f106_0 rfl rfl ?_
                  refine zw_iconst 0 2 f106_1 rfl (by decide +kernel) ?_
                  refine zw_put _ 5 f106_2 rfl g106_70_11 (hb_0 _ _ _ _) rfl (Nat.le_of_ble_eq_true rfl) (by decide +kernel) (hi_0_7 _ _ _ _ _) ?_
                  refine zw_iload_n 6 f106_5 rfl rfl ?_
                  refine zw_ireturn f106_6 r106 u106 ⟨_, rfl, ?_⟩
                  refine zw_ireturn f101_132 r101 u101 ?_
                  exact ⟨_, _, _, _, rfl, (KQ.i rfl (KQ.i rfl (KQ.a rfl (KQ.i rfl (KQ.a rfl (KQ.i rfl (KQ.a rfl (KQ.i rfl (KQ.i rfl (KQ.i rfl (KQ.i rfl (KQ.i rfl KQ.rf)))))))))))), Or.inr ⟨⟨(qV.ofc (by omega) hc1 hc2), ⟨hc4, hc5⟩⟩, by rw [show an_tl (P 53 a.toNatClampNeg) b = [50, 40, 12] from ((cI_n (kne (show b = 2 from hs10e) (by decide))).trans ((cI_n (kne (show b = 2 from hs10e) (by decide))).trans ((cI_y (show b = 2 from hs10e)).trans ((cI_n (kne hk (by decide))).trans ((cI_n (kne hk (by decide))).trans ((cI_n (kne hk (by decide))).trans ((cI_n (kne hk (by decide))).trans (cI_y hk))))))))]; exact ⟨rfl, by intro i hi; rcases (show i = 0 ∨ i = 1 ∨ i = 2 by have q : i < 3 := hi; omega) with rfl | rfl | rfl <;> rfl⟩⟩, _, rfl⟩
set_option maxRecDepth 100000 in
set_option maxHeartbeats 0 in
theorem mt_act (ro : UInt32 → Nat × (Nat → Int32)) (nv np : Nat) (P : Nat → Nat → Int32) (W : qW) (L : qLog) (I : Nat → Nat → Int32) (G : Nat → Nat → Int64) (A : Nat → Nat → Int32) (B : Nat → Nat → Int64) (K : Int) (hR : mRS nv np P W L I G A B) (hp : MPa nv np P) (hW : wInv nv 10000 K P W) (hn : L.1 < 900000000) (hg : qLG L) (hi : mId I) (hQ : qKd nv P) (a b c : Int32) : zWp ro 180 0 [(0, .ref 52), (1, .int a), (2, .int b), (3, .int c)] [] (hS I G A B) 0 0 (fun r h1 => ∃ I2 G2 A2 B2, h1 = hS I2 G2 A2 B2 ∧ KQ fQu pQu I G A B I2 G2 A2 B2 ∧ mId I2 ∧ ((¬ (qV nv a ∧ qRg b 0 3) ∧ I2 52 29 = I 52 29 ∧ A2 71 = A 71) ∨ ((qV nv a ∧ qRg b 0 3) ∧ cTl (I2 52 29) (A2 71) (an_tl (P 53 a.toNatClampNeg) b))) ∧ ∃ v : Int32, r = some (.int v)) := by
  have h8 := hp.1
  have h14 := hp.2.1
  obtain ⟨t, ht, et⟩ := hi.2.2
  refine zw_aload_n 1 f180_0 rfl rfl ?_
  refine zw_iload_n 2 f180_1 rfl rfl ?_
  refine zw_virtual_i 5 0 0 [.ref 52, .int a] [(0, .ref 52), (1, .int a)] f180_2 rfl n180_215 k180_215_12 rfl (hb_52 _ _ _ _) (by decide +kernel) (Nat.le_of_ble_eq_true rfl) rfl rfl (by decide +kernel) (by decide +kernel) rfl (Nat.le_of_ble_eq_true rfl) rfl ?_
  refine zw_iload_n 1 f123_0 rfl rfl ?_
  refine zw_iconst 0 2 f123_1 rfl (by decide +kernel) ?_
  refine zw_aload_n 3 f123_2 rfl rfl ?_
  refine zw_getI (nI nv) 6 f123_3 rfl g123_114_12 (hb_52 _ _ _ _) rfl hR.1.1 ?_
  refine zw_iconst 1 7 f123_6 rfl (by decide +kernel) ?_
  refine zw_isub ((nI nv) - 1) 8 f123_7 rfl rfl ?_
  refine zw_static_i 11 0 0 [.int a, .int 0, .int ((nI nv) - 1)] [] [(0, .int a), (1, .int 0), (2, .int ((nI nv) - 1))] f123_8 rfl k123_117_99 rfl (by decide +kernel) (Nat.le_of_ble_eq_true rfl) (Nat.le_of_ble_eq_true rfl) rfl rfl (by decide +kernel) (by decide +kernel) rfl (Nat.le_of_ble_eq_true rfl) rfl ?_
  refine zw_iload_n 1 f120_0 rfl rfl ?_
  refine zw_iload_n 2 f120_1 rfl rfl ?_
  refine zw_ic_lt 5 14 f120_2 (by decide +kernel) rfl (fun hc1 => ?_) (fun hc1 => ?_)
  · refine zw_iconst 0 15 f120_14 rfl (by decide +kernel) ?_
    refine zw_zreturn f120_15 r120 u120 (by decide +kernel) ⟨_, rfl, ?_⟩
    refine zw_zreturn f123_11 r123 u123 (by decide +kernel) ⟨_, rfl, ?_⟩
    refine zw_if_eq_t 17 f180_5 (by decide +kernel) (by decide +kernel) ?_
    refine zw_aload_n 18 f180_17 rfl rfl ?_
    refine zw_iconst 1 19 f180_18 rfl (by decide +kernel) ?_
    refine zw_virtual_i 22 0 0 [.ref 52, .int 1] [(0, .ref 52), (1, .int 1)] f180_19 rfl n180_209 k180_209_12 rfl (hb_52 _ _ _ _) (by decide +kernel) (Nat.le_of_ble_eq_true rfl) rfl rfl (by decide +kernel) (by decide +kernel) rfl (Nat.le_of_ble_eq_true rfl) rfl ?_
    refine zw_aload_n 1 f121_0 rfl rfl ?_
    refine zw_iload_n 2 f121_1 rfl rfl ?_
    refine zw_put _ 5 f121_2 rfl g121_111_12 (hb_52 _ _ _ _) rfl (Nat.le_of_ble_eq_true rfl) (by decide +kernel) (hi_52_27 _ _ _ _ _) ?_
    refine zw_iconst (-1) 6 f121_5 rfl (by decide +kernel) ?_
    refine zw_ireturn f121_6 r121 u121 ⟨_, rfl, ?_⟩
    refine zw_ireturn f180_22 r180 u180 ?_
    exact ⟨_, _, _, _, rfl, (KQ.i rfl KQ.rf), ⟨hi.1, hi.2.1, t, by omega, et⟩, Or.inl ⟨(fun q => (qV.n0 (by omega) hc1) q.1), rfl, rfl⟩, _, rfl⟩
  · refine zw_iload_n 6 f120_5 rfl rfl ?_
    refine zw_iload_n 7 f120_6 rfl rfl ?_
    refine zw_ic_gt 10 14 f120_7 (by decide +kernel) rfl (fun hc2 => ?_) (fun hc2 => ?_)
    · refine zw_iconst 0 15 f120_14 rfl (by decide +kernel) ?_
      refine zw_zreturn f120_15 r120 u120 (by decide +kernel) ⟨_, rfl, ?_⟩
      refine zw_zreturn f123_11 r123 u123 (by decide +kernel) ⟨_, rfl, ?_⟩
      refine zw_if_eq_t 17 f180_5 (by decide +kernel) (by decide +kernel) ?_
      refine zw_aload_n 18 f180_17 rfl rfl ?_
      refine zw_iconst 1 19 f180_18 rfl (by decide +kernel) ?_
      refine zw_virtual_i 22 0 0 [.ref 52, .int 1] [(0, .ref 52), (1, .int 1)] f180_19 rfl n180_209 k180_209_12 rfl (hb_52 _ _ _ _) (by decide +kernel) (Nat.le_of_ble_eq_true rfl) rfl rfl (by decide +kernel) (by decide +kernel) rfl (Nat.le_of_ble_eq_true rfl) rfl ?_
      refine zw_aload_n 1 f121_0 rfl rfl ?_
      refine zw_iload_n 2 f121_1 rfl rfl ?_
      refine zw_put _ 5 f121_2 rfl g121_111_12 (hb_52 _ _ _ _) rfl (Nat.le_of_ble_eq_true rfl) (by decide +kernel) (hi_52_27 _ _ _ _ _) ?_
      refine zw_iconst (-1) 6 f121_5 rfl (by decide +kernel) ?_
      refine zw_ireturn f121_6 r121 u121 ⟨_, rfl, ?_⟩
      refine zw_ireturn f180_22 r180 u180 ?_
      exact ⟨_, _, _, _, rfl, (KQ.i rfl KQ.rf), ⟨hi.1, hi.2.1, t, by omega, et⟩, Or.inl ⟨(fun q => (qV.n1 (by omega) hc2) q.1), rfl, rfl⟩, _, rfl⟩
    · refine zw_iconst 1 11 f120_10 rfl (by decide +kernel) ?_
      refine zw_goto 15 f120_11 (by decide +kernel) ?_
      refine zw_zreturn f120_15 r120 u120 (by decide +kernel) ⟨_, rfl, ?_⟩
      refine zw_zreturn f123_11 r123 u123 (by decide +kernel) ⟨_, rfl, ?_⟩
      refine zw_if_eq_f 8 17 f180_5 (by decide +kernel) rfl (by decide +kernel) ?_
      refine zw_iload_n 9 f180_8 rfl rfl ?_
      refine zw_iconst 0 10 f180_9 rfl (by decide +kernel) ?_
      refine zw_iconst 3 11 f180_10 rfl (by decide +kernel) ?_
      refine zw_static_i 14 0 0 [.int b, .int 0, .int 3] [] [(0, .int b), (1, .int 0), (2, .int 3)] f180_11 rfl k180_117_99 rfl (by decide +kernel) (Nat.le_of_ble_eq_true rfl) (Nat.le_of_ble_eq_true rfl) rfl rfl (by decide +kernel) (by decide +kernel) rfl (Nat.le_of_ble_eq_true rfl) rfl ?_
      refine zw_iload_n 1 f120_0 rfl rfl ?_
      refine zw_iload_n 2 f120_1 rfl rfl ?_
      refine zw_ic_lt 5 14 f120_2 (by decide +kernel) rfl (fun hc3 => ?_) (fun hc3 => ?_)
      · refine zw_iconst 0 15 f120_14 rfl (by decide +kernel) ?_
        refine zw_zreturn f120_15 r120 u120 (by decide +kernel) ⟨_, rfl, ?_⟩
        refine zw_if_ne_f 17 23 f180_14 (by decide +kernel) rfl (by decide +kernel) ?_
        refine zw_aload_n 18 f180_17 rfl rfl ?_
        refine zw_iconst 1 19 f180_18 rfl (by decide +kernel) ?_
        refine zw_virtual_i 22 0 0 [.ref 52, .int 1] [(0, .ref 52), (1, .int 1)] f180_19 rfl n180_209 k180_209_12 rfl (hb_52 _ _ _ _) (by decide +kernel) (Nat.le_of_ble_eq_true rfl) rfl rfl (by decide +kernel) (by decide +kernel) rfl (Nat.le_of_ble_eq_true rfl) rfl ?_
        refine zw_aload_n 1 f121_0 rfl rfl ?_
        refine zw_iload_n 2 f121_1 rfl rfl ?_
        refine zw_put _ 5 f121_2 rfl g121_111_12 (hb_52 _ _ _ _) rfl (Nat.le_of_ble_eq_true rfl) (by decide +kernel) (hi_52_27 _ _ _ _ _) ?_
        refine zw_iconst (-1) 6 f121_5 rfl (by decide +kernel) ?_
        refine zw_ireturn f121_6 r121 u121 ⟨_, rfl, ?_⟩
        refine zw_ireturn f180_22 r180 u180 ?_
        exact ⟨_, _, _, _, rfl, (KQ.i rfl KQ.rf), ⟨hi.1, hi.2.1, t, by omega, et⟩, Or.inl ⟨(fun q => (fun q => q.1 hc3) q.2), rfl, rfl⟩, _, rfl⟩
      · refine zw_iload_n 6 f120_5 rfl rfl ?_
        refine zw_iload_n 7 f120_6 rfl rfl ?_
        refine zw_ic_gt 10 14 f120_7 (by decide +kernel) rfl (fun hc4 => ?_) (fun hc4 => ?_)
        · refine zw_iconst 0 15 f120_14 rfl (by decide +kernel) ?_
          refine zw_zreturn f120_15 r120 u120 (by decide +kernel) ⟨_, rfl, ?_⟩
          refine zw_if_ne_f 17 23 f180_14 (by decide +kernel) rfl (by decide +kernel) ?_
          refine zw_aload_n 18 f180_17 rfl rfl ?_
          refine zw_iconst 1 19 f180_18 rfl (by decide +kernel) ?_
          refine zw_virtual_i 22 0 0 [.ref 52, .int 1] [(0, .ref 52), (1, .int 1)] f180_19 rfl n180_209 k180_209_12 rfl (hb_52 _ _ _ _) (by decide +kernel) (Nat.le_of_ble_eq_true rfl) rfl rfl (by decide +kernel) (by decide +kernel) rfl (Nat.le_of_ble_eq_true rfl) rfl ?_
          refine zw_aload_n 1 f121_0 rfl rfl ?_
          refine zw_iload_n 2 f121_1 rfl rfl ?_
          refine zw_put _ 5 f121_2 rfl g121_111_12 (hb_52 _ _ _ _) rfl (Nat.le_of_ble_eq_true rfl) (by decide +kernel) (hi_52_27 _ _ _ _ _) ?_
          refine zw_iconst (-1) 6 f121_5 rfl (by decide +kernel) ?_
          refine zw_ireturn f121_6 r121 u121 ⟨_, rfl, ?_⟩
          refine zw_ireturn f180_22 r180 u180 ?_
          exact ⟨_, _, _, _, rfl, (KQ.i rfl KQ.rf), ⟨hi.1, hi.2.1, t, by omega, et⟩, Or.inl ⟨(fun q => (fun q => q.2 hc4) q.2), rfl, rfl⟩, _, rfl⟩
        · refine zw_iconst 1 11 f120_10 rfl (by decide +kernel) ?_
          refine zw_goto 15 f120_11 (by decide +kernel) ?_
          refine zw_zreturn f120_15 r120 u120 (by decide +kernel) ⟨_, rfl, ?_⟩
          refine zw_if_ne_t 23 f180_14 (by decide +kernel) (by decide +kernel) ?_
          refine zw_aload_n 24 f180_23 rfl rfl ?_
          refine zw_iconst 0 25 f180_24 rfl (by decide +kernel) ?_
          refine zw_put _ 28 f180_25 rfl g180_246_12 (hb_52 _ _ _ _) rfl (Nat.le_of_ble_eq_true rfl) (by decide +kernel) (hi_52_29 _ _ _ _ _) ?_
          refine zw_aload_n 29 f180_28 rfl rfl ?_
          refine zw_iload_n 30 f180_29 rfl rfl ?_
          refine zw_if_ne 33 42 f180_30 (by decide +kernel) rfl (fun hc5 => ?_) (fun hc5 => ?_)
          · refine zw_iload_n 43 f180_42 rfl rfl ?_
            refine zw_iconst 1 44 f180_43 rfl (by decide +kernel) ?_
            refine zw_ic_ne 47 56 f180_44 (by decide +kernel) rfl (fun hc6 => ?_) (fun hc6 => ?_)
            · refine zw_iload_n 57 f180_56 rfl rfl ?_
              refine zw_iconst 2 58 f180_57 rfl (by decide +kernel) ?_
              refine zw_ic_ne 61 70 f180_58 (by decide +kernel) rfl (fun hc7 => ?_) (fun hc7 => ?_)
              · refine zw_aload_n 71 f180_70 rfl rfl ?_
                refine zw_iload_n 72 f180_71 rfl rfl ?_
                refine zw_iload_n 73 f180_72 rfl rfl ?_
                refine zw_virtual_i 76 0 0 [.ref 52, .int a, .int c] [(0, .ref 52), (1, .int a), (2, .int c)] f180_73 rfl n180_310 k180_310_12 rfl (hb_52 _ _ _ _) (by decide +kernel) (Nat.le_of_ble_eq_true rfl) rfl rfl (by decide +kernel) (by decide +kernel) rfl (Nat.le_of_ble_eq_true rfl) rfl ?_
                refine zw_iload_n 1 f179_0 rfl rfl ?_
                refine zw_istore_n _ 2 f179_1 rfl (by decide +kernel) rfl ?_
                refine zw_aload_n 3 f179_2 rfl (zl1_ne rfl rfl rfl) ?_
                refine zw_getfield 6 f179_3 rfl g179_7_12 (hb_52 _ _ _ _) rfl ?_
                refine zw_iload_n 7 f179_6 rfl (zl1_ne rfl rfl rfl) ?_
                rcases (k5 (hQ.1 a.toNatClampNeg ((qV.of (by omega) hc1 hc2)).1)) with hk | hk | hk | hk | hk
                · refine zw_iaload a.toNatClampNeg 0 8 f179_7 rfl (hb_53 _ _ _ _) rfl hc1 (zix (by decide) hc1 (show ¬ 8 ≤ a from ix_le hp.1 (by decide) (by decide) hc1 hc2)) ((congrFun (hR.2.1 53 (by omega) (by omega)) a.toNatClampNeg).trans hk) ?_
                  refine zw_iconst 1 9 f179_8 rfl (by decide +kernel) ?_
                  refine zw_ic_ne_t 22 f179_9 (by decide +kernel) (by decide +kernel) ?_
                  refine zw_aload_n 23 f179_22 rfl (zl1_ne rfl rfl rfl) ?_
                  refine zw_bipush 13 25 f179_23 rfl (by decide +kernel) ?_
                  refine zw_virtual_v 28 0 0 [.ref 52, .int 13] [(0, .ref 52), (1, .int 13)] f179_25 rfl n179_291 k179_291_12 rfl (hb_52 _ _ _ _) (by decide +kernel) (Nat.le_of_ble_eq_true rfl) rfl rfl (by decide +kernel) (by decide +kernel) rfl (Nat.le_of_ble_eq_true rfl) rfl ?_
                  refine zw_aload_n 1 f173_0 rfl rfl ?_
                  refine zw_getI 0 4 f173_1 rfl g173_246_12 (hb_52 _ _ _ _) rfl rfl ?_
                  refine zw_bipush 50 6 f173_4 rfl (by decide +kernel) ?_
                  refine zw_ic_ge_f 9 19 f173_6 (by decide +kernel) rfl (by decide +kernel) ?_
                  refine zw_aload_n 10 f173_9 rfl rfl ?_
                  refine zw_getfield 13 f173_10 rfl g173_74_12 (hb_52 _ _ _ _) rfl ?_
                  refine zw_aload_n 14 f173_13 rfl rfl ?_
                  refine zw_getI 0 17 f173_14 rfl g173_246_12 (hb_52 _ _ _ _) rfl rfl ?_
                  refine zw_iload_n 18 f173_17 rfl rfl ?_
                  refine zw_ast 0 _ 19 f173_18 rfl (hb_71 _ _ _ _) (by decide +kernel) (by decide +kernel) (by decide +kernel) (ha_71 _ _ _ _ _) ?_
                  refine zw_aload_n 20 f173_19 rfl rfl ?_
                  refine zw_dup 21 f173_20 rfl rfl ?_
                  refine zw_getI 0 24 f173_21 rfl g173_246_12 (hb_52 _ _ _ _) rfl rfl ?_
                  refine zw_iconst 1 25 f173_24 rfl (by decide +kernel) ?_
                  refine zw_iadd 1 26 f173_25 rfl (by decide +kernel) ?_
                  refine zw_put _ 29 f173_26 rfl g173_246_12 (hb_52 _ _ _ _) rfl (Nat.le_of_ble_eq_true rfl) (by decide +kernel) (hi_52_29 _ _ _ _ _) ?_
                  refine zw_vreturn f173_29 r173 u173 ⟨rfl, ?_⟩
                  refine zw_aload_n 29 f179_28 rfl (zl1_ne rfl rfl rfl) ?_
                  refine zw_iload_n 30 f179_29 rfl (zl1_ne rfl rfl rfl) ?_
                  refine zw_iload_n 31 f179_30 rfl zl1_eq ?_
                  refine zw_virtual_i 34 0 0 [.ref 52, .int a, .int c] [(0, .ref 52), (1, .int a), (2, .int c)] f179_31 rfl n179_304 k179_304_12 rfl (hb_52 _ _ _ _) (by decide +kernel) (Nat.le_of_ble_eq_true rfl) rfl rfl (by decide +kernel) (by decide +kernel) rfl (Nat.le_of_ble_eq_true rfl) rfl ?_
                  refine zw_aload_n 1 f177_0 rfl rfl ?_
                  refine zw_getfield 4 f177_1 rfl g177_7_12 (hb_52 _ _ _ _) rfl ?_
                  refine zw_iload_n 5 f177_4 rfl rfl ?_
                  refine zw_iaload a.toNatClampNeg 0 6 f177_5 rfl (hb_53 _ _ _ _) rfl hc1 (zix (by decide) hc1 (show ¬ 8 ≤ a from ix_le hp.1 (by decide) (by decide) hc1 hc2)) ((congrFun (hR.2.1 53 (by omega) (by omega)) a.toNatClampNeg).trans hk) ?_
                  refine zw_iconst 1 7 f177_6 rfl (by decide +kernel) ?_
                  refine zw_ic_ne_t 30 f177_7 (by decide +kernel) (by decide +kernel) ?_
                  refine zw_aload_n 31 f177_30 rfl rfl ?_
                  refine zw_getfield 34 f177_31 rfl g177_7_12 (hb_52 _ _ _ _) rfl ?_
                  refine zw_iload_n 35 f177_34 rfl rfl ?_
                  refine zw_iaload a.toNatClampNeg 0 36 f177_35 rfl (hb_53 _ _ _ _) rfl hc1 (zix (by decide) hc1 (show ¬ 8 ≤ a from ix_le hp.1 (by decide) (by decide) hc1 hc2)) ((congrFun (hR.2.1 53 (by omega) (by omega)) a.toNatClampNeg).trans hk) ?_
                  refine zw_iconst 4 37 f177_36 rfl (by decide +kernel) ?_
                  refine zw_ic_ne_t 60 f177_37 (by decide +kernel) (by decide +kernel) ?_
                  refine zw_aload_n 61 f177_60 rfl rfl ?_
                  refine zw_iload_n 62 f177_61 rfl rfl ?_
                  refine zw_iload_n 63 f177_62 rfl rfl ?_
                  refine zw_virtual_i 66 0 0 [.ref 52, .int a, .int c] [(0, .ref 52), (1, .int a), (2, .int c)] f177_63 rfl n177_301 k177_301_12 rfl (hb_52 _ _ _ _) (by decide +kernel) (Nat.le_of_ble_eq_true rfl) rfl rfl (by decide +kernel) (by decide +kernel) rfl (Nat.le_of_ble_eq_true rfl) rfl ?_
                  refine zw_aload_n 1 f176_0 rfl rfl ?_
                  refine zw_bipush 11 3 f176_1 rfl (by decide +kernel) ?_
                  refine zw_virtual_v 6 0 0 [.ref 52, .int 11] [(0, .ref 52), (1, .int 11)] f176_3 rfl n176_291 k176_291_12 rfl (hb_52 _ _ _ _) (by decide +kernel) (Nat.le_of_ble_eq_true rfl) rfl rfl (by decide +kernel) (by decide +kernel) rfl (Nat.le_of_ble_eq_true rfl) rfl ?_
                  refine zw_aload_n 1 f173_0 rfl rfl ?_
                  refine zw_getI 1 4 f173_1 rfl g173_246_12 (hb_52 _ _ _ _) rfl rfl ?_
                  refine zw_bipush 50 6 f173_4 rfl (by decide +kernel) ?_
                  refine zw_ic_ge_f 9 19 f173_6 (by decide +kernel) rfl (by decide +kernel) ?_
                  refine zw_aload_n 10 f173_9 rfl rfl ?_
                  refine zw_getfield 13 f173_10 rfl g173_74_12 (hb_52 _ _ _ _) rfl ?_
                  refine zw_aload_n 14 f173_13 rfl rfl ?_
                  refine zw_getI 1 17 f173_14 rfl g173_246_12 (hb_52 _ _ _ _) rfl rfl ?_
                  refine zw_iload_n 18 f173_17 rfl rfl ?_
                  refine zw_ast 1 _ 19 f173_18 rfl (hb_71 _ _ _ _) (by decide +kernel) (by decide +kernel) (by decide +kernel) (ha_71 _ _ _ _ _) ?_
                  refine zw_aload_n 20 f173_19 rfl rfl ?_
                  refine zw_dup 21 f173_20 rfl rfl ?_
                  refine zw_getI 1 24 f173_21 rfl g173_246_12 (hb_52 _ _ _ _) rfl rfl ?_
                  refine zw_iconst 1 25 f173_24 rfl (by decide +kernel) ?_
                  refine zw_iadd 2 26 f173_25 rfl (by decide +kernel) ?_
                  refine zw_put _ 29 f173_26 rfl g173_246_12 (hb_52 _ _ _ _) rfl (Nat.le_of_ble_eq_true rfl) (by decide +kernel) (hi_52_29 _ _ _ _ _) ?_
                  refine zw_vreturn f173_29 r173 u173 ⟨rfl, ?_⟩
                  refine zw_aload_n 7 f176_6 rfl rfl ?_
                  refine zw_iload_n 8 f176_7 rfl rfl ?_
                  refine zw_iload_n 9 f176_8 rfl rfl ?_
                  refine zw_virtual_i 12 0 0 [.ref 52, .int a, .int c] [(0, .ref 52), (1, .int a), (2, .int c)] f176_9 rfl n176_298 k176_298_12 rfl (hb_52 _ _ _ _) (by decide +kernel) (Nat.le_of_ble_eq_true rfl) rfl rfl (by decide +kernel) (by decide +kernel) rfl (Nat.le_of_ble_eq_true rfl) rfl ?_
                  refine zw_aload_n 1 f175_0 rfl rfl ?_
                  refine zw_getfield 4 f175_1 rfl g175_7_12 (hb_52 _ _ _ _) rfl ?_
                  refine zw_iload_n 5 f175_4 rfl rfl ?_
                  refine zw_iaload a.toNatClampNeg 0 6 f175_5 rfl (hb_53 _ _ _ _) rfl hc1 (zix (by decide) hc1 (show ¬ 8 ≤ a from ix_le hp.1 (by decide) (by decide) hc1 hc2)) ((congrFun (hR.2.1 53 (by omega) (by omega)) a.toNatClampNeg).trans hk) ?_
                  refine zw_iconst 2 7 f175_6 rfl (by decide +kernel) ?_
                  refine zw_ic_ne_t 25 f175_7 (by decide +kernel) (by decide +kernel) ?_
                  refine zw_aload_n 26 f175_25 rfl rfl ?_
                  refine zw_iload_n 27 f175_26 rfl rfl ?_
                  refine zw_virtual_i 30 0 0 [.ref 52, .int a] [(0, .ref 52), (1, .int a)] f175_27 rfl n175_158 k175_158_12 rfl (hb_52 _ _ _ _) (by decide +kernel) (Nat.le_of_ble_eq_true rfl) rfl rfl (by decide +kernel) (by decide +kernel) rfl (Nat.le_of_ble_eq_true rfl) rfl ?_
                  refine zw_aload_n 1 f126_0 rfl rfl ?_
                  refine zw_getfield 4 f126_1 rfl g126_7_12 (hb_52 _ _ _ _) rfl ?_
                  refine zw_iload_n 5 f126_4 rfl rfl ?_
                  refine zw_iaload a.toNatClampNeg 0 6 f126_5 rfl (hb_53 _ _ _ _) rfl hc1 (zix (by decide) hc1 (show ¬ 8 ≤ a from ix_le hp.1 (by decide) (by decide) hc1 hc2)) ((congrFun (hR.2.1 53 (by omega) (by omega)) a.toNatClampNeg).trans hk) ?_
                  refine zw_iconst 3 7 f126_6 rfl (by decide +kernel) ?_
                  refine zw_ic_eq_f 10 20 f126_7 (by decide +kernel) rfl (by decide +kernel) ?_
                  refine zw_aload_n 11 f126_10 rfl rfl ?_
                  refine zw_getfield 14 f126_11 rfl g126_7_12 (hb_52 _ _ _ _) rfl ?_
                  refine zw_iload_n 15 f126_14 rfl rfl ?_
                  refine zw_iaload a.toNatClampNeg 0 16 f126_15 rfl (hb_53 _ _ _ _) rfl hc1 (zix (by decide) hc1 (show ¬ 8 ≤ a from ix_le hp.1 (by decide) (by decide) hc1 hc2)) ((congrFun (hR.2.1 53 (by omega) (by omega)) a.toNatClampNeg).trans hk) ?_
                  refine zw_iconst 4 17 f126_16 rfl (by decide +kernel) ?_
                  refine zw_ic_ne_t 24 f126_17 (by decide +kernel) (by decide +kernel) ?_
                  refine zw_iconst 0 25 f126_24 rfl (by decide +kernel) ?_
                  refine zw_zreturn f126_25 r126 u126 (by decide +kernel) ⟨_, rfl, ?_⟩
                  refine zw_if_eq_t 53 f175_30 (by decide +kernel) (by decide +kernel) ?_
                  refine zw_aload_n 54 f175_53 rfl rfl ?_
                  refine zw_iload_n 55 f175_54 rfl rfl ?_
                  refine zw_iload_n 56 f175_55 rfl rfl ?_
                  refine zw_virtual_i 59 0 0 [.ref 52, .int a, .int c] [(0, .ref 52), (1, .int a), (2, .int c)] f175_56 rfl n175_294 k175_294_12 rfl (hb_52 _ _ _ _) (by decide +kernel) (Nat.le_of_ble_eq_true rfl) rfl rfl (by decide +kernel) (by decide +kernel) rfl (Nat.le_of_ble_eq_true rfl) rfl ?_
                  refine zw_aload_n 1 f174_0 rfl rfl ?_
                  refine zw_bipush 10 3 f174_1 rfl (by decide +kernel) ?_
                  refine zw_virtual_v 6 0 0 [.ref 52, .int 10] [(0, .ref 52), (1, .int 10)] f174_3 rfl n174_291 k174_291_12 rfl (hb_52 _ _ _ _) (by decide +kernel) (Nat.le_of_ble_eq_true rfl) rfl rfl (by decide +kernel) (by decide +kernel) rfl (Nat.le_of_ble_eq_true rfl) rfl ?_
                  refine zw_aload_n 1 f173_0 rfl rfl ?_
                  refine zw_getI 2 4 f173_1 rfl g173_246_12 (hb_52 _ _ _ _) rfl rfl ?_
                  refine zw_bipush 50 6 f173_4 rfl (by decide +kernel) ?_
                  refine zw_ic_ge_f 9 19 f173_6 (by decide +kernel) rfl (by decide +kernel) ?_
                  refine zw_aload_n 10 f173_9 rfl rfl ?_
                  refine zw_getfield 13 f173_10 rfl g173_74_12 (hb_52 _ _ _ _) rfl ?_
                  refine zw_aload_n 14 f173_13 rfl rfl ?_
                  refine zw_getI 2 17 f173_14 rfl g173_246_12 (hb_52 _ _ _ _) rfl rfl ?_
                  refine zw_iload_n 18 f173_17 rfl rfl ?_
                  refine zw_ast 2 _ 19 f173_18 rfl (hb_71 _ _ _ _) (by decide +kernel) (by decide +kernel) (by decide +kernel) (ha_71 _ _ _ _ _) ?_
                  refine zw_aload_n 20 f173_19 rfl rfl ?_
                  refine zw_dup 21 f173_20 rfl rfl ?_
                  refine zw_getI 2 24 f173_21 rfl g173_246_12 (hb_52 _ _ _ _) rfl rfl ?_
                  refine zw_iconst 1 25 f173_24 rfl (by decide +kernel) ?_
                  refine zw_iadd 3 26 f173_25 rfl (by decide +kernel) ?_
                  refine zw_put _ 29 f173_26 rfl g173_246_12 (hb_52 _ _ _ _) rfl (Nat.le_of_ble_eq_true rfl) (by decide +kernel) (hi_52_29 _ _ _ _ _) ?_
                  refine zw_vreturn f173_29 r173 u173 ⟨rfl, ?_⟩
                  refine zw_iload_n 7 f174_6 rfl rfl ?_
                  refine zw_aload_n 8 f174_7 rfl rfl ?_
                  refine zw_getfield 11 f174_8 rfl g174_13_12 (hb_52 _ _ _ _) rfl ?_
                  refine zw_iload_n 12 f174_11 rfl rfl ?_
                  refine zw_iaload a.toNatClampNeg (P 54 a.toNatClampNeg) 13 f174_12 rfl (hb_54 _ _ _ _) rfl hc1 (zix (by decide) hc1 (show ¬ 8 ≤ a from ix_le hp.1 (by decide) (by decide) hc1 hc2)) (congrFun ((hR.2.1 54 (by omega) (by omega))) a.toNatClampNeg) ?_
                  refine zw_iadd (c + (P 54 a.toNatClampNeg)) 14 f174_13 rfl rfl ?_
                  refine zw_ireturn f174_14 r174 u174 ⟨_, rfl, ?_⟩
                  refine zw_ireturn f175_59 r175 u175 ⟨_, rfl, ?_⟩
                  refine zw_iconst 3 13 f176_12 rfl (by decide +kernel) ?_
                  refine zw_imul ((c + (P 54 a.toNatClampNeg)) * 3) 14 f176_13 rfl rfl ?_
                  refine zw_ireturn f176_14 r176 u176 ⟨_, rfl, ?_⟩
                  refine zw_ireturn f177_66 r177 u177 ⟨_, rfl, ?_⟩
                  refine zw_istore _ 36 f179_34 rfl (by decide +kernel) rfl ?_
                  refine zw_iload 38 f179_36 rfl zl1_eq ?_
                  refine zw_aload_n 39 f179_38 rfl (zl1_ne rfl rfl (zl1_ne rfl rfl rfl)) ?_
                  refine zw_iload_n 40 f179_39 rfl (zl1_ne rfl rfl (zl1_ne rfl rfl rfl)) ?_
                  refine zw_iload_n 41 f179_40 rfl (zl1_ne rfl rfl zl1_eq) ?_
                  refine zw_virtual_i 44 0 0 [.ref 52, .int a, .int c] [(0, .ref 52), (1, .int a), (2, .int c)] f179_41 rfl n179_307 k179_307_12 rfl (hb_52 _ _ _ _) (by decide +kernel) (Nat.le_of_ble_eq_true rfl) rfl rfl (by decide +kernel) (by decide +kernel) rfl (Nat.le_of_ble_eq_true rfl) rfl ?_
                  refine zw_aload_n 1 f178_0 rfl rfl ?_
                  refine zw_getfield 4 f178_1 rfl g178_7_12 (hb_52 _ _ _ _) rfl ?_
                  refine zw_iload_n 5 f178_4 rfl rfl ?_
                  refine zw_iaload a.toNatClampNeg 0 6 f178_5 rfl (hb_53 _ _ _ _) rfl hc1 (zix (by decide) hc1 (show ¬ 8 ≤ a from ix_le hp.1 (by decide) (by decide) hc1 hc2)) ((congrFun (hR.2.1 53 (by omega) (by omega)) a.toNatClampNeg).trans hk) ?_
                  refine zw_iconst 4 7 f178_6 rfl (by decide +kernel) ?_
                  refine zw_ic_ne_t 16 f178_7 (by decide +kernel) (by decide +kernel) ?_
                  refine zw_aload_n 17 f178_16 rfl rfl ?_
                  refine zw_iload_n 18 f178_17 rfl rfl ?_
                  refine zw_virtual_i 21 0 0 [.ref 52, .int a] [(0, .ref 52), (1, .int a)] f178_18 rfl n178_158 k178_158_12 rfl (hb_52 _ _ _ _) (by decide +kernel) (Nat.le_of_ble_eq_true rfl) rfl rfl (by decide +kernel) (by decide +kernel) rfl (Nat.le_of_ble_eq_true rfl) rfl ?_
                  refine zw_aload_n 1 f126_0 rfl rfl ?_
                  refine zw_getfield 4 f126_1 rfl g126_7_12 (hb_52 _ _ _ _) rfl ?_
                  refine zw_iload_n 5 f126_4 rfl rfl ?_
                  refine zw_iaload a.toNatClampNeg 0 6 f126_5 rfl (hb_53 _ _ _ _) rfl hc1 (zix (by decide) hc1 (show ¬ 8 ≤ a from ix_le hp.1 (by decide) (by decide) hc1 hc2)) ((congrFun (hR.2.1 53 (by omega) (by omega)) a.toNatClampNeg).trans hk) ?_
                  refine zw_iconst 3 7 f126_6 rfl (by decide +kernel) ?_
                  refine zw_ic_eq_f 10 20 f126_7 (by decide +kernel) rfl (by decide +kernel) ?_
                  refine zw_aload_n 11 f126_10 rfl rfl ?_
                  refine zw_getfield 14 f126_11 rfl g126_7_12 (hb_52 _ _ _ _) rfl ?_
                  refine zw_iload_n 15 f126_14 rfl rfl ?_
                  refine zw_iaload a.toNatClampNeg 0 16 f126_15 rfl (hb_53 _ _ _ _) rfl hc1 (zix (by decide) hc1 (show ¬ 8 ≤ a from ix_le hp.1 (by decide) (by decide) hc1 hc2)) ((congrFun (hR.2.1 53 (by omega) (by omega)) a.toNatClampNeg).trans hk) ?_
                  refine zw_iconst 4 17 f126_16 rfl (by decide +kernel) ?_
                  refine zw_ic_ne_t 24 f126_17 (by decide +kernel) (by decide +kernel) ?_
                  refine zw_iconst 0 25 f126_24 rfl (by decide +kernel) ?_
                  refine zw_zreturn f126_25 r126 u126 (by decide +kernel) ⟨_, rfl, ?_⟩
                  refine zw_if_eq_t 30 f178_21 (by decide +kernel) (by decide +kernel) ?_
                  refine zw_aload_n 31 f178_30 rfl rfl ?_
                  refine zw_bipush 12 33 f178_31 rfl (by decide +kernel) ?_
                  refine zw_virtual_v 36 0 0 [.ref 52, .int 12] [(0, .ref 52), (1, .int 12)] f178_33 rfl n178_291 k178_291_12 rfl (hb_52 _ _ _ _) (by decide +kernel) (Nat.le_of_ble_eq_true rfl) rfl rfl (by decide +kernel) (by decide +kernel) rfl (Nat.le_of_ble_eq_true rfl) rfl ?_
                  refine zw_aload_n 1 f173_0 rfl rfl ?_
                  refine zw_getI 3 4 f173_1 rfl g173_246_12 (hb_52 _ _ _ _) rfl rfl ?_
                  refine zw_bipush 50 6 f173_4 rfl (by decide +kernel) ?_
                  refine zw_ic_ge_f 9 19 f173_6 (by decide +kernel) rfl (by decide +kernel) ?_
                  refine zw_aload_n 10 f173_9 rfl rfl ?_
                  refine zw_getfield 13 f173_10 rfl g173_74_12 (hb_52 _ _ _ _) rfl ?_
                  refine zw_aload_n 14 f173_13 rfl rfl ?_
                  refine zw_getI 3 17 f173_14 rfl g173_246_12 (hb_52 _ _ _ _) rfl rfl ?_
                  refine zw_iload_n 18 f173_17 rfl rfl ?_
                  refine zw_ast 3 _ 19 f173_18 rfl (hb_71 _ _ _ _) (by decide +kernel) (by decide +kernel) (by decide +kernel) (ha_71 _ _ _ _ _) ?_
                  refine zw_aload_n 20 f173_19 rfl rfl ?_
                  refine zw_dup 21 f173_20 rfl rfl ?_
                  refine zw_getI 3 24 f173_21 rfl g173_246_12 (hb_52 _ _ _ _) rfl rfl ?_
                  refine zw_iconst 1 25 f173_24 rfl (by decide +kernel) ?_
                  refine zw_iadd 4 26 f173_25 rfl (by decide +kernel) ?_
                  refine zw_put _ 29 f173_26 rfl g173_246_12 (hb_52 _ _ _ _) rfl (Nat.le_of_ble_eq_true rfl) (by decide +kernel) (hi_52_29 _ _ _ _ _) ?_
                  refine zw_vreturn f173_29 r173 u173 ⟨rfl, ?_⟩
                  refine zw_iload_n 37 f178_36 rfl rfl ?_
                  refine zw_aload_n 38 f178_37 rfl rfl ?_
                  refine zw_getfield 41 f178_38 rfl g178_13_12 (hb_52 _ _ _ _) rfl ?_
                  refine zw_iload_n 42 f178_41 rfl rfl ?_
                  refine zw_iaload a.toNatClampNeg (P 54 a.toNatClampNeg) 43 f178_42 rfl (hb_54 _ _ _ _) rfl hc1 (zix (by decide) hc1 (show ¬ 8 ≤ a from ix_le hp.1 (by decide) (by decide) hc1 hc2)) (congrFun ((hR.2.1 54 (by omega) (by omega))) a.toNatClampNeg) ?_
                  refine zw_ixor (c ^^^ (P 54 a.toNatClampNeg)) 44 f178_43 rfl rfl ?_
                  refine zw_aload_n 45 f178_44 rfl rfl ?_
                  refine zw_iload_n 46 f178_45 rfl rfl ?_
                  refine zw_virtual_i 49 0 0 [.ref 52, .int a] [(0, .ref 52), (1, .int a)] f178_46 rfl n178_158 k178_158_12 rfl (hb_52 _ _ _ _) (by decide +kernel) (Nat.le_of_ble_eq_true rfl) rfl rfl (by decide +kernel) (by decide +kernel) rfl (Nat.le_of_ble_eq_true rfl) rfl ?_
                  refine zw_aload_n 1 f126_0 rfl rfl ?_
                  refine zw_getfield 4 f126_1 rfl g126_7_12 (hb_52 _ _ _ _) rfl ?_
                  refine zw_iload_n 5 f126_4 rfl rfl ?_
                  refine zw_iaload a.toNatClampNeg 0 6 f126_5 rfl (hb_53 _ _ _ _) rfl hc1 (zix (by decide) hc1 (show ¬ 8 ≤ a from ix_le hp.1 (by decide) (by decide) hc1 hc2)) ((congrFun (hR.2.1 53 (by omega) (by omega)) a.toNatClampNeg).trans hk) ?_
                  refine zw_iconst 3 7 f126_6 rfl (by decide +kernel) ?_
                  refine zw_ic_eq_f 10 20 f126_7 (by decide +kernel) rfl (by decide +kernel) ?_
                  refine zw_aload_n 11 f126_10 rfl rfl ?_
                  refine zw_getfield 14 f126_11 rfl g126_7_12 (hb_52 _ _ _ _) rfl ?_
                  refine zw_iload_n 15 f126_14 rfl rfl ?_
                  refine zw_iaload a.toNatClampNeg 0 16 f126_15 rfl (hb_53 _ _ _ _) rfl hc1 (zix (by decide) hc1 (show ¬ 8 ≤ a from ix_le hp.1 (by decide) (by decide) hc1 hc2)) ((congrFun (hR.2.1 53 (by omega) (by omega)) a.toNatClampNeg).trans hk) ?_
                  refine zw_iconst 4 17 f126_16 rfl (by decide +kernel) ?_
                  refine zw_ic_ne_t 24 f126_17 (by decide +kernel) (by decide +kernel) ?_
                  refine zw_iconst 0 25 f126_24 rfl (by decide +kernel) ?_
                  refine zw_zreturn f126_25 r126 u126 (by decide +kernel) ⟨_, rfl, ?_⟩
                  refine zw_if_eq_t 61 f178_49 (by decide +kernel) (by decide +kernel) ?_
                  refine zw_iconst 0 62 f178_61 rfl (by decide +kernel) ?_
                  refine zw_iadd ((c ^^^ (P 54 a.toNatClampNeg)) + 0) 63 f178_62 rfl rfl ?_
                  refine zw_aload_n 64 f178_63 rfl rfl ?_
                  refine zw_getfield 67 f178_64 rfl g178_7_12 (hb_52 _ _ _ _) rfl ?_
                  refine zw_iload_n 68 f178_67 rfl rfl ?_
                  refine zw_iaload a.toNatClampNeg 0 69 f178_68 rfl (hb_53 _ _ _ _) rfl hc1 (zix (by decide) hc1 (show ¬ 8 ≤ a from ix_le hp.1 (by decide) (by decide) hc1 hc2)) ((congrFun (hR.2.1 53 (by omega) (by omega)) a.toNatClampNeg).trans hk) ?_
                  refine zw_iconst 4 70 f178_69 rfl (by decide +kernel) ?_
                  refine zw_ic_ne_t 82 f178_70 (by decide +kernel) (by decide +kernel) ?_
                  refine zw_iconst 0 83 f178_82 rfl (by decide +kernel) ?_
                  refine zw_iadd (((c ^^^ (P 54 a.toNatClampNeg)) + 0) + 0) 84 f178_83 rfl rfl ?_
                  refine zw_ireturn f178_84 r178 u178 ⟨_, rfl, ?_⟩
                  refine zw_isub (((c + (P 54 a.toNatClampNeg)) * 3) - (((c ^^^ (P 54 a.toNatClampNeg)) + 0) + 0)) 45 f179_44 rfl rfl ?_
                  refine zw_ireturn f179_45 r179 u179 ⟨_, rfl, ?_⟩
                  refine zw_virtual_i 79 0 0 [.ref 52, .int (((c + (P 54 a.toNatClampNeg)) * 3) - (((c ^^^ (P 54 a.toNatClampNeg)) + 0) + 0))] [(0, .ref 52), (1, .int (((c + (P 54 a.toNatClampNeg)) * 3) - (((c ^^^ (P 54 a.toNatClampNeg)) + 0) + 0)))] f180_76 rfl n180_205 k180_205_12 rfl (hb_52 _ _ _ _) (by decide +kernel) (Nat.le_of_ble_eq_true rfl) rfl rfl (by decide +kernel) (by decide +kernel) rfl (Nat.le_of_ble_eq_true rfl) rfl ?_
                  refine zw_aload_n 1 f122_0 rfl rfl ?_
                  refine zw_iconst 0 2 f122_1 rfl (by decide +kernel) ?_
                  refine zw_put _ 5 f122_2 rfl g122_111_12 (hb_52 _ _ _ _) rfl (Nat.le_of_ble_eq_true rfl) (by decide +kernel) (hi_52_27 _ _ _ _ _) ?_
                  refine zw_iload_n 6 f122_5 rfl rfl ?_
                  refine zw_ireturn f122_6 r122 u122 ⟨_, rfl, ?_⟩
                  refine zw_ireturn f180_79 r180 u180 ?_
                  exact ⟨_, _, _, _, rfl, (KQ.i rfl (KQ.i rfl (KQ.a rfl (KQ.i rfl (KQ.a rfl (KQ.i rfl (KQ.a rfl (KQ.i rfl (KQ.a rfl (KQ.i rfl KQ.rf)))))))))), ⟨hi.1, hi.2.1, 4, by omega, (show _ = nI 4 from rfl)⟩, Or.inr ⟨⟨(qV.of (by omega) hc1 hc2), ⟨hc3, hc4⟩⟩, by rw [show an_tl (P 53 a.toNatClampNeg) b = [13, 11, 10, 12] from ((cI_n hc5).trans ((cI_n hc6).trans ((cI_n hc7).trans (cI_y hk))))]; exact ⟨rfl, by intro i hi; rcases (show i = 0 ∨ i = 1 ∨ i = 2 ∨ i = 3 by have q : i < 4 := hi; omega) with rfl | rfl | rfl | rfl <;> rfl⟩⟩, _, rfl⟩
                · refine zw_iaload a.toNatClampNeg 1 8 f179_7 rfl (hb_53 _ _ _ _) rfl hc1 (zix (by decide) hc1 (show ¬ 8 ≤ a from ix_le hp.1 (by decide) (by decide) hc1 hc2)) ((congrFun (hR.2.1 53 (by omega) (by omega)) a.toNatClampNeg).trans hk) ?_
                  refine zw_iconst 1 9 f179_8 rfl (by decide +kernel) ?_
                  refine zw_ic_ne_f 12 22 f179_9 (by decide +kernel) rfl (by decide +kernel) ?_
                  refine zw_aload_n 13 f179_12 rfl (zl1_ne rfl rfl rfl) ?_
                  refine zw_bipush 21 15 f179_13 rfl (by decide +kernel) ?_
                  refine zw_virtual_v 18 0 0 [.ref 52, .int 21] [(0, .ref 52), (1, .int 21)] f179_15 rfl n179_291 k179_291_12 rfl (hb_52 _ _ _ _) (by decide +kernel) (Nat.le_of_ble_eq_true rfl) rfl rfl (by decide +kernel) (by decide +kernel) rfl (Nat.le_of_ble_eq_true rfl) rfl ?_
                  refine zw_aload_n 1 f173_0 rfl rfl ?_
                  refine zw_getI 0 4 f173_1 rfl g173_246_12 (hb_52 _ _ _ _) rfl rfl ?_
                  refine zw_bipush 50 6 f173_4 rfl (by decide +kernel) ?_
                  refine zw_ic_ge_f 9 19 f173_6 (by decide +kernel) rfl (by decide +kernel) ?_
                  refine zw_aload_n 10 f173_9 rfl rfl ?_
                  refine zw_getfield 13 f173_10 rfl g173_74_12 (hb_52 _ _ _ _) rfl ?_
                  refine zw_aload_n 14 f173_13 rfl rfl ?_
                  refine zw_getI 0 17 f173_14 rfl g173_246_12 (hb_52 _ _ _ _) rfl rfl ?_
                  refine zw_iload_n 18 f173_17 rfl rfl ?_
                  refine zw_ast 0 _ 19 f173_18 rfl (hb_71 _ _ _ _) (by decide +kernel) (by decide +kernel) (by decide +kernel) (ha_71 _ _ _ _ _) ?_
                  refine zw_aload_n 20 f173_19 rfl rfl ?_
                  refine zw_dup 21 f173_20 rfl rfl ?_
                  refine zw_getI 0 24 f173_21 rfl g173_246_12 (hb_52 _ _ _ _) rfl rfl ?_
                  refine zw_iconst 1 25 f173_24 rfl (by decide +kernel) ?_
                  refine zw_iadd 1 26 f173_25 rfl (by decide +kernel) ?_
                  refine zw_put _ 29 f173_26 rfl g173_246_12 (hb_52 _ _ _ _) rfl (Nat.le_of_ble_eq_true rfl) (by decide +kernel) (hi_52_29 _ _ _ _ _) ?_
                  refine zw_vreturn f173_29 r173 u173 ⟨rfl, ?_⟩
                  refine zw_iload_n 19 f179_18 rfl (zl1_ne rfl rfl rfl) ?_
                  refine zw_iconst 2 20 f179_19 rfl (by decide +kernel) ?_
                  refine zw_imul (c * 2) 21 f179_20 rfl rfl ?_
                  refine zw_istore_n _ 22 f179_21 rfl (by decide +kernel) rfl ?_
                  refine zw_aload_n 23 f179_22 rfl (zl1_ne rfl rfl (zl1_ne rfl rfl rfl)) ?_
                  refine zw_bipush 13 25 f179_23 rfl (by decide +kernel) ?_
                  refine zw_virtual_v 28 0 0 [.ref 52, .int 13] [(0, .ref 52), (1, .int 13)] f179_25 rfl n179_291 k179_291_12 rfl (hb_52 _ _ _ _) (by decide +kernel) (Nat.le_of_ble_eq_true rfl) rfl rfl (by decide +kernel) (by decide +kernel) rfl (Nat.le_of_ble_eq_true rfl) rfl ?_
                  refine zw_aload_n 1 f173_0 rfl rfl ?_
                  refine zw_getI 1 4 f173_1 rfl g173_246_12 (hb_52 _ _ _ _) rfl rfl ?_
                  refine zw_bipush 50 6 f173_4 rfl (by decide +kernel) ?_
                  refine zw_ic_ge_f 9 19 f173_6 (by decide +kernel) rfl (by decide +kernel) ?_
                  refine zw_aload_n 10 f173_9 rfl rfl ?_
                  refine zw_getfield 13 f173_10 rfl g173_74_12 (hb_52 _ _ _ _) rfl ?_
                  refine zw_aload_n 14 f173_13 rfl rfl ?_
                  refine zw_getI 1 17 f173_14 rfl g173_246_12 (hb_52 _ _ _ _) rfl rfl ?_
                  refine zw_iload_n 18 f173_17 rfl rfl ?_
                  refine zw_ast 1 _ 19 f173_18 rfl (hb_71 _ _ _ _) (by decide +kernel) (by decide +kernel) (by decide +kernel) (ha_71 _ _ _ _ _) ?_
                  refine zw_aload_n 20 f173_19 rfl rfl ?_
                  refine zw_dup 21 f173_20 rfl rfl ?_
                  refine zw_getI 1 24 f173_21 rfl g173_246_12 (hb_52 _ _ _ _) rfl rfl ?_
                  refine zw_iconst 1 25 f173_24 rfl (by decide +kernel) ?_
                  refine zw_iadd 2 26 f173_25 rfl (by decide +kernel) ?_
                  refine zw_put _ 29 f173_26 rfl g173_246_12 (hb_52 _ _ _ _) rfl (Nat.le_of_ble_eq_true rfl) (by decide +kernel) (hi_52_29 _ _ _ _ _) ?_
                  refine zw_vreturn f173_29 r173 u173 ⟨rfl, ?_⟩
                  refine zw_aload_n 29 f179_28 rfl (zl1_ne rfl rfl (zl1_ne rfl rfl rfl)) ?_
                  refine zw_iload_n 30 f179_29 rfl (zl1_ne rfl rfl (zl1_ne rfl rfl rfl)) ?_
                  refine zw_iload_n 31 f179_30 rfl zl1_eq ?_
                  refine zw_virtual_i 34 0 0 [.ref 52, .int a, .int (c * 2)] [(0, .ref 52), (1, .int a), (2, .int (c * 2))] f179_31 rfl n179_304 k179_304_12 rfl (hb_52 _ _ _ _) (by decide +kernel) (Nat.le_of_ble_eq_true rfl) rfl rfl (by decide +kernel) (by decide +kernel) rfl (Nat.le_of_ble_eq_true rfl) rfl ?_
                  refine zw_aload_n 1 f177_0 rfl rfl ?_
                  refine zw_getfield 4 f177_1 rfl g177_7_12 (hb_52 _ _ _ _) rfl ?_
                  refine zw_iload_n 5 f177_4 rfl rfl ?_
                  refine zw_iaload a.toNatClampNeg 1 6 f177_5 rfl (hb_53 _ _ _ _) rfl hc1 (zix (by decide) hc1 (show ¬ 8 ≤ a from ix_le hp.1 (by decide) (by decide) hc1 hc2)) ((congrFun (hR.2.1 53 (by omega) (by omega)) a.toNatClampNeg).trans hk) ?_
                  refine zw_iconst 1 7 f177_6 rfl (by decide +kernel) ?_
                  refine zw_ic_ne_f 10 30 f177_7 (by decide +kernel) rfl (by decide +kernel) ?_
                  refine zw_aload_n 11 f177_10 rfl rfl ?_
                  refine zw_bipush 20 13 f177_11 rfl (by decide +kernel) ?_
                  refine zw_virtual_v 16 0 0 [.ref 52, .int 20] [(0, .ref 52), (1, .int 20)] f177_13 rfl n177_291 k177_291_12 rfl (hb_52 _ _ _ _) (by decide +kernel) (Nat.le_of_ble_eq_true rfl) rfl rfl (by decide +kernel) (by decide +kernel) rfl (Nat.le_of_ble_eq_true rfl) rfl ?_
                  refine zw_aload_n 1 f173_0 rfl rfl ?_
                  refine zw_getI 2 4 f173_1 rfl g173_246_12 (hb_52 _ _ _ _) rfl rfl ?_
                  refine zw_bipush 50 6 f173_4 rfl (by decide +kernel) ?_
                  refine zw_ic_ge_f 9 19 f173_6 (by decide +kernel) rfl (by decide +kernel) ?_
                  refine zw_aload_n 10 f173_9 rfl rfl ?_
                  refine zw_getfield 13 f173_10 rfl g173_74_12 (hb_52 _ _ _ _) rfl ?_
                  refine zw_aload_n 14 f173_13 rfl rfl ?_
                  refine zw_getI 2 17 f173_14 rfl g173_246_12 (hb_52 _ _ _ _) rfl rfl ?_
                  refine zw_iload_n 18 f173_17 rfl rfl ?_
                  refine zw_ast 2 _ 19 f173_18 rfl (hb_71 _ _ _ _) (by decide +kernel) (by decide +kernel) (by decide +kernel) (ha_71 _ _ _ _ _) ?_
                  refine zw_aload_n 20 f173_19 rfl rfl ?_
                  refine zw_dup 21 f173_20 rfl rfl ?_
                  refine zw_getI 2 24 f173_21 rfl g173_246_12 (hb_52 _ _ _ _) rfl rfl ?_
                  refine zw_iconst 1 25 f173_24 rfl (by decide +kernel) ?_
                  refine zw_iadd 3 26 f173_25 rfl (by decide +kernel) ?_
                  refine zw_put _ 29 f173_26 rfl g173_246_12 (hb_52 _ _ _ _) rfl (Nat.le_of_ble_eq_true rfl) (by decide +kernel) (hi_52_29 _ _ _ _ _) ?_
                  refine zw_vreturn f173_29 r173 u173 ⟨rfl, ?_⟩
                  refine zw_aload_n 17 f177_16 rfl rfl ?_
                  refine zw_iload_n 18 f177_17 rfl rfl ?_
                  refine zw_iload_n 19 f177_18 rfl rfl ?_
                  refine zw_virtual_i 22 0 0 [.ref 52, .int a, .int (c * 2)] [(0, .ref 52), (1, .int a), (2, .int (c * 2))] f177_19 rfl n177_301 k177_301_12 rfl (hb_52 _ _ _ _) (by decide +kernel) (Nat.le_of_ble_eq_true rfl) rfl rfl (by decide +kernel) (by decide +kernel) rfl (Nat.le_of_ble_eq_true rfl) rfl ?_
                  refine zw_aload_n 1 f176_0 rfl rfl ?_
                  refine zw_bipush 11 3 f176_1 rfl (by decide +kernel) ?_
                  refine zw_virtual_v 6 0 0 [.ref 52, .int 11] [(0, .ref 52), (1, .int 11)] f176_3 rfl n176_291 k176_291_12 rfl (hb_52 _ _ _ _) (by decide +kernel) (Nat.le_of_ble_eq_true rfl) rfl rfl (by decide +kernel) (by decide +kernel) rfl (Nat.le_of_ble_eq_true rfl) rfl ?_
                  refine zw_aload_n 1 f173_0 rfl rfl ?_
                  refine zw_getI 3 4 f173_1 rfl g173_246_12 (hb_52 _ _ _ _) rfl rfl ?_
                  refine zw_bipush 50 6 f173_4 rfl (by decide +kernel) ?_
                  refine zw_ic_ge_f 9 19 f173_6 (by decide +kernel) rfl (by decide +kernel) ?_
                  refine zw_aload_n 10 f173_9 rfl rfl ?_
                  refine zw_getfield 13 f173_10 rfl g173_74_12 (hb_52 _ _ _ _) rfl ?_
                  refine zw_aload_n 14 f173_13 rfl rfl ?_
                  refine zw_getI 3 17 f173_14 rfl g173_246_12 (hb_52 _ _ _ _) rfl rfl ?_
                  refine zw_iload_n 18 f173_17 rfl rfl ?_
                  refine zw_ast 3 _ 19 f173_18 rfl (hb_71 _ _ _ _) (by decide +kernel) (by decide +kernel) (by decide +kernel) (ha_71 _ _ _ _ _) ?_
                  refine zw_aload_n 20 f173_19 rfl rfl ?_
                  refine zw_dup 21 f173_20 rfl rfl ?_
                  refine zw_getI 3 24 f173_21 rfl g173_246_12 (hb_52 _ _ _ _) rfl rfl ?_
                  refine zw_iconst 1 25 f173_24 rfl (by decide +kernel) ?_
                  refine zw_iadd 4 26 f173_25 rfl (by decide +kernel) ?_
                  refine zw_put _ 29 f173_26 rfl g173_246_12 (hb_52 _ _ _ _) rfl (Nat.le_of_ble_eq_true rfl) (by decide +kernel) (hi_52_29 _ _ _ _ _) ?_
                  refine zw_vreturn f173_29 r173 u173 ⟨rfl, ?_⟩
                  refine zw_aload_n 7 f176_6 rfl rfl ?_
                  refine zw_iload_n 8 f176_7 rfl rfl ?_
                  refine zw_iload_n 9 f176_8 rfl rfl ?_
                  refine zw_virtual_i 12 0 0 [.ref 52, .int a, .int (c * 2)] [(0, .ref 52), (1, .int a), (2, .int (c * 2))] f176_9 rfl n176_298 k176_298_12 rfl (hb_52 _ _ _ _) (by decide +kernel) (Nat.le_of_ble_eq_true rfl) rfl rfl (by decide +kernel) (by decide +kernel) rfl (Nat.le_of_ble_eq_true rfl) rfl ?_
                  refine zw_aload_n 1 f175_0 rfl rfl ?_
                  refine zw_getfield 4 f175_1 rfl g175_7_12 (hb_52 _ _ _ _) rfl ?_
                  refine zw_iload_n 5 f175_4 rfl rfl ?_
                  refine zw_iaload a.toNatClampNeg 1 6 f175_5 rfl (hb_53 _ _ _ _) rfl hc1 (zix (by decide) hc1 (show ¬ 8 ≤ a from ix_le hp.1 (by decide) (by decide) hc1 hc2)) ((congrFun (hR.2.1 53 (by omega) (by omega)) a.toNatClampNeg).trans hk) ?_
                  refine zw_iconst 2 7 f175_6 rfl (by decide +kernel) ?_
                  refine zw_ic_ne_t 25 f175_7 (by decide +kernel) (by decide +kernel) ?_
                  refine zw_aload_n 26 f175_25 rfl rfl ?_
                  refine zw_iload_n 27 f175_26 rfl rfl ?_
                  refine zw_virtual_i 30 0 0 [.ref 52, .int a] [(0, .ref 52), (1, .int a)] f175_27 rfl n175_158 k175_158_12 rfl (hb_52 _ _ _ _) (by decide +kernel) (Nat.le_of_ble_eq_true rfl) rfl rfl (by decide +kernel) (by decide +kernel) rfl (Nat.le_of_ble_eq_true rfl) rfl ?_
                  refine zw_aload_n 1 f126_0 rfl rfl ?_
                  refine zw_getfield 4 f126_1 rfl g126_7_12 (hb_52 _ _ _ _) rfl ?_
                  refine zw_iload_n 5 f126_4 rfl rfl ?_
                  refine zw_iaload a.toNatClampNeg 1 6 f126_5 rfl (hb_53 _ _ _ _) rfl hc1 (zix (by decide) hc1 (show ¬ 8 ≤ a from ix_le hp.1 (by decide) (by decide) hc1 hc2)) ((congrFun (hR.2.1 53 (by omega) (by omega)) a.toNatClampNeg).trans hk) ?_
                  refine zw_iconst 3 7 f126_6 rfl (by decide +kernel) ?_
                  refine zw_ic_eq_f 10 20 f126_7 (by decide +kernel) rfl (by decide +kernel) ?_
                  refine zw_aload_n 11 f126_10 rfl rfl ?_
                  refine zw_getfield 14 f126_11 rfl g126_7_12 (hb_52 _ _ _ _) rfl ?_
                  refine zw_iload_n 15 f126_14 rfl rfl ?_
                  refine zw_iaload a.toNatClampNeg 1 16 f126_15 rfl (hb_53 _ _ _ _) rfl hc1 (zix (by decide) hc1 (show ¬ 8 ≤ a from ix_le hp.1 (by decide) (by decide) hc1 hc2)) ((congrFun (hR.2.1 53 (by omega) (by omega)) a.toNatClampNeg).trans hk) ?_
                  refine zw_iconst 4 17 f126_16 rfl (by decide +kernel) ?_
                  refine zw_ic_ne_t 24 f126_17 (by decide +kernel) (by decide +kernel) ?_
                  refine zw_iconst 0 25 f126_24 rfl (by decide +kernel) ?_
                  refine zw_zreturn f126_25 r126 u126 (by decide +kernel) ⟨_, rfl, ?_⟩
                  refine zw_if_eq_t 53 f175_30 (by decide +kernel) (by decide +kernel) ?_
                  refine zw_aload_n 54 f175_53 rfl rfl ?_
                  refine zw_iload_n 55 f175_54 rfl rfl ?_
                  refine zw_iload_n 56 f175_55 rfl rfl ?_
                  refine zw_virtual_i 59 0 0 [.ref 52, .int a, .int (c * 2)] [(0, .ref 52), (1, .int a), (2, .int (c * 2))] f175_56 rfl n175_294 k175_294_12 rfl (hb_52 _ _ _ _) (by decide +kernel) (Nat.le_of_ble_eq_true rfl) rfl rfl (by decide +kernel) (by decide +kernel) rfl (Nat.le_of_ble_eq_true rfl) rfl ?_
                  refine zw_aload_n 1 f174_0 rfl rfl ?_
                  refine zw_bipush 10 3 f174_1 rfl (by decide +kernel) ?_
                  refine zw_virtual_v 6 0 0 [.ref 52, .int 10] [(0, .ref 52), (1, .int 10)] f174_3 rfl n174_291 k174_291_12 rfl (hb_52 _ _ _ _) (by decide +kernel) (Nat.le_of_ble_eq_true rfl) rfl rfl (by decide +kernel) (by decide +kernel) rfl (Nat.le_of_ble_eq_true rfl) rfl ?_
                  refine zw_aload_n 1 f173_0 rfl rfl ?_
                  refine zw_getI 4 4 f173_1 rfl g173_246_12 (hb_52 _ _ _ _) rfl rfl ?_
                  refine zw_bipush 50 6 f173_4 rfl (by decide +kernel) ?_
                  refine zw_ic_ge_f 9 19 f173_6 (by decide +kernel) rfl (by decide +kernel) ?_
                  refine zw_aload_n 10 f173_9 rfl rfl ?_
                  refine zw_getfield 13 f173_10 rfl g173_74_12 (hb_52 _ _ _ _) rfl ?_
                  refine zw_aload_n 14 f173_13 rfl rfl ?_
                  refine zw_getI 4 17 f173_14 rfl g173_246_12 (hb_52 _ _ _ _) rfl rfl ?_
                  refine zw_iload_n 18 f173_17 rfl rfl ?_
                  refine zw_ast 4 _ 19 f173_18 rfl (hb_71 _ _ _ _) (by decide +kernel) (by decide +kernel) (by decide +kernel) (ha_71 _ _ _ _ _) ?_
                  refine zw_aload_n 20 f173_19 rfl rfl ?_
                  refine zw_dup 21 f173_20 rfl rfl ?_
                  refine zw_getI 4 24 f173_21 rfl g173_246_12 (hb_52 _ _ _ _) rfl rfl ?_
                  refine zw_iconst 1 25 f173_24 rfl (by decide +kernel) ?_
                  refine zw_iadd 5 26 f173_25 rfl (by decide +kernel) ?_
                  refine zw_put _ 29 f173_26 rfl g173_246_12 (hb_52 _ _ _ _) rfl (Nat.le_of_ble_eq_true rfl) (by decide +kernel) (hi_52_29 _ _ _ _ _) ?_
                  refine zw_vreturn f173_29 r173 u173 ⟨rfl, ?_⟩
                  refine zw_iload_n 7 f174_6 rfl rfl ?_
                  refine zw_aload_n 8 f174_7 rfl rfl ?_
                  refine zw_getfield 11 f174_8 rfl g174_13_12 (hb_52 _ _ _ _) rfl ?_
                  refine zw_iload_n 12 f174_11 rfl rfl ?_
                  refine zw_iaload a.toNatClampNeg (P 54 a.toNatClampNeg) 13 f174_12 rfl (hb_54 _ _ _ _) rfl hc1 (zix (by decide) hc1 (show ¬ 8 ≤ a from ix_le hp.1 (by decide) (by decide) hc1 hc2)) (congrFun ((hR.2.1 54 (by omega) (by omega))) a.toNatClampNeg) ?_
                  refine zw_iadd ((c * 2) + (P 54 a.toNatClampNeg)) 14 f174_13 rfl rfl ?_
                  refine zw_ireturn f174_14 r174 u174 ⟨_, rfl, ?_⟩
                  refine zw_ireturn f175_59 r175 u175 ⟨_, rfl, ?_⟩
                  refine zw_iconst 3 13 f176_12 rfl (by decide +kernel) ?_
                  refine zw_imul (((c * 2) + (P 54 a.toNatClampNeg)) * 3) 14 f176_13 rfl rfl ?_
                  refine zw_ireturn f176_14 r176 u176 ⟨_, rfl, ?_⟩
                  refine zw_aload_n 23 f177_22 rfl rfl ?_
                  refine zw_getfield 26 f177_23 rfl g177_16_12 (hb_52 _ _ _ _) rfl ?_
                  refine zw_iload_n 27 f177_26 rfl rfl ?_
                  refine zw_iaload a.toNatClampNeg (P 55 a.toNatClampNeg) 28 f177_27 rfl (hb_55 _ _ _ _) rfl hc1 (zix (by decide) hc1 (show ¬ 8 ≤ a from ix_le hp.1 (by decide) (by decide) hc1 hc2)) (congrFun ((hR.2.1 55 (by omega) (by omega))) a.toNatClampNeg) ?_
                  refine zw_iadd ((((c * 2) + (P 54 a.toNatClampNeg)) * 3) + (P 55 a.toNatClampNeg)) 29 f177_28 rfl rfl ?_
                  refine zw_ireturn f177_29 r177 u177 ⟨_, rfl, ?_⟩
                  refine zw_istore _ 36 f179_34 rfl (by decide +kernel) rfl ?_
                  refine zw_iload 38 f179_36 rfl zl1_eq ?_
                  refine zw_aload_n 39 f179_38 rfl (zl1_ne rfl rfl (zl1_ne rfl rfl (zl1_ne rfl rfl rfl))) ?_
                  refine zw_iload_n 40 f179_39 rfl (zl1_ne rfl rfl (zl1_ne rfl rfl (zl1_ne rfl rfl rfl))) ?_
                  refine zw_iload_n 41 f179_40 rfl (zl1_ne rfl rfl zl1_eq) ?_
                  refine zw_virtual_i 44 0 0 [.ref 52, .int a, .int (c * 2)] [(0, .ref 52), (1, .int a), (2, .int (c * 2))] f179_41 rfl n179_307 k179_307_12 rfl (hb_52 _ _ _ _) (by decide +kernel) (Nat.le_of_ble_eq_true rfl) rfl rfl (by decide +kernel) (by decide +kernel) rfl (Nat.le_of_ble_eq_true rfl) rfl ?_
                  refine zw_aload_n 1 f178_0 rfl rfl ?_
                  refine zw_getfield 4 f178_1 rfl g178_7_12 (hb_52 _ _ _ _) rfl ?_
                  refine zw_iload_n 5 f178_4 rfl rfl ?_
                  refine zw_iaload a.toNatClampNeg 1 6 f178_5 rfl (hb_53 _ _ _ _) rfl hc1 (zix (by decide) hc1 (show ¬ 8 ≤ a from ix_le hp.1 (by decide) (by decide) hc1 hc2)) ((congrFun (hR.2.1 53 (by omega) (by omega)) a.toNatClampNeg).trans hk) ?_
                  refine zw_iconst 4 7 f178_6 rfl (by decide +kernel) ?_
                  refine zw_ic_ne_t 16 f178_7 (by decide +kernel) (by decide +kernel) ?_
                  refine zw_aload_n 17 f178_16 rfl rfl ?_
                  refine zw_iload_n 18 f178_17 rfl rfl ?_
                  refine zw_virtual_i 21 0 0 [.ref 52, .int a] [(0, .ref 52), (1, .int a)] f178_18 rfl n178_158 k178_158_12 rfl (hb_52 _ _ _ _) (by decide +kernel) (Nat.le_of_ble_eq_true rfl) rfl rfl (by decide +kernel) (by decide +kernel) rfl (Nat.le_of_ble_eq_true rfl) rfl ?_
                  refine zw_aload_n 1 f126_0 rfl rfl ?_
                  refine zw_getfield 4 f126_1 rfl g126_7_12 (hb_52 _ _ _ _) rfl ?_
                  refine zw_iload_n 5 f126_4 rfl rfl ?_
                  refine zw_iaload a.toNatClampNeg 1 6 f126_5 rfl (hb_53 _ _ _ _) rfl hc1 (zix (by decide) hc1 (show ¬ 8 ≤ a from ix_le hp.1 (by decide) (by decide) hc1 hc2)) ((congrFun (hR.2.1 53 (by omega) (by omega)) a.toNatClampNeg).trans hk) ?_
                  refine zw_iconst 3 7 f126_6 rfl (by decide +kernel) ?_
                  refine zw_ic_eq_f 10 20 f126_7 (by decide +kernel) rfl (by decide +kernel) ?_
                  refine zw_aload_n 11 f126_10 rfl rfl ?_
                  refine zw_getfield 14 f126_11 rfl g126_7_12 (hb_52 _ _ _ _) rfl ?_
                  refine zw_iload_n 15 f126_14 rfl rfl ?_
                  refine zw_iaload a.toNatClampNeg 1 16 f126_15 rfl (hb_53 _ _ _ _) rfl hc1 (zix (by decide) hc1 (show ¬ 8 ≤ a from ix_le hp.1 (by decide) (by decide) hc1 hc2)) ((congrFun (hR.2.1 53 (by omega) (by omega)) a.toNatClampNeg).trans hk) ?_
                  refine zw_iconst 4 17 f126_16 rfl (by decide +kernel) ?_
                  refine zw_ic_ne_t 24 f126_17 (by decide +kernel) (by decide +kernel) ?_
                  refine zw_iconst 0 25 f126_24 rfl (by decide +kernel) ?_
                  refine zw_zreturn f126_25 r126 u126 (by decide +kernel) ⟨_, rfl, ?_⟩
                  refine zw_if_eq_t 30 f178_21 (by decide +kernel) (by decide +kernel) ?_
                  refine zw_aload_n 31 f178_30 rfl rfl ?_
                  refine zw_bipush 12 33 f178_31 rfl (by decide +kernel) ?_
                  refine zw_virtual_v 36 0 0 [.ref 52, .int 12] [(0, .ref 52), (1, .int 12)] f178_33 rfl n178_291 k178_291_12 rfl (hb_52 _ _ _ _) (by decide +kernel) (Nat.le_of_ble_eq_true rfl) rfl rfl (by decide +kernel) (by decide +kernel) rfl (Nat.le_of_ble_eq_true rfl) rfl ?_
                  refine zw_aload_n 1 f173_0 rfl rfl ?_
                  refine zw_getI 5 4 f173_1 rfl g173_246_12 (hb_52 _ _ _ _) rfl rfl ?_
                  refine zw_bipush 50 6 f173_4 rfl (by decide +kernel) ?_
                  refine zw_ic_ge_f 9 19 f173_6 (by decide +kernel) rfl (by decide +kernel) ?_
                  refine zw_aload_n 10 f173_9 rfl rfl ?_
                  refine zw_getfield 13 f173_10 rfl g173_74_12 (hb_52 _ _ _ _) rfl ?_
                  refine zw_aload_n 14 f173_13 rfl rfl ?_
                  refine zw_getI 5 17 f173_14 rfl g173_246_12 (hb_52 _ _ _ _) rfl rfl ?_
                  refine zw_iload_n 18 f173_17 rfl rfl ?_
                  refine zw_ast 5 _ 19 f173_18 rfl (hb_71 _ _ _ _) (by decide +kernel) (by decide +kernel) (by decide +kernel) (ha_71 _ _ _ _ _) ?_
                  refine zw_aload_n 20 f173_19 rfl rfl ?_
                  refine zw_dup 21 f173_20 rfl rfl ?_
                  refine zw_getI 5 24 f173_21 rfl g173_246_12 (hb_52 _ _ _ _) rfl rfl ?_
                  refine zw_iconst 1 25 f173_24 rfl (by decide +kernel) ?_
                  refine zw_iadd 6 26 f173_25 rfl (by decide +kernel) ?_
                  refine zw_put _ 29 f173_26 rfl g173_246_12 (hb_52 _ _ _ _) rfl (Nat.le_of_ble_eq_true rfl) (by decide +kernel) (hi_52_29 _ _ _ _ _) ?_
                  refine zw_vreturn f173_29 r173 u173 ⟨rfl, ?_⟩
                  refine zw_iload_n 37 f178_36 rfl rfl ?_
                  refine zw_aload_n 38 f178_37 rfl rfl ?_
                  refine zw_getfield 41 f178_38 rfl g178_13_12 (hb_52 _ _ _ _) rfl ?_
                  refine zw_iload_n 42 f178_41 rfl rfl ?_
                  refine zw_iaload a.toNatClampNeg (P 54 a.toNatClampNeg) 43 f178_42 rfl (hb_54 _ _ _ _) rfl hc1 (zix (by decide) hc1 (show ¬ 8 ≤ a from ix_le hp.1 (by decide) (by decide) hc1 hc2)) (congrFun ((hR.2.1 54 (by omega) (by omega))) a.toNatClampNeg) ?_
                  refine zw_ixor ((c * 2) ^^^ (P 54 a.toNatClampNeg)) 44 f178_43 rfl rfl ?_
                  refine zw_aload_n 45 f178_44 rfl rfl ?_
                  refine zw_iload_n 46 f178_45 rfl rfl ?_
                  refine zw_virtual_i 49 0 0 [.ref 52, .int a] [(0, .ref 52), (1, .int a)] f178_46 rfl n178_158 k178_158_12 rfl (hb_52 _ _ _ _) (by decide +kernel) (Nat.le_of_ble_eq_true rfl) rfl rfl (by decide +kernel) (by decide +kernel) rfl (Nat.le_of_ble_eq_true rfl) rfl ?_
                  refine zw_aload_n 1 f126_0 rfl rfl ?_
                  refine zw_getfield 4 f126_1 rfl g126_7_12 (hb_52 _ _ _ _) rfl ?_
                  refine zw_iload_n 5 f126_4 rfl rfl ?_
                  refine zw_iaload a.toNatClampNeg 1 6 f126_5 rfl (hb_53 _ _ _ _) rfl hc1 (zix (by decide) hc1 (show ¬ 8 ≤ a from ix_le hp.1 (by decide) (by decide) hc1 hc2)) ((congrFun (hR.2.1 53 (by omega) (by omega)) a.toNatClampNeg).trans hk) ?_
                  refine zw_iconst 3 7 f126_6 rfl (by decide +kernel) ?_
                  refine zw_ic_eq_f 10 20 f126_7 (by decide +kernel) rfl (by decide +kernel) ?_
                  refine zw_aload_n 11 f126_10 rfl rfl ?_
                  refine zw_getfield 14 f126_11 rfl g126_7_12 (hb_52 _ _ _ _) rfl ?_
                  refine zw_iload_n 15 f126_14 rfl rfl ?_
                  refine zw_iaload a.toNatClampNeg 1 16 f126_15 rfl (hb_53 _ _ _ _) rfl hc1 (zix (by decide) hc1 (show ¬ 8 ≤ a from ix_le hp.1 (by decide) (by decide) hc1 hc2)) ((congrFun (hR.2.1 53 (by omega) (by omega)) a.toNatClampNeg).trans hk) ?_
                  refine zw_iconst 4 17 f126_16 rfl (by decide +kernel) ?_
                  refine zw_ic_ne_t 24 f126_17 (by decide +kernel) (by decide +kernel) ?_
                  refine zw_iconst 0 25 f126_24 rfl (by decide +kernel) ?_
                  refine zw_zreturn f126_25 r126 u126 (by decide +kernel) ⟨_, rfl, ?_⟩
                  refine zw_if_eq_t 61 f178_49 (by decide +kernel) (by decide +kernel) ?_
                  refine zw_iconst 0 62 f178_61 rfl (by decide +kernel) ?_
                  refine zw_iadd (((c * 2) ^^^ (P 54 a.toNatClampNeg)) + 0) 63 f178_62 rfl rfl ?_
                  refine zw_aload_n 64 f178_63 rfl rfl ?_
                  refine zw_getfield 67 f178_64 rfl g178_7_12 (hb_52 _ _ _ _) rfl ?_
                  refine zw_iload_n 68 f178_67 rfl rfl ?_
                  refine zw_iaload a.toNatClampNeg 1 69 f178_68 rfl (hb_53 _ _ _ _) rfl hc1 (zix (by decide) hc1 (show ¬ 8 ≤ a from ix_le hp.1 (by decide) (by decide) hc1 hc2)) ((congrFun (hR.2.1 53 (by omega) (by omega)) a.toNatClampNeg).trans hk) ?_
                  refine zw_iconst 4 70 f178_69 rfl (by decide +kernel) ?_
                  refine zw_ic_ne_t 82 f178_70 (by decide +kernel) (by decide +kernel) ?_
                  refine zw_iconst 0 83 f178_82 rfl (by decide +kernel) ?_
                  refine zw_iadd ((((c * 2) ^^^ (P 54 a.toNatClampNeg)) + 0) + 0) 84 f178_83 rfl rfl ?_
                  refine zw_ireturn f178_84 r178 u178 ⟨_, rfl, ?_⟩
                  refine zw_isub (((((c * 2) + (P 54 a.toNatClampNeg)) * 3) + (P 55 a.toNatClampNeg)) - ((((c * 2) ^^^ (P 54 a.toNatClampNeg)) + 0) + 0)) 45 f179_44 rfl rfl ?_
                  refine zw_ireturn f179_45 r179 u179 ⟨_, rfl, ?_⟩
                  refine zw_virtual_i 79 0 0 [.ref 52, .int (((((c * 2) + (P 54 a.toNatClampNeg)) * 3) + (P 55 a.toNatClampNeg)) - ((((c * 2) ^^^ (P 54 a.toNatClampNeg)) + 0) + 0))] [(0, .ref 52), (1, .int (((((c * 2) + (P 54 a.toNatClampNeg)) * 3) + (P 55 a.toNatClampNeg)) - ((((c * 2) ^^^ (P 54 a.toNatClampNeg)) + 0) + 0)))] f180_76 rfl n180_205 k180_205_12 rfl (hb_52 _ _ _ _) (by decide +kernel) (Nat.le_of_ble_eq_true rfl) rfl rfl (by decide +kernel) (by decide +kernel) rfl (Nat.le_of_ble_eq_true rfl) rfl ?_
                  refine zw_aload_n 1 f122_0 rfl rfl ?_
                  refine zw_iconst 0 2 f122_1 rfl (by decide +kernel) ?_
                  refine zw_put _ 5 f122_2 rfl g122_111_12 (hb_52 _ _ _ _) rfl (Nat.le_of_ble_eq_true rfl) (by decide +kernel) (hi_52_27 _ _ _ _ _) ?_
                  refine zw_iload_n 6 f122_5 rfl rfl ?_
                  refine zw_ireturn f122_6 r122 u122 ⟨_, rfl, ?_⟩
                  refine zw_ireturn f180_79 r180 u180 ?_
                  exact ⟨_, _, _, _, rfl, (KQ.i rfl (KQ.i rfl (KQ.a rfl (KQ.i rfl (KQ.a rfl (KQ.i rfl (KQ.a rfl (KQ.i rfl (KQ.a rfl (KQ.i rfl (KQ.a rfl (KQ.i rfl (KQ.a rfl (KQ.i rfl KQ.rf)))))))))))))), ⟨hi.1, hi.2.1, 6, by omega, (show _ = nI 6 from rfl)⟩, Or.inr ⟨⟨(qV.of (by omega) hc1 hc2), ⟨hc3, hc4⟩⟩, by rw [show an_tl (P 53 a.toNatClampNeg) b = [21, 13, 20, 11, 10, 12] from ((cI_n hc5).trans ((cI_n hc6).trans ((cI_n hc7).trans ((cI_n (kne hk (by decide))).trans (cI_y hk)))))]; exact ⟨rfl, by intro i hi; rcases (show i = 0 ∨ i = 1 ∨ i = 2 ∨ i = 3 ∨ i = 4 ∨ i = 5 by have q : i < 6 := hi; omega) with rfl | rfl | rfl | rfl | rfl | rfl <;> rfl⟩⟩, _, rfl⟩
                · refine zw_iaload a.toNatClampNeg 2 8 f179_7 rfl (hb_53 _ _ _ _) rfl hc1 (zix (by decide) hc1 (show ¬ 8 ≤ a from ix_le hp.1 (by decide) (by decide) hc1 hc2)) ((congrFun (hR.2.1 53 (by omega) (by omega)) a.toNatClampNeg).trans hk) ?_
                  refine zw_iconst 1 9 f179_8 rfl (by decide +kernel) ?_
                  refine zw_ic_ne_t 22 f179_9 (by decide +kernel) (by decide +kernel) ?_
                  refine zw_aload_n 23 f179_22 rfl (zl1_ne rfl rfl rfl) ?_
                  refine zw_bipush 13 25 f179_23 rfl (by decide +kernel) ?_
                  refine zw_virtual_v 28 0 0 [.ref 52, .int 13] [(0, .ref 52), (1, .int 13)] f179_25 rfl n179_291 k179_291_12 rfl (hb_52 _ _ _ _) (by decide +kernel) (Nat.le_of_ble_eq_true rfl) rfl rfl (by decide +kernel) (by decide +kernel) rfl (Nat.le_of_ble_eq_true rfl) rfl ?_
                  refine zw_aload_n 1 f173_0 rfl rfl ?_
                  refine zw_getI 0 4 f173_1 rfl g173_246_12 (hb_52 _ _ _ _) rfl rfl ?_
                  refine zw_bipush 50 6 f173_4 rfl (by decide +kernel) ?_
                  refine zw_ic_ge_f 9 19 f173_6 (by decide +kernel) rfl (by decide +kernel) ?_
                  refine zw_aload_n 10 f173_9 rfl rfl ?_
                  refine zw_getfield 13 f173_10 rfl g173_74_12 (hb_52 _ _ _ _) rfl ?_
                  refine zw_aload_n 14 f173_13 rfl rfl ?_
                  refine zw_getI 0 17 f173_14 rfl g173_246_12 (hb_52 _ _ _ _) rfl rfl ?_
                  refine zw_iload_n 18 f173_17 rfl rfl ?_
                  refine zw_ast 0 _ 19 f173_18 rfl (hb_71 _ _ _ _) (by decide +kernel) (by decide +kernel) (by decide +kernel) (ha_71 _ _ _ _ _) ?_
                  refine zw_aload_n 20 f173_19 rfl rfl ?_
                  refine zw_dup 21 f173_20 rfl rfl ?_
                  refine zw_getI 0 24 f173_21 rfl g173_246_12 (hb_52 _ _ _ _) rfl rfl ?_
                  refine zw_iconst 1 25 f173_24 rfl (by decide +kernel) ?_
                  refine zw_iadd 1 26 f173_25 rfl (by decide +kernel) ?_
                  refine zw_put _ 29 f173_26 rfl g173_246_12 (hb_52 _ _ _ _) rfl (Nat.le_of_ble_eq_true rfl) (by decide +kernel) (hi_52_29 _ _ _ _ _) ?_
                  refine zw_vreturn f173_29 r173 u173 ⟨rfl, ?_⟩
                  refine zw_aload_n 29 f179_28 rfl (zl1_ne rfl rfl rfl) ?_
                  refine zw_iload_n 30 f179_29 rfl (zl1_ne rfl rfl rfl) ?_
                  refine zw_iload_n 31 f179_30 rfl zl1_eq ?_
                  refine zw_virtual_i 34 0 0 [.ref 52, .int a, .int c] [(0, .ref 52), (1, .int a), (2, .int c)] f179_31 rfl n179_304 k179_304_12 rfl (hb_52 _ _ _ _) (by decide +kernel) (Nat.le_of_ble_eq_true rfl) rfl rfl (by decide +kernel) (by decide +kernel) rfl (Nat.le_of_ble_eq_true rfl) rfl ?_
                  refine zw_aload_n 1 f177_0 rfl rfl ?_
                  refine zw_getfield 4 f177_1 rfl g177_7_12 (hb_52 _ _ _ _) rfl ?_
                  refine zw_iload_n 5 f177_4 rfl rfl ?_
                  refine zw_iaload a.toNatClampNeg 2 6 f177_5 rfl (hb_53 _ _ _ _) rfl hc1 (zix (by decide) hc1 (show ¬ 8 ≤ a from ix_le hp.1 (by decide) (by decide) hc1 hc2)) ((congrFun (hR.2.1 53 (by omega) (by omega)) a.toNatClampNeg).trans hk) ?_
                  refine zw_iconst 1 7 f177_6 rfl (by decide +kernel) ?_
                  refine zw_ic_ne_t 30 f177_7 (by decide +kernel) (by decide +kernel) ?_
                  refine zw_aload_n 31 f177_30 rfl rfl ?_
                  refine zw_getfield 34 f177_31 rfl g177_7_12 (hb_52 _ _ _ _) rfl ?_
                  refine zw_iload_n 35 f177_34 rfl rfl ?_
                  refine zw_iaload a.toNatClampNeg 2 36 f177_35 rfl (hb_53 _ _ _ _) rfl hc1 (zix (by decide) hc1 (show ¬ 8 ≤ a from ix_le hp.1 (by decide) (by decide) hc1 hc2)) ((congrFun (hR.2.1 53 (by omega) (by omega)) a.toNatClampNeg).trans hk) ?_
                  refine zw_iconst 4 37 f177_36 rfl (by decide +kernel) ?_
                  refine zw_ic_ne_t 60 f177_37 (by decide +kernel) (by decide +kernel) ?_
                  refine zw_aload_n 61 f177_60 rfl rfl ?_
                  refine zw_iload_n 62 f177_61 rfl rfl ?_
                  refine zw_iload_n 63 f177_62 rfl rfl ?_
                  refine zw_virtual_i 66 0 0 [.ref 52, .int a, .int c] [(0, .ref 52), (1, .int a), (2, .int c)] f177_63 rfl n177_301 k177_301_12 rfl (hb_52 _ _ _ _) (by decide +kernel) (Nat.le_of_ble_eq_true rfl) rfl rfl (by decide +kernel) (by decide +kernel) rfl (Nat.le_of_ble_eq_true rfl) rfl ?_
                  refine zw_aload_n 1 f176_0 rfl rfl ?_
                  refine zw_bipush 11 3 f176_1 rfl (by decide +kernel) ?_
                  refine zw_virtual_v 6 0 0 [.ref 52, .int 11] [(0, .ref 52), (1, .int 11)] f176_3 rfl n176_291 k176_291_12 rfl (hb_52 _ _ _ _) (by decide +kernel) (Nat.le_of_ble_eq_true rfl) rfl rfl (by decide +kernel) (by decide +kernel) rfl (Nat.le_of_ble_eq_true rfl) rfl ?_
                  refine zw_aload_n 1 f173_0 rfl rfl ?_
                  refine zw_getI 1 4 f173_1 rfl g173_246_12 (hb_52 _ _ _ _) rfl rfl ?_
                  refine zw_bipush 50 6 f173_4 rfl (by decide +kernel) ?_
                  refine zw_ic_ge_f 9 19 f173_6 (by decide +kernel) rfl (by decide +kernel) ?_
                  refine zw_aload_n 10 f173_9 rfl rfl ?_
                  refine zw_getfield 13 f173_10 rfl g173_74_12 (hb_52 _ _ _ _) rfl ?_
                  refine zw_aload_n 14 f173_13 rfl rfl ?_
                  refine zw_getI 1 17 f173_14 rfl g173_246_12 (hb_52 _ _ _ _) rfl rfl ?_
                  refine zw_iload_n 18 f173_17 rfl rfl ?_
                  refine zw_ast 1 _ 19 f173_18 rfl (hb_71 _ _ _ _) (by decide +kernel) (by decide +kernel) (by decide +kernel) (ha_71 _ _ _ _ _) ?_
                  refine zw_aload_n 20 f173_19 rfl rfl ?_
                  refine zw_dup 21 f173_20 rfl rfl ?_
                  refine zw_getI 1 24 f173_21 rfl g173_246_12 (hb_52 _ _ _ _) rfl rfl ?_
                  refine zw_iconst 1 25 f173_24 rfl (by decide +kernel) ?_
                  refine zw_iadd 2 26 f173_25 rfl (by decide +kernel) ?_
                  refine zw_put _ 29 f173_26 rfl g173_246_12 (hb_52 _ _ _ _) rfl (Nat.le_of_ble_eq_true rfl) (by decide +kernel) (hi_52_29 _ _ _ _ _) ?_
                  refine zw_vreturn f173_29 r173 u173 ⟨rfl, ?_⟩
                  refine zw_aload_n 7 f176_6 rfl rfl ?_
                  refine zw_iload_n 8 f176_7 rfl rfl ?_
                  refine zw_iload_n 9 f176_8 rfl rfl ?_
                  refine zw_virtual_i 12 0 0 [.ref 52, .int a, .int c] [(0, .ref 52), (1, .int a), (2, .int c)] f176_9 rfl n176_298 k176_298_12 rfl (hb_52 _ _ _ _) (by decide +kernel) (Nat.le_of_ble_eq_true rfl) rfl rfl (by decide +kernel) (by decide +kernel) rfl (Nat.le_of_ble_eq_true rfl) rfl ?_
                  refine zw_aload_n 1 f175_0 rfl rfl ?_
                  refine zw_getfield 4 f175_1 rfl g175_7_12 (hb_52 _ _ _ _) rfl ?_
                  refine zw_iload_n 5 f175_4 rfl rfl ?_
                  refine zw_iaload a.toNatClampNeg 2 6 f175_5 rfl (hb_53 _ _ _ _) rfl hc1 (zix (by decide) hc1 (show ¬ 8 ≤ a from ix_le hp.1 (by decide) (by decide) hc1 hc2)) ((congrFun (hR.2.1 53 (by omega) (by omega)) a.toNatClampNeg).trans hk) ?_
                  refine zw_iconst 2 7 f175_6 rfl (by decide +kernel) ?_
                  refine zw_ic_ne_f 10 25 f175_7 (by decide +kernel) rfl (by decide +kernel) ?_
                  refine zw_aload_n 11 f175_10 rfl rfl ?_
                  refine zw_bipush 30 13 f175_11 rfl (by decide +kernel) ?_
                  refine zw_virtual_v 16 0 0 [.ref 52, .int 30] [(0, .ref 52), (1, .int 30)] f175_13 rfl n175_291 k175_291_12 rfl (hb_52 _ _ _ _) (by decide +kernel) (Nat.le_of_ble_eq_true rfl) rfl rfl (by decide +kernel) (by decide +kernel) rfl (Nat.le_of_ble_eq_true rfl) rfl ?_
                  refine zw_aload_n 1 f173_0 rfl rfl ?_
                  refine zw_getI 2 4 f173_1 rfl g173_246_12 (hb_52 _ _ _ _) rfl rfl ?_
                  refine zw_bipush 50 6 f173_4 rfl (by decide +kernel) ?_
                  refine zw_ic_ge_f 9 19 f173_6 (by decide +kernel) rfl (by decide +kernel) ?_
                  refine zw_aload_n 10 f173_9 rfl rfl ?_
                  refine zw_getfield 13 f173_10 rfl g173_74_12 (hb_52 _ _ _ _) rfl ?_
                  refine zw_aload_n 14 f173_13 rfl rfl ?_
                  refine zw_getI 2 17 f173_14 rfl g173_246_12 (hb_52 _ _ _ _) rfl rfl ?_
                  refine zw_iload_n 18 f173_17 rfl rfl ?_
                  refine zw_ast 2 _ 19 f173_18 rfl (hb_71 _ _ _ _) (by decide +kernel) (by decide +kernel) (by decide +kernel) (ha_71 _ _ _ _ _) ?_
                  refine zw_aload_n 20 f173_19 rfl rfl ?_
                  refine zw_dup 21 f173_20 rfl rfl ?_
                  refine zw_getI 2 24 f173_21 rfl g173_246_12 (hb_52 _ _ _ _) rfl rfl ?_
                  refine zw_iconst 1 25 f173_24 rfl (by decide +kernel) ?_
                  refine zw_iadd 3 26 f173_25 rfl (by decide +kernel) ?_
                  refine zw_put _ 29 f173_26 rfl g173_246_12 (hb_52 _ _ _ _) rfl (Nat.le_of_ble_eq_true rfl) (by decide +kernel) (hi_52_29 _ _ _ _ _) ?_
                  refine zw_vreturn f173_29 r173 u173 ⟨rfl, ?_⟩
                  refine zw_aload_n 17 f175_16 rfl rfl ?_
                  refine zw_iload_n 18 f175_17 rfl rfl ?_
                  refine zw_iload_n 19 f175_18 rfl rfl ?_
                  refine zw_virtual_i 22 0 0 [.ref 52, .int a, .int c] [(0, .ref 52), (1, .int a), (2, .int c)] f175_19 rfl n175_294 k175_294_12 rfl (hb_52 _ _ _ _) (by decide +kernel) (Nat.le_of_ble_eq_true rfl) rfl rfl (by decide +kernel) (by decide +kernel) rfl (Nat.le_of_ble_eq_true rfl) rfl ?_
                  refine zw_aload_n 1 f174_0 rfl rfl ?_
                  refine zw_bipush 10 3 f174_1 rfl (by decide +kernel) ?_
                  refine zw_virtual_v 6 0 0 [.ref 52, .int 10] [(0, .ref 52), (1, .int 10)] f174_3 rfl n174_291 k174_291_12 rfl (hb_52 _ _ _ _) (by decide +kernel) (Nat.le_of_ble_eq_true rfl) rfl rfl (by decide +kernel) (by decide +kernel) rfl (Nat.le_of_ble_eq_true rfl) rfl ?_
                  refine zw_aload_n 1 f173_0 rfl rfl ?_
                  refine zw_getI 3 4 f173_1 rfl g173_246_12 (hb_52 _ _ _ _) rfl rfl ?_
                  refine zw_bipush 50 6 f173_4 rfl (by decide +kernel) ?_
                  refine zw_ic_ge_f 9 19 f173_6 (by decide +kernel) rfl (by decide +kernel) ?_
                  refine zw_aload_n 10 f173_9 rfl rfl ?_
                  refine zw_getfield 13 f173_10 rfl g173_74_12 (hb_52 _ _ _ _) rfl ?_
                  refine zw_aload_n 14 f173_13 rfl rfl ?_
                  refine zw_getI 3 17 f173_14 rfl g173_246_12 (hb_52 _ _ _ _) rfl rfl ?_
                  refine zw_iload_n 18 f173_17 rfl rfl ?_
                  refine zw_ast 3 _ 19 f173_18 rfl (hb_71 _ _ _ _) (by decide +kernel) (by decide +kernel) (by decide +kernel) (ha_71 _ _ _ _ _) ?_
                  refine zw_aload_n 20 f173_19 rfl rfl ?_
                  refine zw_dup 21 f173_20 rfl rfl ?_
                  refine zw_getI 3 24 f173_21 rfl g173_246_12 (hb_52 _ _ _ _) rfl rfl ?_
                  refine zw_iconst 1 25 f173_24 rfl (by decide +kernel) ?_
                  refine zw_iadd 4 26 f173_25 rfl (by decide +kernel) ?_
                  refine zw_put _ 29 f173_26 rfl g173_246_12 (hb_52 _ _ _ _) rfl (Nat.le_of_ble_eq_true rfl) (by decide +kernel) (hi_52_29 _ _ _ _ _) ?_
                  refine zw_vreturn f173_29 r173 u173 ⟨rfl, ?_⟩
                  refine zw_iload_n 7 f174_6 rfl rfl ?_
                  refine zw_aload_n 8 f174_7 rfl rfl ?_
                  refine zw_getfield 11 f174_8 rfl g174_13_12 (hb_52 _ _ _ _) rfl ?_
                  refine zw_iload_n 12 f174_11 rfl rfl ?_
                  refine zw_iaload a.toNatClampNeg (P 54 a.toNatClampNeg) 13 f174_12 rfl (hb_54 _ _ _ _) rfl hc1 (zix (by decide) hc1 (show ¬ 8 ≤ a from ix_le hp.1 (by decide) (by decide) hc1 hc2)) (congrFun ((hR.2.1 54 (by omega) (by omega))) a.toNatClampNeg) ?_
                  refine zw_iadd (c + (P 54 a.toNatClampNeg)) 14 f174_13 rfl rfl ?_
                  refine zw_ireturn f174_14 r174 u174 ⟨_, rfl, ?_⟩
                  refine zw_iconst 2 23 f175_22 rfl (by decide +kernel) ?_
                  refine zw_imul ((c + (P 54 a.toNatClampNeg)) * 2) 24 f175_23 rfl rfl ?_
                  refine zw_ireturn f175_24 r175 u175 ⟨_, rfl, ?_⟩
                  refine zw_iconst 3 13 f176_12 rfl (by decide +kernel) ?_
                  refine zw_imul (((c + (P 54 a.toNatClampNeg)) * 2) * 3) 14 f176_13 rfl rfl ?_
                  refine zw_ireturn f176_14 r176 u176 ⟨_, rfl, ?_⟩
                  refine zw_ireturn f177_66 r177 u177 ⟨_, rfl, ?_⟩
                  refine zw_istore _ 36 f179_34 rfl (by decide +kernel) rfl ?_
                  refine zw_iload 38 f179_36 rfl zl1_eq ?_
                  refine zw_aload_n 39 f179_38 rfl (zl1_ne rfl rfl (zl1_ne rfl rfl rfl)) ?_
                  refine zw_iload_n 40 f179_39 rfl (zl1_ne rfl rfl (zl1_ne rfl rfl rfl)) ?_
                  refine zw_iload_n 41 f179_40 rfl (zl1_ne rfl rfl zl1_eq) ?_
                  refine zw_virtual_i 44 0 0 [.ref 52, .int a, .int c] [(0, .ref 52), (1, .int a), (2, .int c)] f179_41 rfl n179_307 k179_307_12 rfl (hb_52 _ _ _ _) (by decide +kernel) (Nat.le_of_ble_eq_true rfl) rfl rfl (by decide +kernel) (by decide +kernel) rfl (Nat.le_of_ble_eq_true rfl) rfl ?_
                  refine zw_aload_n 1 f178_0 rfl rfl ?_
                  refine zw_getfield 4 f178_1 rfl g178_7_12 (hb_52 _ _ _ _) rfl ?_
                  refine zw_iload_n 5 f178_4 rfl rfl ?_
                  refine zw_iaload a.toNatClampNeg 2 6 f178_5 rfl (hb_53 _ _ _ _) rfl hc1 (zix (by decide) hc1 (show ¬ 8 ≤ a from ix_le hp.1 (by decide) (by decide) hc1 hc2)) ((congrFun (hR.2.1 53 (by omega) (by omega)) a.toNatClampNeg).trans hk) ?_
                  refine zw_iconst 4 7 f178_6 rfl (by decide +kernel) ?_
                  refine zw_ic_ne_t 16 f178_7 (by decide +kernel) (by decide +kernel) ?_
                  refine zw_aload_n 17 f178_16 rfl rfl ?_
                  refine zw_iload_n 18 f178_17 rfl rfl ?_
                  refine zw_virtual_i 21 0 0 [.ref 52, .int a] [(0, .ref 52), (1, .int a)] f178_18 rfl n178_158 k178_158_12 rfl (hb_52 _ _ _ _) (by decide +kernel) (Nat.le_of_ble_eq_true rfl) rfl rfl (by decide +kernel) (by decide +kernel) rfl (Nat.le_of_ble_eq_true rfl) rfl ?_
                  refine zw_aload_n 1 f126_0 rfl rfl ?_
                  refine zw_getfield 4 f126_1 rfl g126_7_12 (hb_52 _ _ _ _) rfl ?_
                  refine zw_iload_n 5 f126_4 rfl rfl ?_
                  refine zw_iaload a.toNatClampNeg 2 6 f126_5 rfl (hb_53 _ _ _ _) rfl hc1 (zix (by decide) hc1 (show ¬ 8 ≤ a from ix_le hp.1 (by decide) (by decide) hc1 hc2)) ((congrFun (hR.2.1 53 (by omega) (by omega)) a.toNatClampNeg).trans hk) ?_
                  refine zw_iconst 3 7 f126_6 rfl (by decide +kernel) ?_
                  refine zw_ic_eq_f 10 20 f126_7 (by decide +kernel) rfl (by decide +kernel) ?_
                  refine zw_aload_n 11 f126_10 rfl rfl ?_
                  refine zw_getfield 14 f126_11 rfl g126_7_12 (hb_52 _ _ _ _) rfl ?_
                  refine zw_iload_n 15 f126_14 rfl rfl ?_
                  refine zw_iaload a.toNatClampNeg 2 16 f126_15 rfl (hb_53 _ _ _ _) rfl hc1 (zix (by decide) hc1 (show ¬ 8 ≤ a from ix_le hp.1 (by decide) (by decide) hc1 hc2)) ((congrFun (hR.2.1 53 (by omega) (by omega)) a.toNatClampNeg).trans hk) ?_
                  refine zw_iconst 4 17 f126_16 rfl (by decide +kernel) ?_
                  refine zw_ic_ne_t 24 f126_17 (by decide +kernel) (by decide +kernel) ?_
                  refine zw_iconst 0 25 f126_24 rfl (by decide +kernel) ?_
                  refine zw_zreturn f126_25 r126 u126 (by decide +kernel) ⟨_, rfl, ?_⟩
                  refine zw_if_eq_t 30 f178_21 (by decide +kernel) (by decide +kernel) ?_
                  refine zw_aload_n 31 f178_30 rfl rfl ?_
                  refine zw_bipush 12 33 f178_31 rfl (by decide +kernel) ?_
                  refine zw_virtual_v 36 0 0 [.ref 52, .int 12] [(0, .ref 52), (1, .int 12)] f178_33 rfl n178_291 k178_291_12 rfl (hb_52 _ _ _ _) (by decide +kernel) (Nat.le_of_ble_eq_true rfl) rfl rfl (by decide +kernel) (by decide +kernel) rfl (Nat.le_of_ble_eq_true rfl) rfl ?_
                  refine zw_aload_n 1 f173_0 rfl rfl ?_
                  refine zw_getI 4 4 f173_1 rfl g173_246_12 (hb_52 _ _ _ _) rfl rfl ?_
                  refine zw_bipush 50 6 f173_4 rfl (by decide +kernel) ?_
                  refine zw_ic_ge_f 9 19 f173_6 (by decide +kernel) rfl (by decide +kernel) ?_
                  refine zw_aload_n 10 f173_9 rfl rfl ?_
                  refine zw_getfield 13 f173_10 rfl g173_74_12 (hb_52 _ _ _ _) rfl ?_
                  refine zw_aload_n 14 f173_13 rfl rfl ?_
                  refine zw_getI 4 17 f173_14 rfl g173_246_12 (hb_52 _ _ _ _) rfl rfl ?_
                  refine zw_iload_n 18 f173_17 rfl rfl ?_
                  refine zw_ast 4 _ 19 f173_18 rfl (hb_71 _ _ _ _) (by decide +kernel) (by decide +kernel) (by decide +kernel) (ha_71 _ _ _ _ _) ?_
                  refine zw_aload_n 20 f173_19 rfl rfl ?_
                  refine zw_dup 21 f173_20 rfl rfl ?_
                  refine zw_getI 4 24 f173_21 rfl g173_246_12 (hb_52 _ _ _ _) rfl rfl ?_
                  refine zw_iconst 1 25 f173_24 rfl (by decide +kernel) ?_
                  refine zw_iadd 5 26 f173_25 rfl (by decide +kernel) ?_
                  refine zw_put _ 29 f173_26 rfl g173_246_12 (hb_52 _ _ _ _) rfl (Nat.le_of_ble_eq_true rfl) (by decide +kernel) (hi_52_29 _ _ _ _ _) ?_
                  refine zw_vreturn f173_29 r173 u173 ⟨rfl, ?_⟩
                  refine zw_iload_n 37 f178_36 rfl rfl ?_
                  refine zw_aload_n 38 f178_37 rfl rfl ?_
                  refine zw_getfield 41 f178_38 rfl g178_13_12 (hb_52 _ _ _ _) rfl ?_
                  refine zw_iload_n 42 f178_41 rfl rfl ?_
                  refine zw_iaload a.toNatClampNeg (P 54 a.toNatClampNeg) 43 f178_42 rfl (hb_54 _ _ _ _) rfl hc1 (zix (by decide) hc1 (show ¬ 8 ≤ a from ix_le hp.1 (by decide) (by decide) hc1 hc2)) (congrFun ((hR.2.1 54 (by omega) (by omega))) a.toNatClampNeg) ?_
                  refine zw_ixor (c ^^^ (P 54 a.toNatClampNeg)) 44 f178_43 rfl rfl ?_
                  refine zw_aload_n 45 f178_44 rfl rfl ?_
                  refine zw_iload_n 46 f178_45 rfl rfl ?_
                  refine zw_virtual_i 49 0 0 [.ref 52, .int a] [(0, .ref 52), (1, .int a)] f178_46 rfl n178_158 k178_158_12 rfl (hb_52 _ _ _ _) (by decide +kernel) (Nat.le_of_ble_eq_true rfl) rfl rfl (by decide +kernel) (by decide +kernel) rfl (Nat.le_of_ble_eq_true rfl) rfl ?_
                  refine zw_aload_n 1 f126_0 rfl rfl ?_
                  refine zw_getfield 4 f126_1 rfl g126_7_12 (hb_52 _ _ _ _) rfl ?_
                  refine zw_iload_n 5 f126_4 rfl rfl ?_
                  refine zw_iaload a.toNatClampNeg 2 6 f126_5 rfl (hb_53 _ _ _ _) rfl hc1 (zix (by decide) hc1 (show ¬ 8 ≤ a from ix_le hp.1 (by decide) (by decide) hc1 hc2)) ((congrFun (hR.2.1 53 (by omega) (by omega)) a.toNatClampNeg).trans hk) ?_
                  refine zw_iconst 3 7 f126_6 rfl (by decide +kernel) ?_
                  refine zw_ic_eq_f 10 20 f126_7 (by decide +kernel) rfl (by decide +kernel) ?_
                  refine zw_aload_n 11 f126_10 rfl rfl ?_
                  refine zw_getfield 14 f126_11 rfl g126_7_12 (hb_52 _ _ _ _) rfl ?_
                  refine zw_iload_n 15 f126_14 rfl rfl ?_
                  refine zw_iaload a.toNatClampNeg 2 16 f126_15 rfl (hb_53 _ _ _ _) rfl hc1 (zix (by decide) hc1 (show ¬ 8 ≤ a from ix_le hp.1 (by decide) (by decide) hc1 hc2)) ((congrFun (hR.2.1 53 (by omega) (by omega)) a.toNatClampNeg).trans hk) ?_
                  refine zw_iconst 4 17 f126_16 rfl (by decide +kernel) ?_
                  refine zw_ic_ne_t 24 f126_17 (by decide +kernel) (by decide +kernel) ?_
                  refine zw_iconst 0 25 f126_24 rfl (by decide +kernel) ?_
                  refine zw_zreturn f126_25 r126 u126 (by decide +kernel) ⟨_, rfl, ?_⟩
                  refine zw_if_eq_t 61 f178_49 (by decide +kernel) (by decide +kernel) ?_
                  refine zw_iconst 0 62 f178_61 rfl (by decide +kernel) ?_
                  refine zw_iadd ((c ^^^ (P 54 a.toNatClampNeg)) + 0) 63 f178_62 rfl rfl ?_
                  refine zw_aload_n 64 f178_63 rfl rfl ?_
                  refine zw_getfield 67 f178_64 rfl g178_7_12 (hb_52 _ _ _ _) rfl ?_
                  refine zw_iload_n 68 f178_67 rfl rfl ?_
                  refine zw_iaload a.toNatClampNeg 2 69 f178_68 rfl (hb_53 _ _ _ _) rfl hc1 (zix (by decide) hc1 (show ¬ 8 ≤ a from ix_le hp.1 (by decide) (by decide) hc1 hc2)) ((congrFun (hR.2.1 53 (by omega) (by omega)) a.toNatClampNeg).trans hk) ?_
                  refine zw_iconst 4 70 f178_69 rfl (by decide +kernel) ?_
                  refine zw_ic_ne_t 82 f178_70 (by decide +kernel) (by decide +kernel) ?_
                  refine zw_iconst 0 83 f178_82 rfl (by decide +kernel) ?_
                  refine zw_iadd (((c ^^^ (P 54 a.toNatClampNeg)) + 0) + 0) 84 f178_83 rfl rfl ?_
                  refine zw_ireturn f178_84 r178 u178 ⟨_, rfl, ?_⟩
                  refine zw_isub ((((c + (P 54 a.toNatClampNeg)) * 2) * 3) - (((c ^^^ (P 54 a.toNatClampNeg)) + 0) + 0)) 45 f179_44 rfl rfl ?_
                  refine zw_ireturn f179_45 r179 u179 ⟨_, rfl, ?_⟩
                  refine zw_virtual_i 79 0 0 [.ref 52, .int ((((c + (P 54 a.toNatClampNeg)) * 2) * 3) - (((c ^^^ (P 54 a.toNatClampNeg)) + 0) + 0))] [(0, .ref 52), (1, .int ((((c + (P 54 a.toNatClampNeg)) * 2) * 3) - (((c ^^^ (P 54 a.toNatClampNeg)) + 0) + 0)))] f180_76 rfl n180_205 k180_205_12 rfl (hb_52 _ _ _ _) (by decide +kernel) (Nat.le_of_ble_eq_true rfl) rfl rfl (by decide +kernel) (by decide +kernel) rfl (Nat.le_of_ble_eq_true rfl) rfl ?_
                  refine zw_aload_n 1 f122_0 rfl rfl ?_
                  refine zw_iconst 0 2 f122_1 rfl (by decide +kernel) ?_
                  refine zw_put _ 5 f122_2 rfl g122_111_12 (hb_52 _ _ _ _) rfl (Nat.le_of_ble_eq_true rfl) (by decide +kernel) (hi_52_27 _ _ _ _ _) ?_
                  refine zw_iload_n 6 f122_5 rfl rfl ?_
                  refine zw_ireturn f122_6 r122 u122 ⟨_, rfl, ?_⟩
                  refine zw_ireturn f180_79 r180 u180 ?_
                  exact ⟨_, _, _, _, rfl, (KQ.i rfl (KQ.i rfl (KQ.a rfl (KQ.i rfl (KQ.a rfl (KQ.i rfl (KQ.a rfl (KQ.i rfl (KQ.a rfl (KQ.i rfl (KQ.a rfl (KQ.i rfl KQ.rf)))))))))))), ⟨hi.1, hi.2.1, 5, by omega, (show _ = nI 5 from rfl)⟩, Or.inr ⟨⟨(qV.of (by omega) hc1 hc2), ⟨hc3, hc4⟩⟩, by rw [show an_tl (P 53 a.toNatClampNeg) b = [13, 11, 30, 10, 12] from ((cI_n hc5).trans ((cI_n hc6).trans ((cI_n hc7).trans ((cI_n (kne hk (by decide))).trans ((cI_n (kne hk (by decide))).trans (cI_y hk))))))]; exact ⟨rfl, by intro i hi; rcases (show i = 0 ∨ i = 1 ∨ i = 2 ∨ i = 3 ∨ i = 4 by have q : i < 5 := hi; omega) with rfl | rfl | rfl | rfl | rfl <;> rfl⟩⟩, _, rfl⟩
                · refine zw_iaload a.toNatClampNeg 3 8 f179_7 rfl (hb_53 _ _ _ _) rfl hc1 (zix (by decide) hc1 (show ¬ 8 ≤ a from ix_le hp.1 (by decide) (by decide) hc1 hc2)) ((congrFun (hR.2.1 53 (by omega) (by omega)) a.toNatClampNeg).trans hk) ?_
                  refine zw_iconst 1 9 f179_8 rfl (by decide +kernel) ?_
                  refine zw_ic_ne_t 22 f179_9 (by decide +kernel) (by decide +kernel) ?_
                  refine zw_aload_n 23 f179_22 rfl (zl1_ne rfl rfl rfl) ?_
                  refine zw_bipush 13 25 f179_23 rfl (by decide +kernel) ?_
                  refine zw_virtual_v 28 0 0 [.ref 52, .int 13] [(0, .ref 52), (1, .int 13)] f179_25 rfl n179_291 k179_291_12 rfl (hb_52 _ _ _ _) (by decide +kernel) (Nat.le_of_ble_eq_true rfl) rfl rfl (by decide +kernel) (by decide +kernel) rfl (Nat.le_of_ble_eq_true rfl) rfl ?_
                  refine zw_aload_n 1 f173_0 rfl rfl ?_
                  refine zw_getI 0 4 f173_1 rfl g173_246_12 (hb_52 _ _ _ _) rfl rfl ?_
                  refine zw_bipush 50 6 f173_4 rfl (by decide +kernel) ?_
                  refine zw_ic_ge_f 9 19 f173_6 (by decide +kernel) rfl (by decide +kernel) ?_
                  refine zw_aload_n 10 f173_9 rfl rfl ?_
                  refine zw_getfield 13 f173_10 rfl g173_74_12 (hb_52 _ _ _ _) rfl ?_
                  refine zw_aload_n 14 f173_13 rfl rfl ?_
                  refine zw_getI 0 17 f173_14 rfl g173_246_12 (hb_52 _ _ _ _) rfl rfl ?_
                  refine zw_iload_n 18 f173_17 rfl rfl ?_
                  refine zw_ast 0 _ 19 f173_18 rfl (hb_71 _ _ _ _) (by decide +kernel) (by decide +kernel) (by decide +kernel) (ha_71 _ _ _ _ _) ?_
                  refine zw_aload_n 20 f173_19 rfl rfl ?_
                  refine zw_dup 21 f173_20 rfl rfl ?_
                  refine zw_getI 0 24 f173_21 rfl g173_246_12 (hb_52 _ _ _ _) rfl rfl ?_
                  refine zw_iconst 1 25 f173_24 rfl (by decide +kernel) ?_
                  refine zw_iadd 1 26 f173_25 rfl (by decide +kernel) ?_
                  refine zw_put _ 29 f173_26 rfl g173_246_12 (hb_52 _ _ _ _) rfl (Nat.le_of_ble_eq_true rfl) (by decide +kernel) (hi_52_29 _ _ _ _ _) ?_
                  refine zw_vreturn f173_29 r173 u173 ⟨rfl, ?_⟩
                  refine zw_aload_n 29 f179_28 rfl (zl1_ne rfl rfl rfl) ?_
                  refine zw_iload_n 30 f179_29 rfl (zl1_ne rfl rfl rfl) ?_
                  refine zw_iload_n 31 f179_30 rfl zl1_eq ?_
                  refine zw_virtual_i 34 0 0 [.ref 52, .int a, .int c] [(0, .ref 52), (1, .int a), (2, .int c)] f179_31 rfl n179_304 k179_304_12 rfl (hb_52 _ _ _ _) (by decide +kernel) (Nat.le_of_ble_eq_true rfl) rfl rfl (by decide +kernel) (by decide +kernel) rfl (Nat.le_of_ble_eq_true rfl) rfl ?_
                  refine zw_aload_n 1 f177_0 rfl rfl ?_
                  refine zw_getfield 4 f177_1 rfl g177_7_12 (hb_52 _ _ _ _) rfl ?_
                  refine zw_iload_n 5 f177_4 rfl rfl ?_
                  refine zw_iaload a.toNatClampNeg 3 6 f177_5 rfl (hb_53 _ _ _ _) rfl hc1 (zix (by decide) hc1 (show ¬ 8 ≤ a from ix_le hp.1 (by decide) (by decide) hc1 hc2)) ((congrFun (hR.2.1 53 (by omega) (by omega)) a.toNatClampNeg).trans hk) ?_
                  refine zw_iconst 1 7 f177_6 rfl (by decide +kernel) ?_
                  refine zw_ic_ne_t 30 f177_7 (by decide +kernel) (by decide +kernel) ?_
                  refine zw_aload_n 31 f177_30 rfl rfl ?_
                  refine zw_getfield 34 f177_31 rfl g177_7_12 (hb_52 _ _ _ _) rfl ?_
                  refine zw_iload_n 35 f177_34 rfl rfl ?_
                  refine zw_iaload a.toNatClampNeg 3 36 f177_35 rfl (hb_53 _ _ _ _) rfl hc1 (zix (by decide) hc1 (show ¬ 8 ≤ a from ix_le hp.1 (by decide) (by decide) hc1 hc2)) ((congrFun (hR.2.1 53 (by omega) (by omega)) a.toNatClampNeg).trans hk) ?_
                  refine zw_iconst 4 37 f177_36 rfl (by decide +kernel) ?_
                  refine zw_ic_ne_t 60 f177_37 (by decide +kernel) (by decide +kernel) ?_
                  refine zw_aload_n 61 f177_60 rfl rfl ?_
                  refine zw_iload_n 62 f177_61 rfl rfl ?_
                  refine zw_iload_n 63 f177_62 rfl rfl ?_
                  refine zw_virtual_i 66 0 0 [.ref 52, .int a, .int c] [(0, .ref 52), (1, .int a), (2, .int c)] f177_63 rfl n177_301 k177_301_12 rfl (hb_52 _ _ _ _) (by decide +kernel) (Nat.le_of_ble_eq_true rfl) rfl rfl (by decide +kernel) (by decide +kernel) rfl (Nat.le_of_ble_eq_true rfl) rfl ?_
                  refine zw_aload_n 1 f176_0 rfl rfl ?_
                  refine zw_bipush 11 3 f176_1 rfl (by decide +kernel) ?_
                  refine zw_virtual_v 6 0 0 [.ref 52, .int 11] [(0, .ref 52), (1, .int 11)] f176_3 rfl n176_291 k176_291_12 rfl (hb_52 _ _ _ _) (by decide +kernel) (Nat.le_of_ble_eq_true rfl) rfl rfl (by decide +kernel) (by decide +kernel) rfl (Nat.le_of_ble_eq_true rfl) rfl ?_
                  refine zw_aload_n 1 f173_0 rfl rfl ?_
                  refine zw_getI 1 4 f173_1 rfl g173_246_12 (hb_52 _ _ _ _) rfl rfl ?_
                  refine zw_bipush 50 6 f173_4 rfl (by decide +kernel) ?_
                  refine zw_ic_ge_f 9 19 f173_6 (by decide +kernel) rfl (by decide +kernel) ?_
                  refine zw_aload_n 10 f173_9 rfl rfl ?_
                  refine zw_getfield 13 f173_10 rfl g173_74_12 (hb_52 _ _ _ _) rfl ?_
                  refine zw_aload_n 14 f173_13 rfl rfl ?_
                  refine zw_getI 1 17 f173_14 rfl g173_246_12 (hb_52 _ _ _ _) rfl rfl ?_
                  refine zw_iload_n 18 f173_17 rfl rfl ?_
                  refine zw_ast 1 _ 19 f173_18 rfl (hb_71 _ _ _ _) (by decide +kernel) (by decide +kernel) (by decide +kernel) (ha_71 _ _ _ _ _) ?_
                  refine zw_aload_n 20 f173_19 rfl rfl ?_
                  refine zw_dup 21 f173_20 rfl rfl ?_
                  refine zw_getI 1 24 f173_21 rfl g173_246_12 (hb_52 _ _ _ _) rfl rfl ?_
                  refine zw_iconst 1 25 f173_24 rfl (by decide +kernel) ?_
                  refine zw_iadd 2 26 f173_25 rfl (by decide +kernel) ?_
                  refine zw_put _ 29 f173_26 rfl g173_246_12 (hb_52 _ _ _ _) rfl (Nat.le_of_ble_eq_true rfl) (by decide +kernel) (hi_52_29 _ _ _ _ _) ?_
                  refine zw_vreturn f173_29 r173 u173 ⟨rfl, ?_⟩
                  refine zw_aload_n 7 f176_6 rfl rfl ?_
                  refine zw_iload_n 8 f176_7 rfl rfl ?_
                  refine zw_iload_n 9 f176_8 rfl rfl ?_
                  refine zw_virtual_i 12 0 0 [.ref 52, .int a, .int c] [(0, .ref 52), (1, .int a), (2, .int c)] f176_9 rfl n176_298 k176_298_12 rfl (hb_52 _ _ _ _) (by decide +kernel) (Nat.le_of_ble_eq_true rfl) rfl rfl (by decide +kernel) (by decide +kernel) rfl (Nat.le_of_ble_eq_true rfl) rfl ?_
                  refine zw_aload_n 1 f175_0 rfl rfl ?_
                  refine zw_getfield 4 f175_1 rfl g175_7_12 (hb_52 _ _ _ _) rfl ?_
                  refine zw_iload_n 5 f175_4 rfl rfl ?_
                  refine zw_iaload a.toNatClampNeg 3 6 f175_5 rfl (hb_53 _ _ _ _) rfl hc1 (zix (by decide) hc1 (show ¬ 8 ≤ a from ix_le hp.1 (by decide) (by decide) hc1 hc2)) ((congrFun (hR.2.1 53 (by omega) (by omega)) a.toNatClampNeg).trans hk) ?_
                  refine zw_iconst 2 7 f175_6 rfl (by decide +kernel) ?_
                  refine zw_ic_ne_t 25 f175_7 (by decide +kernel) (by decide +kernel) ?_
                  refine zw_aload_n 26 f175_25 rfl rfl ?_
                  refine zw_iload_n 27 f175_26 rfl rfl ?_
                  refine zw_virtual_i 30 0 0 [.ref 52, .int a] [(0, .ref 52), (1, .int a)] f175_27 rfl n175_158 k175_158_12 rfl (hb_52 _ _ _ _) (by decide +kernel) (Nat.le_of_ble_eq_true rfl) rfl rfl (by decide +kernel) (by decide +kernel) rfl (Nat.le_of_ble_eq_true rfl) rfl ?_
                  refine zw_aload_n 1 f126_0 rfl rfl ?_
                  refine zw_getfield 4 f126_1 rfl g126_7_12 (hb_52 _ _ _ _) rfl ?_
                  refine zw_iload_n 5 f126_4 rfl rfl ?_
                  refine zw_iaload a.toNatClampNeg 3 6 f126_5 rfl (hb_53 _ _ _ _) rfl hc1 (zix (by decide) hc1 (show ¬ 8 ≤ a from ix_le hp.1 (by decide) (by decide) hc1 hc2)) ((congrFun (hR.2.1 53 (by omega) (by omega)) a.toNatClampNeg).trans hk) ?_
                  refine zw_iconst 3 7 f126_6 rfl (by decide +kernel) ?_
                  refine zw_ic_eq_t 20 f126_7 (by decide +kernel) (by decide +kernel) ?_
                  refine zw_iconst 1 21 f126_20 rfl (by decide +kernel) ?_
                  refine zw_goto 25 f126_21 (by decide +kernel) ?_
                  refine zw_zreturn f126_25 r126 u126 (by decide +kernel) ⟨_, rfl, ?_⟩
                  refine zw_if_eq_f 33 53 f175_30 (by decide +kernel) rfl (by decide +kernel) ?_
                  refine zw_aload_n 34 f175_33 rfl rfl ?_
                  refine zw_bipush 41 36 f175_34 rfl (by decide +kernel) ?_
                  refine zw_virtual_v 39 0 0 [.ref 52, .int 41] [(0, .ref 52), (1, .int 41)] f175_36 rfl n175_291 k175_291_12 rfl (hb_52 _ _ _ _) (by decide +kernel) (Nat.le_of_ble_eq_true rfl) rfl rfl (by decide +kernel) (by decide +kernel) rfl (Nat.le_of_ble_eq_true rfl) rfl ?_
                  refine zw_aload_n 1 f173_0 rfl rfl ?_
                  refine zw_getI 2 4 f173_1 rfl g173_246_12 (hb_52 _ _ _ _) rfl rfl ?_
                  refine zw_bipush 50 6 f173_4 rfl (by decide +kernel) ?_
                  refine zw_ic_ge_f 9 19 f173_6 (by decide +kernel) rfl (by decide +kernel) ?_
                  refine zw_aload_n 10 f173_9 rfl rfl ?_
                  refine zw_getfield 13 f173_10 rfl g173_74_12 (hb_52 _ _ _ _) rfl ?_
                  refine zw_aload_n 14 f173_13 rfl rfl ?_
                  refine zw_getI 2 17 f173_14 rfl g173_246_12 (hb_52 _ _ _ _) rfl rfl ?_
                  refine zw_iload_n 18 f173_17 rfl rfl ?_
                  refine zw_ast 2 _ 19 f173_18 rfl (hb_71 _ _ _ _) (by decide +kernel) (by decide +kernel) (by decide +kernel) (ha_71 _ _ _ _ _) ?_
                  refine zw_aload_n 20 f173_19 rfl rfl ?_
                  refine zw_dup 21 f173_20 rfl rfl ?_
                  refine zw_getI 2 24 f173_21 rfl g173_246_12 (hb_52 _ _ _ _) rfl rfl ?_
                  refine zw_iconst 1 25 f173_24 rfl (by decide +kernel) ?_
                  refine zw_iadd 3 26 f173_25 rfl (by decide +kernel) ?_
                  refine zw_put _ 29 f173_26 rfl g173_246_12 (hb_52 _ _ _ _) rfl (Nat.le_of_ble_eq_true rfl) (by decide +kernel) (hi_52_29 _ _ _ _ _) ?_
                  refine zw_vreturn f173_29 r173 u173 ⟨rfl, ?_⟩
                  refine zw_aload_n 40 f175_39 rfl rfl ?_
                  refine zw_iload_n 41 f175_40 rfl rfl ?_
                  refine zw_iload_n 42 f175_41 rfl rfl ?_
                  refine zw_aload_n 43 f175_42 rfl rfl ?_
                  refine zw_getfield 46 f175_43 rfl g175_16_12 (hb_52 _ _ _ _) rfl ?_
                  refine zw_iload_n 47 f175_46 rfl rfl ?_
                  refine zw_iaload a.toNatClampNeg (P 55 a.toNatClampNeg) 48 f175_47 rfl (hb_55 _ _ _ _) rfl hc1 (zix (by decide) hc1 (show ¬ 8 ≤ a from ix_le hp.1 (by decide) (by decide) hc1 hc2)) (congrFun ((hR.2.1 55 (by omega) (by omega))) a.toNatClampNeg) ?_
                  refine zw_iadd (c + (P 55 a.toNatClampNeg)) 49 f175_48 rfl rfl ?_
                  refine zw_virtual_i 52 0 0 [.ref 52, .int a, .int (c + (P 55 a.toNatClampNeg))] [(0, .ref 52), (1, .int a), (2, .int (c + (P 55 a.toNatClampNeg)))] f175_49 rfl n175_294 k175_294_12 rfl (hb_52 _ _ _ _) (by decide +kernel) (Nat.le_of_ble_eq_true rfl) rfl rfl (by decide +kernel) (by decide +kernel) rfl (Nat.le_of_ble_eq_true rfl) rfl ?_
                  refine zw_aload_n 1 f174_0 rfl rfl ?_
                  refine zw_bipush 10 3 f174_1 rfl (by decide +kernel) ?_
                  refine zw_virtual_v 6 0 0 [.ref 52, .int 10] [(0, .ref 52), (1, .int 10)] f174_3 rfl n174_291 k174_291_12 rfl (hb_52 _ _ _ _) (by decide +kernel) (Nat.le_of_ble_eq_true rfl) rfl rfl (by decide +kernel) (by decide +kernel) rfl (Nat.le_of_ble_eq_true rfl) rfl ?_
                  refine zw_aload_n 1 f173_0 rfl rfl ?_
                  refine zw_getI 3 4 f173_1 rfl g173_246_12 (hb_52 _ _ _ _) rfl rfl ?_
                  refine zw_bipush 50 6 f173_4 rfl (by decide +kernel) ?_
                  refine zw_ic_ge_f 9 19 f173_6 (by decide +kernel) rfl (by decide +kernel) ?_
                  refine zw_aload_n 10 f173_9 rfl rfl ?_
                  refine zw_getfield 13 f173_10 rfl g173_74_12 (hb_52 _ _ _ _) rfl ?_
                  refine zw_aload_n 14 f173_13 rfl rfl ?_
                  refine zw_getI 3 17 f173_14 rfl g173_246_12 (hb_52 _ _ _ _) rfl rfl ?_
                  refine zw_iload_n 18 f173_17 rfl rfl ?_
                  refine zw_ast 3 _ 19 f173_18 rfl (hb_71 _ _ _ _) (by decide +kernel) (by decide +kernel) (by decide +kernel) (ha_71 _ _ _ _ _) ?_
                  refine zw_aload_n 20 f173_19 rfl rfl ?_
                  refine zw_dup 21 f173_20 rfl rfl ?_
                  refine zw_getI 3 24 f173_21 rfl g173_246_12 (hb_52 _ _ _ _) rfl rfl ?_
                  refine zw_iconst 1 25 f173_24 rfl (by decide +kernel) ?_
                  refine zw_iadd 4 26 f173_25 rfl (by decide +kernel) ?_
                  refine zw_put _ 29 f173_26 rfl g173_246_12 (hb_52 _ _ _ _) rfl (Nat.le_of_ble_eq_true rfl) (by decide +kernel) (hi_52_29 _ _ _ _ _) ?_
                  refine zw_vreturn f173_29 r173 u173 ⟨rfl, ?_⟩
                  refine zw_iload_n 7 f174_6 rfl rfl ?_
                  refine zw_aload_n 8 f174_7 rfl rfl ?_
                  refine zw_getfield 11 f174_8 rfl g174_13_12 (hb_52 _ _ _ _) rfl ?_
                  refine zw_iload_n 12 f174_11 rfl rfl ?_
                  refine zw_iaload a.toNatClampNeg (P 54 a.toNatClampNeg) 13 f174_12 rfl (hb_54 _ _ _ _) rfl hc1 (zix (by decide) hc1 (show ¬ 8 ≤ a from ix_le hp.1 (by decide) (by decide) hc1 hc2)) (congrFun ((hR.2.1 54 (by omega) (by omega))) a.toNatClampNeg) ?_
                  refine zw_iadd ((c + (P 55 a.toNatClampNeg)) + (P 54 a.toNatClampNeg)) 14 f174_13 rfl rfl ?_
                  refine zw_ireturn f174_14 r174 u174 ⟨_, rfl, ?_⟩
                  refine zw_ireturn f175_52 r175 u175 ⟨_, rfl, ?_⟩
                  refine zw_iconst 3 13 f176_12 rfl (by decide +kernel) ?_
                  refine zw_imul (((c + (P 55 a.toNatClampNeg)) + (P 54 a.toNatClampNeg)) * 3) 14 f176_13 rfl rfl ?_
                  refine zw_ireturn f176_14 r176 u176 ⟨_, rfl, ?_⟩
                  refine zw_ireturn f177_66 r177 u177 ⟨_, rfl, ?_⟩
                  refine zw_istore _ 36 f179_34 rfl (by decide +kernel) rfl ?_
                  refine zw_iload 38 f179_36 rfl zl1_eq ?_
                  refine zw_aload_n 39 f179_38 rfl (zl1_ne rfl rfl (zl1_ne rfl rfl rfl)) ?_
                  refine zw_iload_n 40 f179_39 rfl (zl1_ne rfl rfl (zl1_ne rfl rfl rfl)) ?_
                  refine zw_iload_n 41 f179_40 rfl (zl1_ne rfl rfl zl1_eq) ?_
                  refine zw_virtual_i 44 0 0 [.ref 52, .int a, .int c] [(0, .ref 52), (1, .int a), (2, .int c)] f179_41 rfl n179_307 k179_307_12 rfl (hb_52 _ _ _ _) (by decide +kernel) (Nat.le_of_ble_eq_true rfl) rfl rfl (by decide +kernel) (by decide +kernel) rfl (Nat.le_of_ble_eq_true rfl) rfl ?_
                  refine zw_aload_n 1 f178_0 rfl rfl ?_
                  refine zw_getfield 4 f178_1 rfl g178_7_12 (hb_52 _ _ _ _) rfl ?_
                  refine zw_iload_n 5 f178_4 rfl rfl ?_
                  refine zw_iaload a.toNatClampNeg 3 6 f178_5 rfl (hb_53 _ _ _ _) rfl hc1 (zix (by decide) hc1 (show ¬ 8 ≤ a from ix_le hp.1 (by decide) (by decide) hc1 hc2)) ((congrFun (hR.2.1 53 (by omega) (by omega)) a.toNatClampNeg).trans hk) ?_
                  refine zw_iconst 4 7 f178_6 rfl (by decide +kernel) ?_
                  refine zw_ic_ne_t 16 f178_7 (by decide +kernel) (by decide +kernel) ?_
                  refine zw_aload_n 17 f178_16 rfl rfl ?_
                  refine zw_iload_n 18 f178_17 rfl rfl ?_
                  refine zw_virtual_i 21 0 0 [.ref 52, .int a] [(0, .ref 52), (1, .int a)] f178_18 rfl n178_158 k178_158_12 rfl (hb_52 _ _ _ _) (by decide +kernel) (Nat.le_of_ble_eq_true rfl) rfl rfl (by decide +kernel) (by decide +kernel) rfl (Nat.le_of_ble_eq_true rfl) rfl ?_
                  refine zw_aload_n 1 f126_0 rfl rfl ?_
                  refine zw_getfield 4 f126_1 rfl g126_7_12 (hb_52 _ _ _ _) rfl ?_
                  refine zw_iload_n 5 f126_4 rfl rfl ?_
                  refine zw_iaload a.toNatClampNeg 3 6 f126_5 rfl (hb_53 _ _ _ _) rfl hc1 (zix (by decide) hc1 (show ¬ 8 ≤ a from ix_le hp.1 (by decide) (by decide) hc1 hc2)) ((congrFun (hR.2.1 53 (by omega) (by omega)) a.toNatClampNeg).trans hk) ?_
                  refine zw_iconst 3 7 f126_6 rfl (by decide +kernel) ?_
                  refine zw_ic_eq_t 20 f126_7 (by decide +kernel) (by decide +kernel) ?_
                  refine zw_iconst 1 21 f126_20 rfl (by decide +kernel) ?_
                  refine zw_goto 25 f126_21 (by decide +kernel) ?_
                  refine zw_zreturn f126_25 r126 u126 (by decide +kernel) ⟨_, rfl, ?_⟩
                  refine zw_if_eq_f 24 30 f178_21 (by decide +kernel) rfl (by decide +kernel) ?_
                  refine zw_aload_n 25 f178_24 rfl rfl ?_
                  refine zw_bipush 40 27 f178_25 rfl (by decide +kernel) ?_
                  refine zw_virtual_v 30 0 0 [.ref 52, .int 40] [(0, .ref 52), (1, .int 40)] f178_27 rfl n178_291 k178_291_12 rfl (hb_52 _ _ _ _) (by decide +kernel) (Nat.le_of_ble_eq_true rfl) rfl rfl (by decide +kernel) (by decide +kernel) rfl (Nat.le_of_ble_eq_true rfl) rfl ?_
                  refine zw_aload_n 1 f173_0 rfl rfl ?_
                  refine zw_getI 4 4 f173_1 rfl g173_246_12 (hb_52 _ _ _ _) rfl rfl ?_
                  refine zw_bipush 50 6 f173_4 rfl (by decide +kernel) ?_
                  refine zw_ic_ge_f 9 19 f173_6 (by decide +kernel) rfl (by decide +kernel) ?_
                  refine zw_aload_n 10 f173_9 rfl rfl ?_
                  refine zw_getfield 13 f173_10 rfl g173_74_12 (hb_52 _ _ _ _) rfl ?_
                  refine zw_aload_n 14 f173_13 rfl rfl ?_
                  refine zw_getI 4 17 f173_14 rfl g173_246_12 (hb_52 _ _ _ _) rfl rfl ?_
                  refine zw_iload_n 18 f173_17 rfl rfl ?_
                  refine zw_ast 4 _ 19 f173_18 rfl (hb_71 _ _ _ _) (by decide +kernel) (by decide +kernel) (by decide +kernel) (ha_71 _ _ _ _ _) ?_
                  refine zw_aload_n 20 f173_19 rfl rfl ?_
                  refine zw_dup 21 f173_20 rfl rfl ?_
                  refine zw_getI 4 24 f173_21 rfl g173_246_12 (hb_52 _ _ _ _) rfl rfl ?_
                  refine zw_iconst 1 25 f173_24 rfl (by decide +kernel) ?_
                  refine zw_iadd 5 26 f173_25 rfl (by decide +kernel) ?_
                  refine zw_put _ 29 f173_26 rfl g173_246_12 (hb_52 _ _ _ _) rfl (Nat.le_of_ble_eq_true rfl) (by decide +kernel) (hi_52_29 _ _ _ _ _) ?_
                  refine zw_vreturn f173_29 r173 u173 ⟨rfl, ?_⟩
                  refine zw_aload_n 31 f178_30 rfl rfl ?_
                  refine zw_bipush 12 33 f178_31 rfl (by decide +kernel) ?_
                  refine zw_virtual_v 36 0 0 [.ref 52, .int 12] [(0, .ref 52), (1, .int 12)] f178_33 rfl n178_291 k178_291_12 rfl (hb_52 _ _ _ _) (by decide +kernel) (Nat.le_of_ble_eq_true rfl) rfl rfl (by decide +kernel) (by decide +kernel) rfl (Nat.le_of_ble_eq_true rfl) rfl ?_
                  refine zw_aload_n 1 f173_0 rfl rfl ?_
                  refine zw_getI 5 4 f173_1 rfl g173_246_12 (hb_52 _ _ _ _) rfl rfl ?_
                  refine zw_bipush 50 6 f173_4 rfl (by decide +kernel) ?_
                  refine zw_ic_ge_f 9 19 f173_6 (by decide +kernel) rfl (by decide +kernel) ?_
                  refine zw_aload_n 10 f173_9 rfl rfl ?_
                  refine zw_getfield 13 f173_10 rfl g173_74_12 (hb_52 _ _ _ _) rfl ?_
                  refine zw_aload_n 14 f173_13 rfl rfl ?_
                  refine zw_getI 5 17 f173_14 rfl g173_246_12 (hb_52 _ _ _ _) rfl rfl ?_
                  refine zw_iload_n 18 f173_17 rfl rfl ?_
                  refine zw_ast 5 _ 19 f173_18 rfl (hb_71 _ _ _ _) (by decide +kernel) (by decide +kernel) (by decide +kernel) (ha_71 _ _ _ _ _) ?_
                  refine zw_aload_n 20 f173_19 rfl rfl ?_
                  refine zw_dup 21 f173_20 rfl rfl ?_
                  refine zw_getI 5 24 f173_21 rfl g173_246_12 (hb_52 _ _ _ _) rfl rfl ?_
                  refine zw_iconst 1 25 f173_24 rfl (by decide +kernel) ?_
                  refine zw_iadd 6 26 f173_25 rfl (by decide +kernel) ?_
                  refine zw_put _ 29 f173_26 rfl g173_246_12 (hb_52 _ _ _ _) rfl (Nat.le_of_ble_eq_true rfl) (by decide +kernel) (hi_52_29 _ _ _ _ _) ?_
                  refine zw_vreturn f173_29 r173 u173 ⟨rfl, ?_⟩
                  refine zw_iload_n 37 f178_36 rfl rfl ?_
                  refine zw_aload_n 38 f178_37 rfl rfl ?_
                  refine zw_getfield 41 f178_38 rfl g178_13_12 (hb_52 _ _ _ _) rfl ?_
                  refine zw_iload_n 42 f178_41 rfl rfl ?_
                  refine zw_iaload a.toNatClampNeg (P 54 a.toNatClampNeg) 43 f178_42 rfl (hb_54 _ _ _ _) rfl hc1 (zix (by decide) hc1 (show ¬ 8 ≤ a from ix_le hp.1 (by decide) (by decide) hc1 hc2)) (congrFun ((hR.2.1 54 (by omega) (by omega))) a.toNatClampNeg) ?_
                  refine zw_ixor (c ^^^ (P 54 a.toNatClampNeg)) 44 f178_43 rfl rfl ?_
                  refine zw_aload_n 45 f178_44 rfl rfl ?_
                  refine zw_iload_n 46 f178_45 rfl rfl ?_
                  refine zw_virtual_i 49 0 0 [.ref 52, .int a] [(0, .ref 52), (1, .int a)] f178_46 rfl n178_158 k178_158_12 rfl (hb_52 _ _ _ _) (by decide +kernel) (Nat.le_of_ble_eq_true rfl) rfl rfl (by decide +kernel) (by decide +kernel) rfl (Nat.le_of_ble_eq_true rfl) rfl ?_
                  refine zw_aload_n 1 f126_0 rfl rfl ?_
                  refine zw_getfield 4 f126_1 rfl g126_7_12 (hb_52 _ _ _ _) rfl ?_
                  refine zw_iload_n 5 f126_4 rfl rfl ?_
                  refine zw_iaload a.toNatClampNeg 3 6 f126_5 rfl (hb_53 _ _ _ _) rfl hc1 (zix (by decide) hc1 (show ¬ 8 ≤ a from ix_le hp.1 (by decide) (by decide) hc1 hc2)) ((congrFun (hR.2.1 53 (by omega) (by omega)) a.toNatClampNeg).trans hk) ?_
                  refine zw_iconst 3 7 f126_6 rfl (by decide +kernel) ?_
                  refine zw_ic_eq_t 20 f126_7 (by decide +kernel) (by decide +kernel) ?_
                  refine zw_iconst 1 21 f126_20 rfl (by decide +kernel) ?_
                  refine zw_goto 25 f126_21 (by decide +kernel) ?_
                  refine zw_zreturn f126_25 r126 u126 (by decide +kernel) ⟨_, rfl, ?_⟩
                  refine zw_if_eq_f 52 61 f178_49 (by decide +kernel) rfl (by decide +kernel) ?_
                  refine zw_aload_n 53 f178_52 rfl rfl ?_
                  refine zw_getfield 56 f178_53 rfl g178_19_12 (hb_52 _ _ _ _) rfl ?_
                  refine zw_iload_n 57 f178_56 rfl rfl ?_
                  refine zw_iaload a.toNatClampNeg (P 56 a.toNatClampNeg) 58 f178_57 rfl (hb_56 _ _ _ _) rfl hc1 (zix (by decide) hc1 (show ¬ 8 ≤ a from ix_le hp.1 (by decide) (by decide) hc1 hc2)) (congrFun ((hR.2.1 56 (by omega) (by omega))) a.toNatClampNeg) ?_
                  refine zw_goto 62 f178_58 (by decide +kernel) ?_
                  refine zw_iadd ((c ^^^ (P 54 a.toNatClampNeg)) + (P 56 a.toNatClampNeg)) 63 f178_62 rfl rfl ?_
                  refine zw_aload_n 64 f178_63 rfl rfl ?_
                  refine zw_getfield 67 f178_64 rfl g178_7_12 (hb_52 _ _ _ _) rfl ?_
                  refine zw_iload_n 68 f178_67 rfl rfl ?_
                  refine zw_iaload a.toNatClampNeg 3 69 f178_68 rfl (hb_53 _ _ _ _) rfl hc1 (zix (by decide) hc1 (show ¬ 8 ≤ a from ix_le hp.1 (by decide) (by decide) hc1 hc2)) ((congrFun (hR.2.1 53 (by omega) (by omega)) a.toNatClampNeg).trans hk) ?_
                  refine zw_iconst 4 70 f178_69 rfl (by decide +kernel) ?_
                  refine zw_ic_ne_t 82 f178_70 (by decide +kernel) (by decide +kernel) ?_
                  refine zw_iconst 0 83 f178_82 rfl (by decide +kernel) ?_
                  refine zw_iadd (((c ^^^ (P 54 a.toNatClampNeg)) + (P 56 a.toNatClampNeg)) + 0) 84 f178_83 rfl rfl ?_
                  refine zw_ireturn f178_84 r178 u178 ⟨_, rfl, ?_⟩
                  refine zw_isub ((((c + (P 55 a.toNatClampNeg)) + (P 54 a.toNatClampNeg)) * 3) - (((c ^^^ (P 54 a.toNatClampNeg)) + (P 56 a.toNatClampNeg)) + 0)) 45 f179_44 rfl rfl ?_
                  refine zw_ireturn f179_45 r179 u179 ⟨_, rfl, ?_⟩
                  refine zw_virtual_i 79 0 0 [.ref 52, .int ((((c + (P 55 a.toNatClampNeg)) + (P 54 a.toNatClampNeg)) * 3) - (((c ^^^ (P 54 a.toNatClampNeg)) + (P 56 a.toNatClampNeg)) + 0))] [(0, .ref 52), (1, .int ((((c + (P 55 a.toNatClampNeg)) + (P 54 a.toNatClampNeg)) * 3) - (((c ^^^ (P 54 a.toNatClampNeg)) + (P 56 a.toNatClampNeg)) + 0)))] f180_76 rfl n180_205 k180_205_12 rfl (hb_52 _ _ _ _) (by decide +kernel) (Nat.le_of_ble_eq_true rfl) rfl rfl (by decide +kernel) (by decide +kernel) rfl (Nat.le_of_ble_eq_true rfl) rfl ?_
                  refine zw_aload_n 1 f122_0 rfl rfl ?_
                  refine zw_iconst 0 2 f122_1 rfl (by decide +kernel) ?_
                  refine zw_put _ 5 f122_2 rfl g122_111_12 (hb_52 _ _ _ _) rfl (Nat.le_of_ble_eq_true rfl) (by decide +kernel) (hi_52_27 _ _ _ _ _) ?_
                  refine zw_iload_n 6 f122_5 rfl rfl ?_
                  refine zw_ireturn f122_6 r122 u122 ⟨_, rfl, ?_⟩
                  refine zw_ireturn f180_79 r180 u180 ?_
                  exact ⟨_, _, _, _, rfl, (KQ.i rfl (KQ.i rfl (KQ.a rfl (KQ.i rfl (KQ.a rfl (KQ.i rfl (KQ.a rfl (KQ.i rfl (KQ.a rfl (KQ.i rfl (KQ.a rfl (KQ.i rfl (KQ.a rfl (KQ.i rfl KQ.rf)))))))))))))), ⟨hi.1, hi.2.1, 6, by omega, (show _ = nI 6 from rfl)⟩, Or.inr ⟨⟨(qV.of (by omega) hc1 hc2), ⟨hc3, hc4⟩⟩, by rw [show an_tl (P 53 a.toNatClampNeg) b = [13, 11, 41, 10, 40, 12] from ((cI_n hc5).trans ((cI_n hc6).trans ((cI_n hc7).trans ((cI_n (kne hk (by decide))).trans ((cI_n (kne hk (by decide))).trans ((cI_n (kne hk (by decide))).trans (cI_y hk)))))))]; exact ⟨rfl, by intro i hi; rcases (show i = 0 ∨ i = 1 ∨ i = 2 ∨ i = 3 ∨ i = 4 ∨ i = 5 by have q : i < 6 := hi; omega) with rfl | rfl | rfl | rfl | rfl | rfl <;> rfl⟩⟩, _, rfl⟩
                · refine zw_iaload a.toNatClampNeg 4 8 f179_7 rfl (hb_53 _ _ _ _) rfl hc1 (zix (by decide) hc1 (show ¬ 8 ≤ a from ix_le hp.1 (by decide) (by decide) hc1 hc2)) ((congrFun (hR.2.1 53 (by omega) (by omega)) a.toNatClampNeg).trans hk) ?_
                  refine zw_iconst 1 9 f179_8 rfl (by decide +kernel) ?_
                  refine zw_ic_ne_t 22 f179_9 (by decide +kernel) (by decide +kernel) ?_
                  refine zw_aload_n 23 f179_22 rfl (zl1_ne rfl rfl rfl) ?_
                  refine zw_bipush 13 25 f179_23 rfl (by decide +kernel) ?_
                  refine zw_virtual_v 28 0 0 [.ref 52, .int 13] [(0, .ref 52), (1, .int 13)] f179_25 rfl n179_291 k179_291_12 rfl (hb_52 _ _ _ _) (by decide +kernel) (Nat.le_of_ble_eq_true rfl) rfl rfl (by decide +kernel) (by decide +kernel) rfl (Nat.le_of_ble_eq_true rfl) rfl ?_
                  refine zw_aload_n 1 f173_0 rfl rfl ?_
                  refine zw_getI 0 4 f173_1 rfl g173_246_12 (hb_52 _ _ _ _) rfl rfl ?_
                  refine zw_bipush 50 6 f173_4 rfl (by decide +kernel) ?_
                  refine zw_ic_ge_f 9 19 f173_6 (by decide +kernel) rfl (by decide +kernel) ?_
                  refine zw_aload_n 10 f173_9 rfl rfl ?_
                  refine zw_getfield 13 f173_10 rfl g173_74_12 (hb_52 _ _ _ _) rfl ?_
                  refine zw_aload_n 14 f173_13 rfl rfl ?_
                  refine zw_getI 0 17 f173_14 rfl g173_246_12 (hb_52 _ _ _ _) rfl rfl ?_
                  refine zw_iload_n 18 f173_17 rfl rfl ?_
                  refine zw_ast 0 _ 19 f173_18 rfl (hb_71 _ _ _ _) (by decide +kernel) (by decide +kernel) (by decide +kernel) (ha_71 _ _ _ _ _) ?_
                  refine zw_aload_n 20 f173_19 rfl rfl ?_
                  refine zw_dup 21 f173_20 rfl rfl ?_
                  refine zw_getI 0 24 f173_21 rfl g173_246_12 (hb_52 _ _ _ _) rfl rfl ?_
                  refine zw_iconst 1 25 f173_24 rfl (by decide +kernel) ?_
                  refine zw_iadd 1 26 f173_25 rfl (by decide +kernel) ?_
                  refine zw_put _ 29 f173_26 rfl g173_246_12 (hb_52 _ _ _ _) rfl (Nat.le_of_ble_eq_true rfl) (by decide +kernel) (hi_52_29 _ _ _ _ _) ?_
                  refine zw_vreturn f173_29 r173 u173 ⟨rfl, ?_⟩
                  refine zw_aload_n 29 f179_28 rfl (zl1_ne rfl rfl rfl) ?_
                  refine zw_iload_n 30 f179_29 rfl (zl1_ne rfl rfl rfl) ?_
                  refine zw_iload_n 31 f179_30 rfl zl1_eq ?_
                  refine zw_virtual_i 34 0 0 [.ref 52, .int a, .int c] [(0, .ref 52), (1, .int a), (2, .int c)] f179_31 rfl n179_304 k179_304_12 rfl (hb_52 _ _ _ _) (by decide +kernel) (Nat.le_of_ble_eq_true rfl) rfl rfl (by decide +kernel) (by decide +kernel) rfl (Nat.le_of_ble_eq_true rfl) rfl ?_
                  refine zw_aload_n 1 f177_0 rfl rfl ?_
                  refine zw_getfield 4 f177_1 rfl g177_7_12 (hb_52 _ _ _ _) rfl ?_
                  refine zw_iload_n 5 f177_4 rfl rfl ?_
                  refine zw_iaload a.toNatClampNeg 4 6 f177_5 rfl (hb_53 _ _ _ _) rfl hc1 (zix (by decide) hc1 (show ¬ 8 ≤ a from ix_le hp.1 (by decide) (by decide) hc1 hc2)) ((congrFun (hR.2.1 53 (by omega) (by omega)) a.toNatClampNeg).trans hk) ?_
                  refine zw_iconst 1 7 f177_6 rfl (by decide +kernel) ?_
                  refine zw_ic_ne_t 30 f177_7 (by decide +kernel) (by decide +kernel) ?_
                  refine zw_aload_n 31 f177_30 rfl rfl ?_
                  refine zw_getfield 34 f177_31 rfl g177_7_12 (hb_52 _ _ _ _) rfl ?_
                  refine zw_iload_n 35 f177_34 rfl rfl ?_
                  refine zw_iaload a.toNatClampNeg 4 36 f177_35 rfl (hb_53 _ _ _ _) rfl hc1 (zix (by decide) hc1 (show ¬ 8 ≤ a from ix_le hp.1 (by decide) (by decide) hc1 hc2)) ((congrFun (hR.2.1 53 (by omega) (by omega)) a.toNatClampNeg).trans hk) ?_
                  refine zw_iconst 4 37 f177_36 rfl (by decide +kernel) ?_
                  refine zw_ic_ne_f 40 60 f177_37 (by decide +kernel) rfl (by decide +kernel) ?_
                  refine zw_aload_n 41 f177_40 rfl rfl ?_
                  refine zw_bipush 51 43 f177_41 rfl (by decide +kernel) ?_
                  refine zw_virtual_v 46 0 0 [.ref 52, .int 51] [(0, .ref 52), (1, .int 51)] f177_43 rfl n177_291 k177_291_12 rfl (hb_52 _ _ _ _) (by decide +kernel) (Nat.le_of_ble_eq_true rfl) rfl rfl (by decide +kernel) (by decide +kernel) rfl (Nat.le_of_ble_eq_true rfl) rfl ?_
                  refine zw_aload_n 1 f173_0 rfl rfl ?_
                  refine zw_getI 1 4 f173_1 rfl g173_246_12 (hb_52 _ _ _ _) rfl rfl ?_
                  refine zw_bipush 50 6 f173_4 rfl (by decide +kernel) ?_
                  refine zw_ic_ge_f 9 19 f173_6 (by decide +kernel) rfl (by decide +kernel) ?_
                  refine zw_aload_n 10 f173_9 rfl rfl ?_
                  refine zw_getfield 13 f173_10 rfl g173_74_12 (hb_52 _ _ _ _) rfl ?_
                  refine zw_aload_n 14 f173_13 rfl rfl ?_
                  refine zw_getI 1 17 f173_14 rfl g173_246_12 (hb_52 _ _ _ _) rfl rfl ?_
                  refine zw_iload_n 18 f173_17 rfl rfl ?_
                  refine zw_ast 1 _ 19 f173_18 rfl (hb_71 _ _ _ _) (by decide +kernel) (by decide +kernel) (by decide +kernel) (ha_71 _ _ _ _ _) ?_
                  refine zw_aload_n 20 f173_19 rfl rfl ?_
                  refine zw_dup 21 f173_20 rfl rfl ?_
                  refine zw_getI 1 24 f173_21 rfl g173_246_12 (hb_52 _ _ _ _) rfl rfl ?_
                  refine zw_iconst 1 25 f173_24 rfl (by decide +kernel) ?_
                  refine zw_iadd 2 26 f173_25 rfl (by decide +kernel) ?_
                  refine zw_put _ 29 f173_26 rfl g173_246_12 (hb_52 _ _ _ _) rfl (Nat.le_of_ble_eq_true rfl) (by decide +kernel) (hi_52_29 _ _ _ _ _) ?_
                  refine zw_vreturn f173_29 r173 u173 ⟨rfl, ?_⟩
                  refine zw_aload_n 47 f177_46 rfl rfl ?_
                  refine zw_iload_n 48 f177_47 rfl rfl ?_
                  refine zw_iload_n 49 f177_48 rfl rfl ?_
                  refine zw_virtual_i 52 0 0 [.ref 52, .int a, .int c] [(0, .ref 52), (1, .int a), (2, .int c)] f177_49 rfl n177_301 k177_301_12 rfl (hb_52 _ _ _ _) (by decide +kernel) (Nat.le_of_ble_eq_true rfl) rfl rfl (by decide +kernel) (by decide +kernel) rfl (Nat.le_of_ble_eq_true rfl) rfl ?_
                  refine zw_aload_n 1 f176_0 rfl rfl ?_
                  refine zw_bipush 11 3 f176_1 rfl (by decide +kernel) ?_
                  refine zw_virtual_v 6 0 0 [.ref 52, .int 11] [(0, .ref 52), (1, .int 11)] f176_3 rfl n176_291 k176_291_12 rfl (hb_52 _ _ _ _) (by decide +kernel) (Nat.le_of_ble_eq_true rfl) rfl rfl (by decide +kernel) (by decide +kernel) rfl (Nat.le_of_ble_eq_true rfl) rfl ?_
                  refine zw_aload_n 1 f173_0 rfl rfl ?_
                  refine zw_getI 2 4 f173_1 rfl g173_246_12 (hb_52 _ _ _ _) rfl rfl ?_
                  refine zw_bipush 50 6 f173_4 rfl (by decide +kernel) ?_
                  refine zw_ic_ge_f 9 19 f173_6 (by decide +kernel) rfl (by decide +kernel) ?_
                  refine zw_aload_n 10 f173_9 rfl rfl ?_
                  refine zw_getfield 13 f173_10 rfl g173_74_12 (hb_52 _ _ _ _) rfl ?_
                  refine zw_aload_n 14 f173_13 rfl rfl ?_
                  refine zw_getI 2 17 f173_14 rfl g173_246_12 (hb_52 _ _ _ _) rfl rfl ?_
                  refine zw_iload_n 18 f173_17 rfl rfl ?_
                  refine zw_ast 2 _ 19 f173_18 rfl (hb_71 _ _ _ _) (by decide +kernel) (by decide +kernel) (by decide +kernel) (ha_71 _ _ _ _ _) ?_
                  refine zw_aload_n 20 f173_19 rfl rfl ?_
                  refine zw_dup 21 f173_20 rfl rfl ?_
                  refine zw_getI 2 24 f173_21 rfl g173_246_12 (hb_52 _ _ _ _) rfl rfl ?_
                  refine zw_iconst 1 25 f173_24 rfl (by decide +kernel) ?_
                  refine zw_iadd 3 26 f173_25 rfl (by decide +kernel) ?_
                  refine zw_put _ 29 f173_26 rfl g173_246_12 (hb_52 _ _ _ _) rfl (Nat.le_of_ble_eq_true rfl) (by decide +kernel) (hi_52_29 _ _ _ _ _) ?_
                  refine zw_vreturn f173_29 r173 u173 ⟨rfl, ?_⟩
                  refine zw_aload_n 7 f176_6 rfl rfl ?_
                  refine zw_iload_n 8 f176_7 rfl rfl ?_
                  refine zw_iload_n 9 f176_8 rfl rfl ?_
                  refine zw_virtual_i 12 0 0 [.ref 52, .int a, .int c] [(0, .ref 52), (1, .int a), (2, .int c)] f176_9 rfl n176_298 k176_298_12 rfl (hb_52 _ _ _ _) (by decide +kernel) (Nat.le_of_ble_eq_true rfl) rfl rfl (by decide +kernel) (by decide +kernel) rfl (Nat.le_of_ble_eq_true rfl) rfl ?_
                  refine zw_aload_n 1 f175_0 rfl rfl ?_
                  refine zw_getfield 4 f175_1 rfl g175_7_12 (hb_52 _ _ _ _) rfl ?_
                  refine zw_iload_n 5 f175_4 rfl rfl ?_
                  refine zw_iaload a.toNatClampNeg 4 6 f175_5 rfl (hb_53 _ _ _ _) rfl hc1 (zix (by decide) hc1 (show ¬ 8 ≤ a from ix_le hp.1 (by decide) (by decide) hc1 hc2)) ((congrFun (hR.2.1 53 (by omega) (by omega)) a.toNatClampNeg).trans hk) ?_
                  refine zw_iconst 2 7 f175_6 rfl (by decide +kernel) ?_
                  refine zw_ic_ne_t 25 f175_7 (by decide +kernel) (by decide +kernel) ?_
                  refine zw_aload_n 26 f175_25 rfl rfl ?_
                  refine zw_iload_n 27 f175_26 rfl rfl ?_
                  refine zw_virtual_i 30 0 0 [.ref 52, .int a] [(0, .ref 52), (1, .int a)] f175_27 rfl n175_158 k175_158_12 rfl (hb_52 _ _ _ _) (by decide +kernel) (Nat.le_of_ble_eq_true rfl) rfl rfl (by decide +kernel) (by decide +kernel) rfl (Nat.le_of_ble_eq_true rfl) rfl ?_
                  refine zw_aload_n 1 f126_0 rfl rfl ?_
                  refine zw_getfield 4 f126_1 rfl g126_7_12 (hb_52 _ _ _ _) rfl ?_
                  refine zw_iload_n 5 f126_4 rfl rfl ?_
                  refine zw_iaload a.toNatClampNeg 4 6 f126_5 rfl (hb_53 _ _ _ _) rfl hc1 (zix (by decide) hc1 (show ¬ 8 ≤ a from ix_le hp.1 (by decide) (by decide) hc1 hc2)) ((congrFun (hR.2.1 53 (by omega) (by omega)) a.toNatClampNeg).trans hk) ?_
                  refine zw_iconst 3 7 f126_6 rfl (by decide +kernel) ?_
                  refine zw_ic_eq_f 10 20 f126_7 (by decide +kernel) rfl (by decide +kernel) ?_
                  refine zw_aload_n 11 f126_10 rfl rfl ?_
                  refine zw_getfield 14 f126_11 rfl g126_7_12 (hb_52 _ _ _ _) rfl ?_
                  refine zw_iload_n 15 f126_14 rfl rfl ?_
                  refine zw_iaload a.toNatClampNeg 4 16 f126_15 rfl (hb_53 _ _ _ _) rfl hc1 (zix (by decide) hc1 (show ¬ 8 ≤ a from ix_le hp.1 (by decide) (by decide) hc1 hc2)) ((congrFun (hR.2.1 53 (by omega) (by omega)) a.toNatClampNeg).trans hk) ?_
                  refine zw_iconst 4 17 f126_16 rfl (by decide +kernel) ?_
                  refine zw_ic_ne_f 20 24 f126_17 (by decide +kernel) rfl (by decide +kernel) ?_
                  refine zw_iconst 1 21 f126_20 rfl (by decide +kernel) ?_
                  refine zw_goto 25 f126_21 (by decide +kernel) ?_
                  refine zw_zreturn f126_25 r126 u126 (by decide +kernel) ⟨_, rfl, ?_⟩
                  refine zw_if_eq_f 33 53 f175_30 (by decide +kernel) rfl (by decide +kernel) ?_
                  refine zw_aload_n 34 f175_33 rfl rfl ?_
                  refine zw_bipush 41 36 f175_34 rfl (by decide +kernel) ?_
                  refine zw_virtual_v 39 0 0 [.ref 52, .int 41] [(0, .ref 52), (1, .int 41)] f175_36 rfl n175_291 k175_291_12 rfl (hb_52 _ _ _ _) (by decide +kernel) (Nat.le_of_ble_eq_true rfl) rfl rfl (by decide +kernel) (by decide +kernel) rfl (Nat.le_of_ble_eq_true rfl) rfl ?_
                  refine zw_aload_n 1 f173_0 rfl rfl ?_
                  refine zw_getI 3 4 f173_1 rfl g173_246_12 (hb_52 _ _ _ _) rfl rfl ?_
                  refine zw_bipush 50 6 f173_4 rfl (by decide +kernel) ?_
                  refine zw_ic_ge_f 9 19 f173_6 (by decide +kernel) rfl (by decide +kernel) ?_
                  refine zw_aload_n 10 f173_9 rfl rfl ?_
                  refine zw_getfield 13 f173_10 rfl g173_74_12 (hb_52 _ _ _ _) rfl ?_
                  refine zw_aload_n 14 f173_13 rfl rfl ?_
                  refine zw_getI 3 17 f173_14 rfl g173_246_12 (hb_52 _ _ _ _) rfl rfl ?_
                  refine zw_iload_n 18 f173_17 rfl rfl ?_
                  refine zw_ast 3 _ 19 f173_18 rfl (hb_71 _ _ _ _) (by decide +kernel) (by decide +kernel) (by decide +kernel) (ha_71 _ _ _ _ _) ?_
                  refine zw_aload_n 20 f173_19 rfl rfl ?_
                  refine zw_dup 21 f173_20 rfl rfl ?_
                  refine zw_getI 3 24 f173_21 rfl g173_246_12 (hb_52 _ _ _ _) rfl rfl ?_
                  refine zw_iconst 1 25 f173_24 rfl (by decide +kernel) ?_
                  refine zw_iadd 4 26 f173_25 rfl (by decide +kernel) ?_
                  refine zw_put _ 29 f173_26 rfl g173_246_12 (hb_52 _ _ _ _) rfl (Nat.le_of_ble_eq_true rfl) (by decide +kernel) (hi_52_29 _ _ _ _ _) ?_
                  refine zw_vreturn f173_29 r173 u173 ⟨rfl, ?_⟩
                  refine zw_aload_n 40 f175_39 rfl rfl ?_
                  refine zw_iload_n 41 f175_40 rfl rfl ?_
                  refine zw_iload_n 42 f175_41 rfl rfl ?_
                  refine zw_aload_n 43 f175_42 rfl rfl ?_
                  refine zw_getfield 46 f175_43 rfl g175_16_12 (hb_52 _ _ _ _) rfl ?_
                  refine zw_iload_n 47 f175_46 rfl rfl ?_
                  refine zw_iaload a.toNatClampNeg (P 55 a.toNatClampNeg) 48 f175_47 rfl (hb_55 _ _ _ _) rfl hc1 (zix (by decide) hc1 (show ¬ 8 ≤ a from ix_le hp.1 (by decide) (by decide) hc1 hc2)) (congrFun ((hR.2.1 55 (by omega) (by omega))) a.toNatClampNeg) ?_
                  refine zw_iadd (c + (P 55 a.toNatClampNeg)) 49 f175_48 rfl rfl ?_
                  refine zw_virtual_i 52 0 0 [.ref 52, .int a, .int (c + (P 55 a.toNatClampNeg))] [(0, .ref 52), (1, .int a), (2, .int (c + (P 55 a.toNatClampNeg)))] f175_49 rfl n175_294 k175_294_12 rfl (hb_52 _ _ _ _) (by decide +kernel) (Nat.le_of_ble_eq_true rfl) rfl rfl (by decide +kernel) (by decide +kernel) rfl (Nat.le_of_ble_eq_true rfl) rfl ?_
                  refine zw_aload_n 1 f174_0 rfl rfl ?_
                  refine zw_bipush 10 3 f174_1 rfl (by decide +kernel) ?_
                  refine zw_virtual_v 6 0 0 [.ref 52, .int 10] [(0, .ref 52), (1, .int 10)] f174_3 rfl n174_291 k174_291_12 rfl (hb_52 _ _ _ _) (by decide +kernel) (Nat.le_of_ble_eq_true rfl) rfl rfl (by decide +kernel) (by decide +kernel) rfl (Nat.le_of_ble_eq_true rfl) rfl ?_
                  refine zw_aload_n 1 f173_0 rfl rfl ?_
                  refine zw_getI 4 4 f173_1 rfl g173_246_12 (hb_52 _ _ _ _) rfl rfl ?_
                  refine zw_bipush 50 6 f173_4 rfl (by decide +kernel) ?_
                  refine zw_ic_ge_f 9 19 f173_6 (by decide +kernel) rfl (by decide +kernel) ?_
                  refine zw_aload_n 10 f173_9 rfl rfl ?_
                  refine zw_getfield 13 f173_10 rfl g173_74_12 (hb_52 _ _ _ _) rfl ?_
                  refine zw_aload_n 14 f173_13 rfl rfl ?_
                  refine zw_getI 4 17 f173_14 rfl g173_246_12 (hb_52 _ _ _ _) rfl rfl ?_
                  refine zw_iload_n 18 f173_17 rfl rfl ?_
                  refine zw_ast 4 _ 19 f173_18 rfl (hb_71 _ _ _ _) (by decide +kernel) (by decide +kernel) (by decide +kernel) (ha_71 _ _ _ _ _) ?_
                  refine zw_aload_n 20 f173_19 rfl rfl ?_
                  refine zw_dup 21 f173_20 rfl rfl ?_
                  refine zw_getI 4 24 f173_21 rfl g173_246_12 (hb_52 _ _ _ _) rfl rfl ?_
                  refine zw_iconst 1 25 f173_24 rfl (by decide +kernel) ?_
                  refine zw_iadd 5 26 f173_25 rfl (by decide +kernel) ?_
                  refine zw_put _ 29 f173_26 rfl g173_246_12 (hb_52 _ _ _ _) rfl (Nat.le_of_ble_eq_true rfl) (by decide +kernel) (hi_52_29 _ _ _ _ _) ?_
                  refine zw_vreturn f173_29 r173 u173 ⟨rfl, ?_⟩
                  refine zw_iload_n 7 f174_6 rfl rfl ?_
                  refine zw_aload_n 8 f174_7 rfl rfl ?_
                  refine zw_getfield 11 f174_8 rfl g174_13_12 (hb_52 _ _ _ _) rfl ?_
                  refine zw_iload_n 12 f174_11 rfl rfl ?_
                  refine zw_iaload a.toNatClampNeg (P 54 a.toNatClampNeg) 13 f174_12 rfl (hb_54 _ _ _ _) rfl hc1 (zix (by decide) hc1 (show ¬ 8 ≤ a from ix_le hp.1 (by decide) (by decide) hc1 hc2)) (congrFun ((hR.2.1 54 (by omega) (by omega))) a.toNatClampNeg) ?_
                  refine zw_iadd ((c + (P 55 a.toNatClampNeg)) + (P 54 a.toNatClampNeg)) 14 f174_13 rfl rfl ?_
                  refine zw_ireturn f174_14 r174 u174 ⟨_, rfl, ?_⟩
                  refine zw_ireturn f175_52 r175 u175 ⟨_, rfl, ?_⟩
                  refine zw_iconst 3 13 f176_12 rfl (by decide +kernel) ?_
                  refine zw_imul (((c + (P 55 a.toNatClampNeg)) + (P 54 a.toNatClampNeg)) * 3) 14 f176_13 rfl rfl ?_
                  refine zw_ireturn f176_14 r176 u176 ⟨_, rfl, ?_⟩
                  refine zw_aload_n 53 f177_52 rfl rfl ?_
                  refine zw_getfield 56 f177_53 rfl g177_55_12 (hb_52 _ _ _ _) rfl ?_
                  refine zw_iload_n 57 f177_56 rfl rfl ?_
                  refine zw_iaload a.toNatClampNeg ((W.2.2.2.2.2.2.2) a.toNatClampNeg) 58 f177_57 rfl (hb_66 _ _ _ _) rfl hc1 (zix (by decide) hc1 (show ¬ 8 ≤ a from ix_le hp.1 (by decide) (by decide) hc1 hc2)) (congrFun (hR.cnt) a.toNatClampNeg) ?_
                  refine zw_ixor ((((c + (P 55 a.toNatClampNeg)) + (P 54 a.toNatClampNeg)) * 3) ^^^ ((W.2.2.2.2.2.2.2) a.toNatClampNeg)) 59 f177_58 rfl rfl ?_
                  refine zw_ireturn f177_59 r177 u177 ⟨_, rfl, ?_⟩
                  refine zw_istore _ 36 f179_34 rfl (by decide +kernel) rfl ?_
                  refine zw_iload 38 f179_36 rfl zl1_eq ?_
                  refine zw_aload_n 39 f179_38 rfl (zl1_ne rfl rfl (zl1_ne rfl rfl rfl)) ?_
                  refine zw_iload_n 40 f179_39 rfl (zl1_ne rfl rfl (zl1_ne rfl rfl rfl)) ?_
                  refine zw_iload_n 41 f179_40 rfl (zl1_ne rfl rfl zl1_eq) ?_
                  refine zw_virtual_i 44 0 0 [.ref 52, .int a, .int c] [(0, .ref 52), (1, .int a), (2, .int c)] f179_41 rfl n179_307 k179_307_12 rfl (hb_52 _ _ _ _) (by decide +kernel) (Nat.le_of_ble_eq_true rfl) rfl rfl (by decide +kernel) (by decide +kernel) rfl (Nat.le_of_ble_eq_true rfl) rfl ?_
                  refine zw_aload_n 1 f178_0 rfl rfl ?_
                  refine zw_getfield 4 f178_1 rfl g178_7_12 (hb_52 _ _ _ _) rfl ?_
                  refine zw_iload_n 5 f178_4 rfl rfl ?_
                  refine zw_iaload a.toNatClampNeg 4 6 f178_5 rfl (hb_53 _ _ _ _) rfl hc1 (zix (by decide) hc1 (show ¬ 8 ≤ a from ix_le hp.1 (by decide) (by decide) hc1 hc2)) ((congrFun (hR.2.1 53 (by omega) (by omega)) a.toNatClampNeg).trans hk) ?_
                  refine zw_iconst 4 7 f178_6 rfl (by decide +kernel) ?_
                  refine zw_ic_ne_f 10 16 f178_7 (by decide +kernel) rfl (by decide +kernel) ?_
                  refine zw_aload_n 11 f178_10 rfl rfl ?_
                  refine zw_bipush 50 13 f178_11 rfl (by decide +kernel) ?_
                  refine zw_virtual_v 16 0 0 [.ref 52, .int 50] [(0, .ref 52), (1, .int 50)] f178_13 rfl n178_291 k178_291_12 rfl (hb_52 _ _ _ _) (by decide +kernel) (Nat.le_of_ble_eq_true rfl) rfl rfl (by decide +kernel) (by decide +kernel) rfl (Nat.le_of_ble_eq_true rfl) rfl ?_
                  refine zw_aload_n 1 f173_0 rfl rfl ?_
                  refine zw_getI 5 4 f173_1 rfl g173_246_12 (hb_52 _ _ _ _) rfl rfl ?_
                  refine zw_bipush 50 6 f173_4 rfl (by decide +kernel) ?_
                  refine zw_ic_ge_f 9 19 f173_6 (by decide +kernel) rfl (by decide +kernel) ?_
                  refine zw_aload_n 10 f173_9 rfl rfl ?_
                  refine zw_getfield 13 f173_10 rfl g173_74_12 (hb_52 _ _ _ _) rfl ?_
                  refine zw_aload_n 14 f173_13 rfl rfl ?_
                  refine zw_getI 5 17 f173_14 rfl g173_246_12 (hb_52 _ _ _ _) rfl rfl ?_
                  refine zw_iload_n 18 f173_17 rfl rfl ?_
                  refine zw_ast 5 _ 19 f173_18 rfl (hb_71 _ _ _ _) (by decide +kernel) (by decide +kernel) (by decide +kernel) (ha_71 _ _ _ _ _) ?_
                  refine zw_aload_n 20 f173_19 rfl rfl ?_
                  refine zw_dup 21 f173_20 rfl rfl ?_
                  refine zw_getI 5 24 f173_21 rfl g173_246_12 (hb_52 _ _ _ _) rfl rfl ?_
                  refine zw_iconst 1 25 f173_24 rfl (by decide +kernel) ?_
                  refine zw_iadd 6 26 f173_25 rfl (by decide +kernel) ?_
                  refine zw_put _ 29 f173_26 rfl g173_246_12 (hb_52 _ _ _ _) rfl (Nat.le_of_ble_eq_true rfl) (by decide +kernel) (hi_52_29 _ _ _ _ _) ?_
                  refine zw_vreturn f173_29 r173 u173 ⟨rfl, ?_⟩
                  refine zw_aload_n 17 f178_16 rfl rfl ?_
                  refine zw_iload_n 18 f178_17 rfl rfl ?_
                  refine zw_virtual_i 21 0 0 [.ref 52, .int a] [(0, .ref 52), (1, .int a)] f178_18 rfl n178_158 k178_158_12 rfl (hb_52 _ _ _ _) (by decide +kernel) (Nat.le_of_ble_eq_true rfl) rfl rfl (by decide +kernel) (by decide +kernel) rfl (Nat.le_of_ble_eq_true rfl) rfl ?_
                  refine zw_aload_n 1 f126_0 rfl rfl ?_
                  refine zw_getfield 4 f126_1 rfl g126_7_12 (hb_52 _ _ _ _) rfl ?_
                  refine zw_iload_n 5 f126_4 rfl rfl ?_
                  refine zw_iaload a.toNatClampNeg 4 6 f126_5 rfl (hb_53 _ _ _ _) rfl hc1 (zix (by decide) hc1 (show ¬ 8 ≤ a from ix_le hp.1 (by decide) (by decide) hc1 hc2)) ((congrFun (hR.2.1 53 (by omega) (by omega)) a.toNatClampNeg).trans hk) ?_
                  refine zw_iconst 3 7 f126_6 rfl (by decide +kernel) ?_
                  refine zw_ic_eq_f 10 20 f126_7 (by decide +kernel) rfl (by decide +kernel) ?_
                  refine zw_aload_n 11 f126_10 rfl rfl ?_
                  refine zw_getfield 14 f126_11 rfl g126_7_12 (hb_52 _ _ _ _) rfl ?_
                  refine zw_iload_n 15 f126_14 rfl rfl ?_
                  refine zw_iaload a.toNatClampNeg 4 16 f126_15 rfl (hb_53 _ _ _ _) rfl hc1 (zix (by decide) hc1 (show ¬ 8 ≤ a from ix_le hp.1 (by decide) (by decide) hc1 hc2)) ((congrFun (hR.2.1 53 (by omega) (by omega)) a.toNatClampNeg).trans hk) ?_
                  refine zw_iconst 4 17 f126_16 rfl (by decide +kernel) ?_
                  refine zw_ic_ne_f 20 24 f126_17 (by decide +kernel) rfl (by decide +kernel) ?_
                  refine zw_iconst 1 21 f126_20 rfl (by decide +kernel) ?_
                  refine zw_goto 25 f126_21 (by decide +kernel) ?_
                  refine zw_zreturn f126_25 r126 u126 (by decide +kernel) ⟨_, rfl, ?_⟩
                  refine zw_if_eq_f 24 30 f178_21 (by decide +kernel) rfl (by decide +kernel) ?_
                  refine zw_aload_n 25 f178_24 rfl rfl ?_
                  refine zw_bipush 40 27 f178_25 rfl (by decide +kernel) ?_
                  refine zw_virtual_v 30 0 0 [.ref 52, .int 40] [(0, .ref 52), (1, .int 40)] f178_27 rfl n178_291 k178_291_12 rfl (hb_52 _ _ _ _) (by decide +kernel) (Nat.le_of_ble_eq_true rfl) rfl rfl (by decide +kernel) (by decide +kernel) rfl (Nat.le_of_ble_eq_true rfl) rfl ?_
                  refine zw_aload_n 1 f173_0 rfl rfl ?_
                  refine zw_getI 6 4 f173_1 rfl g173_246_12 (hb_52 _ _ _ _) rfl rfl ?_
                  refine zw_bipush 50 6 f173_4 rfl (by decide +kernel) ?_
                  refine zw_ic_ge_f 9 19 f173_6 (by decide +kernel) rfl (by decide +kernel) ?_
                  refine zw_aload_n 10 f173_9 rfl rfl ?_
                  refine zw_getfield 13 f173_10 rfl g173_74_12 (hb_52 _ _ _ _) rfl ?_
                  refine zw_aload_n 14 f173_13 rfl rfl ?_
                  refine zw_getI 6 17 f173_14 rfl g173_246_12 (hb_52 _ _ _ _) rfl rfl ?_
                  refine zw_iload_n 18 f173_17 rfl rfl ?_
                  refine zw_ast 6 _ 19 f173_18 rfl (hb_71 _ _ _ _) (by decide +kernel) (by decide +kernel) (by decide +kernel) (ha_71 _ _ _ _ _) ?_
                  refine zw_aload_n 20 f173_19 rfl rfl ?_
                  refine zw_dup 21 f173_20 rfl rfl ?_
                  refine zw_getI 6 24 f173_21 rfl g173_246_12 (hb_52 _ _ _ _) rfl rfl ?_
                  refine zw_iconst 1 25 f173_24 rfl (by decide +kernel) ?_
                  refine zw_iadd 7 26 f173_25 rfl (by decide +kernel) ?_
                  refine zw_put _ 29 f173_26 rfl g173_246_12 (hb_52 _ _ _ _) rfl (Nat.le_of_ble_eq_true rfl) (by decide +kernel) (hi_52_29 _ _ _ _ _) ?_
                  refine zw_vreturn f173_29 r173 u173 ⟨rfl, ?_⟩
                  refine zw_aload_n 31 f178_30 rfl rfl ?_
                  refine zw_bipush 12 33 f178_31 rfl (by decide +kernel) ?_
                  refine zw_virtual_v 36 0 0 [.ref 52, .int 12] [(0, .ref 52), (1, .int 12)] f178_33 rfl n178_291 k178_291_12 rfl (hb_52 _ _ _ _) (by decide +kernel) (Nat.le_of_ble_eq_true rfl) rfl rfl (by decide +kernel) (by decide +kernel) rfl (Nat.le_of_ble_eq_true rfl) rfl ?_
                  refine zw_aload_n 1 f173_0 rfl rfl ?_
                  refine zw_getI 7 4 f173_1 rfl g173_246_12 (hb_52 _ _ _ _) rfl rfl ?_
                  refine zw_bipush 50 6 f173_4 rfl (by decide +kernel) ?_
                  refine zw_ic_ge_f 9 19 f173_6 (by decide +kernel) rfl (by decide +kernel) ?_
                  refine zw_aload_n 10 f173_9 rfl rfl ?_
                  refine zw_getfield 13 f173_10 rfl g173_74_12 (hb_52 _ _ _ _) rfl ?_
                  refine zw_aload_n 14 f173_13 rfl rfl ?_
                  refine zw_getI 7 17 f173_14 rfl g173_246_12 (hb_52 _ _ _ _) rfl rfl ?_
                  refine zw_iload_n 18 f173_17 rfl rfl ?_
                  refine zw_ast 7 _ 19 f173_18 rfl (hb_71 _ _ _ _) (by decide +kernel) (by decide +kernel) (by decide +kernel) (ha_71 _ _ _ _ _) ?_
                  refine zw_aload_n 20 f173_19 rfl rfl ?_
                  refine zw_dup 21 f173_20 rfl rfl ?_
                  refine zw_getI 7 24 f173_21 rfl g173_246_12 (hb_52 _ _ _ _) rfl rfl ?_
                  refine zw_iconst 1 25 f173_24 rfl (by decide +kernel) ?_
                  refine zw_iadd 8 26 f173_25 rfl (by decide +kernel) ?_
                  refine zw_put _ 29 f173_26 rfl g173_246_12 (hb_52 _ _ _ _) rfl (Nat.le_of_ble_eq_true rfl) (by decide +kernel) (hi_52_29 _ _ _ _ _) ?_
                  refine zw_vreturn f173_29 r173 u173 ⟨rfl, ?_⟩
                  refine zw_iload_n 37 f178_36 rfl rfl ?_
                  refine zw_aload_n 38 f178_37 rfl rfl ?_
                  refine zw_getfield 41 f178_38 rfl g178_13_12 (hb_52 _ _ _ _) rfl ?_
                  refine zw_iload_n 42 f178_41 rfl rfl ?_
                  refine zw_iaload a.toNatClampNeg (P 54 a.toNatClampNeg) 43 f178_42 rfl (hb_54 _ _ _ _) rfl hc1 (zix (by decide) hc1 (show ¬ 8 ≤ a from ix_le hp.1 (by decide) (by decide) hc1 hc2)) (congrFun ((hR.2.1 54 (by omega) (by omega))) a.toNatClampNeg) ?_
                  refine zw_ixor (c ^^^ (P 54 a.toNatClampNeg)) 44 f178_43 rfl rfl ?_
                  refine zw_aload_n 45 f178_44 rfl rfl ?_
                  refine zw_iload_n 46 f178_45 rfl rfl ?_
                  refine zw_virtual_i 49 0 0 [.ref 52, .int a] [(0, .ref 52), (1, .int a)] f178_46 rfl n178_158 k178_158_12 rfl (hb_52 _ _ _ _) (by decide +kernel) (Nat.le_of_ble_eq_true rfl) rfl rfl (by decide +kernel) (by decide +kernel) rfl (Nat.le_of_ble_eq_true rfl) rfl ?_
                  refine zw_aload_n 1 f126_0 rfl rfl ?_
                  refine zw_getfield 4 f126_1 rfl g126_7_12 (hb_52 _ _ _ _) rfl ?_
                  refine zw_iload_n 5 f126_4 rfl rfl ?_
                  refine zw_iaload a.toNatClampNeg 4 6 f126_5 rfl (hb_53 _ _ _ _) rfl hc1 (zix (by decide) hc1 (show ¬ 8 ≤ a from ix_le hp.1 (by decide) (by decide) hc1 hc2)) ((congrFun (hR.2.1 53 (by omega) (by omega)) a.toNatClampNeg).trans hk) ?_
                  refine zw_iconst 3 7 f126_6 rfl (by decide +kernel) ?_
                  refine zw_ic_eq_f 10 20 f126_7 (by decide +kernel) rfl (by decide +kernel) ?_
                  refine zw_aload_n 11 f126_10 rfl rfl ?_
                  refine zw_getfield 14 f126_11 rfl g126_7_12 (hb_52 _ _ _ _) rfl ?_
                  refine zw_iload_n 15 f126_14 rfl rfl ?_
                  refine zw_iaload a.toNatClampNeg 4 16 f126_15 rfl (hb_53 _ _ _ _) rfl hc1 (zix (by decide) hc1 (show ¬ 8 ≤ a from ix_le hp.1 (by decide) (by decide) hc1 hc2)) ((congrFun (hR.2.1 53 (by omega) (by omega)) a.toNatClampNeg).trans hk) ?_
                  refine zw_iconst 4 17 f126_16 rfl (by decide +kernel) ?_
                  refine zw_ic_ne_f 20 24 f126_17 (by decide +kernel) rfl (by decide +kernel) ?_
                  refine zw_iconst 1 21 f126_20 rfl (by decide +kernel) ?_
                  refine zw_goto 25 f126_21 (by decide +kernel) ?_
                  refine zw_zreturn f126_25 r126 u126 (by decide +kernel) ⟨_, rfl, ?_⟩
                  refine zw_if_eq_f 52 61 f178_49 (by decide +kernel) rfl (by decide +kernel) ?_
                  refine zw_aload_n 53 f178_52 rfl rfl ?_
                  refine zw_getfield 56 f178_53 rfl g178_19_12 (hb_52 _ _ _ _) rfl ?_
                  refine zw_iload_n 57 f178_56 rfl rfl ?_
                  refine zw_iaload a.toNatClampNeg (P 56 a.toNatClampNeg) 58 f178_57 rfl (hb_56 _ _ _ _) rfl hc1 (zix (by decide) hc1 (show ¬ 8 ≤ a from ix_le hp.1 (by decide) (by decide) hc1 hc2)) (congrFun ((hR.2.1 56 (by omega) (by omega))) a.toNatClampNeg) ?_
                  refine zw_goto 62 f178_58 (by decide +kernel) ?_
                  refine zw_iadd ((c ^^^ (P 54 a.toNatClampNeg)) + (P 56 a.toNatClampNeg)) 63 f178_62 rfl rfl ?_
                  refine zw_aload_n 64 f178_63 rfl rfl ?_
                  refine zw_getfield 67 f178_64 rfl g178_7_12 (hb_52 _ _ _ _) rfl ?_
                  refine zw_iload_n 68 f178_67 rfl rfl ?_
                  refine zw_iaload a.toNatClampNeg 4 69 f178_68 rfl (hb_53 _ _ _ _) rfl hc1 (zix (by decide) hc1 (show ¬ 8 ≤ a from ix_le hp.1 (by decide) (by decide) hc1 hc2)) ((congrFun (hR.2.1 53 (by omega) (by omega)) a.toNatClampNeg).trans hk) ?_
                  refine zw_iconst 4 70 f178_69 rfl (by decide +kernel) ?_
                  refine zw_ic_ne_f 73 82 f178_70 (by decide +kernel) rfl (by decide +kernel) ?_
                  refine zw_aload_n 74 f178_73 rfl rfl ?_
                  refine zw_getfield 77 f178_74 rfl g178_55_12 (hb_52 _ _ _ _) rfl ?_
                  refine zw_iload_n 78 f178_77 rfl rfl ?_
                  refine zw_iaload a.toNatClampNeg ((W.2.2.2.2.2.2.2) a.toNatClampNeg) 79 f178_78 rfl (hb_66 _ _ _ _) rfl hc1 (zix (by decide) hc1 (show ¬ 8 ≤ a from ix_le hp.1 (by decide) (by decide) hc1 hc2)) (congrFun (hR.cnt) a.toNatClampNeg) ?_
                  refine zw_goto 83 f178_79 (by decide +kernel) ?_
                  refine zw_iadd (((c ^^^ (P 54 a.toNatClampNeg)) + (P 56 a.toNatClampNeg)) + ((W.2.2.2.2.2.2.2) a.toNatClampNeg)) 84 f178_83 rfl rfl ?_
                  refine zw_ireturn f178_84 r178 u178 ⟨_, rfl, ?_⟩
                  refine zw_isub (((((c + (P 55 a.toNatClampNeg)) + (P 54 a.toNatClampNeg)) * 3) ^^^ ((W.2.2.2.2.2.2.2) a.toNatClampNeg)) - (((c ^^^ (P 54 a.toNatClampNeg)) + (P 56 a.toNatClampNeg)) + ((W.2.2.2.2.2.2.2) a.toNatClampNeg))) 45 f179_44 rfl rfl ?_
                  refine zw_ireturn f179_45 r179 u179 ⟨_, rfl, ?_⟩
                  refine zw_virtual_i 79 0 0 [.ref 52, .int (((((c + (P 55 a.toNatClampNeg)) + (P 54 a.toNatClampNeg)) * 3) ^^^ ((W.2.2.2.2.2.2.2) a.toNatClampNeg)) - (((c ^^^ (P 54 a.toNatClampNeg)) + (P 56 a.toNatClampNeg)) + ((W.2.2.2.2.2.2.2) a.toNatClampNeg)))] [(0, .ref 52), (1, .int (((((c + (P 55 a.toNatClampNeg)) + (P 54 a.toNatClampNeg)) * 3) ^^^ ((W.2.2.2.2.2.2.2) a.toNatClampNeg)) - (((c ^^^ (P 54 a.toNatClampNeg)) + (P 56 a.toNatClampNeg)) + ((W.2.2.2.2.2.2.2) a.toNatClampNeg))))] f180_76 rfl n180_205 k180_205_12 rfl (hb_52 _ _ _ _) (by decide +kernel) (Nat.le_of_ble_eq_true rfl) rfl rfl (by decide +kernel) (by decide +kernel) rfl (Nat.le_of_ble_eq_true rfl) rfl ?_
                  refine zw_aload_n 1 f122_0 rfl rfl ?_
                  refine zw_iconst 0 2 f122_1 rfl (by decide +kernel) ?_
                  refine zw_put _ 5 f122_2 rfl g122_111_12 (hb_52 _ _ _ _) rfl (Nat.le_of_ble_eq_true rfl) (by decide +kernel) (hi_52_27 _ _ _ _ _) ?_
                  refine zw_iload_n 6 f122_5 rfl rfl ?_
                  refine zw_ireturn f122_6 r122 u122 ⟨_, rfl, ?_⟩
                  refine zw_ireturn f180_79 r180 u180 ?_
                  exact ⟨_, _, _, _, rfl, (KQ.i rfl (KQ.i rfl (KQ.a rfl (KQ.i rfl (KQ.a rfl (KQ.i rfl (KQ.a rfl (KQ.i rfl (KQ.a rfl (KQ.i rfl (KQ.a rfl (KQ.i rfl (KQ.a rfl (KQ.i rfl (KQ.a rfl (KQ.i rfl (KQ.a rfl (KQ.i rfl KQ.rf)))))))))))))))))), ⟨hi.1, hi.2.1, 8, by omega, (show _ = nI 8 from rfl)⟩, Or.inr ⟨⟨(qV.of (by omega) hc1 hc2), ⟨hc3, hc4⟩⟩, by rw [show an_tl (P 53 a.toNatClampNeg) b = [13, 51, 11, 41, 10, 50, 40, 12] from ((cI_n hc5).trans ((cI_n hc6).trans ((cI_n hc7).trans ((cI_n (kne hk (by decide))).trans ((cI_n (kne hk (by decide))).trans ((cI_n (kne hk (by decide))).trans ((cI_n (kne hk (by decide))).trans (cI_y hk))))))))]; exact ⟨rfl, by intro i hi; rcases (show i = 0 ∨ i = 1 ∨ i = 2 ∨ i = 3 ∨ i = 4 ∨ i = 5 ∨ i = 6 ∨ i = 7 by have q : i < 8 := hi; omega) with rfl | rfl | rfl | rfl | rfl | rfl | rfl | rfl <;> rfl⟩⟩, _, rfl⟩
              · refine zw_aload_n 62 f180_61 rfl rfl ?_
                refine zw_iload_n 63 f180_62 rfl rfl ?_
                refine zw_iload_n 64 f180_63 rfl rfl ?_
                refine zw_virtual_i 67 0 0 [.ref 52, .int a, .int c] [(0, .ref 52), (1, .int a), (2, .int c)] f180_64 rfl n180_307 k180_307_12 rfl (hb_52 _ _ _ _) (by decide +kernel) (Nat.le_of_ble_eq_true rfl) rfl rfl (by decide +kernel) (by decide +kernel) rfl (Nat.le_of_ble_eq_true rfl) rfl ?_
                refine zw_aload_n 1 f178_0 rfl rfl ?_
                refine zw_getfield 4 f178_1 rfl g178_7_12 (hb_52 _ _ _ _) rfl ?_
                refine zw_iload_n 5 f178_4 rfl rfl ?_
                rcases (k5 (hQ.1 a.toNatClampNeg ((qV.of (by omega) hc1 hc2)).1)) with hk | hk | hk | hk | hk
                · refine zw_iaload a.toNatClampNeg 0 6 f178_5 rfl (hb_53 _ _ _ _) rfl hc1 (zix (by decide) hc1 (show ¬ 8 ≤ a from ix_le hp.1 (by decide) (by decide) hc1 hc2)) ((congrFun (hR.2.1 53 (by omega) (by omega)) a.toNatClampNeg).trans hk) ?_
                  refine zw_iconst 4 7 f178_6 rfl (by decide +kernel) ?_
                  refine zw_ic_ne_t 16 f178_7 (by decide +kernel) (by decide +kernel) ?_
                  refine zw_aload_n 17 f178_16 rfl rfl ?_
                  refine zw_iload_n 18 f178_17 rfl rfl ?_
                  refine zw_virtual_i 21 0 0 [.ref 52, .int a] [(0, .ref 52), (1, .int a)] f178_18 rfl n178_158 k178_158_12 rfl (hb_52 _ _ _ _) (by decide +kernel) (Nat.le_of_ble_eq_true rfl) rfl rfl (by decide +kernel) (by decide +kernel) rfl (Nat.le_of_ble_eq_true rfl) rfl ?_
                  refine zw_aload_n 1 f126_0 rfl rfl ?_
                  refine zw_getfield 4 f126_1 rfl g126_7_12 (hb_52 _ _ _ _) rfl ?_
                  refine zw_iload_n 5 f126_4 rfl rfl ?_
                  refine zw_iaload a.toNatClampNeg 0 6 f126_5 rfl (hb_53 _ _ _ _) rfl hc1 (zix (by decide) hc1 (show ¬ 8 ≤ a from ix_le hp.1 (by decide) (by decide) hc1 hc2)) ((congrFun (hR.2.1 53 (by omega) (by omega)) a.toNatClampNeg).trans hk) ?_
                  refine zw_iconst 3 7 f126_6 rfl (by decide +kernel) ?_
                  refine zw_ic_eq_f 10 20 f126_7 (by decide +kernel) rfl (by decide +kernel) ?_
                  refine zw_aload_n 11 f126_10 rfl rfl ?_
                  refine zw_getfield 14 f126_11 rfl g126_7_12 (hb_52 _ _ _ _) rfl ?_
                  refine zw_iload_n 15 f126_14 rfl rfl ?_
                  refine zw_iaload a.toNatClampNeg 0 16 f126_15 rfl (hb_53 _ _ _ _) rfl hc1 (zix (by decide) hc1 (show ¬ 8 ≤ a from ix_le hp.1 (by decide) (by decide) hc1 hc2)) ((congrFun (hR.2.1 53 (by omega) (by omega)) a.toNatClampNeg).trans hk) ?_
                  refine zw_iconst 4 17 f126_16 rfl (by decide +kernel) ?_
                  refine zw_ic_ne_t 24 f126_17 (by decide +kernel) (by decide +kernel) ?_
                  refine zw_iconst 0 25 f126_24 rfl (by decide +kernel) ?_
                  refine zw_zreturn f126_25 r126 u126 (by decide +kernel) ⟨_, rfl, ?_⟩
                  refine zw_if_eq_t 30 f178_21 (by decide +kernel) (by decide +kernel) ?_
                  refine zw_aload_n 31 f178_30 rfl rfl ?_
                  refine zw_bipush 12 33 f178_31 rfl (by decide +kernel) ?_
                  refine zw_virtual_v 36 0 0 [.ref 52, .int 12] [(0, .ref 52), (1, .int 12)] f178_33 rfl n178_291 k178_291_12 rfl (hb_52 _ _ _ _) (by decide +kernel) (Nat.le_of_ble_eq_true rfl) rfl rfl (by decide +kernel) (by decide +kernel) rfl (Nat.le_of_ble_eq_true rfl) rfl ?_
                  refine zw_aload_n 1 f173_0 rfl rfl ?_
                  refine zw_getI 0 4 f173_1 rfl g173_246_12 (hb_52 _ _ _ _) rfl rfl ?_
                  refine zw_bipush 50 6 f173_4 rfl (by decide +kernel) ?_
                  refine zw_ic_ge_f 9 19 f173_6 (by decide +kernel) rfl (by decide +kernel) ?_
                  refine zw_aload_n 10 f173_9 rfl rfl ?_
                  refine zw_getfield 13 f173_10 rfl g173_74_12 (hb_52 _ _ _ _) rfl ?_
                  refine zw_aload_n 14 f173_13 rfl rfl ?_
                  refine zw_getI 0 17 f173_14 rfl g173_246_12 (hb_52 _ _ _ _) rfl rfl ?_
                  refine zw_iload_n 18 f173_17 rfl rfl ?_
                  refine zw_ast 0 _ 19 f173_18 rfl (hb_71 _ _ _ _) (by decide +kernel) (by decide +kernel) (by decide +kernel) (ha_71 _ _ _ _ _) ?_
                  refine zw_aload_n 20 f173_19 rfl rfl ?_
                  refine zw_dup 21 f173_20 rfl rfl ?_
                  refine zw_getI 0 24 f173_21 rfl g173_246_12 (hb_52 _ _ _ _) rfl rfl ?_
                  refine zw_iconst 1 25 f173_24 rfl (by decide +kernel) ?_
                  refine zw_iadd 1 26 f173_25 rfl (by decide +kernel) ?_
                  refine zw_put _ 29 f173_26 rfl g173_246_12 (hb_52 _ _ _ _) rfl (Nat.le_of_ble_eq_true rfl) (by decide +kernel) (hi_52_29 _ _ _ _ _) ?_
                  refine zw_vreturn f173_29 r173 u173 ⟨rfl, ?_⟩
                  refine zw_iload_n 37 f178_36 rfl rfl ?_
                  refine zw_aload_n 38 f178_37 rfl rfl ?_
                  refine zw_getfield 41 f178_38 rfl g178_13_12 (hb_52 _ _ _ _) rfl ?_
                  refine zw_iload_n 42 f178_41 rfl rfl ?_
                  refine zw_iaload a.toNatClampNeg (P 54 a.toNatClampNeg) 43 f178_42 rfl (hb_54 _ _ _ _) rfl hc1 (zix (by decide) hc1 (show ¬ 8 ≤ a from ix_le hp.1 (by decide) (by decide) hc1 hc2)) (congrFun ((hR.2.1 54 (by omega) (by omega))) a.toNatClampNeg) ?_
                  refine zw_ixor (c ^^^ (P 54 a.toNatClampNeg)) 44 f178_43 rfl rfl ?_
                  refine zw_aload_n 45 f178_44 rfl rfl ?_
                  refine zw_iload_n 46 f178_45 rfl rfl ?_
                  refine zw_virtual_i 49 0 0 [.ref 52, .int a] [(0, .ref 52), (1, .int a)] f178_46 rfl n178_158 k178_158_12 rfl (hb_52 _ _ _ _) (by decide +kernel) (Nat.le_of_ble_eq_true rfl) rfl rfl (by decide +kernel) (by decide +kernel) rfl (Nat.le_of_ble_eq_true rfl) rfl ?_
                  refine zw_aload_n 1 f126_0 rfl rfl ?_
                  refine zw_getfield 4 f126_1 rfl g126_7_12 (hb_52 _ _ _ _) rfl ?_
                  refine zw_iload_n 5 f126_4 rfl rfl ?_
                  refine zw_iaload a.toNatClampNeg 0 6 f126_5 rfl (hb_53 _ _ _ _) rfl hc1 (zix (by decide) hc1 (show ¬ 8 ≤ a from ix_le hp.1 (by decide) (by decide) hc1 hc2)) ((congrFun (hR.2.1 53 (by omega) (by omega)) a.toNatClampNeg).trans hk) ?_
                  refine zw_iconst 3 7 f126_6 rfl (by decide +kernel) ?_
                  refine zw_ic_eq_f 10 20 f126_7 (by decide +kernel) rfl (by decide +kernel) ?_
                  refine zw_aload_n 11 f126_10 rfl rfl ?_
                  refine zw_getfield 14 f126_11 rfl g126_7_12 (hb_52 _ _ _ _) rfl ?_
                  refine zw_iload_n 15 f126_14 rfl rfl ?_
                  refine zw_iaload a.toNatClampNeg 0 16 f126_15 rfl (hb_53 _ _ _ _) rfl hc1 (zix (by decide) hc1 (show ¬ 8 ≤ a from ix_le hp.1 (by decide) (by decide) hc1 hc2)) ((congrFun (hR.2.1 53 (by omega) (by omega)) a.toNatClampNeg).trans hk) ?_
                  refine zw_iconst 4 17 f126_16 rfl (by decide +kernel) ?_
                  refine zw_ic_ne_t 24 f126_17 (by decide +kernel) (by decide +kernel) ?_
                  refine zw_iconst 0 25 f126_24 rfl (by decide +kernel) ?_
                  refine zw_zreturn f126_25 r126 u126 (by decide +kernel) ⟨_, rfl, ?_⟩
                  refine zw_if_eq_t 61 f178_49 (by decide +kernel) (by decide +kernel) ?_
                  refine zw_iconst 0 62 f178_61 rfl (by decide +kernel) ?_
                  refine zw_iadd ((c ^^^ (P 54 a.toNatClampNeg)) + 0) 63 f178_62 rfl rfl ?_
                  refine zw_aload_n 64 f178_63 rfl rfl ?_
                  refine zw_getfield 67 f178_64 rfl g178_7_12 (hb_52 _ _ _ _) rfl ?_
                  refine zw_iload_n 68 f178_67 rfl rfl ?_
                  refine zw_iaload a.toNatClampNeg 0 69 f178_68 rfl (hb_53 _ _ _ _) rfl hc1 (zix (by decide) hc1 (show ¬ 8 ≤ a from ix_le hp.1 (by decide) (by decide) hc1 hc2)) ((congrFun (hR.2.1 53 (by omega) (by omega)) a.toNatClampNeg).trans hk) ?_
                  refine zw_iconst 4 70 f178_69 rfl (by decide +kernel) ?_
                  refine zw_ic_ne_t 82 f178_70 (by decide +kernel) (by decide +kernel) ?_
                  refine zw_iconst 0 83 f178_82 rfl (by decide +kernel) ?_
                  refine zw_iadd (((c ^^^ (P 54 a.toNatClampNeg)) + 0) + 0) 84 f178_83 rfl rfl ?_
                  refine zw_ireturn f178_84 r178 u178 ⟨_, rfl, ?_⟩
                  refine zw_goto 76 f180_67 (by decide +kernel) ?_
                  refine zw_virtual_i 79 0 0 [.ref 52, .int (((c ^^^ (P 54 a.toNatClampNeg)) + 0) + 0)] [(0, .ref 52), (1, .int (((c ^^^ (P 54 a.toNatClampNeg)) + 0) + 0))] f180_76 rfl n180_205 k180_205_12 rfl (hb_52 _ _ _ _) (by decide +kernel) (Nat.le_of_ble_eq_true rfl) rfl rfl (by decide +kernel) (by decide +kernel) rfl (Nat.le_of_ble_eq_true rfl) rfl ?_
                  refine zw_aload_n 1 f122_0 rfl rfl ?_
                  refine zw_iconst 0 2 f122_1 rfl (by decide +kernel) ?_
                  refine zw_put _ 5 f122_2 rfl g122_111_12 (hb_52 _ _ _ _) rfl (Nat.le_of_ble_eq_true rfl) (by decide +kernel) (hi_52_27 _ _ _ _ _) ?_
                  refine zw_iload_n 6 f122_5 rfl rfl ?_
                  refine zw_ireturn f122_6 r122 u122 ⟨_, rfl, ?_⟩
                  refine zw_ireturn f180_79 r180 u180 ?_
                  exact ⟨_, _, _, _, rfl, (KQ.i rfl (KQ.i rfl (KQ.a rfl (KQ.i rfl KQ.rf)))), ⟨hi.1, hi.2.1, 1, by omega, (show _ = nI 1 from rfl)⟩, Or.inr ⟨⟨(qV.of (by omega) hc1 hc2), ⟨hc3, hc4⟩⟩, by rw [show an_tl (P 53 a.toNatClampNeg) b = [12] from ((cI_n hc5).trans ((cI_n hc6).trans ((cI_y (Decidable.of_not_not hc7)).trans (cI_y hk))))]; exact ⟨rfl, by intro i hi; rcases (show i = 0 by have q : i < 1 := hi; omega) with rfl <;> rfl⟩⟩, _, rfl⟩
                · refine zw_iaload a.toNatClampNeg 1 6 f178_5 rfl (hb_53 _ _ _ _) rfl hc1 (zix (by decide) hc1 (show ¬ 8 ≤ a from ix_le hp.1 (by decide) (by decide) hc1 hc2)) ((congrFun (hR.2.1 53 (by omega) (by omega)) a.toNatClampNeg).trans hk) ?_
                  refine zw_iconst 4 7 f178_6 rfl (by decide +kernel) ?_
                  refine zw_ic_ne_t 16 f178_7 (by decide +kernel) (by decide +kernel) ?_
                  refine zw_aload_n 17 f178_16 rfl rfl ?_
                  refine zw_iload_n 18 f178_17 rfl rfl ?_
                  refine zw_virtual_i 21 0 0 [.ref 52, .int a] [(0, .ref 52), (1, .int a)] f178_18 rfl n178_158 k178_158_12 rfl (hb_52 _ _ _ _) (by decide +kernel) (Nat.le_of_ble_eq_true rfl) rfl rfl (by decide +kernel) (by decide +kernel) rfl (Nat.le_of_ble_eq_true rfl) rfl ?_
                  refine zw_aload_n 1 f126_0 rfl rfl ?_
                  refine zw_getfield 4 f126_1 rfl g126_7_12 (hb_52 _ _ _ _) rfl ?_
                  refine zw_iload_n 5 f126_4 rfl rfl ?_
                  refine zw_iaload a.toNatClampNeg 1 6 f126_5 rfl (hb_53 _ _ _ _) rfl hc1 (zix (by decide) hc1 (show ¬ 8 ≤ a from ix_le hp.1 (by decide) (by decide) hc1 hc2)) ((congrFun (hR.2.1 53 (by omega) (by omega)) a.toNatClampNeg).trans hk) ?_
                  refine zw_iconst 3 7 f126_6 rfl (by decide +kernel) ?_
                  refine zw_ic_eq_f 10 20 f126_7 (by decide +kernel) rfl (by decide +kernel) ?_
                  refine zw_aload_n 11 f126_10 rfl rfl ?_
                  refine zw_getfield 14 f126_11 rfl g126_7_12 (hb_52 _ _ _ _) rfl ?_
                  refine zw_iload_n 15 f126_14 rfl rfl ?_
                  refine zw_iaload a.toNatClampNeg 1 16 f126_15 rfl (hb_53 _ _ _ _) rfl hc1 (zix (by decide) hc1 (show ¬ 8 ≤ a from ix_le hp.1 (by decide) (by decide) hc1 hc2)) ((congrFun (hR.2.1 53 (by omega) (by omega)) a.toNatClampNeg).trans hk) ?_
                  refine zw_iconst 4 17 f126_16 rfl (by decide +kernel) ?_
                  refine zw_ic_ne_t 24 f126_17 (by decide +kernel) (by decide +kernel) ?_
                  refine zw_iconst 0 25 f126_24 rfl (by decide +kernel) ?_
                  refine zw_zreturn f126_25 r126 u126 (by decide +kernel) ⟨_, rfl, ?_⟩
                  refine zw_if_eq_t 30 f178_21 (by decide +kernel) (by decide +kernel) ?_
                  refine zw_aload_n 31 f178_30 rfl rfl ?_
                  refine zw_bipush 12 33 f178_31 rfl (by decide +kernel) ?_
                  refine zw_virtual_v 36 0 0 [.ref 52, .int 12] [(0, .ref 52), (1, .int 12)] f178_33 rfl n178_291 k178_291_12 rfl (hb_52 _ _ _ _) (by decide +kernel) (Nat.le_of_ble_eq_true rfl) rfl rfl (by decide +kernel) (by decide +kernel) rfl (Nat.le_of_ble_eq_true rfl) rfl ?_
                  refine zw_aload_n 1 f173_0 rfl rfl ?_
                  refine zw_getI 0 4 f173_1 rfl g173_246_12 (hb_52 _ _ _ _) rfl rfl ?_
                  refine zw_bipush 50 6 f173_4 rfl (by decide +kernel) ?_
                  refine zw_ic_ge_f 9 19 f173_6 (by decide +kernel) rfl (by decide +kernel) ?_
                  refine zw_aload_n 10 f173_9 rfl rfl ?_
                  refine zw_getfield 13 f173_10 rfl g173_74_12 (hb_52 _ _ _ _) rfl ?_
                  refine zw_aload_n 14 f173_13 rfl rfl ?_
                  refine zw_getI 0 17 f173_14 rfl g173_246_12 (hb_52 _ _ _ _) rfl rfl ?_
                  refine zw_iload_n 18 f173_17 rfl rfl ?_
                  refine zw_ast 0 _ 19 f173_18 rfl (hb_71 _ _ _ _) (by decide +kernel) (by decide +kernel) (by decide +kernel) (ha_71 _ _ _ _ _) ?_
                  refine zw_aload_n 20 f173_19 rfl rfl ?_
                  refine zw_dup 21 f173_20 rfl rfl ?_
                  refine zw_getI 0 24 f173_21 rfl g173_246_12 (hb_52 _ _ _ _) rfl rfl ?_
                  refine zw_iconst 1 25 f173_24 rfl (by decide +kernel) ?_
                  refine zw_iadd 1 26 f173_25 rfl (by decide +kernel) ?_
                  refine zw_put _ 29 f173_26 rfl g173_246_12 (hb_52 _ _ _ _) rfl (Nat.le_of_ble_eq_true rfl) (by decide +kernel) (hi_52_29 _ _ _ _ _) ?_
                  refine zw_vreturn f173_29 r173 u173 ⟨rfl, ?_⟩
                  refine zw_iload_n 37 f178_36 rfl rfl ?_
                  refine zw_aload_n 38 f178_37 rfl rfl ?_
                  refine zw_getfield 41 f178_38 rfl g178_13_12 (hb_52 _ _ _ _) rfl ?_
                  refine zw_iload_n 42 f178_41 rfl rfl ?_
                  refine zw_iaload a.toNatClampNeg (P 54 a.toNatClampNeg) 43 f178_42 rfl (hb_54 _ _ _ _) rfl hc1 (zix (by decide) hc1 (show ¬ 8 ≤ a from ix_le hp.1 (by decide) (by decide) hc1 hc2)) (congrFun ((hR.2.1 54 (by omega) (by omega))) a.toNatClampNeg) ?_
                  refine zw_ixor (c ^^^ (P 54 a.toNatClampNeg)) 44 f178_43 rfl rfl ?_
                  refine zw_aload_n 45 f178_44 rfl rfl ?_
                  refine zw_iload_n 46 f178_45 rfl rfl ?_
                  refine zw_virtual_i 49 0 0 [.ref 52, .int a] [(0, .ref 52), (1, .int a)] f178_46 rfl n178_158 k178_158_12 rfl (hb_52 _ _ _ _) (by decide +kernel) (Nat.le_of_ble_eq_true rfl) rfl rfl (by decide +kernel) (by decide +kernel) rfl (Nat.le_of_ble_eq_true rfl) rfl ?_
                  refine zw_aload_n 1 f126_0 rfl rfl ?_
                  refine zw_getfield 4 f126_1 rfl g126_7_12 (hb_52 _ _ _ _) rfl ?_
                  refine zw_iload_n 5 f126_4 rfl rfl ?_
                  refine zw_iaload a.toNatClampNeg 1 6 f126_5 rfl (hb_53 _ _ _ _) rfl hc1 (zix (by decide) hc1 (show ¬ 8 ≤ a from ix_le hp.1 (by decide) (by decide) hc1 hc2)) ((congrFun (hR.2.1 53 (by omega) (by omega)) a.toNatClampNeg).trans hk) ?_
                  refine zw_iconst 3 7 f126_6 rfl (by decide +kernel) ?_
                  refine zw_ic_eq_f 10 20 f126_7 (by decide +kernel) rfl (by decide +kernel) ?_
                  refine zw_aload_n 11 f126_10 rfl rfl ?_
                  refine zw_getfield 14 f126_11 rfl g126_7_12 (hb_52 _ _ _ _) rfl ?_
                  refine zw_iload_n 15 f126_14 rfl rfl ?_
                  refine zw_iaload a.toNatClampNeg 1 16 f126_15 rfl (hb_53 _ _ _ _) rfl hc1 (zix (by decide) hc1 (show ¬ 8 ≤ a from ix_le hp.1 (by decide) (by decide) hc1 hc2)) ((congrFun (hR.2.1 53 (by omega) (by omega)) a.toNatClampNeg).trans hk) ?_
                  refine zw_iconst 4 17 f126_16 rfl (by decide +kernel) ?_
                  refine zw_ic_ne_t 24 f126_17 (by decide +kernel) (by decide +kernel) ?_
                  refine zw_iconst 0 25 f126_24 rfl (by decide +kernel) ?_
                  refine zw_zreturn f126_25 r126 u126 (by decide +kernel) ⟨_, rfl, ?_⟩
                  refine zw_if_eq_t 61 f178_49 (by decide +kernel) (by decide +kernel) ?_
                  refine zw_iconst 0 62 f178_61 rfl (by decide +kernel) ?_
                  refine zw_iadd ((c ^^^ (P 54 a.toNatClampNeg)) + 0) 63 f178_62 rfl rfl ?_
                  refine zw_aload_n 64 f178_63 rfl rfl ?_
                  refine zw_getfield 67 f178_64 rfl g178_7_12 (hb_52 _ _ _ _) rfl ?_
                  refine zw_iload_n 68 f178_67 rfl rfl ?_
                  refine zw_iaload a.toNatClampNeg 1 69 f178_68 rfl (hb_53 _ _ _ _) rfl hc1 (zix (by decide) hc1 (show ¬ 8 ≤ a from ix_le hp.1 (by decide) (by decide) hc1 hc2)) ((congrFun (hR.2.1 53 (by omega) (by omega)) a.toNatClampNeg).trans hk) ?_
                  refine zw_iconst 4 70 f178_69 rfl (by decide +kernel) ?_
                  refine zw_ic_ne_t 82 f178_70 (by decide +kernel) (by decide +kernel) ?_
                  refine zw_iconst 0 83 f178_82 rfl (by decide +kernel) ?_
                  refine zw_iadd (((c ^^^ (P 54 a.toNatClampNeg)) + 0) + 0) 84 f178_83 rfl rfl ?_
                  refine zw_ireturn f178_84 r178 u178 ⟨_, rfl, ?_⟩
                  refine zw_goto 76 f180_67 (by decide +kernel) ?_
                  refine zw_virtual_i 79 0 0 [.ref 52, .int (((c ^^^ (P 54 a.toNatClampNeg)) + 0) + 0)] [(0, .ref 52), (1, .int (((c ^^^ (P 54 a.toNatClampNeg)) + 0) + 0))] f180_76 rfl n180_205 k180_205_12 rfl (hb_52 _ _ _ _) (by decide +kernel) (Nat.le_of_ble_eq_true rfl) rfl rfl (by decide +kernel) (by decide +kernel) rfl (Nat.le_of_ble_eq_true rfl) rfl ?_
                  refine zw_aload_n 1 f122_0 rfl rfl ?_
                  refine zw_iconst 0 2 f122_1 rfl (by decide +kernel) ?_
                  refine zw_put _ 5 f122_2 rfl g122_111_12 (hb_52 _ _ _ _) rfl (Nat.le_of_ble_eq_true rfl) (by decide +kernel) (hi_52_27 _ _ _ _ _) ?_
                  refine zw_iload_n 6 f122_5 rfl rfl ?_
                  refine zw_ireturn f122_6 r122 u122 ⟨_, rfl, ?_⟩
                  refine zw_ireturn f180_79 r180 u180 ?_
                  exact ⟨_, _, _, _, rfl, (KQ.i rfl (KQ.i rfl (KQ.a rfl (KQ.i rfl KQ.rf)))), ⟨hi.1, hi.2.1, 1, by omega, (show _ = nI 1 from rfl)⟩, Or.inr ⟨⟨(qV.of (by omega) hc1 hc2), ⟨hc3, hc4⟩⟩, by rw [show an_tl (P 53 a.toNatClampNeg) b = [12] from ((cI_n hc5).trans ((cI_n hc6).trans ((cI_y (Decidable.of_not_not hc7)).trans ((cI_n (kne hk (by decide))).trans (cI_y hk)))))]; exact ⟨rfl, by intro i hi; rcases (show i = 0 by have q : i < 1 := hi; omega) with rfl <;> rfl⟩⟩, _, rfl⟩
                · refine zw_iaload a.toNatClampNeg 2 6 f178_5 rfl (hb_53 _ _ _ _) rfl hc1 (zix (by decide) hc1 (show ¬ 8 ≤ a from ix_le hp.1 (by decide) (by decide) hc1 hc2)) ((congrFun (hR.2.1 53 (by omega) (by omega)) a.toNatClampNeg).trans hk) ?_
                  refine zw_iconst 4 7 f178_6 rfl (by decide +kernel) ?_
                  refine zw_ic_ne_t 16 f178_7 (by decide +kernel) (by decide +kernel) ?_
                  refine zw_aload_n 17 f178_16 rfl rfl ?_
                  refine zw_iload_n 18 f178_17 rfl rfl ?_
                  refine zw_virtual_i 21 0 0 [.ref 52, .int a] [(0, .ref 52), (1, .int a)] f178_18 rfl n178_158 k178_158_12 rfl (hb_52 _ _ _ _) (by decide +kernel) (Nat.le_of_ble_eq_true rfl) rfl rfl (by decide +kernel) (by decide +kernel) rfl (Nat.le_of_ble_eq_true rfl) rfl ?_
                  refine zw_aload_n 1 f126_0 rfl rfl ?_
                  refine zw_getfield 4 f126_1 rfl g126_7_12 (hb_52 _ _ _ _) rfl ?_
                  refine zw_iload_n 5 f126_4 rfl rfl ?_
                  refine zw_iaload a.toNatClampNeg 2 6 f126_5 rfl (hb_53 _ _ _ _) rfl hc1 (zix (by decide) hc1 (show ¬ 8 ≤ a from ix_le hp.1 (by decide) (by decide) hc1 hc2)) ((congrFun (hR.2.1 53 (by omega) (by omega)) a.toNatClampNeg).trans hk) ?_
                  refine zw_iconst 3 7 f126_6 rfl (by decide +kernel) ?_
                  refine zw_ic_eq_f 10 20 f126_7 (by decide +kernel) rfl (by decide +kernel) ?_
                  refine zw_aload_n 11 f126_10 rfl rfl ?_
                  refine zw_getfield 14 f126_11 rfl g126_7_12 (hb_52 _ _ _ _) rfl ?_
                  refine zw_iload_n 15 f126_14 rfl rfl ?_
                  refine zw_iaload a.toNatClampNeg 2 16 f126_15 rfl (hb_53 _ _ _ _) rfl hc1 (zix (by decide) hc1 (show ¬ 8 ≤ a from ix_le hp.1 (by decide) (by decide) hc1 hc2)) ((congrFun (hR.2.1 53 (by omega) (by omega)) a.toNatClampNeg).trans hk) ?_
                  refine zw_iconst 4 17 f126_16 rfl (by decide +kernel) ?_
                  refine zw_ic_ne_t 24 f126_17 (by decide +kernel) (by decide +kernel) ?_
                  refine zw_iconst 0 25 f126_24 rfl (by decide +kernel) ?_
                  refine zw_zreturn f126_25 r126 u126 (by decide +kernel) ⟨_, rfl, ?_⟩
                  refine zw_if_eq_t 30 f178_21 (by decide +kernel) (by decide +kernel) ?_
                  refine zw_aload_n 31 f178_30 rfl rfl ?_
                  refine zw_bipush 12 33 f178_31 rfl (by decide +kernel) ?_
                  refine zw_virtual_v 36 0 0 [.ref 52, .int 12] [(0, .ref 52), (1, .int 12)] f178_33 rfl n178_291 k178_291_12 rfl (hb_52 _ _ _ _) (by decide +kernel) (Nat.le_of_ble_eq_true rfl) rfl rfl (by decide +kernel) (by decide +kernel) rfl (Nat.le_of_ble_eq_true rfl) rfl ?_
                  refine zw_aload_n 1 f173_0 rfl rfl ?_
                  refine zw_getI 0 4 f173_1 rfl g173_246_12 (hb_52 _ _ _ _) rfl rfl ?_
                  refine zw_bipush 50 6 f173_4 rfl (by decide +kernel) ?_
                  refine zw_ic_ge_f 9 19 f173_6 (by decide +kernel) rfl (by decide +kernel) ?_
                  refine zw_aload_n 10 f173_9 rfl rfl ?_
                  refine zw_getfield 13 f173_10 rfl g173_74_12 (hb_52 _ _ _ _) rfl ?_
                  refine zw_aload_n 14 f173_13 rfl rfl ?_
                  refine zw_getI 0 17 f173_14 rfl g173_246_12 (hb_52 _ _ _ _) rfl rfl ?_
                  refine zw_iload_n 18 f173_17 rfl rfl ?_
                  refine zw_ast 0 _ 19 f173_18 rfl (hb_71 _ _ _ _) (by decide +kernel) (by decide +kernel) (by decide +kernel) (ha_71 _ _ _ _ _) ?_
                  refine zw_aload_n 20 f173_19 rfl rfl ?_
                  refine zw_dup 21 f173_20 rfl rfl ?_
                  refine zw_getI 0 24 f173_21 rfl g173_246_12 (hb_52 _ _ _ _) rfl rfl ?_
                  refine zw_iconst 1 25 f173_24 rfl (by decide +kernel) ?_
                  refine zw_iadd 1 26 f173_25 rfl (by decide +kernel) ?_
                  refine zw_put _ 29 f173_26 rfl g173_246_12 (hb_52 _ _ _ _) rfl (Nat.le_of_ble_eq_true rfl) (by decide +kernel) (hi_52_29 _ _ _ _ _) ?_
                  refine zw_vreturn f173_29 r173 u173 ⟨rfl, ?_⟩
                  refine zw_iload_n 37 f178_36 rfl rfl ?_
                  refine zw_aload_n 38 f178_37 rfl rfl ?_
                  refine zw_getfield 41 f178_38 rfl g178_13_12 (hb_52 _ _ _ _) rfl ?_
                  refine zw_iload_n 42 f178_41 rfl rfl ?_
                  refine zw_iaload a.toNatClampNeg (P 54 a.toNatClampNeg) 43 f178_42 rfl (hb_54 _ _ _ _) rfl hc1 (zix (by decide) hc1 (show ¬ 8 ≤ a from ix_le hp.1 (by decide) (by decide) hc1 hc2)) (congrFun ((hR.2.1 54 (by omega) (by omega))) a.toNatClampNeg) ?_
                  refine zw_ixor (c ^^^ (P 54 a.toNatClampNeg)) 44 f178_43 rfl rfl ?_
                  refine zw_aload_n 45 f178_44 rfl rfl ?_
                  refine zw_iload_n 46 f178_45 rfl rfl ?_
                  refine zw_virtual_i 49 0 0 [.ref 52, .int a] [(0, .ref 52), (1, .int a)] f178_46 rfl n178_158 k178_158_12 rfl (hb_52 _ _ _ _) (by decide +kernel) (Nat.le_of_ble_eq_true rfl) rfl rfl (by decide +kernel) (by decide +kernel) rfl (Nat.le_of_ble_eq_true rfl) rfl ?_
                  refine zw_aload_n 1 f126_0 rfl rfl ?_
                  refine zw_getfield 4 f126_1 rfl g126_7_12 (hb_52 _ _ _ _) rfl ?_
                  refine zw_iload_n 5 f126_4 rfl rfl ?_
                  refine zw_iaload a.toNatClampNeg 2 6 f126_5 rfl (hb_53 _ _ _ _) rfl hc1 (zix (by decide) hc1 (show ¬ 8 ≤ a from ix_le hp.1 (by decide) (by decide) hc1 hc2)) ((congrFun (hR.2.1 53 (by omega) (by omega)) a.toNatClampNeg).trans hk) ?_
                  refine zw_iconst 3 7 f126_6 rfl (by decide +kernel) ?_
                  refine zw_ic_eq_f 10 20 f126_7 (by decide +kernel) rfl (by decide +kernel) ?_
                  refine zw_aload_n 11 f126_10 rfl rfl ?_
                  refine zw_getfield 14 f126_11 rfl g126_7_12 (hb_52 _ _ _ _) rfl ?_
                  refine zw_iload_n 15 f126_14 rfl rfl ?_
                  refine zw_iaload a.toNatClampNeg 2 16 f126_15 rfl (hb_53 _ _ _ _) rfl hc1 (zix (by decide) hc1 (show ¬ 8 ≤ a from ix_le hp.1 (by decide) (by decide) hc1 hc2)) ((congrFun (hR.2.1 53 (by omega) (by omega)) a.toNatClampNeg).trans hk) ?_
                  refine zw_iconst 4 17 f126_16 rfl (by decide +kernel) ?_
                  refine zw_ic_ne_t 24 f126_17 (by decide +kernel) (by decide +kernel) ?_
                  refine zw_iconst 0 25 f126_24 rfl (by decide +kernel) ?_
                  refine zw_zreturn f126_25 r126 u126 (by decide +kernel) ⟨_, rfl, ?_⟩
                  refine zw_if_eq_t 61 f178_49 (by decide +kernel) (by decide +kernel) ?_
                  refine zw_iconst 0 62 f178_61 rfl (by decide +kernel) ?_
                  refine zw_iadd ((c ^^^ (P 54 a.toNatClampNeg)) + 0) 63 f178_62 rfl rfl ?_
                  refine zw_aload_n 64 f178_63 rfl rfl ?_
                  refine zw_getfield 67 f178_64 rfl g178_7_12 (hb_52 _ _ _ _) rfl ?_
                  refine zw_iload_n 68 f178_67 rfl rfl ?_
                  refine zw_iaload a.toNatClampNeg 2 69 f178_68 rfl (hb_53 _ _ _ _) rfl hc1 (zix (by decide) hc1 (show ¬ 8 ≤ a from ix_le hp.1 (by decide) (by decide) hc1 hc2)) ((congrFun (hR.2.1 53 (by omega) (by omega)) a.toNatClampNeg).trans hk) ?_
                  refine zw_iconst 4 70 f178_69 rfl (by decide +kernel) ?_
                  refine zw_ic_ne_t 82 f178_70 (by decide +kernel) (by decide +kernel) ?_
                  refine zw_iconst 0 83 f178_82 rfl (by decide +kernel) ?_
                  refine zw_iadd (((c ^^^ (P 54 a.toNatClampNeg)) + 0) + 0) 84 f178_83 rfl rfl ?_
                  refine zw_ireturn f178_84 r178 u178 ⟨_, rfl, ?_⟩
                  refine zw_goto 76 f180_67 (by decide +kernel) ?_
                  refine zw_virtual_i 79 0 0 [.ref 52, .int (((c ^^^ (P 54 a.toNatClampNeg)) + 0) + 0)] [(0, .ref 52), (1, .int (((c ^^^ (P 54 a.toNatClampNeg)) + 0) + 0))] f180_76 rfl n180_205 k180_205_12 rfl (hb_52 _ _ _ _) (by decide +kernel) (Nat.le_of_ble_eq_true rfl) rfl rfl (by decide +kernel) (by decide +kernel) rfl (Nat.le_of_ble_eq_true rfl) rfl ?_
                  refine zw_aload_n 1 f122_0 rfl rfl ?_
                  refine zw_iconst 0 2 f122_1 rfl (by decide +kernel) ?_
                  refine zw_put _ 5 f122_2 rfl g122_111_12 (hb_52 _ _ _ _) rfl (Nat.le_of_ble_eq_true rfl) (by decide +kernel) (hi_52_27 _ _ _ _ _) ?_
                  refine zw_iload_n 6 f122_5 rfl rfl ?_
                  refine zw_ireturn f122_6 r122 u122 ⟨_, rfl, ?_⟩
                  refine zw_ireturn f180_79 r180 u180 ?_
                  exact ⟨_, _, _, _, rfl, (KQ.i rfl (KQ.i rfl (KQ.a rfl (KQ.i rfl KQ.rf)))), ⟨hi.1, hi.2.1, 1, by omega, (show _ = nI 1 from rfl)⟩, Or.inr ⟨⟨(qV.of (by omega) hc1 hc2), ⟨hc3, hc4⟩⟩, by rw [show an_tl (P 53 a.toNatClampNeg) b = [12] from ((cI_n hc5).trans ((cI_n hc6).trans ((cI_y (Decidable.of_not_not hc7)).trans ((cI_n (kne hk (by decide))).trans ((cI_n (kne hk (by decide))).trans (cI_y hk))))))]; exact ⟨rfl, by intro i hi; rcases (show i = 0 by have q : i < 1 := hi; omega) with rfl <;> rfl⟩⟩, _, rfl⟩
                · refine zw_iaload a.toNatClampNeg 3 6 f178_5 rfl (hb_53 _ _ _ _) rfl hc1 (zix (by decide) hc1 (show ¬ 8 ≤ a from ix_le hp.1 (by decide) (by decide) hc1 hc2)) ((congrFun (hR.2.1 53 (by omega) (by omega)) a.toNatClampNeg).trans hk) ?_
                  refine zw_iconst 4 7 f178_6 rfl (by decide +kernel) ?_
                  refine zw_ic_ne_t 16 f178_7 (by decide +kernel) (by decide +kernel) ?_
                  refine zw_aload_n 17 f178_16 rfl rfl ?_
                  refine zw_iload_n 18 f178_17 rfl rfl ?_
                  refine zw_virtual_i 21 0 0 [.ref 52, .int a] [(0, .ref 52), (1, .int a)] f178_18 rfl n178_158 k178_158_12 rfl (hb_52 _ _ _ _) (by decide +kernel) (Nat.le_of_ble_eq_true rfl) rfl rfl (by decide +kernel) (by decide +kernel) rfl (Nat.le_of_ble_eq_true rfl) rfl ?_
                  refine zw_aload_n 1 f126_0 rfl rfl ?_
                  refine zw_getfield 4 f126_1 rfl g126_7_12 (hb_52 _ _ _ _) rfl ?_
                  refine zw_iload_n 5 f126_4 rfl rfl ?_
                  refine zw_iaload a.toNatClampNeg 3 6 f126_5 rfl (hb_53 _ _ _ _) rfl hc1 (zix (by decide) hc1 (show ¬ 8 ≤ a from ix_le hp.1 (by decide) (by decide) hc1 hc2)) ((congrFun (hR.2.1 53 (by omega) (by omega)) a.toNatClampNeg).trans hk) ?_
                  refine zw_iconst 3 7 f126_6 rfl (by decide +kernel) ?_
                  refine zw_ic_eq_t 20 f126_7 (by decide +kernel) (by decide +kernel) ?_
                  refine zw_iconst 1 21 f126_20 rfl (by decide +kernel) ?_
                  refine zw_goto 25 f126_21 (by decide +kernel) ?_
                  refine zw_zreturn f126_25 r126 u126 (by decide +kernel) ⟨_, rfl, ?_⟩
                  refine zw_if_eq_f 24 30 f178_21 (by decide +kernel) rfl (by decide +kernel) ?_
                  refine zw_aload_n 25 f178_24 rfl rfl ?_
                  refine zw_bipush 40 27 f178_25 rfl (by decide +kernel) ?_
                  refine zw_virtual_v 30 0 0 [.ref 52, .int 40] [(0, .ref 52), (1, .int 40)] f178_27 rfl n178_291 k178_291_12 rfl (hb_52 _ _ _ _) (by decide +kernel) (Nat.le_of_ble_eq_true rfl) rfl rfl (by decide +kernel) (by decide +kernel) rfl (Nat.le_of_ble_eq_true rfl) rfl ?_
                  refine zw_aload_n 1 f173_0 rfl rfl ?_
                  refine zw_getI 0 4 f173_1 rfl g173_246_12 (hb_52 _ _ _ _) rfl rfl ?_
                  refine zw_bipush 50 6 f173_4 rfl (by decide +kernel) ?_
                  refine zw_ic_ge_f 9 19 f173_6 (by decide +kernel) rfl (by decide +kernel) ?_
                  refine zw_aload_n 10 f173_9 rfl rfl ?_
                  refine zw_getfield 13 f173_10 rfl g173_74_12 (hb_52 _ _ _ _) rfl ?_
                  refine zw_aload_n 14 f173_13 rfl rfl ?_
                  refine zw_getI 0 17 f173_14 rfl g173_246_12 (hb_52 _ _ _ _) rfl rfl ?_
                  refine zw_iload_n 18 f173_17 rfl rfl ?_
                  refine zw_ast 0 _ 19 f173_18 rfl (hb_71 _ _ _ _) (by decide +kernel) (by decide +kernel) (by decide +kernel) (ha_71 _ _ _ _ _) ?_
                  refine zw_aload_n 20 f173_19 rfl rfl ?_
                  refine zw_dup 21 f173_20 rfl rfl ?_
                  refine zw_getI 0 24 f173_21 rfl g173_246_12 (hb_52 _ _ _ _) rfl rfl ?_
                  refine zw_iconst 1 25 f173_24 rfl (by decide +kernel) ?_
                  refine zw_iadd 1 26 f173_25 rfl (by decide +kernel) ?_
                  refine zw_put _ 29 f173_26 rfl g173_246_12 (hb_52 _ _ _ _) rfl (Nat.le_of_ble_eq_true rfl) (by decide +kernel) (hi_52_29 _ _ _ _ _) ?_
                  refine zw_vreturn f173_29 r173 u173 ⟨rfl, ?_⟩
                  refine zw_aload_n 31 f178_30 rfl rfl ?_
                  refine zw_bipush 12 33 f178_31 rfl (by decide +kernel) ?_
                  refine zw_virtual_v 36 0 0 [.ref 52, .int 12] [(0, .ref 52), (1, .int 12)] f178_33 rfl n178_291 k178_291_12 rfl (hb_52 _ _ _ _) (by decide +kernel) (Nat.le_of_ble_eq_true rfl) rfl rfl (by decide +kernel) (by decide +kernel) rfl (Nat.le_of_ble_eq_true rfl) rfl ?_
                  refine zw_aload_n 1 f173_0 rfl rfl ?_
                  refine zw_getI 1 4 f173_1 rfl g173_246_12 (hb_52 _ _ _ _) rfl rfl ?_
                  refine zw_bipush 50 6 f173_4 rfl (by decide +kernel) ?_
                  refine zw_ic_ge_f 9 19 f173_6 (by decide +kernel) rfl (by decide +kernel) ?_
                  refine zw_aload_n 10 f173_9 rfl rfl ?_
                  refine zw_getfield 13 f173_10 rfl g173_74_12 (hb_52 _ _ _ _) rfl ?_
                  refine zw_aload_n 14 f173_13 rfl rfl ?_
                  refine zw_getI 1 17 f173_14 rfl g173_246_12 (hb_52 _ _ _ _) rfl rfl ?_
                  refine zw_iload_n 18 f173_17 rfl rfl ?_
                  refine zw_ast 1 _ 19 f173_18 rfl (hb_71 _ _ _ _) (by decide +kernel) (by decide +kernel) (by decide +kernel) (ha_71 _ _ _ _ _) ?_
                  refine zw_aload_n 20 f173_19 rfl rfl ?_
                  refine zw_dup 21 f173_20 rfl rfl ?_
                  refine zw_getI 1 24 f173_21 rfl g173_246_12 (hb_52 _ _ _ _) rfl rfl ?_
                  refine zw_iconst 1 25 f173_24 rfl (by decide +kernel) ?_
                  refine zw_iadd 2 26 f173_25 rfl (by decide +kernel) ?_
                  refine zw_put _ 29 f173_26 rfl g173_246_12 (hb_52 _ _ _ _) rfl (Nat.le_of_ble_eq_true rfl) (by decide +kernel) (hi_52_29 _ _ _ _ _) ?_
                  refine zw_vreturn f173_29 r173 u173 ⟨rfl, ?_⟩
                  refine zw_iload_n 37 f178_36 rfl rfl ?_
                  refine zw_aload_n 38 f178_37 rfl rfl ?_
                  refine zw_getfield 41 f178_38 rfl g178_13_12 (hb_52 _ _ _ _) rfl ?_
                  refine zw_iload_n 42 f178_41 rfl rfl ?_
                  refine zw_iaload a.toNatClampNeg (P 54 a.toNatClampNeg) 43 f178_42 rfl (hb_54 _ _ _ _) rfl hc1 (zix (by decide) hc1 (show ¬ 8 ≤ a from ix_le hp.1 (by decide) (by decide) hc1 hc2)) (congrFun ((hR.2.1 54 (by omega) (by omega))) a.toNatClampNeg) ?_
                  refine zw_ixor (c ^^^ (P 54 a.toNatClampNeg)) 44 f178_43 rfl rfl ?_
                  refine zw_aload_n 45 f178_44 rfl rfl ?_
                  refine zw_iload_n 46 f178_45 rfl rfl ?_
                  refine zw_virtual_i 49 0 0 [.ref 52, .int a] [(0, .ref 52), (1, .int a)] f178_46 rfl n178_158 k178_158_12 rfl (hb_52 _ _ _ _) (by decide +kernel) (Nat.le_of_ble_eq_true rfl) rfl rfl (by decide +kernel) (by decide +kernel) rfl (Nat.le_of_ble_eq_true rfl) rfl ?_
                  refine zw_aload_n 1 f126_0 rfl rfl ?_
                  refine zw_getfield 4 f126_1 rfl g126_7_12 (hb_52 _ _ _ _) rfl ?_
                  refine zw_iload_n 5 f126_4 rfl rfl ?_
                  refine zw_iaload a.toNatClampNeg 3 6 f126_5 rfl (hb_53 _ _ _ _) rfl hc1 (zix (by decide) hc1 (show ¬ 8 ≤ a from ix_le hp.1 (by decide) (by decide) hc1 hc2)) ((congrFun (hR.2.1 53 (by omega) (by omega)) a.toNatClampNeg).trans hk) ?_
                  refine zw_iconst 3 7 f126_6 rfl (by decide +kernel) ?_
                  refine zw_ic_eq_t 20 f126_7 (by decide +kernel) (by decide +kernel) ?_
                  refine zw_iconst 1 21 f126_20 rfl (by decide +kernel) ?_
                  refine zw_goto 25 f126_21 (by decide +kernel) ?_
                  refine zw_zreturn f126_25 r126 u126 (by decide +kernel) ⟨_, rfl, ?_⟩
                  refine zw_if_eq_f 52 61 f178_49 (by decide +kernel) rfl (by decide +kernel) ?_
                  refine zw_aload_n 53 f178_52 rfl rfl ?_
                  refine zw_getfield 56 f178_53 rfl g178_19_12 (hb_52 _ _ _ _) rfl ?_
                  refine zw_iload_n 57 f178_56 rfl rfl ?_
                  refine zw_iaload a.toNatClampNeg (P 56 a.toNatClampNeg) 58 f178_57 rfl (hb_56 _ _ _ _) rfl hc1 (zix (by decide) hc1 (show ¬ 8 ≤ a from ix_le hp.1 (by decide) (by decide) hc1 hc2)) (congrFun ((hR.2.1 56 (by omega) (by omega))) a.toNatClampNeg) ?_
                  refine zw_goto 62 f178_58 (by decide +kernel) ?_
                  refine zw_iadd ((c ^^^ (P 54 a.toNatClampNeg)) + (P 56 a.toNatClampNeg)) 63 f178_62 rfl rfl ?_
                  refine zw_aload_n 64 f178_63 rfl rfl ?_
                  refine zw_getfield 67 f178_64 rfl g178_7_12 (hb_52 _ _ _ _) rfl ?_
                  refine zw_iload_n 68 f178_67 rfl rfl ?_
                  refine zw_iaload a.toNatClampNeg 3 69 f178_68 rfl (hb_53 _ _ _ _) rfl hc1 (zix (by decide) hc1 (show ¬ 8 ≤ a from ix_le hp.1 (by decide) (by decide) hc1 hc2)) ((congrFun (hR.2.1 53 (by omega) (by omega)) a.toNatClampNeg).trans hk) ?_
                  refine zw_iconst 4 70 f178_69 rfl (by decide +kernel) ?_
                  refine zw_ic_ne_t 82 f178_70 (by decide +kernel) (by decide +kernel) ?_
                  refine zw_iconst 0 83 f178_82 rfl (by decide +kernel) ?_
                  refine zw_iadd (((c ^^^ (P 54 a.toNatClampNeg)) + (P 56 a.toNatClampNeg)) + 0) 84 f178_83 rfl rfl ?_
                  refine zw_ireturn f178_84 r178 u178 ⟨_, rfl, ?_⟩
                  refine zw_goto 76 f180_67 (by decide +kernel) ?_
                  refine zw_virtual_i 79 0 0 [.ref 52, .int (((c ^^^ (P 54 a.toNatClampNeg)) + (P 56 a.toNatClampNeg)) + 0)] [(0, .ref 52), (1, .int (((c ^^^ (P 54 a.toNatClampNeg)) + (P 56 a.toNatClampNeg)) + 0))] f180_76 rfl n180_205 k180_205_12 rfl (hb_52 _ _ _ _) (by decide +kernel) (Nat.le_of_ble_eq_true rfl) rfl rfl (by decide +kernel) (by decide +kernel) rfl (Nat.le_of_ble_eq_true rfl) rfl ?_
                  refine zw_aload_n 1 f122_0 rfl rfl ?_
                  refine zw_iconst 0 2 f122_1 rfl (by decide +kernel) ?_
                  refine zw_put _ 5 f122_2 rfl g122_111_12 (hb_52 _ _ _ _) rfl (Nat.le_of_ble_eq_true rfl) (by decide +kernel) (hi_52_27 _ _ _ _ _) ?_
                  refine zw_iload_n 6 f122_5 rfl rfl ?_
                  refine zw_ireturn f122_6 r122 u122 ⟨_, rfl, ?_⟩
                  refine zw_ireturn f180_79 r180 u180 ?_
                  exact ⟨_, _, _, _, rfl, (KQ.i rfl (KQ.i rfl (KQ.a rfl (KQ.i rfl (KQ.a rfl (KQ.i rfl KQ.rf)))))), ⟨hi.1, hi.2.1, 2, by omega, (show _ = nI 2 from rfl)⟩, Or.inr ⟨⟨(qV.of (by omega) hc1 hc2), ⟨hc3, hc4⟩⟩, by rw [show an_tl (P 53 a.toNatClampNeg) b = [40, 12] from ((cI_n hc5).trans ((cI_n hc6).trans ((cI_y (Decidable.of_not_not hc7)).trans ((cI_n (kne hk (by decide))).trans ((cI_n (kne hk (by decide))).trans ((cI_n (kne hk (by decide))).trans (cI_y hk)))))))]; exact ⟨rfl, by intro i hi; rcases (show i = 0 ∨ i = 1 by have q : i < 2 := hi; omega) with rfl | rfl <;> rfl⟩⟩, _, rfl⟩
                · refine zw_iaload a.toNatClampNeg 4 6 f178_5 rfl (hb_53 _ _ _ _) rfl hc1 (zix (by decide) hc1 (show ¬ 8 ≤ a from ix_le hp.1 (by decide) (by decide) hc1 hc2)) ((congrFun (hR.2.1 53 (by omega) (by omega)) a.toNatClampNeg).trans hk) ?_
                  refine zw_iconst 4 7 f178_6 rfl (by decide +kernel) ?_
                  refine zw_ic_ne_f 10 16 f178_7 (by decide +kernel) rfl (by decide +kernel) ?_
                  refine zw_aload_n 11 f178_10 rfl rfl ?_
                  refine zw_bipush 50 13 f178_11 rfl (by decide +kernel) ?_
                  refine zw_virtual_v 16 0 0 [.ref 52, .int 50] [(0, .ref 52), (1, .int 50)] f178_13 rfl n178_291 k178_291_12 rfl (hb_52 _ _ _ _) (by decide +kernel) (Nat.le_of_ble_eq_true rfl) rfl rfl (by decide +kernel) (by decide +kernel) rfl (Nat.le_of_ble_eq_true rfl) rfl ?_
                  refine zw_aload_n 1 f173_0 rfl rfl ?_
                  refine zw_getI 0 4 f173_1 rfl g173_246_12 (hb_52 _ _ _ _) rfl rfl ?_
                  refine zw_bipush 50 6 f173_4 rfl (by decide +kernel) ?_
                  refine zw_ic_ge_f 9 19 f173_6 (by decide +kernel) rfl (by decide +kernel) ?_
                  refine zw_aload_n 10 f173_9 rfl rfl ?_
                  refine zw_getfield 13 f173_10 rfl g173_74_12 (hb_52 _ _ _ _) rfl ?_
                  refine zw_aload_n 14 f173_13 rfl rfl ?_
                  refine zw_getI 0 17 f173_14 rfl g173_246_12 (hb_52 _ _ _ _) rfl rfl ?_
                  refine zw_iload_n 18 f173_17 rfl rfl ?_
                  refine zw_ast 0 _ 19 f173_18 rfl (hb_71 _ _ _ _) (by decide +kernel) (by decide +kernel) (by decide +kernel) (ha_71 _ _ _ _ _) ?_
                  refine zw_aload_n 20 f173_19 rfl rfl ?_
                  refine zw_dup 21 f173_20 rfl rfl ?_
                  refine zw_getI 0 24 f173_21 rfl g173_246_12 (hb_52 _ _ _ _) rfl rfl ?_
                  refine zw_iconst 1 25 f173_24 rfl (by decide +kernel) ?_
                  refine zw_iadd 1 26 f173_25 rfl (by decide +kernel) ?_
                  refine zw_put _ 29 f173_26 rfl g173_246_12 (hb_52 _ _ _ _) rfl (Nat.le_of_ble_eq_true rfl) (by decide +kernel) (hi_52_29 _ _ _ _ _) ?_
                  refine zw_vreturn f173_29 r173 u173 ⟨rfl, ?_⟩
                  refine zw_aload_n 17 f178_16 rfl rfl ?_
                  refine zw_iload_n 18 f178_17 rfl rfl ?_
                  refine zw_virtual_i 21 0 0 [.ref 52, .int a] [(0, .ref 52), (1, .int a)] f178_18 rfl n178_158 k178_158_12 rfl (hb_52 _ _ _ _) (by decide +kernel) (Nat.le_of_ble_eq_true rfl) rfl rfl (by decide +kernel) (by decide +kernel) rfl (Nat.le_of_ble_eq_true rfl) rfl ?_
                  refine zw_aload_n 1 f126_0 rfl rfl ?_
                  refine zw_getfield 4 f126_1 rfl g126_7_12 (hb_52 _ _ _ _) rfl ?_
                  refine zw_iload_n 5 f126_4 rfl rfl ?_
                  refine zw_iaload a.toNatClampNeg 4 6 f126_5 rfl (hb_53 _ _ _ _) rfl hc1 (zix (by decide) hc1 (show ¬ 8 ≤ a from ix_le hp.1 (by decide) (by decide) hc1 hc2)) ((congrFun (hR.2.1 53 (by omega) (by omega)) a.toNatClampNeg).trans hk) ?_
                  refine zw_iconst 3 7 f126_6 rfl (by decide +kernel) ?_
                  refine zw_ic_eq_f 10 20 f126_7 (by decide +kernel) rfl (by decide +kernel) ?_
                  refine zw_aload_n 11 f126_10 rfl rfl ?_
                  refine zw_getfield 14 f126_11 rfl g126_7_12 (hb_52 _ _ _ _) rfl ?_
                  refine zw_iload_n 15 f126_14 rfl rfl ?_
                  refine zw_iaload a.toNatClampNeg 4 16 f126_15 rfl (hb_53 _ _ _ _) rfl hc1 (zix (by decide) hc1 (show ¬ 8 ≤ a from ix_le hp.1 (by decide) (by decide) hc1 hc2)) ((congrFun (hR.2.1 53 (by omega) (by omega)) a.toNatClampNeg).trans hk) ?_
                  refine zw_iconst 4 17 f126_16 rfl (by decide +kernel) ?_
                  refine zw_ic_ne_f 20 24 f126_17 (by decide +kernel) rfl (by decide +kernel) ?_
                  refine zw_iconst 1 21 f126_20 rfl (by decide +kernel) ?_
                  refine zw_goto 25 f126_21 (by decide +kernel) ?_
                  refine zw_zreturn f126_25 r126 u126 (by decide +kernel) ⟨_, rfl, ?_⟩
                  refine zw_if_eq_f 24 30 f178_21 (by decide +kernel) rfl (by decide +kernel) ?_
                  refine zw_aload_n 25 f178_24 rfl rfl ?_
                  refine zw_bipush 40 27 f178_25 rfl (by decide +kernel) ?_
                  refine zw_virtual_v 30 0 0 [.ref 52, .int 40] [(0, .ref 52), (1, .int 40)] f178_27 rfl n178_291 k178_291_12 rfl (hb_52 _ _ _ _) (by decide +kernel) (Nat.le_of_ble_eq_true rfl) rfl rfl (by decide +kernel) (by decide +kernel) rfl (Nat.le_of_ble_eq_true rfl) rfl ?_
                  refine zw_aload_n 1 f173_0 rfl rfl ?_
                  refine zw_getI 1 4 f173_1 rfl g173_246_12 (hb_52 _ _ _ _) rfl rfl ?_
                  refine zw_bipush 50 6 f173_4 rfl (by decide +kernel) ?_
                  refine zw_ic_ge_f 9 19 f173_6 (by decide +kernel) rfl (by decide +kernel) ?_
                  refine zw_aload_n 10 f173_9 rfl rfl ?_
                  refine zw_getfield 13 f173_10 rfl g173_74_12 (hb_52 _ _ _ _) rfl ?_
                  refine zw_aload_n 14 f173_13 rfl rfl ?_
                  refine zw_getI 1 17 f173_14 rfl g173_246_12 (hb_52 _ _ _ _) rfl rfl ?_
                  refine zw_iload_n 18 f173_17 rfl rfl ?_
                  refine zw_ast 1 _ 19 f173_18 rfl (hb_71 _ _ _ _) (by decide +kernel) (by decide +kernel) (by decide +kernel) (ha_71 _ _ _ _ _) ?_
                  refine zw_aload_n 20 f173_19 rfl rfl ?_
                  refine zw_dup 21 f173_20 rfl rfl ?_
                  refine zw_getI 1 24 f173_21 rfl g173_246_12 (hb_52 _ _ _ _) rfl rfl ?_
                  refine zw_iconst 1 25 f173_24 rfl (by decide +kernel) ?_
                  refine zw_iadd 2 26 f173_25 rfl (by decide +kernel) ?_
                  refine zw_put _ 29 f173_26 rfl g173_246_12 (hb_52 _ _ _ _) rfl (Nat.le_of_ble_eq_true rfl) (by decide +kernel) (hi_52_29 _ _ _ _ _) ?_
                  refine zw_vreturn f173_29 r173 u173 ⟨rfl, ?_⟩
                  refine zw_aload_n 31 f178_30 rfl rfl ?_
                  refine zw_bipush 12 33 f178_31 rfl (by decide +kernel) ?_
                  refine zw_virtual_v 36 0 0 [.ref 52, .int 12] [(0, .ref 52), (1, .int 12)] f178_33 rfl n178_291 k178_291_12 rfl (hb_52 _ _ _ _) (by decide +kernel) (Nat.le_of_ble_eq_true rfl) rfl rfl (by decide +kernel) (by decide +kernel) rfl (Nat.le_of_ble_eq_true rfl) rfl ?_
                  refine zw_aload_n 1 f173_0 rfl rfl ?_
                  refine zw_getI 2 4 f173_1 rfl g173_246_12 (hb_52 _ _ _ _) rfl rfl ?_
                  refine zw_bipush 50 6 f173_4 rfl (by decide +kernel) ?_
                  refine zw_ic_ge_f 9 19 f173_6 (by decide +kernel) rfl (by decide +kernel) ?_
                  refine zw_aload_n 10 f173_9 rfl rfl ?_
                  refine zw_getfield 13 f173_10 rfl g173_74_12 (hb_52 _ _ _ _) rfl ?_
                  refine zw_aload_n 14 f173_13 rfl rfl ?_
                  refine zw_getI 2 17 f173_14 rfl g173_246_12 (hb_52 _ _ _ _) rfl rfl ?_
                  refine zw_iload_n 18 f173_17 rfl rfl ?_
                  refine zw_ast 2 _ 19 f173_18 rfl (hb_71 _ _ _ _) (by decide +kernel) (by decide +kernel) (by decide +kernel) (ha_71 _ _ _ _ _) ?_
                  refine zw_aload_n 20 f173_19 rfl rfl ?_
                  refine zw_dup 21 f173_20 rfl rfl ?_
                  refine zw_getI 2 24 f173_21 rfl g173_246_12 (hb_52 _ _ _ _) rfl rfl ?_
                  refine zw_iconst 1 25 f173_24 rfl (by decide +kernel) ?_
                  refine zw_iadd 3 26 f173_25 rfl (by decide +kernel) ?_
                  refine zw_put _ 29 f173_26 rfl g173_246_12 (hb_52 _ _ _ _) rfl (Nat.le_of_ble_eq_true rfl) (by decide +kernel) (hi_52_29 _ _ _ _ _) ?_
                  refine zw_vreturn f173_29 r173 u173 ⟨rfl, ?_⟩
                  refine zw_iload_n 37 f178_36 rfl rfl ?_
                  refine zw_aload_n 38 f178_37 rfl rfl ?_
                  refine zw_getfield 41 f178_38 rfl g178_13_12 (hb_52 _ _ _ _) rfl ?_
                  refine zw_iload_n 42 f178_41 rfl rfl ?_
                  refine zw_iaload a.toNatClampNeg (P 54 a.toNatClampNeg) 43 f178_42 rfl (hb_54 _ _ _ _) rfl hc1 (zix (by decide) hc1 (show ¬ 8 ≤ a from ix_le hp.1 (by decide) (by decide) hc1 hc2)) (congrFun ((hR.2.1 54 (by omega) (by omega))) a.toNatClampNeg) ?_
                  refine zw_ixor (c ^^^ (P 54 a.toNatClampNeg)) 44 f178_43 rfl rfl ?_
                  refine zw_aload_n 45 f178_44 rfl rfl ?_
                  refine zw_iload_n 46 f178_45 rfl rfl ?_
                  refine zw_virtual_i 49 0 0 [.ref 52, .int a] [(0, .ref 52), (1, .int a)] f178_46 rfl n178_158 k178_158_12 rfl (hb_52 _ _ _ _) (by decide +kernel) (Nat.le_of_ble_eq_true rfl) rfl rfl (by decide +kernel) (by decide +kernel) rfl (Nat.le_of_ble_eq_true rfl) rfl ?_
                  refine zw_aload_n 1 f126_0 rfl rfl ?_
                  refine zw_getfield 4 f126_1 rfl g126_7_12 (hb_52 _ _ _ _) rfl ?_
                  refine zw_iload_n 5 f126_4 rfl rfl ?_
                  refine zw_iaload a.toNatClampNeg 4 6 f126_5 rfl (hb_53 _ _ _ _) rfl hc1 (zix (by decide) hc1 (show ¬ 8 ≤ a from ix_le hp.1 (by decide) (by decide) hc1 hc2)) ((congrFun (hR.2.1 53 (by omega) (by omega)) a.toNatClampNeg).trans hk) ?_
                  refine zw_iconst 3 7 f126_6 rfl (by decide +kernel) ?_
                  refine zw_ic_eq_f 10 20 f126_7 (by decide +kernel) rfl (by decide +kernel) ?_
                  refine zw_aload_n 11 f126_10 rfl rfl ?_
                  refine zw_getfield 14 f126_11 rfl g126_7_12 (hb_52 _ _ _ _) rfl ?_
                  refine zw_iload_n 15 f126_14 rfl rfl ?_
                  refine zw_iaload a.toNatClampNeg 4 16 f126_15 rfl (hb_53 _ _ _ _) rfl hc1 (zix (by decide) hc1 (show ¬ 8 ≤ a from ix_le hp.1 (by decide) (by decide) hc1 hc2)) ((congrFun (hR.2.1 53 (by omega) (by omega)) a.toNatClampNeg).trans hk) ?_
                  refine zw_iconst 4 17 f126_16 rfl (by decide +kernel) ?_
                  refine zw_ic_ne_f 20 24 f126_17 (by decide +kernel) rfl (by decide +kernel) ?_
                  refine zw_iconst 1 21 f126_20 rfl (by decide +kernel) ?_
                  refine zw_goto 25 f126_21 (by decide +kernel) ?_
                  refine zw_zreturn f126_25 r126 u126 (by decide +kernel) ⟨_, rfl, ?_⟩
                  refine zw_if_eq_f 52 61 f178_49 (by decide +kernel) rfl (by decide +kernel) ?_
                  refine zw_aload_n 53 f178_52 rfl rfl ?_
                  refine zw_getfield 56 f178_53 rfl g178_19_12 (hb_52 _ _ _ _) rfl ?_
                  refine zw_iload_n 57 f178_56 rfl rfl ?_
                  refine zw_iaload a.toNatClampNeg (P 56 a.toNatClampNeg) 58 f178_57 rfl (hb_56 _ _ _ _) rfl hc1 (zix (by decide) hc1 (show ¬ 8 ≤ a from ix_le hp.1 (by decide) (by decide) hc1 hc2)) (congrFun ((hR.2.1 56 (by omega) (by omega))) a.toNatClampNeg) ?_
                  refine zw_goto 62 f178_58 (by decide +kernel) ?_
                  refine zw_iadd ((c ^^^ (P 54 a.toNatClampNeg)) + (P 56 a.toNatClampNeg)) 63 f178_62 rfl rfl ?_
                  refine zw_aload_n 64 f178_63 rfl rfl ?_
                  refine zw_getfield 67 f178_64 rfl g178_7_12 (hb_52 _ _ _ _) rfl ?_
                  refine zw_iload_n 68 f178_67 rfl rfl ?_
                  refine zw_iaload a.toNatClampNeg 4 69 f178_68 rfl (hb_53 _ _ _ _) rfl hc1 (zix (by decide) hc1 (show ¬ 8 ≤ a from ix_le hp.1 (by decide) (by decide) hc1 hc2)) ((congrFun (hR.2.1 53 (by omega) (by omega)) a.toNatClampNeg).trans hk) ?_
                  refine zw_iconst 4 70 f178_69 rfl (by decide +kernel) ?_
                  refine zw_ic_ne_f 73 82 f178_70 (by decide +kernel) rfl (by decide +kernel) ?_
                  refine zw_aload_n 74 f178_73 rfl rfl ?_
                  refine zw_getfield 77 f178_74 rfl g178_55_12 (hb_52 _ _ _ _) rfl ?_
                  refine zw_iload_n 78 f178_77 rfl rfl ?_
                  refine zw_iaload a.toNatClampNeg ((W.2.2.2.2.2.2.2) a.toNatClampNeg) 79 f178_78 rfl (hb_66 _ _ _ _) rfl hc1 (zix (by decide) hc1 (show ¬ 8 ≤ a from ix_le hp.1 (by decide) (by decide) hc1 hc2)) (congrFun (hR.cnt) a.toNatClampNeg) ?_
                  refine zw_goto 83 f178_79 (by decide +kernel) ?_
                  refine zw_iadd (((c ^^^ (P 54 a.toNatClampNeg)) + (P 56 a.toNatClampNeg)) + ((W.2.2.2.2.2.2.2) a.toNatClampNeg)) 84 f178_83 rfl rfl ?_
                  refine zw_ireturn f178_84 r178 u178 ⟨_, rfl, ?_⟩
                  refine zw_goto 76 f180_67 (by decide +kernel) ?_
                  refine zw_virtual_i 79 0 0 [.ref 52, .int (((c ^^^ (P 54 a.toNatClampNeg)) + (P 56 a.toNatClampNeg)) + ((W.2.2.2.2.2.2.2) a.toNatClampNeg))] [(0, .ref 52), (1, .int (((c ^^^ (P 54 a.toNatClampNeg)) + (P 56 a.toNatClampNeg)) + ((W.2.2.2.2.2.2.2) a.toNatClampNeg)))] f180_76 rfl n180_205 k180_205_12 rfl (hb_52 _ _ _ _) (by decide +kernel) (Nat.le_of_ble_eq_true rfl) rfl rfl (by decide +kernel) (by decide +kernel) rfl (Nat.le_of_ble_eq_true rfl) rfl ?_
                  refine zw_aload_n 1 f122_0 rfl rfl ?_
                  refine zw_iconst 0 2 f122_1 rfl (by decide +kernel) ?_
                  refine zw_put _ 5 f122_2 rfl g122_111_12 (hb_52 _ _ _ _) rfl (Nat.le_of_ble_eq_true rfl) (by decide +kernel) (hi_52_27 _ _ _ _ _) ?_
                  refine zw_iload_n 6 f122_5 rfl rfl ?_
                  refine zw_ireturn f122_6 r122 u122 ⟨_, rfl, ?_⟩
                  refine zw_ireturn f180_79 r180 u180 ?_
                  exact ⟨_, _, _, _, rfl, (KQ.i rfl (KQ.i rfl (KQ.a rfl (KQ.i rfl (KQ.a rfl (KQ.i rfl (KQ.a rfl (KQ.i rfl KQ.rf)))))))), ⟨hi.1, hi.2.1, 3, by omega, (show _ = nI 3 from rfl)⟩, Or.inr ⟨⟨(qV.of (by omega) hc1 hc2), ⟨hc3, hc4⟩⟩, by rw [show an_tl (P 53 a.toNatClampNeg) b = [50, 40, 12] from ((cI_n hc5).trans ((cI_n hc6).trans ((cI_y (Decidable.of_not_not hc7)).trans ((cI_n (kne hk (by decide))).trans ((cI_n (kne hk (by decide))).trans ((cI_n (kne hk (by decide))).trans ((cI_n (kne hk (by decide))).trans (cI_y hk))))))))]; exact ⟨rfl, by intro i hi; rcases (show i = 0 ∨ i = 1 ∨ i = 2 by have q : i < 3 := hi; omega) with rfl | rfl | rfl <;> rfl⟩⟩, _, rfl⟩
            · refine zw_aload_n 48 f180_47 rfl rfl ?_
              refine zw_iload_n 49 f180_48 rfl rfl ?_
              refine zw_iload_n 50 f180_49 rfl rfl ?_
              refine zw_virtual_i 53 0 0 [.ref 52, .int a, .int c] [(0, .ref 52), (1, .int a), (2, .int c)] f180_50 rfl n180_304 k180_304_12 rfl (hb_52 _ _ _ _) (by decide +kernel) (Nat.le_of_ble_eq_true rfl) rfl rfl (by decide +kernel) (by decide +kernel) rfl (Nat.le_of_ble_eq_true rfl) rfl ?_
              refine zw_aload_n 1 f177_0 rfl rfl ?_
              refine zw_getfield 4 f177_1 rfl g177_7_12 (hb_52 _ _ _ _) rfl ?_
              refine zw_iload_n 5 f177_4 rfl rfl ?_
              rcases (k5 (hQ.1 a.toNatClampNeg ((qV.of (by omega) hc1 hc2)).1)) with hk | hk | hk | hk | hk
              · refine zw_iaload a.toNatClampNeg 0 6 f177_5 rfl (hb_53 _ _ _ _) rfl hc1 (zix (by decide) hc1 (show ¬ 8 ≤ a from ix_le hp.1 (by decide) (by decide) hc1 hc2)) ((congrFun (hR.2.1 53 (by omega) (by omega)) a.toNatClampNeg).trans hk) ?_
                refine zw_iconst 1 7 f177_6 rfl (by decide +kernel) ?_
                refine zw_ic_ne_t 30 f177_7 (by decide +kernel) (by decide +kernel) ?_
                refine zw_aload_n 31 f177_30 rfl rfl ?_
                refine zw_getfield 34 f177_31 rfl g177_7_12 (hb_52 _ _ _ _) rfl ?_
                refine zw_iload_n 35 f177_34 rfl rfl ?_
                refine zw_iaload a.toNatClampNeg 0 36 f177_35 rfl (hb_53 _ _ _ _) rfl hc1 (zix (by decide) hc1 (show ¬ 8 ≤ a from ix_le hp.1 (by decide) (by decide) hc1 hc2)) ((congrFun (hR.2.1 53 (by omega) (by omega)) a.toNatClampNeg).trans hk) ?_
                refine zw_iconst 4 37 f177_36 rfl (by decide +kernel) ?_
                refine zw_ic_ne_t 60 f177_37 (by decide +kernel) (by decide +kernel) ?_
                refine zw_aload_n 61 f177_60 rfl rfl ?_
                refine zw_iload_n 62 f177_61 rfl rfl ?_
                refine zw_iload_n 63 f177_62 rfl rfl ?_
                refine zw_virtual_i 66 0 0 [.ref 52, .int a, .int c] [(0, .ref 52), (1, .int a), (2, .int c)] f177_63 rfl n177_301 k177_301_12 rfl (hb_52 _ _ _ _) (by decide +kernel) (Nat.le_of_ble_eq_true rfl) rfl rfl (by decide +kernel) (by decide +kernel) rfl (Nat.le_of_ble_eq_true rfl) rfl ?_
                refine zw_aload_n 1 f176_0 rfl rfl ?_
                refine zw_bipush 11 3 f176_1 rfl (by decide +kernel) ?_
                refine zw_virtual_v 6 0 0 [.ref 52, .int 11] [(0, .ref 52), (1, .int 11)] f176_3 rfl n176_291 k176_291_12 rfl (hb_52 _ _ _ _) (by decide +kernel) (Nat.le_of_ble_eq_true rfl) rfl rfl (by decide +kernel) (by decide +kernel) rfl (Nat.le_of_ble_eq_true rfl) rfl ?_
                refine zw_aload_n 1 f173_0 rfl rfl ?_
                refine zw_getI 0 4 f173_1 rfl g173_246_12 (hb_52 _ _ _ _) rfl rfl ?_
                refine zw_bipush 50 6 f173_4 rfl (by decide +kernel) ?_
                refine zw_ic_ge_f 9 19 f173_6 (by decide +kernel) rfl (by decide +kernel) ?_
                refine zw_aload_n 10 f173_9 rfl rfl ?_
                refine zw_getfield 13 f173_10 rfl g173_74_12 (hb_52 _ _ _ _) rfl ?_
                refine zw_aload_n 14 f173_13 rfl rfl ?_
                refine zw_getI 0 17 f173_14 rfl g173_246_12 (hb_52 _ _ _ _) rfl rfl ?_
                refine zw_iload_n 18 f173_17 rfl rfl ?_
                refine zw_ast 0 _ 19 f173_18 rfl (hb_71 _ _ _ _) (by decide +kernel) (by decide +kernel) (by decide +kernel) (ha_71 _ _ _ _ _) ?_
                refine zw_aload_n 20 f173_19 rfl rfl ?_
                refine zw_dup 21 f173_20 rfl rfl ?_
                refine zw_getI 0 24 f173_21 rfl g173_246_12 (hb_52 _ _ _ _) rfl rfl ?_
                refine zw_iconst 1 25 f173_24 rfl (by decide +kernel) ?_
                refine zw_iadd 1 26 f173_25 rfl (by decide +kernel) ?_
                refine zw_put _ 29 f173_26 rfl g173_246_12 (hb_52 _ _ _ _) rfl (Nat.le_of_ble_eq_true rfl) (by decide +kernel) (hi_52_29 _ _ _ _ _) ?_
                refine zw_vreturn f173_29 r173 u173 ⟨rfl, ?_⟩
                refine zw_aload_n 7 f176_6 rfl rfl ?_
                refine zw_iload_n 8 f176_7 rfl rfl ?_
                refine zw_iload_n 9 f176_8 rfl rfl ?_
                refine zw_virtual_i 12 0 0 [.ref 52, .int a, .int c] [(0, .ref 52), (1, .int a), (2, .int c)] f176_9 rfl n176_298 k176_298_12 rfl (hb_52 _ _ _ _) (by decide +kernel) (Nat.le_of_ble_eq_true rfl) rfl rfl (by decide +kernel) (by decide +kernel) rfl (Nat.le_of_ble_eq_true rfl) rfl ?_
                refine zw_aload_n 1 f175_0 rfl rfl ?_
                refine zw_getfield 4 f175_1 rfl g175_7_12 (hb_52 _ _ _ _) rfl ?_
                refine zw_iload_n 5 f175_4 rfl rfl ?_
                refine zw_iaload a.toNatClampNeg 0 6 f175_5 rfl (hb_53 _ _ _ _) rfl hc1 (zix (by decide) hc1 (show ¬ 8 ≤ a from ix_le hp.1 (by decide) (by decide) hc1 hc2)) ((congrFun (hR.2.1 53 (by omega) (by omega)) a.toNatClampNeg).trans hk) ?_
                refine zw_iconst 2 7 f175_6 rfl (by decide +kernel) ?_
                refine zw_ic_ne_t 25 f175_7 (by decide +kernel) (by decide +kernel) ?_
                refine zw_aload_n 26 f175_25 rfl rfl ?_
                refine zw_iload_n 27 f175_26 rfl rfl ?_
                refine zw_virtual_i 30 0 0 [.ref 52, .int a] [(0, .ref 52), (1, .int a)] f175_27 rfl n175_158 k175_158_12 rfl (hb_52 _ _ _ _) (by decide +kernel) (Nat.le_of_ble_eq_true rfl) rfl rfl (by decide +kernel) (by decide +kernel) rfl (Nat.le_of_ble_eq_true rfl) rfl ?_
                refine zw_aload_n 1 f126_0 rfl rfl ?_
                refine zw_getfield 4 f126_1 rfl g126_7_12 (hb_52 _ _ _ _) rfl ?_
                refine zw_iload_n 5 f126_4 rfl rfl ?_
                refine zw_iaload a.toNatClampNeg 0 6 f126_5 rfl (hb_53 _ _ _ _) rfl hc1 (zix (by decide) hc1 (show ¬ 8 ≤ a from ix_le hp.1 (by decide) (by decide) hc1 hc2)) ((congrFun (hR.2.1 53 (by omega) (by omega)) a.toNatClampNeg).trans hk) ?_
                refine zw_iconst 3 7 f126_6 rfl (by decide +kernel) ?_
                refine zw_ic_eq_f 10 20 f126_7 (by decide +kernel) rfl (by decide +kernel) ?_
                refine zw_aload_n 11 f126_10 rfl rfl ?_
                refine zw_getfield 14 f126_11 rfl g126_7_12 (hb_52 _ _ _ _) rfl ?_
                refine zw_iload_n 15 f126_14 rfl rfl ?_
                refine zw_iaload a.toNatClampNeg 0 16 f126_15 rfl (hb_53 _ _ _ _) rfl hc1 (zix (by decide) hc1 (show ¬ 8 ≤ a from ix_le hp.1 (by decide) (by decide) hc1 hc2)) ((congrFun (hR.2.1 53 (by omega) (by omega)) a.toNatClampNeg).trans hk) ?_
                refine zw_iconst 4 17 f126_16 rfl (by decide +kernel) ?_
                refine zw_ic_ne_t 24 f126_17 (by decide +kernel) (by decide +kernel) ?_
                refine zw_iconst 0 25 f126_24 rfl (by decide +kernel) ?_
                refine zw_zreturn f126_25 r126 u126 (by decide +kernel) ⟨_, rfl, ?_⟩
                refine zw_if_eq_t 53 f175_30 (by decide +kernel) (by decide +kernel) ?_
                refine zw_aload_n 54 f175_53 rfl rfl ?_
                refine zw_iload_n 55 f175_54 rfl rfl ?_
                refine zw_iload_n 56 f175_55 rfl rfl ?_
                refine zw_virtual_i 59 0 0 [.ref 52, .int a, .int c] [(0, .ref 52), (1, .int a), (2, .int c)] f175_56 rfl n175_294 k175_294_12 rfl (hb_52 _ _ _ _) (by decide +kernel) (Nat.le_of_ble_eq_true rfl) rfl rfl (by decide +kernel) (by decide +kernel) rfl (Nat.le_of_ble_eq_true rfl) rfl ?_
                refine zw_aload_n 1 f174_0 rfl rfl ?_
                refine zw_bipush 10 3 f174_1 rfl (by decide +kernel) ?_
                refine zw_virtual_v 6 0 0 [.ref 52, .int 10] [(0, .ref 52), (1, .int 10)] f174_3 rfl n174_291 k174_291_12 rfl (hb_52 _ _ _ _) (by decide +kernel) (Nat.le_of_ble_eq_true rfl) rfl rfl (by decide +kernel) (by decide +kernel) rfl (Nat.le_of_ble_eq_true rfl) rfl ?_
                refine zw_aload_n 1 f173_0 rfl rfl ?_
                refine zw_getI 1 4 f173_1 rfl g173_246_12 (hb_52 _ _ _ _) rfl rfl ?_
                refine zw_bipush 50 6 f173_4 rfl (by decide +kernel) ?_
                refine zw_ic_ge_f 9 19 f173_6 (by decide +kernel) rfl (by decide +kernel) ?_
                refine zw_aload_n 10 f173_9 rfl rfl ?_
                refine zw_getfield 13 f173_10 rfl g173_74_12 (hb_52 _ _ _ _) rfl ?_
                refine zw_aload_n 14 f173_13 rfl rfl ?_
                refine zw_getI 1 17 f173_14 rfl g173_246_12 (hb_52 _ _ _ _) rfl rfl ?_
                refine zw_iload_n 18 f173_17 rfl rfl ?_
                refine zw_ast 1 _ 19 f173_18 rfl (hb_71 _ _ _ _) (by decide +kernel) (by decide +kernel) (by decide +kernel) (ha_71 _ _ _ _ _) ?_
                refine zw_aload_n 20 f173_19 rfl rfl ?_
                refine zw_dup 21 f173_20 rfl rfl ?_
                refine zw_getI 1 24 f173_21 rfl g173_246_12 (hb_52 _ _ _ _) rfl rfl ?_
                refine zw_iconst 1 25 f173_24 rfl (by decide +kernel) ?_
                refine zw_iadd 2 26 f173_25 rfl (by decide +kernel) ?_
                refine zw_put _ 29 f173_26 rfl g173_246_12 (hb_52 _ _ _ _) rfl (Nat.le_of_ble_eq_true rfl) (by decide +kernel) (hi_52_29 _ _ _ _ _) ?_
                refine zw_vreturn f173_29 r173 u173 ⟨rfl, ?_⟩
                refine zw_iload_n 7 f174_6 rfl rfl ?_
                refine zw_aload_n 8 f174_7 rfl rfl ?_
                refine zw_getfield 11 f174_8 rfl g174_13_12 (hb_52 _ _ _ _) rfl ?_
                refine zw_iload_n 12 f174_11 rfl rfl ?_
                refine zw_iaload a.toNatClampNeg (P 54 a.toNatClampNeg) 13 f174_12 rfl (hb_54 _ _ _ _) rfl hc1 (zix (by decide) hc1 (show ¬ 8 ≤ a from ix_le hp.1 (by decide) (by decide) hc1 hc2)) (congrFun ((hR.2.1 54 (by omega) (by omega))) a.toNatClampNeg) ?_
                refine zw_iadd (c + (P 54 a.toNatClampNeg)) 14 f174_13 rfl rfl ?_
                refine zw_ireturn f174_14 r174 u174 ⟨_, rfl, ?_⟩
                refine zw_ireturn f175_59 r175 u175 ⟨_, rfl, ?_⟩
                refine zw_iconst 3 13 f176_12 rfl (by decide +kernel) ?_
                refine zw_imul ((c + (P 54 a.toNatClampNeg)) * 3) 14 f176_13 rfl rfl ?_
                refine zw_ireturn f176_14 r176 u176 ⟨_, rfl, ?_⟩
                refine zw_ireturn f177_66 r177 u177 ⟨_, rfl, ?_⟩
                refine zw_goto 76 f180_53 (by decide +kernel) ?_
                refine zw_virtual_i 79 0 0 [.ref 52, .int ((c + (P 54 a.toNatClampNeg)) * 3)] [(0, .ref 52), (1, .int ((c + (P 54 a.toNatClampNeg)) * 3))] f180_76 rfl n180_205 k180_205_12 rfl (hb_52 _ _ _ _) (by decide +kernel) (Nat.le_of_ble_eq_true rfl) rfl rfl (by decide +kernel) (by decide +kernel) rfl (Nat.le_of_ble_eq_true rfl) rfl ?_
                refine zw_aload_n 1 f122_0 rfl rfl ?_
                refine zw_iconst 0 2 f122_1 rfl (by decide +kernel) ?_
                refine zw_put _ 5 f122_2 rfl g122_111_12 (hb_52 _ _ _ _) rfl (Nat.le_of_ble_eq_true rfl) (by decide +kernel) (hi_52_27 _ _ _ _ _) ?_
                refine zw_iload_n 6 f122_5 rfl rfl ?_
                refine zw_ireturn f122_6 r122 u122 ⟨_, rfl, ?_⟩
                refine zw_ireturn f180_79 r180 u180 ?_
                exact ⟨_, _, _, _, rfl, (KQ.i rfl (KQ.i rfl (KQ.a rfl (KQ.i rfl (KQ.a rfl (KQ.i rfl KQ.rf)))))), ⟨hi.1, hi.2.1, 2, by omega, (show _ = nI 2 from rfl)⟩, Or.inr ⟨⟨(qV.of (by omega) hc1 hc2), ⟨hc3, hc4⟩⟩, by rw [show an_tl (P 53 a.toNatClampNeg) b = [11, 10] from ((cI_n hc5).trans ((cI_y (Decidable.of_not_not hc6)).trans (cI_y hk)))]; exact ⟨rfl, by intro i hi; rcases (show i = 0 ∨ i = 1 by have q : i < 2 := hi; omega) with rfl | rfl <;> rfl⟩⟩, _, rfl⟩
              · refine zw_iaload a.toNatClampNeg 1 6 f177_5 rfl (hb_53 _ _ _ _) rfl hc1 (zix (by decide) hc1 (show ¬ 8 ≤ a from ix_le hp.1 (by decide) (by decide) hc1 hc2)) ((congrFun (hR.2.1 53 (by omega) (by omega)) a.toNatClampNeg).trans hk) ?_
                refine zw_iconst 1 7 f177_6 rfl (by decide +kernel) ?_
                refine zw_ic_ne_f 10 30 f177_7 (by decide +kernel) rfl (by decide +kernel) ?_
                refine zw_aload_n 11 f177_10 rfl rfl ?_
                refine zw_bipush 20 13 f177_11 rfl (by decide +kernel) ?_
                refine zw_virtual_v 16 0 0 [.ref 52, .int 20] [(0, .ref 52), (1, .int 20)] f177_13 rfl n177_291 k177_291_12 rfl (hb_52 _ _ _ _) (by decide +kernel) (Nat.le_of_ble_eq_true rfl) rfl rfl (by decide +kernel) (by decide +kernel) rfl (Nat.le_of_ble_eq_true rfl) rfl ?_
                refine zw_aload_n 1 f173_0 rfl rfl ?_
                refine zw_getI 0 4 f173_1 rfl g173_246_12 (hb_52 _ _ _ _) rfl rfl ?_
                refine zw_bipush 50 6 f173_4 rfl (by decide +kernel) ?_
                refine zw_ic_ge_f 9 19 f173_6 (by decide +kernel) rfl (by decide +kernel) ?_
                refine zw_aload_n 10 f173_9 rfl rfl ?_
                refine zw_getfield 13 f173_10 rfl g173_74_12 (hb_52 _ _ _ _) rfl ?_
                refine zw_aload_n 14 f173_13 rfl rfl ?_
                refine zw_getI 0 17 f173_14 rfl g173_246_12 (hb_52 _ _ _ _) rfl rfl ?_
                refine zw_iload_n 18 f173_17 rfl rfl ?_
                refine zw_ast 0 _ 19 f173_18 rfl (hb_71 _ _ _ _) (by decide +kernel) (by decide +kernel) (by decide +kernel) (ha_71 _ _ _ _ _) ?_
                refine zw_aload_n 20 f173_19 rfl rfl ?_
                refine zw_dup 21 f173_20 rfl rfl ?_
                refine zw_getI 0 24 f173_21 rfl g173_246_12 (hb_52 _ _ _ _) rfl rfl ?_
                refine zw_iconst 1 25 f173_24 rfl (by decide +kernel) ?_
                refine zw_iadd 1 26 f173_25 rfl (by decide +kernel) ?_
                refine zw_put _ 29 f173_26 rfl g173_246_12 (hb_52 _ _ _ _) rfl (Nat.le_of_ble_eq_true rfl) (by decide +kernel) (hi_52_29 _ _ _ _ _) ?_
                refine zw_vreturn f173_29 r173 u173 ⟨rfl, ?_⟩
                refine zw_aload_n 17 f177_16 rfl rfl ?_
                refine zw_iload_n 18 f177_17 rfl rfl ?_
                refine zw_iload_n 19 f177_18 rfl rfl ?_
                refine zw_virtual_i 22 0 0 [.ref 52, .int a, .int c] [(0, .ref 52), (1, .int a), (2, .int c)] f177_19 rfl n177_301 k177_301_12 rfl (hb_52 _ _ _ _) (by decide +kernel) (Nat.le_of_ble_eq_true rfl) rfl rfl (by decide +kernel) (by decide +kernel) rfl (Nat.le_of_ble_eq_true rfl) rfl ?_
                refine zw_aload_n 1 f176_0 rfl rfl ?_
                refine zw_bipush 11 3 f176_1 rfl (by decide +kernel) ?_
                refine zw_virtual_v 6 0 0 [.ref 52, .int 11] [(0, .ref 52), (1, .int 11)] f176_3 rfl n176_291 k176_291_12 rfl (hb_52 _ _ _ _) (by decide +kernel) (Nat.le_of_ble_eq_true rfl) rfl rfl (by decide +kernel) (by decide +kernel) rfl (Nat.le_of_ble_eq_true rfl) rfl ?_
                refine zw_aload_n 1 f173_0 rfl rfl ?_
                refine zw_getI 1 4 f173_1 rfl g173_246_12 (hb_52 _ _ _ _) rfl rfl ?_
                refine zw_bipush 50 6 f173_4 rfl (by decide +kernel) ?_
                refine zw_ic_ge_f 9 19 f173_6 (by decide +kernel) rfl (by decide +kernel) ?_
                refine zw_aload_n 10 f173_9 rfl rfl ?_
                refine zw_getfield 13 f173_10 rfl g173_74_12 (hb_52 _ _ _ _) rfl ?_
                refine zw_aload_n 14 f173_13 rfl rfl ?_
                refine zw_getI 1 17 f173_14 rfl g173_246_12 (hb_52 _ _ _ _) rfl rfl ?_
                refine zw_iload_n 18 f173_17 rfl rfl ?_
                refine zw_ast 1 _ 19 f173_18 rfl (hb_71 _ _ _ _) (by decide +kernel) (by decide +kernel) (by decide +kernel) (ha_71 _ _ _ _ _) ?_
                refine zw_aload_n 20 f173_19 rfl rfl ?_
                refine zw_dup 21 f173_20 rfl rfl ?_
                refine zw_getI 1 24 f173_21 rfl g173_246_12 (hb_52 _ _ _ _) rfl rfl ?_
                refine zw_iconst 1 25 f173_24 rfl (by decide +kernel) ?_
                refine zw_iadd 2 26 f173_25 rfl (by decide +kernel) ?_
                refine zw_put _ 29 f173_26 rfl g173_246_12 (hb_52 _ _ _ _) rfl (Nat.le_of_ble_eq_true rfl) (by decide +kernel) (hi_52_29 _ _ _ _ _) ?_
                refine zw_vreturn f173_29 r173 u173 ⟨rfl, ?_⟩
                refine zw_aload_n 7 f176_6 rfl rfl ?_
                refine zw_iload_n 8 f176_7 rfl rfl ?_
                refine zw_iload_n 9 f176_8 rfl rfl ?_
                refine zw_virtual_i 12 0 0 [.ref 52, .int a, .int c] [(0, .ref 52), (1, .int a), (2, .int c)] f176_9 rfl n176_298 k176_298_12 rfl (hb_52 _ _ _ _) (by decide +kernel) (Nat.le_of_ble_eq_true rfl) rfl rfl (by decide +kernel) (by decide +kernel) rfl (Nat.le_of_ble_eq_true rfl) rfl ?_
                refine zw_aload_n 1 f175_0 rfl rfl ?_
                refine zw_getfield 4 f175_1 rfl g175_7_12 (hb_52 _ _ _ _) rfl ?_
                refine zw_iload_n 5 f175_4 rfl rfl ?_
                refine zw_iaload a.toNatClampNeg 1 6 f175_5 rfl (hb_53 _ _ _ _) rfl hc1 (zix (by decide) hc1 (show ¬ 8 ≤ a from ix_le hp.1 (by decide) (by decide) hc1 hc2)) ((congrFun (hR.2.1 53 (by omega) (by omega)) a.toNatClampNeg).trans hk) ?_
                refine zw_iconst 2 7 f175_6 rfl (by decide +kernel) ?_
                refine zw_ic_ne_t 25 f175_7 (by decide +kernel) (by decide +kernel) ?_
                refine zw_aload_n 26 f175_25 rfl rfl ?_
                refine zw_iload_n 27 f175_26 rfl rfl ?_
                refine zw_virtual_i 30 0 0 [.ref 52, .int a] [(0, .ref 52), (1, .int a)] f175_27 rfl n175_158 k175_158_12 rfl (hb_52 _ _ _ _) (by decide +kernel) (Nat.le_of_ble_eq_true rfl) rfl rfl (by decide +kernel) (by decide +kernel) rfl (Nat.le_of_ble_eq_true rfl) rfl ?_
                refine zw_aload_n 1 f126_0 rfl rfl ?_
                refine zw_getfield 4 f126_1 rfl g126_7_12 (hb_52 _ _ _ _) rfl ?_
                refine zw_iload_n 5 f126_4 rfl rfl ?_
                refine zw_iaload a.toNatClampNeg 1 6 f126_5 rfl (hb_53 _ _ _ _) rfl hc1 (zix (by decide) hc1 (show ¬ 8 ≤ a from ix_le hp.1 (by decide) (by decide) hc1 hc2)) ((congrFun (hR.2.1 53 (by omega) (by omega)) a.toNatClampNeg).trans hk) ?_
                refine zw_iconst 3 7 f126_6 rfl (by decide +kernel) ?_
                refine zw_ic_eq_f 10 20 f126_7 (by decide +kernel) rfl (by decide +kernel) ?_
                refine zw_aload_n 11 f126_10 rfl rfl ?_
                refine zw_getfield 14 f126_11 rfl g126_7_12 (hb_52 _ _ _ _) rfl ?_
                refine zw_iload_n 15 f126_14 rfl rfl ?_
                refine zw_iaload a.toNatClampNeg 1 16 f126_15 rfl (hb_53 _ _ _ _) rfl hc1 (zix (by decide) hc1 (show ¬ 8 ≤ a from ix_le hp.1 (by decide) (by decide) hc1 hc2)) ((congrFun (hR.2.1 53 (by omega) (by omega)) a.toNatClampNeg).trans hk) ?_
                refine zw_iconst 4 17 f126_16 rfl (by decide +kernel) ?_
                refine zw_ic_ne_t 24 f126_17 (by decide +kernel) (by decide +kernel) ?_
                refine zw_iconst 0 25 f126_24 rfl (by decide +kernel) ?_
                refine zw_zreturn f126_25 r126 u126 (by decide +kernel) ⟨_, rfl, ?_⟩
                refine zw_if_eq_t 53 f175_30 (by decide +kernel) (by decide +kernel) ?_
                refine zw_aload_n 54 f175_53 rfl rfl ?_
                refine zw_iload_n 55 f175_54 rfl rfl ?_
                refine zw_iload_n 56 f175_55 rfl rfl ?_
                refine zw_virtual_i 59 0 0 [.ref 52, .int a, .int c] [(0, .ref 52), (1, .int a), (2, .int c)] f175_56 rfl n175_294 k175_294_12 rfl (hb_52 _ _ _ _) (by decide +kernel) (Nat.le_of_ble_eq_true rfl) rfl rfl (by decide +kernel) (by decide +kernel) rfl (Nat.le_of_ble_eq_true rfl) rfl ?_
                refine zw_aload_n 1 f174_0 rfl rfl ?_
                refine zw_bipush 10 3 f174_1 rfl (by decide +kernel) ?_
                refine zw_virtual_v 6 0 0 [.ref 52, .int 10] [(0, .ref 52), (1, .int 10)] f174_3 rfl n174_291 k174_291_12 rfl (hb_52 _ _ _ _) (by decide +kernel) (Nat.le_of_ble_eq_true rfl) rfl rfl (by decide +kernel) (by decide +kernel) rfl (Nat.le_of_ble_eq_true rfl) rfl ?_
                refine zw_aload_n 1 f173_0 rfl rfl ?_
                refine zw_getI 2 4 f173_1 rfl g173_246_12 (hb_52 _ _ _ _) rfl rfl ?_
                refine zw_bipush 50 6 f173_4 rfl (by decide +kernel) ?_
                refine zw_ic_ge_f 9 19 f173_6 (by decide +kernel) rfl (by decide +kernel) ?_
                refine zw_aload_n 10 f173_9 rfl rfl ?_
                refine zw_getfield 13 f173_10 rfl g173_74_12 (hb_52 _ _ _ _) rfl ?_
                refine zw_aload_n 14 f173_13 rfl rfl ?_
                refine zw_getI 2 17 f173_14 rfl g173_246_12 (hb_52 _ _ _ _) rfl rfl ?_
                refine zw_iload_n 18 f173_17 rfl rfl ?_
                refine zw_ast 2 _ 19 f173_18 rfl (hb_71 _ _ _ _) (by decide +kernel) (by decide +kernel) (by decide +kernel) (ha_71 _ _ _ _ _) ?_
                refine zw_aload_n 20 f173_19 rfl rfl ?_
                refine zw_dup 21 f173_20 rfl rfl ?_
                refine zw_getI 2 24 f173_21 rfl g173_246_12 (hb_52 _ _ _ _) rfl rfl ?_
                refine zw_iconst 1 25 f173_24 rfl (by decide +kernel) ?_
                refine zw_iadd 3 26 f173_25 rfl (by decide +kernel) ?_
                refine zw_put _ 29 f173_26 rfl g173_246_12 (hb_52 _ _ _ _) rfl (Nat.le_of_ble_eq_true rfl) (by decide +kernel) (hi_52_29 _ _ _ _ _) ?_
                refine zw_vreturn f173_29 r173 u173 ⟨rfl, ?_⟩
                refine zw_iload_n 7 f174_6 rfl rfl ?_
                refine zw_aload_n 8 f174_7 rfl rfl ?_
                refine zw_getfield 11 f174_8 rfl g174_13_12 (hb_52 _ _ _ _) rfl ?_
                refine zw_iload_n 12 f174_11 rfl rfl ?_
                refine zw_iaload a.toNatClampNeg (P 54 a.toNatClampNeg) 13 f174_12 rfl (hb_54 _ _ _ _) rfl hc1 (zix (by decide) hc1 (show ¬ 8 ≤ a from ix_le hp.1 (by decide) (by decide) hc1 hc2)) (congrFun ((hR.2.1 54 (by omega) (by omega))) a.toNatClampNeg) ?_
                refine zw_iadd (c + (P 54 a.toNatClampNeg)) 14 f174_13 rfl rfl ?_
                refine zw_ireturn f174_14 r174 u174 ⟨_, rfl, ?_⟩
                refine zw_ireturn f175_59 r175 u175 ⟨_, rfl, ?_⟩
                refine zw_iconst 3 13 f176_12 rfl (by decide +kernel) ?_
                refine zw_imul ((c + (P 54 a.toNatClampNeg)) * 3) 14 f176_13 rfl rfl ?_
                refine zw_ireturn f176_14 r176 u176 ⟨_, rfl, ?_⟩
                refine zw_aload_n 23 f177_22 rfl rfl ?_
                refine zw_getfield 26 f177_23 rfl g177_16_12 (hb_52 _ _ _ _) rfl ?_
                refine zw_iload_n 27 f177_26 rfl rfl ?_
                refine zw_iaload a.toNatClampNeg (P 55 a.toNatClampNeg) 28 f177_27 rfl (hb_55 _ _ _ _) rfl hc1 (zix (by decide) hc1 (show ¬ 8 ≤ a from ix_le hp.1 (by decide) (by decide) hc1 hc2)) (congrFun ((hR.2.1 55 (by omega) (by omega))) a.toNatClampNeg) ?_
                refine zw_iadd (((c + (P 54 a.toNatClampNeg)) * 3) + (P 55 a.toNatClampNeg)) 29 f177_28 rfl rfl ?_
                refine zw_ireturn f177_29 r177 u177 ⟨_, rfl, ?_⟩
                refine zw_goto 76 f180_53 (by decide +kernel) ?_
                refine zw_virtual_i 79 0 0 [.ref 52, .int (((c + (P 54 a.toNatClampNeg)) * 3) + (P 55 a.toNatClampNeg))] [(0, .ref 52), (1, .int (((c + (P 54 a.toNatClampNeg)) * 3) + (P 55 a.toNatClampNeg)))] f180_76 rfl n180_205 k180_205_12 rfl (hb_52 _ _ _ _) (by decide +kernel) (Nat.le_of_ble_eq_true rfl) rfl rfl (by decide +kernel) (by decide +kernel) rfl (Nat.le_of_ble_eq_true rfl) rfl ?_
                refine zw_aload_n 1 f122_0 rfl rfl ?_
                refine zw_iconst 0 2 f122_1 rfl (by decide +kernel) ?_
                refine zw_put _ 5 f122_2 rfl g122_111_12 (hb_52 _ _ _ _) rfl (Nat.le_of_ble_eq_true rfl) (by decide +kernel) (hi_52_27 _ _ _ _ _) ?_
                refine zw_iload_n 6 f122_5 rfl rfl ?_
                refine zw_ireturn f122_6 r122 u122 ⟨_, rfl, ?_⟩
                refine zw_ireturn f180_79 r180 u180 ?_
                exact ⟨_, _, _, _, rfl, (KQ.i rfl (KQ.i rfl (KQ.a rfl (KQ.i rfl (KQ.a rfl (KQ.i rfl (KQ.a rfl (KQ.i rfl KQ.rf)))))))), ⟨hi.1, hi.2.1, 3, by omega, (show _ = nI 3 from rfl)⟩, Or.inr ⟨⟨(qV.of (by omega) hc1 hc2), ⟨hc3, hc4⟩⟩, by rw [show an_tl (P 53 a.toNatClampNeg) b = [20, 11, 10] from ((cI_n hc5).trans ((cI_y (Decidable.of_not_not hc6)).trans ((cI_n (kne hk (by decide))).trans (cI_y hk))))]; exact ⟨rfl, by intro i hi; rcases (show i = 0 ∨ i = 1 ∨ i = 2 by have q : i < 3 := hi; omega) with rfl | rfl | rfl <;> rfl⟩⟩, _, rfl⟩
              · refine zw_iaload a.toNatClampNeg 2 6 f177_5 rfl (hb_53 _ _ _ _) rfl hc1 (zix (by decide) hc1 (show ¬ 8 ≤ a from ix_le hp.1 (by decide) (by decide) hc1 hc2)) ((congrFun (hR.2.1 53 (by omega) (by omega)) a.toNatClampNeg).trans hk) ?_
                refine zw_iconst 1 7 f177_6 rfl (by decide +kernel) ?_
                refine zw_ic_ne_t 30 f177_7 (by decide +kernel) (by decide +kernel) ?_
                refine zw_aload_n 31 f177_30 rfl rfl ?_
                refine zw_getfield 34 f177_31 rfl g177_7_12 (hb_52 _ _ _ _) rfl ?_
                refine zw_iload_n 35 f177_34 rfl rfl ?_
                refine zw_iaload a.toNatClampNeg 2 36 f177_35 rfl (hb_53 _ _ _ _) rfl hc1 (zix (by decide) hc1 (show ¬ 8 ≤ a from ix_le hp.1 (by decide) (by decide) hc1 hc2)) ((congrFun (hR.2.1 53 (by omega) (by omega)) a.toNatClampNeg).trans hk) ?_
                refine zw_iconst 4 37 f177_36 rfl (by decide +kernel) ?_
                refine zw_ic_ne_t 60 f177_37 (by decide +kernel) (by decide +kernel) ?_
                refine zw_aload_n 61 f177_60 rfl rfl ?_
                refine zw_iload_n 62 f177_61 rfl rfl ?_
                refine zw_iload_n 63 f177_62 rfl rfl ?_
                refine zw_virtual_i 66 0 0 [.ref 52, .int a, .int c] [(0, .ref 52), (1, .int a), (2, .int c)] f177_63 rfl n177_301 k177_301_12 rfl (hb_52 _ _ _ _) (by decide +kernel) (Nat.le_of_ble_eq_true rfl) rfl rfl (by decide +kernel) (by decide +kernel) rfl (Nat.le_of_ble_eq_true rfl) rfl ?_
                refine zw_aload_n 1 f176_0 rfl rfl ?_
                refine zw_bipush 11 3 f176_1 rfl (by decide +kernel) ?_
                refine zw_virtual_v 6 0 0 [.ref 52, .int 11] [(0, .ref 52), (1, .int 11)] f176_3 rfl n176_291 k176_291_12 rfl (hb_52 _ _ _ _) (by decide +kernel) (Nat.le_of_ble_eq_true rfl) rfl rfl (by decide +kernel) (by decide +kernel) rfl (Nat.le_of_ble_eq_true rfl) rfl ?_
                refine zw_aload_n 1 f173_0 rfl rfl ?_
                refine zw_getI 0 4 f173_1 rfl g173_246_12 (hb_52 _ _ _ _) rfl rfl ?_
                refine zw_bipush 50 6 f173_4 rfl (by decide +kernel) ?_
                refine zw_ic_ge_f 9 19 f173_6 (by decide +kernel) rfl (by decide +kernel) ?_
                refine zw_aload_n 10 f173_9 rfl rfl ?_
                refine zw_getfield 13 f173_10 rfl g173_74_12 (hb_52 _ _ _ _) rfl ?_
                refine zw_aload_n 14 f173_13 rfl rfl ?_
                refine zw_getI 0 17 f173_14 rfl g173_246_12 (hb_52 _ _ _ _) rfl rfl ?_
                refine zw_iload_n 18 f173_17 rfl rfl ?_
                refine zw_ast 0 _ 19 f173_18 rfl (hb_71 _ _ _ _) (by decide +kernel) (by decide +kernel) (by decide +kernel) (ha_71 _ _ _ _ _) ?_
                refine zw_aload_n 20 f173_19 rfl rfl ?_
                refine zw_dup 21 f173_20 rfl rfl ?_
                refine zw_getI 0 24 f173_21 rfl g173_246_12 (hb_52 _ _ _ _) rfl rfl ?_
                refine zw_iconst 1 25 f173_24 rfl (by decide +kernel) ?_
                refine zw_iadd 1 26 f173_25 rfl (by decide +kernel) ?_
                refine zw_put _ 29 f173_26 rfl g173_246_12 (hb_52 _ _ _ _) rfl (Nat.le_of_ble_eq_true rfl) (by decide +kernel) (hi_52_29 _ _ _ _ _) ?_
                refine zw_vreturn f173_29 r173 u173 ⟨rfl, ?_⟩
                refine zw_aload_n 7 f176_6 rfl rfl ?_
                refine zw_iload_n 8 f176_7 rfl rfl ?_
                refine zw_iload_n 9 f176_8 rfl rfl ?_
                refine zw_virtual_i 12 0 0 [.ref 52, .int a, .int c] [(0, .ref 52), (1, .int a), (2, .int c)] f176_9 rfl n176_298 k176_298_12 rfl (hb_52 _ _ _ _) (by decide +kernel) (Nat.le_of_ble_eq_true rfl) rfl rfl (by decide +kernel) (by decide +kernel) rfl (Nat.le_of_ble_eq_true rfl) rfl ?_
                refine zw_aload_n 1 f175_0 rfl rfl ?_
                refine zw_getfield 4 f175_1 rfl g175_7_12 (hb_52 _ _ _ _) rfl ?_
                refine zw_iload_n 5 f175_4 rfl rfl ?_
                refine zw_iaload a.toNatClampNeg 2 6 f175_5 rfl (hb_53 _ _ _ _) rfl hc1 (zix (by decide) hc1 (show ¬ 8 ≤ a from ix_le hp.1 (by decide) (by decide) hc1 hc2)) ((congrFun (hR.2.1 53 (by omega) (by omega)) a.toNatClampNeg).trans hk) ?_
                refine zw_iconst 2 7 f175_6 rfl (by decide +kernel) ?_
                refine zw_ic_ne_f 10 25 f175_7 (by decide +kernel) rfl (by decide +kernel) ?_
                refine zw_aload_n 11 f175_10 rfl rfl ?_
                refine zw_bipush 30 13 f175_11 rfl (by decide +kernel) ?_
                refine zw_virtual_v 16 0 0 [.ref 52, .int 30] [(0, .ref 52), (1, .int 30)] f175_13 rfl n175_291 k175_291_12 rfl (hb_52 _ _ _ _) (by decide +kernel) (Nat.le_of_ble_eq_true rfl) rfl rfl (by decide +kernel) (by decide +kernel) rfl (Nat.le_of_ble_eq_true rfl) rfl ?_
                refine zw_aload_n 1 f173_0 rfl rfl ?_
                refine zw_getI 1 4 f173_1 rfl g173_246_12 (hb_52 _ _ _ _) rfl rfl ?_
                refine zw_bipush 50 6 f173_4 rfl (by decide +kernel) ?_
                refine zw_ic_ge_f 9 19 f173_6 (by decide +kernel) rfl (by decide +kernel) ?_
                refine zw_aload_n 10 f173_9 rfl rfl ?_
                refine zw_getfield 13 f173_10 rfl g173_74_12 (hb_52 _ _ _ _) rfl ?_
                refine zw_aload_n 14 f173_13 rfl rfl ?_
                refine zw_getI 1 17 f173_14 rfl g173_246_12 (hb_52 _ _ _ _) rfl rfl ?_
                refine zw_iload_n 18 f173_17 rfl rfl ?_
                refine zw_ast 1 _ 19 f173_18 rfl (hb_71 _ _ _ _) (by decide +kernel) (by decide +kernel) (by decide +kernel) (ha_71 _ _ _ _ _) ?_
                refine zw_aload_n 20 f173_19 rfl rfl ?_
                refine zw_dup 21 f173_20 rfl rfl ?_
                refine zw_getI 1 24 f173_21 rfl g173_246_12 (hb_52 _ _ _ _) rfl rfl ?_
                refine zw_iconst 1 25 f173_24 rfl (by decide +kernel) ?_
                refine zw_iadd 2 26 f173_25 rfl (by decide +kernel) ?_
                refine zw_put _ 29 f173_26 rfl g173_246_12 (hb_52 _ _ _ _) rfl (Nat.le_of_ble_eq_true rfl) (by decide +kernel) (hi_52_29 _ _ _ _ _) ?_
                refine zw_vreturn f173_29 r173 u173 ⟨rfl, ?_⟩
                refine zw_aload_n 17 f175_16 rfl rfl ?_
                refine zw_iload_n 18 f175_17 rfl rfl ?_
                refine zw_iload_n 19 f175_18 rfl rfl ?_
                refine zw_virtual_i 22 0 0 [.ref 52, .int a, .int c] [(0, .ref 52), (1, .int a), (2, .int c)] f175_19 rfl n175_294 k175_294_12 rfl (hb_52 _ _ _ _) (by decide +kernel) (Nat.le_of_ble_eq_true rfl) rfl rfl (by decide +kernel) (by decide +kernel) rfl (Nat.le_of_ble_eq_true rfl) rfl ?_
                refine zw_aload_n 1 f174_0 rfl rfl ?_
                refine zw_bipush 10 3 f174_1 rfl (by decide +kernel) ?_
                refine zw_virtual_v 6 0 0 [.ref 52, .int 10] [(0, .ref 52), (1, .int 10)] f174_3 rfl n174_291 k174_291_12 rfl (hb_52 _ _ _ _) (by decide +kernel) (Nat.le_of_ble_eq_true rfl) rfl rfl (by decide +kernel) (by decide +kernel) rfl (Nat.le_of_ble_eq_true rfl) rfl ?_
                refine zw_aload_n 1 f173_0 rfl rfl ?_
                refine zw_getI 2 4 f173_1 rfl g173_246_12 (hb_52 _ _ _ _) rfl rfl ?_
                refine zw_bipush 50 6 f173_4 rfl (by decide +kernel) ?_
                refine zw_ic_ge_f 9 19 f173_6 (by decide +kernel) rfl (by decide +kernel) ?_
                refine zw_aload_n 10 f173_9 rfl rfl ?_
                refine zw_getfield 13 f173_10 rfl g173_74_12 (hb_52 _ _ _ _) rfl ?_
                refine zw_aload_n 14 f173_13 rfl rfl ?_
                refine zw_getI 2 17 f173_14 rfl g173_246_12 (hb_52 _ _ _ _) rfl rfl ?_
                refine zw_iload_n 18 f173_17 rfl rfl ?_
                refine zw_ast 2 _ 19 f173_18 rfl (hb_71 _ _ _ _) (by decide +kernel) (by decide +kernel) (by decide +kernel) (ha_71 _ _ _ _ _) ?_
                refine zw_aload_n 20 f173_19 rfl rfl ?_
                refine zw_dup 21 f173_20 rfl rfl ?_
                refine zw_getI 2 24 f173_21 rfl g173_246_12 (hb_52 _ _ _ _) rfl rfl ?_
                refine zw_iconst 1 25 f173_24 rfl (by decide +kernel) ?_
                refine zw_iadd 3 26 f173_25 rfl (by decide +kernel) ?_
                refine zw_put _ 29 f173_26 rfl g173_246_12 (hb_52 _ _ _ _) rfl (Nat.le_of_ble_eq_true rfl) (by decide +kernel) (hi_52_29 _ _ _ _ _) ?_
                refine zw_vreturn f173_29 r173 u173 ⟨rfl, ?_⟩
                refine zw_iload_n 7 f174_6 rfl rfl ?_
                refine zw_aload_n 8 f174_7 rfl rfl ?_
                refine zw_getfield 11 f174_8 rfl g174_13_12 (hb_52 _ _ _ _) rfl ?_
                refine zw_iload_n 12 f174_11 rfl rfl ?_
                refine zw_iaload a.toNatClampNeg (P 54 a.toNatClampNeg) 13 f174_12 rfl (hb_54 _ _ _ _) rfl hc1 (zix (by decide) hc1 (show ¬ 8 ≤ a from ix_le hp.1 (by decide) (by decide) hc1 hc2)) (congrFun ((hR.2.1 54 (by omega) (by omega))) a.toNatClampNeg) ?_
                refine zw_iadd (c + (P 54 a.toNatClampNeg)) 14 f174_13 rfl rfl ?_
                refine zw_ireturn f174_14 r174 u174 ⟨_, rfl, ?_⟩
                refine zw_iconst 2 23 f175_22 rfl (by decide +kernel) ?_
                refine zw_imul ((c + (P 54 a.toNatClampNeg)) * 2) 24 f175_23 rfl rfl ?_
                refine zw_ireturn f175_24 r175 u175 ⟨_, rfl, ?_⟩
                refine zw_iconst 3 13 f176_12 rfl (by decide +kernel) ?_
                refine zw_imul (((c + (P 54 a.toNatClampNeg)) * 2) * 3) 14 f176_13 rfl rfl ?_
                refine zw_ireturn f176_14 r176 u176 ⟨_, rfl, ?_⟩
                refine zw_ireturn f177_66 r177 u177 ⟨_, rfl, ?_⟩
                refine zw_goto 76 f180_53 (by decide +kernel) ?_
                refine zw_virtual_i 79 0 0 [.ref 52, .int (((c + (P 54 a.toNatClampNeg)) * 2) * 3)] [(0, .ref 52), (1, .int (((c + (P 54 a.toNatClampNeg)) * 2) * 3))] f180_76 rfl n180_205 k180_205_12 rfl (hb_52 _ _ _ _) (by decide +kernel) (Nat.le_of_ble_eq_true rfl) rfl rfl (by decide +kernel) (by decide +kernel) rfl (Nat.le_of_ble_eq_true rfl) rfl ?_
                refine zw_aload_n 1 f122_0 rfl rfl ?_
                refine zw_iconst 0 2 f122_1 rfl (by decide +kernel) ?_
                refine zw_put _ 5 f122_2 rfl g122_111_12 (hb_52 _ _ _ _) rfl (Nat.le_of_ble_eq_true rfl) (by decide +kernel) (hi_52_27 _ _ _ _ _) ?_
                refine zw_iload_n 6 f122_5 rfl rfl ?_
                refine zw_ireturn f122_6 r122 u122 ⟨_, rfl, ?_⟩
                refine zw_ireturn f180_79 r180 u180 ?_
                exact ⟨_, _, _, _, rfl, (KQ.i rfl (KQ.i rfl (KQ.a rfl (KQ.i rfl (KQ.a rfl (KQ.i rfl (KQ.a rfl (KQ.i rfl KQ.rf)))))))), ⟨hi.1, hi.2.1, 3, by omega, (show _ = nI 3 from rfl)⟩, Or.inr ⟨⟨(qV.of (by omega) hc1 hc2), ⟨hc3, hc4⟩⟩, by rw [show an_tl (P 53 a.toNatClampNeg) b = [11, 30, 10] from ((cI_n hc5).trans ((cI_y (Decidable.of_not_not hc6)).trans ((cI_n (kne hk (by decide))).trans ((cI_n (kne hk (by decide))).trans (cI_y hk)))))]; exact ⟨rfl, by intro i hi; rcases (show i = 0 ∨ i = 1 ∨ i = 2 by have q : i < 3 := hi; omega) with rfl | rfl | rfl <;> rfl⟩⟩, _, rfl⟩
              · refine zw_iaload a.toNatClampNeg 3 6 f177_5 rfl (hb_53 _ _ _ _) rfl hc1 (zix (by decide) hc1 (show ¬ 8 ≤ a from ix_le hp.1 (by decide) (by decide) hc1 hc2)) ((congrFun (hR.2.1 53 (by omega) (by omega)) a.toNatClampNeg).trans hk) ?_
                refine zw_iconst 1 7 f177_6 rfl (by decide +kernel) ?_
                refine zw_ic_ne_t 30 f177_7 (by decide +kernel) (by decide +kernel) ?_
                refine zw_aload_n 31 f177_30 rfl rfl ?_
                refine zw_getfield 34 f177_31 rfl g177_7_12 (hb_52 _ _ _ _) rfl ?_
                refine zw_iload_n 35 f177_34 rfl rfl ?_
                refine zw_iaload a.toNatClampNeg 3 36 f177_35 rfl (hb_53 _ _ _ _) rfl hc1 (zix (by decide) hc1 (show ¬ 8 ≤ a from ix_le hp.1 (by decide) (by decide) hc1 hc2)) ((congrFun (hR.2.1 53 (by omega) (by omega)) a.toNatClampNeg).trans hk) ?_
                refine zw_iconst 4 37 f177_36 rfl (by decide +kernel) ?_
                refine zw_ic_ne_t 60 f177_37 (by decide +kernel) (by decide +kernel) ?_
                refine zw_aload_n 61 f177_60 rfl rfl ?_
                refine zw_iload_n 62 f177_61 rfl rfl ?_
                refine zw_iload_n 63 f177_62 rfl rfl ?_
                refine zw_virtual_i 66 0 0 [.ref 52, .int a, .int c] [(0, .ref 52), (1, .int a), (2, .int c)] f177_63 rfl n177_301 k177_301_12 rfl (hb_52 _ _ _ _) (by decide +kernel) (Nat.le_of_ble_eq_true rfl) rfl rfl (by decide +kernel) (by decide +kernel) rfl (Nat.le_of_ble_eq_true rfl) rfl ?_
                refine zw_aload_n 1 f176_0 rfl rfl ?_
                refine zw_bipush 11 3 f176_1 rfl (by decide +kernel) ?_
                refine zw_virtual_v 6 0 0 [.ref 52, .int 11] [(0, .ref 52), (1, .int 11)] f176_3 rfl n176_291 k176_291_12 rfl (hb_52 _ _ _ _) (by decide +kernel) (Nat.le_of_ble_eq_true rfl) rfl rfl (by decide +kernel) (by decide +kernel) rfl (Nat.le_of_ble_eq_true rfl) rfl ?_
                refine zw_aload_n 1 f173_0 rfl rfl ?_
                refine zw_getI 0 4 f173_1 rfl g173_246_12 (hb_52 _ _ _ _) rfl rfl ?_
                refine zw_bipush 50 6 f173_4 rfl (by decide +kernel) ?_
                refine zw_ic_ge_f 9 19 f173_6 (by decide +kernel) rfl (by decide +kernel) ?_
                refine zw_aload_n 10 f173_9 rfl rfl ?_
                refine zw_getfield 13 f173_10 rfl g173_74_12 (hb_52 _ _ _ _) rfl ?_
                refine zw_aload_n 14 f173_13 rfl rfl ?_
                refine zw_getI 0 17 f173_14 rfl g173_246_12 (hb_52 _ _ _ _) rfl rfl ?_
                refine zw_iload_n 18 f173_17 rfl rfl ?_
                refine zw_ast 0 _ 19 f173_18 rfl (hb_71 _ _ _ _) (by decide +kernel) (by decide +kernel) (by decide +kernel) (ha_71 _ _ _ _ _) ?_
                refine zw_aload_n 20 f173_19 rfl rfl ?_
                refine zw_dup 21 f173_20 rfl rfl ?_
                refine zw_getI 0 24 f173_21 rfl g173_246_12 (hb_52 _ _ _ _) rfl rfl ?_
                refine zw_iconst 1 25 f173_24 rfl (by decide +kernel) ?_
                refine zw_iadd 1 26 f173_25 rfl (by decide +kernel) ?_
                refine zw_put _ 29 f173_26 rfl g173_246_12 (hb_52 _ _ _ _) rfl (Nat.le_of_ble_eq_true rfl) (by decide +kernel) (hi_52_29 _ _ _ _ _) ?_
                refine zw_vreturn f173_29 r173 u173 ⟨rfl, ?_⟩
                refine zw_aload_n 7 f176_6 rfl rfl ?_
                refine zw_iload_n 8 f176_7 rfl rfl ?_
                refine zw_iload_n 9 f176_8 rfl rfl ?_
                refine zw_virtual_i 12 0 0 [.ref 52, .int a, .int c] [(0, .ref 52), (1, .int a), (2, .int c)] f176_9 rfl n176_298 k176_298_12 rfl (hb_52 _ _ _ _) (by decide +kernel) (Nat.le_of_ble_eq_true rfl) rfl rfl (by decide +kernel) (by decide +kernel) rfl (Nat.le_of_ble_eq_true rfl) rfl ?_
                refine zw_aload_n 1 f175_0 rfl rfl ?_
                refine zw_getfield 4 f175_1 rfl g175_7_12 (hb_52 _ _ _ _) rfl ?_
                refine zw_iload_n 5 f175_4 rfl rfl ?_
                refine zw_iaload a.toNatClampNeg 3 6 f175_5 rfl (hb_53 _ _ _ _) rfl hc1 (zix (by decide) hc1 (show ¬ 8 ≤ a from ix_le hp.1 (by decide) (by decide) hc1 hc2)) ((congrFun (hR.2.1 53 (by omega) (by omega)) a.toNatClampNeg).trans hk) ?_
                refine zw_iconst 2 7 f175_6 rfl (by decide +kernel) ?_
                refine zw_ic_ne_t 25 f175_7 (by decide +kernel) (by decide +kernel) ?_
                refine zw_aload_n 26 f175_25 rfl rfl ?_
                refine zw_iload_n 27 f175_26 rfl rfl ?_
                refine zw_virtual_i 30 0 0 [.ref 52, .int a] [(0, .ref 52), (1, .int a)] f175_27 rfl n175_158 k175_158_12 rfl (hb_52 _ _ _ _) (by decide +kernel) (Nat.le_of_ble_eq_true rfl) rfl rfl (by decide +kernel) (by decide +kernel) rfl (Nat.le_of_ble_eq_true rfl) rfl ?_
                refine zw_aload_n 1 f126_0 rfl rfl ?_
                refine zw_getfield 4 f126_1 rfl g126_7_12 (hb_52 _ _ _ _) rfl ?_
                refine zw_iload_n 5 f126_4 rfl rfl ?_
                refine zw_iaload a.toNatClampNeg 3 6 f126_5 rfl (hb_53 _ _ _ _) rfl hc1 (zix (by decide) hc1 (show ¬ 8 ≤ a from ix_le hp.1 (by decide) (by decide) hc1 hc2)) ((congrFun (hR.2.1 53 (by omega) (by omega)) a.toNatClampNeg).trans hk) ?_
                refine zw_iconst 3 7 f126_6 rfl (by decide +kernel) ?_
                refine zw_ic_eq_t 20 f126_7 (by decide +kernel) (by decide +kernel) ?_
                refine zw_iconst 1 21 f126_20 rfl (by decide +kernel) ?_
                refine zw_goto 25 f126_21 (by decide +kernel) ?_
                refine zw_zreturn f126_25 r126 u126 (by decide +kernel) ⟨_, rfl, ?_⟩
                refine zw_if_eq_f 33 53 f175_30 (by decide +kernel) rfl (by decide +kernel) ?_
                refine zw_aload_n 34 f175_33 rfl rfl ?_
                refine zw_bipush 41 36 f175_34 rfl (by decide +kernel) ?_
                refine zw_virtual_v 39 0 0 [.ref 52, .int 41] [(0, .ref 52), (1, .int 41)] f175_36 rfl n175_291 k175_291_12 rfl (hb_52 _ _ _ _) (by decide +kernel) (Nat.le_of_ble_eq_true rfl) rfl rfl (by decide +kernel) (by decide +kernel) rfl (Nat.le_of_ble_eq_true rfl) rfl ?_
                refine zw_aload_n 1 f173_0 rfl rfl ?_
                refine zw_getI 1 4 f173_1 rfl g173_246_12 (hb_52 _ _ _ _) rfl rfl ?_
                refine zw_bipush 50 6 f173_4 rfl (by decide +kernel) ?_
                refine zw_ic_ge_f 9 19 f173_6 (by decide +kernel) rfl (by decide +kernel) ?_
                refine zw_aload_n 10 f173_9 rfl rfl ?_
                refine zw_getfield 13 f173_10 rfl g173_74_12 (hb_52 _ _ _ _) rfl ?_
                refine zw_aload_n 14 f173_13 rfl rfl ?_
                refine zw_getI 1 17 f173_14 rfl g173_246_12 (hb_52 _ _ _ _) rfl rfl ?_
                refine zw_iload_n 18 f173_17 rfl rfl ?_
                refine zw_ast 1 _ 19 f173_18 rfl (hb_71 _ _ _ _) (by decide +kernel) (by decide +kernel) (by decide +kernel) (ha_71 _ _ _ _ _) ?_
                refine zw_aload_n 20 f173_19 rfl rfl ?_
                refine zw_dup 21 f173_20 rfl rfl ?_
                refine zw_getI 1 24 f173_21 rfl g173_246_12 (hb_52 _ _ _ _) rfl rfl ?_
                refine zw_iconst 1 25 f173_24 rfl (by decide +kernel) ?_
                refine zw_iadd 2 26 f173_25 rfl (by decide +kernel) ?_
                refine zw_put _ 29 f173_26 rfl g173_246_12 (hb_52 _ _ _ _) rfl (Nat.le_of_ble_eq_true rfl) (by decide +kernel) (hi_52_29 _ _ _ _ _) ?_
                refine zw_vreturn f173_29 r173 u173 ⟨rfl, ?_⟩
                refine zw_aload_n 40 f175_39 rfl rfl ?_
                refine zw_iload_n 41 f175_40 rfl rfl ?_
                refine zw_iload_n 42 f175_41 rfl rfl ?_
                refine zw_aload_n 43 f175_42 rfl rfl ?_
                refine zw_getfield 46 f175_43 rfl g175_16_12 (hb_52 _ _ _ _) rfl ?_
                refine zw_iload_n 47 f175_46 rfl rfl ?_
                refine zw_iaload a.toNatClampNeg (P 55 a.toNatClampNeg) 48 f175_47 rfl (hb_55 _ _ _ _) rfl hc1 (zix (by decide) hc1 (show ¬ 8 ≤ a from ix_le hp.1 (by decide) (by decide) hc1 hc2)) (congrFun ((hR.2.1 55 (by omega) (by omega))) a.toNatClampNeg) ?_
                refine zw_iadd (c + (P 55 a.toNatClampNeg)) 49 f175_48 rfl rfl ?_
                refine zw_virtual_i 52 0 0 [.ref 52, .int a, .int (c + (P 55 a.toNatClampNeg))] [(0, .ref 52), (1, .int a), (2, .int (c + (P 55 a.toNatClampNeg)))] f175_49 rfl n175_294 k175_294_12 rfl (hb_52 _ _ _ _) (by decide +kernel) (Nat.le_of_ble_eq_true rfl) rfl rfl (by decide +kernel) (by decide +kernel) rfl (Nat.le_of_ble_eq_true rfl) rfl ?_
                refine zw_aload_n 1 f174_0 rfl rfl ?_
                refine zw_bipush 10 3 f174_1 rfl (by decide +kernel) ?_
                refine zw_virtual_v 6 0 0 [.ref 52, .int 10] [(0, .ref 52), (1, .int 10)] f174_3 rfl n174_291 k174_291_12 rfl (hb_52 _ _ _ _) (by decide +kernel) (Nat.le_of_ble_eq_true rfl) rfl rfl (by decide +kernel) (by decide +kernel) rfl (Nat.le_of_ble_eq_true rfl) rfl ?_
                refine zw_aload_n 1 f173_0 rfl rfl ?_
                refine zw_getI 2 4 f173_1 rfl g173_246_12 (hb_52 _ _ _ _) rfl rfl ?_
                refine zw_bipush 50 6 f173_4 rfl (by decide +kernel) ?_
                refine zw_ic_ge_f 9 19 f173_6 (by decide +kernel) rfl (by decide +kernel) ?_
                refine zw_aload_n 10 f173_9 rfl rfl ?_
                refine zw_getfield 13 f173_10 rfl g173_74_12 (hb_52 _ _ _ _) rfl ?_
                refine zw_aload_n 14 f173_13 rfl rfl ?_
                refine zw_getI 2 17 f173_14 rfl g173_246_12 (hb_52 _ _ _ _) rfl rfl ?_
                refine zw_iload_n 18 f173_17 rfl rfl ?_
                refine zw_ast 2 _ 19 f173_18 rfl (hb_71 _ _ _ _) (by decide +kernel) (by decide +kernel) (by decide +kernel) (ha_71 _ _ _ _ _) ?_
                refine zw_aload_n 20 f173_19 rfl rfl ?_
                refine zw_dup 21 f173_20 rfl rfl ?_
                refine zw_getI 2 24 f173_21 rfl g173_246_12 (hb_52 _ _ _ _) rfl rfl ?_
                refine zw_iconst 1 25 f173_24 rfl (by decide +kernel) ?_
                refine zw_iadd 3 26 f173_25 rfl (by decide +kernel) ?_
                refine zw_put _ 29 f173_26 rfl g173_246_12 (hb_52 _ _ _ _) rfl (Nat.le_of_ble_eq_true rfl) (by decide +kernel) (hi_52_29 _ _ _ _ _) ?_
                refine zw_vreturn f173_29 r173 u173 ⟨rfl, ?_⟩
                refine zw_iload_n 7 f174_6 rfl rfl ?_
                refine zw_aload_n 8 f174_7 rfl rfl ?_
                refine zw_getfield 11 f174_8 rfl g174_13_12 (hb_52 _ _ _ _) rfl ?_
                refine zw_iload_n 12 f174_11 rfl rfl ?_
                refine zw_iaload a.toNatClampNeg (P 54 a.toNatClampNeg) 13 f174_12 rfl (hb_54 _ _ _ _) rfl hc1 (zix (by decide) hc1 (show ¬ 8 ≤ a from ix_le hp.1 (by decide) (by decide) hc1 hc2)) (congrFun ((hR.2.1 54 (by omega) (by omega))) a.toNatClampNeg) ?_
                refine zw_iadd ((c + (P 55 a.toNatClampNeg)) + (P 54 a.toNatClampNeg)) 14 f174_13 rfl rfl ?_
                refine zw_ireturn f174_14 r174 u174 ⟨_, rfl, ?_⟩
                refine zw_ireturn f175_52 r175 u175 ⟨_, rfl, ?_⟩
                refine zw_iconst 3 13 f176_12 rfl (by decide +kernel) ?_
                refine zw_imul (((c + (P 55 a.toNatClampNeg)) + (P 54 a.toNatClampNeg)) * 3) 14 f176_13 rfl rfl ?_
                refine zw_ireturn f176_14 r176 u176 ⟨_, rfl, ?_⟩
                refine zw_ireturn f177_66 r177 u177 ⟨_, rfl, ?_⟩
                refine zw_goto 76 f180_53 (by decide +kernel) ?_
                refine zw_virtual_i 79 0 0 [.ref 52, .int (((c + (P 55 a.toNatClampNeg)) + (P 54 a.toNatClampNeg)) * 3)] [(0, .ref 52), (1, .int (((c + (P 55 a.toNatClampNeg)) + (P 54 a.toNatClampNeg)) * 3))] f180_76 rfl n180_205 k180_205_12 rfl (hb_52 _ _ _ _) (by decide +kernel) (Nat.le_of_ble_eq_true rfl) rfl rfl (by decide +kernel) (by decide +kernel) rfl (Nat.le_of_ble_eq_true rfl) rfl ?_
                refine zw_aload_n 1 f122_0 rfl rfl ?_
                refine zw_iconst 0 2 f122_1 rfl (by decide +kernel) ?_
                refine zw_put _ 5 f122_2 rfl g122_111_12 (hb_52 _ _ _ _) rfl (Nat.le_of_ble_eq_true rfl) (by decide +kernel) (hi_52_27 _ _ _ _ _) ?_
                refine zw_iload_n 6 f122_5 rfl rfl ?_
                refine zw_ireturn f122_6 r122 u122 ⟨_, rfl, ?_⟩
                refine zw_ireturn f180_79 r180 u180 ?_
                exact ⟨_, _, _, _, rfl, (KQ.i rfl (KQ.i rfl (KQ.a rfl (KQ.i rfl (KQ.a rfl (KQ.i rfl (KQ.a rfl (KQ.i rfl KQ.rf)))))))), ⟨hi.1, hi.2.1, 3, by omega, (show _ = nI 3 from rfl)⟩, Or.inr ⟨⟨(qV.of (by omega) hc1 hc2), ⟨hc3, hc4⟩⟩, by rw [show an_tl (P 53 a.toNatClampNeg) b = [11, 41, 10] from ((cI_n hc5).trans ((cI_y (Decidable.of_not_not hc6)).trans ((cI_n (kne hk (by decide))).trans ((cI_n (kne hk (by decide))).trans ((cI_n (kne hk (by decide))).trans (cI_y hk))))))]; exact ⟨rfl, by intro i hi; rcases (show i = 0 ∨ i = 1 ∨ i = 2 by have q : i < 3 := hi; omega) with rfl | rfl | rfl <;> rfl⟩⟩, _, rfl⟩
              · refine zw_iaload a.toNatClampNeg 4 6 f177_5 rfl (hb_53 _ _ _ _) rfl hc1 (zix (by decide) hc1 (show ¬ 8 ≤ a from ix_le hp.1 (by decide) (by decide) hc1 hc2)) ((congrFun (hR.2.1 53 (by omega) (by omega)) a.toNatClampNeg).trans hk) ?_
                refine zw_iconst 1 7 f177_6 rfl (by decide +kernel) ?_
                refine zw_ic_ne_t 30 f177_7 (by decide +kernel) (by decide +kernel) ?_
                refine zw_aload_n 31 f177_30 rfl rfl ?_
                refine zw_getfield 34 f177_31 rfl g177_7_12 (hb_52 _ _ _ _) rfl ?_
                refine zw_iload_n 35 f177_34 rfl rfl ?_
                refine zw_iaload a.toNatClampNeg 4 36 f177_35 rfl (hb_53 _ _ _ _) rfl hc1 (zix (by decide) hc1 (show ¬ 8 ≤ a from ix_le hp.1 (by decide) (by decide) hc1 hc2)) ((congrFun (hR.2.1 53 (by omega) (by omega)) a.toNatClampNeg).trans hk) ?_
                refine zw_iconst 4 37 f177_36 rfl (by decide +kernel) ?_
                refine zw_ic_ne_f 40 60 f177_37 (by decide +kernel) rfl (by decide +kernel) ?_
                refine zw_aload_n 41 f177_40 rfl rfl ?_
                refine zw_bipush 51 43 f177_41 rfl (by decide +kernel) ?_
                refine zw_virtual_v 46 0 0 [.ref 52, .int 51] [(0, .ref 52), (1, .int 51)] f177_43 rfl n177_291 k177_291_12 rfl (hb_52 _ _ _ _) (by decide +kernel) (Nat.le_of_ble_eq_true rfl) rfl rfl (by decide +kernel) (by decide +kernel) rfl (Nat.le_of_ble_eq_true rfl) rfl ?_
                refine zw_aload_n 1 f173_0 rfl rfl ?_
                refine zw_getI 0 4 f173_1 rfl g173_246_12 (hb_52 _ _ _ _) rfl rfl ?_
                refine zw_bipush 50 6 f173_4 rfl (by decide +kernel) ?_
                refine zw_ic_ge_f 9 19 f173_6 (by decide +kernel) rfl (by decide +kernel) ?_
                refine zw_aload_n 10 f173_9 rfl rfl ?_
                refine zw_getfield 13 f173_10 rfl g173_74_12 (hb_52 _ _ _ _) rfl ?_
                refine zw_aload_n 14 f173_13 rfl rfl ?_
                refine zw_getI 0 17 f173_14 rfl g173_246_12 (hb_52 _ _ _ _) rfl rfl ?_
                refine zw_iload_n 18 f173_17 rfl rfl ?_
                refine zw_ast 0 _ 19 f173_18 rfl (hb_71 _ _ _ _) (by decide +kernel) (by decide +kernel) (by decide +kernel) (ha_71 _ _ _ _ _) ?_
                refine zw_aload_n 20 f173_19 rfl rfl ?_
                refine zw_dup 21 f173_20 rfl rfl ?_
                refine zw_getI 0 24 f173_21 rfl g173_246_12 (hb_52 _ _ _ _) rfl rfl ?_
                refine zw_iconst 1 25 f173_24 rfl (by decide +kernel) ?_
                refine zw_iadd 1 26 f173_25 rfl (by decide +kernel) ?_
                refine zw_put _ 29 f173_26 rfl g173_246_12 (hb_52 _ _ _ _) rfl (Nat.le_of_ble_eq_true rfl) (by decide +kernel) (hi_52_29 _ _ _ _ _) ?_
                refine zw_vreturn f173_29 r173 u173 ⟨rfl, ?_⟩
                refine zw_aload_n 47 f177_46 rfl rfl ?_
                refine zw_iload_n 48 f177_47 rfl rfl ?_
                refine zw_iload_n 49 f177_48 rfl rfl ?_
                refine zw_virtual_i 52 0 0 [.ref 52, .int a, .int c] [(0, .ref 52), (1, .int a), (2, .int c)] f177_49 rfl n177_301 k177_301_12 rfl (hb_52 _ _ _ _) (by decide +kernel) (Nat.le_of_ble_eq_true rfl) rfl rfl (by decide +kernel) (by decide +kernel) rfl (Nat.le_of_ble_eq_true rfl) rfl ?_
                refine zw_aload_n 1 f176_0 rfl rfl ?_
                refine zw_bipush 11 3 f176_1 rfl (by decide +kernel) ?_
                refine zw_virtual_v 6 0 0 [.ref 52, .int 11] [(0, .ref 52), (1, .int 11)] f176_3 rfl n176_291 k176_291_12 rfl (hb_52 _ _ _ _) (by decide +kernel) (Nat.le_of_ble_eq_true rfl) rfl rfl (by decide +kernel) (by decide +kernel) rfl (Nat.le_of_ble_eq_true rfl) rfl ?_
                refine zw_aload_n 1 f173_0 rfl rfl ?_
                refine zw_getI 1 4 f173_1 rfl g173_246_12 (hb_52 _ _ _ _) rfl rfl ?_
                refine zw_bipush 50 6 f173_4 rfl (by decide +kernel) ?_
                refine zw_ic_ge_f 9 19 f173_6 (by decide +kernel) rfl (by decide +kernel) ?_
                refine zw_aload_n 10 f173_9 rfl rfl ?_
                refine zw_getfield 13 f173_10 rfl g173_74_12 (hb_52 _ _ _ _) rfl ?_
                refine zw_aload_n 14 f173_13 rfl rfl ?_
                refine zw_getI 1 17 f173_14 rfl g173_246_12 (hb_52 _ _ _ _) rfl rfl ?_
                refine zw_iload_n 18 f173_17 rfl rfl ?_
                refine zw_ast 1 _ 19 f173_18 rfl (hb_71 _ _ _ _) (by decide +kernel) (by decide +kernel) (by decide +kernel) (ha_71 _ _ _ _ _) ?_
                refine zw_aload_n 20 f173_19 rfl rfl ?_
                refine zw_dup 21 f173_20 rfl rfl ?_
                refine zw_getI 1 24 f173_21 rfl g173_246_12 (hb_52 _ _ _ _) rfl rfl ?_
                refine zw_iconst 1 25 f173_24 rfl (by decide +kernel) ?_
                refine zw_iadd 2 26 f173_25 rfl (by decide +kernel) ?_
                refine zw_put _ 29 f173_26 rfl g173_246_12 (hb_52 _ _ _ _) rfl (Nat.le_of_ble_eq_true rfl) (by decide +kernel) (hi_52_29 _ _ _ _ _) ?_
                refine zw_vreturn f173_29 r173 u173 ⟨rfl, ?_⟩
                refine zw_aload_n 7 f176_6 rfl rfl ?_
                refine zw_iload_n 8 f176_7 rfl rfl ?_
                refine zw_iload_n 9 f176_8 rfl rfl ?_
                refine zw_virtual_i 12 0 0 [.ref 52, .int a, .int c] [(0, .ref 52), (1, .int a), (2, .int c)] f176_9 rfl n176_298 k176_298_12 rfl (hb_52 _ _ _ _) (by decide +kernel) (Nat.le_of_ble_eq_true rfl) rfl rfl (by decide +kernel) (by decide +kernel) rfl (Nat.le_of_ble_eq_true rfl) rfl ?_
                refine zw_aload_n 1 f175_0 rfl rfl ?_
                refine zw_getfield 4 f175_1 rfl g175_7_12 (hb_52 _ _ _ _) rfl ?_
                refine zw_iload_n 5 f175_4 rfl rfl ?_
                refine zw_iaload a.toNatClampNeg 4 6 f175_5 rfl (hb_53 _ _ _ _) rfl hc1 (zix (by decide) hc1 (show ¬ 8 ≤ a from ix_le hp.1 (by decide) (by decide) hc1 hc2)) ((congrFun (hR.2.1 53 (by omega) (by omega)) a.toNatClampNeg).trans hk) ?_
                refine zw_iconst 2 7 f175_6 rfl (by decide +kernel) ?_
                refine zw_ic_ne_t 25 f175_7 (by decide +kernel) (by decide +kernel) ?_
                refine zw_aload_n 26 f175_25 rfl rfl ?_
                refine zw_iload_n 27 f175_26 rfl rfl ?_
                refine zw_virtual_i 30 0 0 [.ref 52, .int a] [(0, .ref 52), (1, .int a)] f175_27 rfl n175_158 k175_158_12 rfl (hb_52 _ _ _ _) (by decide +kernel) (Nat.le_of_ble_eq_true rfl) rfl rfl (by decide +kernel) (by decide +kernel) rfl (Nat.le_of_ble_eq_true rfl) rfl ?_
                refine zw_aload_n 1 f126_0 rfl rfl ?_
                refine zw_getfield 4 f126_1 rfl g126_7_12 (hb_52 _ _ _ _) rfl ?_
                refine zw_iload_n 5 f126_4 rfl rfl ?_
                refine zw_iaload a.toNatClampNeg 4 6 f126_5 rfl (hb_53 _ _ _ _) rfl hc1 (zix (by decide) hc1 (show ¬ 8 ≤ a from ix_le hp.1 (by decide) (by decide) hc1 hc2)) ((congrFun (hR.2.1 53 (by omega) (by omega)) a.toNatClampNeg).trans hk) ?_
                refine zw_iconst 3 7 f126_6 rfl (by decide +kernel) ?_
                refine zw_ic_eq_f 10 20 f126_7 (by decide +kernel) rfl (by decide +kernel) ?_
                refine zw_aload_n 11 f126_10 rfl rfl ?_
                refine zw_getfield 14 f126_11 rfl g126_7_12 (hb_52 _ _ _ _) rfl ?_
                refine zw_iload_n 15 f126_14 rfl rfl ?_
                refine zw_iaload a.toNatClampNeg 4 16 f126_15 rfl (hb_53 _ _ _ _) rfl hc1 (zix (by decide) hc1 (show ¬ 8 ≤ a from ix_le hp.1 (by decide) (by decide) hc1 hc2)) ((congrFun (hR.2.1 53 (by omega) (by omega)) a.toNatClampNeg).trans hk) ?_
                refine zw_iconst 4 17 f126_16 rfl (by decide +kernel) ?_
                refine zw_ic_ne_f 20 24 f126_17 (by decide +kernel) rfl (by decide +kernel) ?_
                refine zw_iconst 1 21 f126_20 rfl (by decide +kernel) ?_
                refine zw_goto 25 f126_21 (by decide +kernel) ?_
                refine zw_zreturn f126_25 r126 u126 (by decide +kernel) ⟨_, rfl, ?_⟩
                refine zw_if_eq_f 33 53 f175_30 (by decide +kernel) rfl (by decide +kernel) ?_
                refine zw_aload_n 34 f175_33 rfl rfl ?_
                refine zw_bipush 41 36 f175_34 rfl (by decide +kernel) ?_
                refine zw_virtual_v 39 0 0 [.ref 52, .int 41] [(0, .ref 52), (1, .int 41)] f175_36 rfl n175_291 k175_291_12 rfl (hb_52 _ _ _ _) (by decide +kernel) (Nat.le_of_ble_eq_true rfl) rfl rfl (by decide +kernel) (by decide +kernel) rfl (Nat.le_of_ble_eq_true rfl) rfl ?_
                refine zw_aload_n 1 f173_0 rfl rfl ?_
                refine zw_getI 2 4 f173_1 rfl g173_246_12 (hb_52 _ _ _ _) rfl rfl ?_
                refine zw_bipush 50 6 f173_4 rfl (by decide +kernel) ?_
                refine zw_ic_ge_f 9 19 f173_6 (by decide +kernel) rfl (by decide +kernel) ?_
                refine zw_aload_n 10 f173_9 rfl rfl ?_
                refine zw_getfield 13 f173_10 rfl g173_74_12 (hb_52 _ _ _ _) rfl ?_
                refine zw_aload_n 14 f173_13 rfl rfl ?_
                refine zw_getI 2 17 f173_14 rfl g173_246_12 (hb_52 _ _ _ _) rfl rfl ?_
                refine zw_iload_n 18 f173_17 rfl rfl ?_
                refine zw_ast 2 _ 19 f173_18 rfl (hb_71 _ _ _ _) (by decide +kernel) (by decide +kernel) (by decide +kernel) (ha_71 _ _ _ _ _) ?_
                refine zw_aload_n 20 f173_19 rfl rfl ?_
                refine zw_dup 21 f173_20 rfl rfl ?_
                refine zw_getI 2 24 f173_21 rfl g173_246_12 (hb_52 _ _ _ _) rfl rfl ?_
                refine zw_iconst 1 25 f173_24 rfl (by decide +kernel) ?_
                refine zw_iadd 3 26 f173_25 rfl (by decide +kernel) ?_
                refine zw_put _ 29 f173_26 rfl g173_246_12 (hb_52 _ _ _ _) rfl (Nat.le_of_ble_eq_true rfl) (by decide +kernel) (hi_52_29 _ _ _ _ _) ?_
                refine zw_vreturn f173_29 r173 u173 ⟨rfl, ?_⟩
                refine zw_aload_n 40 f175_39 rfl rfl ?_
                refine zw_iload_n 41 f175_40 rfl rfl ?_
                refine zw_iload_n 42 f175_41 rfl rfl ?_
                refine zw_aload_n 43 f175_42 rfl rfl ?_
                refine zw_getfield 46 f175_43 rfl g175_16_12 (hb_52 _ _ _ _) rfl ?_
                refine zw_iload_n 47 f175_46 rfl rfl ?_
                refine zw_iaload a.toNatClampNeg (P 55 a.toNatClampNeg) 48 f175_47 rfl (hb_55 _ _ _ _) rfl hc1 (zix (by decide) hc1 (show ¬ 8 ≤ a from ix_le hp.1 (by decide) (by decide) hc1 hc2)) (congrFun ((hR.2.1 55 (by omega) (by omega))) a.toNatClampNeg) ?_
                refine zw_iadd (c + (P 55 a.toNatClampNeg)) 49 f175_48 rfl rfl ?_
                refine zw_virtual_i 52 0 0 [.ref 52, .int a, .int (c + (P 55 a.toNatClampNeg))] [(0, .ref 52), (1, .int a), (2, .int (c + (P 55 a.toNatClampNeg)))] f175_49 rfl n175_294 k175_294_12 rfl (hb_52 _ _ _ _) (by decide +kernel) (Nat.le_of_ble_eq_true rfl) rfl rfl (by decide +kernel) (by decide +kernel) rfl (Nat.le_of_ble_eq_true rfl) rfl ?_
                refine zw_aload_n 1 f174_0 rfl rfl ?_
                refine zw_bipush 10 3 f174_1 rfl (by decide +kernel) ?_
                refine zw_virtual_v 6 0 0 [.ref 52, .int 10] [(0, .ref 52), (1, .int 10)] f174_3 rfl n174_291 k174_291_12 rfl (hb_52 _ _ _ _) (by decide +kernel) (Nat.le_of_ble_eq_true rfl) rfl rfl (by decide +kernel) (by decide +kernel) rfl (Nat.le_of_ble_eq_true rfl) rfl ?_
                refine zw_aload_n 1 f173_0 rfl rfl ?_
                refine zw_getI 3 4 f173_1 rfl g173_246_12 (hb_52 _ _ _ _) rfl rfl ?_
                refine zw_bipush 50 6 f173_4 rfl (by decide +kernel) ?_
                refine zw_ic_ge_f 9 19 f173_6 (by decide +kernel) rfl (by decide +kernel) ?_
                refine zw_aload_n 10 f173_9 rfl rfl ?_
                refine zw_getfield 13 f173_10 rfl g173_74_12 (hb_52 _ _ _ _) rfl ?_
                refine zw_aload_n 14 f173_13 rfl rfl ?_
                refine zw_getI 3 17 f173_14 rfl g173_246_12 (hb_52 _ _ _ _) rfl rfl ?_
                refine zw_iload_n 18 f173_17 rfl rfl ?_
                refine zw_ast 3 _ 19 f173_18 rfl (hb_71 _ _ _ _) (by decide +kernel) (by decide +kernel) (by decide +kernel) (ha_71 _ _ _ _ _) ?_
                refine zw_aload_n 20 f173_19 rfl rfl ?_
                refine zw_dup 21 f173_20 rfl rfl ?_
                refine zw_getI 3 24 f173_21 rfl g173_246_12 (hb_52 _ _ _ _) rfl rfl ?_
                refine zw_iconst 1 25 f173_24 rfl (by decide +kernel) ?_
                refine zw_iadd 4 26 f173_25 rfl (by decide +kernel) ?_
                refine zw_put _ 29 f173_26 rfl g173_246_12 (hb_52 _ _ _ _) rfl (Nat.le_of_ble_eq_true rfl) (by decide +kernel) (hi_52_29 _ _ _ _ _) ?_
                refine zw_vreturn f173_29 r173 u173 ⟨rfl, ?_⟩
                refine zw_iload_n 7 f174_6 rfl rfl ?_
                refine zw_aload_n 8 f174_7 rfl rfl ?_
                refine zw_getfield 11 f174_8 rfl g174_13_12 (hb_52 _ _ _ _) rfl ?_
                refine zw_iload_n 12 f174_11 rfl rfl ?_
                refine zw_iaload a.toNatClampNeg (P 54 a.toNatClampNeg) 13 f174_12 rfl (hb_54 _ _ _ _) rfl hc1 (zix (by decide) hc1 (show ¬ 8 ≤ a from ix_le hp.1 (by decide) (by decide) hc1 hc2)) (congrFun ((hR.2.1 54 (by omega) (by omega))) a.toNatClampNeg) ?_
                refine zw_iadd ((c + (P 55 a.toNatClampNeg)) + (P 54 a.toNatClampNeg)) 14 f174_13 rfl rfl ?_
                refine zw_ireturn f174_14 r174 u174 ⟨_, rfl, ?_⟩
                refine zw_ireturn f175_52 r175 u175 ⟨_, rfl, ?_⟩
                refine zw_iconst 3 13 f176_12 rfl (by decide +kernel) ?_
                refine zw_imul (((c + (P 55 a.toNatClampNeg)) + (P 54 a.toNatClampNeg)) * 3) 14 f176_13 rfl rfl ?_
                refine zw_ireturn f176_14 r176 u176 ⟨_, rfl, ?_⟩
                refine zw_aload_n 53 f177_52 rfl rfl ?_
                refine zw_getfield 56 f177_53 rfl g177_55_12 (hb_52 _ _ _ _) rfl ?_
                refine zw_iload_n 57 f177_56 rfl rfl ?_
                refine zw_iaload a.toNatClampNeg ((W.2.2.2.2.2.2.2) a.toNatClampNeg) 58 f177_57 rfl (hb_66 _ _ _ _) rfl hc1 (zix (by decide) hc1 (show ¬ 8 ≤ a from ix_le hp.1 (by decide) (by decide) hc1 hc2)) (congrFun (hR.cnt) a.toNatClampNeg) ?_
                refine zw_ixor ((((c + (P 55 a.toNatClampNeg)) + (P 54 a.toNatClampNeg)) * 3) ^^^ ((W.2.2.2.2.2.2.2) a.toNatClampNeg)) 59 f177_58 rfl rfl ?_
                refine zw_ireturn f177_59 r177 u177 ⟨_, rfl, ?_⟩
                refine zw_goto 76 f180_53 (by decide +kernel) ?_
                refine zw_virtual_i 79 0 0 [.ref 52, .int ((((c + (P 55 a.toNatClampNeg)) + (P 54 a.toNatClampNeg)) * 3) ^^^ ((W.2.2.2.2.2.2.2) a.toNatClampNeg))] [(0, .ref 52), (1, .int ((((c + (P 55 a.toNatClampNeg)) + (P 54 a.toNatClampNeg)) * 3) ^^^ ((W.2.2.2.2.2.2.2) a.toNatClampNeg)))] f180_76 rfl n180_205 k180_205_12 rfl (hb_52 _ _ _ _) (by decide +kernel) (Nat.le_of_ble_eq_true rfl) rfl rfl (by decide +kernel) (by decide +kernel) rfl (Nat.le_of_ble_eq_true rfl) rfl ?_
                refine zw_aload_n 1 f122_0 rfl rfl ?_
                refine zw_iconst 0 2 f122_1 rfl (by decide +kernel) ?_
                refine zw_put _ 5 f122_2 rfl g122_111_12 (hb_52 _ _ _ _) rfl (Nat.le_of_ble_eq_true rfl) (by decide +kernel) (hi_52_27 _ _ _ _ _) ?_
                refine zw_iload_n 6 f122_5 rfl rfl ?_
                refine zw_ireturn f122_6 r122 u122 ⟨_, rfl, ?_⟩
                refine zw_ireturn f180_79 r180 u180 ?_
                exact ⟨_, _, _, _, rfl, (KQ.i rfl (KQ.i rfl (KQ.a rfl (KQ.i rfl (KQ.a rfl (KQ.i rfl (KQ.a rfl (KQ.i rfl (KQ.a rfl (KQ.i rfl KQ.rf)))))))))), ⟨hi.1, hi.2.1, 4, by omega, (show _ = nI 4 from rfl)⟩, Or.inr ⟨⟨(qV.of (by omega) hc1 hc2), ⟨hc3, hc4⟩⟩, by rw [show an_tl (P 53 a.toNatClampNeg) b = [51, 11, 41, 10] from ((cI_n hc5).trans ((cI_y (Decidable.of_not_not hc6)).trans ((cI_n (kne hk (by decide))).trans ((cI_n (kne hk (by decide))).trans ((cI_n (kne hk (by decide))).trans ((cI_n (kne hk (by decide))).trans (cI_y hk)))))))]; exact ⟨rfl, by intro i hi; rcases (show i = 0 ∨ i = 1 ∨ i = 2 ∨ i = 3 by have q : i < 4 := hi; omega) with rfl | rfl | rfl | rfl <;> rfl⟩⟩, _, rfl⟩
          · refine zw_aload_n 34 f180_33 rfl rfl ?_
            refine zw_iload_n 35 f180_34 rfl rfl ?_
            refine zw_iload_n 36 f180_35 rfl rfl ?_
            refine zw_virtual_i 39 0 0 [.ref 52, .int a, .int c] [(0, .ref 52), (1, .int a), (2, .int c)] f180_36 rfl n180_298 k180_298_12 rfl (hb_52 _ _ _ _) (by decide +kernel) (Nat.le_of_ble_eq_true rfl) rfl rfl (by decide +kernel) (by decide +kernel) rfl (Nat.le_of_ble_eq_true rfl) rfl ?_
            refine zw_aload_n 1 f175_0 rfl rfl ?_
            refine zw_getfield 4 f175_1 rfl g175_7_12 (hb_52 _ _ _ _) rfl ?_
            refine zw_iload_n 5 f175_4 rfl rfl ?_
            rcases (k5 (hQ.1 a.toNatClampNeg ((qV.of (by omega) hc1 hc2)).1)) with hk | hk | hk | hk | hk
            · refine zw_iaload a.toNatClampNeg 0 6 f175_5 rfl (hb_53 _ _ _ _) rfl hc1 (zix (by decide) hc1 (show ¬ 8 ≤ a from ix_le hp.1 (by decide) (by decide) hc1 hc2)) ((congrFun (hR.2.1 53 (by omega) (by omega)) a.toNatClampNeg).trans hk) ?_
              refine zw_iconst 2 7 f175_6 rfl (by decide +kernel) ?_
              refine zw_ic_ne_t 25 f175_7 (by decide +kernel) (by decide +kernel) ?_
              refine zw_aload_n 26 f175_25 rfl rfl ?_
              refine zw_iload_n 27 f175_26 rfl rfl ?_
              refine zw_virtual_i 30 0 0 [.ref 52, .int a] [(0, .ref 52), (1, .int a)] f175_27 rfl n175_158 k175_158_12 rfl (hb_52 _ _ _ _) (by decide +kernel) (Nat.le_of_ble_eq_true rfl) rfl rfl (by decide +kernel) (by decide +kernel) rfl (Nat.le_of_ble_eq_true rfl) rfl ?_
              refine zw_aload_n 1 f126_0 rfl rfl ?_
              refine zw_getfield 4 f126_1 rfl g126_7_12 (hb_52 _ _ _ _) rfl ?_
              refine zw_iload_n 5 f126_4 rfl rfl ?_
              refine zw_iaload a.toNatClampNeg 0 6 f126_5 rfl (hb_53 _ _ _ _) rfl hc1 (zix (by decide) hc1 (show ¬ 8 ≤ a from ix_le hp.1 (by decide) (by decide) hc1 hc2)) ((congrFun (hR.2.1 53 (by omega) (by omega)) a.toNatClampNeg).trans hk) ?_
              refine zw_iconst 3 7 f126_6 rfl (by decide +kernel) ?_
              refine zw_ic_eq_f 10 20 f126_7 (by decide +kernel) rfl (by decide +kernel) ?_
              refine zw_aload_n 11 f126_10 rfl rfl ?_
              refine zw_getfield 14 f126_11 rfl g126_7_12 (hb_52 _ _ _ _) rfl ?_
              refine zw_iload_n 15 f126_14 rfl rfl ?_
              refine zw_iaload a.toNatClampNeg 0 16 f126_15 rfl (hb_53 _ _ _ _) rfl hc1 (zix (by decide) hc1 (show ¬ 8 ≤ a from ix_le hp.1 (by decide) (by decide) hc1 hc2)) ((congrFun (hR.2.1 53 (by omega) (by omega)) a.toNatClampNeg).trans hk) ?_
              refine zw_iconst 4 17 f126_16 rfl (by decide +kernel) ?_
              refine zw_ic_ne_t 24 f126_17 (by decide +kernel) (by decide +kernel) ?_
              refine zw_iconst 0 25 f126_24 rfl (by decide +kernel) ?_
              refine zw_zreturn f126_25 r126 u126 (by decide +kernel) ⟨_, rfl, ?_⟩
              refine zw_if_eq_t 53 f175_30 (by decide +kernel) (by decide +kernel) ?_
              refine zw_aload_n 54 f175_53 rfl rfl ?_
              refine zw_iload_n 55 f175_54 rfl rfl ?_
              refine zw_iload_n 56 f175_55 rfl rfl ?_
              refine zw_virtual_i 59 0 0 [.ref 52, .int a, .int c] [(0, .ref 52), (1, .int a), (2, .int c)] f175_56 rfl n175_294 k175_294_12 rfl (hb_52 _ _ _ _) (by decide +kernel) (Nat.le_of_ble_eq_true rfl) rfl rfl (by decide +kernel) (by decide +kernel) rfl (Nat.le_of_ble_eq_true rfl) rfl ?_
              refine zw_aload_n 1 f174_0 rfl rfl ?_
              refine zw_bipush 10 3 f174_1 rfl (by decide +kernel) ?_
              refine zw_virtual_v 6 0 0 [.ref 52, .int 10] [(0, .ref 52), (1, .int 10)] f174_3 rfl n174_291 k174_291_12 rfl (hb_52 _ _ _ _) (by decide +kernel) (Nat.le_of_ble_eq_true rfl) rfl rfl (by decide +kernel) (by decide +kernel) rfl (Nat.le_of_ble_eq_true rfl) rfl ?_
              refine zw_aload_n 1 f173_0 rfl rfl ?_
              refine zw_getI 0 4 f173_1 rfl g173_246_12 (hb_52 _ _ _ _) rfl rfl ?_
              refine zw_bipush 50 6 f173_4 rfl (by decide +kernel) ?_
              refine zw_ic_ge_f 9 19 f173_6 (by decide +kernel) rfl (by decide +kernel) ?_
              refine zw_aload_n 10 f173_9 rfl rfl ?_
              refine zw_getfield 13 f173_10 rfl g173_74_12 (hb_52 _ _ _ _) rfl ?_
              refine zw_aload_n 14 f173_13 rfl rfl ?_
              refine zw_getI 0 17 f173_14 rfl g173_246_12 (hb_52 _ _ _ _) rfl rfl ?_
              refine zw_iload_n 18 f173_17 rfl rfl ?_
              refine zw_ast 0 _ 19 f173_18 rfl (hb_71 _ _ _ _) (by decide +kernel) (by decide +kernel) (by decide +kernel) (ha_71 _ _ _ _ _) ?_
              refine zw_aload_n 20 f173_19 rfl rfl ?_
              refine zw_dup 21 f173_20 rfl rfl ?_
              refine zw_getI 0 24 f173_21 rfl g173_246_12 (hb_52 _ _ _ _) rfl rfl ?_
              refine zw_iconst 1 25 f173_24 rfl (by decide +kernel) ?_
              refine zw_iadd 1 26 f173_25 rfl (by decide +kernel) ?_
              refine zw_put _ 29 f173_26 rfl g173_246_12 (hb_52 _ _ _ _) rfl (Nat.le_of_ble_eq_true rfl) (by decide +kernel) (hi_52_29 _ _ _ _ _) ?_
              refine zw_vreturn f173_29 r173 u173 ⟨rfl, ?_⟩
              refine zw_iload_n 7 f174_6 rfl rfl ?_
              refine zw_aload_n 8 f174_7 rfl rfl ?_
              refine zw_getfield 11 f174_8 rfl g174_13_12 (hb_52 _ _ _ _) rfl ?_
              refine zw_iload_n 12 f174_11 rfl rfl ?_
              refine zw_iaload a.toNatClampNeg (P 54 a.toNatClampNeg) 13 f174_12 rfl (hb_54 _ _ _ _) rfl hc1 (zix (by decide) hc1 (show ¬ 8 ≤ a from ix_le hp.1 (by decide) (by decide) hc1 hc2)) (congrFun ((hR.2.1 54 (by omega) (by omega))) a.toNatClampNeg) ?_
              refine zw_iadd (c + (P 54 a.toNatClampNeg)) 14 f174_13 rfl rfl ?_
              refine zw_ireturn f174_14 r174 u174 ⟨_, rfl, ?_⟩
              refine zw_ireturn f175_59 r175 u175 ⟨_, rfl, ?_⟩
              refine zw_goto 76 f180_39 (by decide +kernel) ?_
              refine zw_virtual_i 79 0 0 [.ref 52, .int (c + (P 54 a.toNatClampNeg))] [(0, .ref 52), (1, .int (c + (P 54 a.toNatClampNeg)))] f180_76 rfl n180_205 k180_205_12 rfl (hb_52 _ _ _ _) (by decide +kernel) (Nat.le_of_ble_eq_true rfl) rfl rfl (by decide +kernel) (by decide +kernel) rfl (Nat.le_of_ble_eq_true rfl) rfl ?_
              refine zw_aload_n 1 f122_0 rfl rfl ?_
              refine zw_iconst 0 2 f122_1 rfl (by decide +kernel) ?_
              refine zw_put _ 5 f122_2 rfl g122_111_12 (hb_52 _ _ _ _) rfl (Nat.le_of_ble_eq_true rfl) (by decide +kernel) (hi_52_27 _ _ _ _ _) ?_
              refine zw_iload_n 6 f122_5 rfl rfl ?_
              refine zw_ireturn f122_6 r122 u122 ⟨_, rfl, ?_⟩
              refine zw_ireturn f180_79 r180 u180 ?_
              exact ⟨_, _, _, _, rfl, (KQ.i rfl (KQ.i rfl (KQ.a rfl (KQ.i rfl KQ.rf)))), ⟨hi.1, hi.2.1, 1, by omega, (show _ = nI 1 from rfl)⟩, Or.inr ⟨⟨(qV.of (by omega) hc1 hc2), ⟨hc3, hc4⟩⟩, by rw [show an_tl (P 53 a.toNatClampNeg) b = [10] from ((cI_y (Decidable.of_not_not hc5)).trans (cI_y hk))]; exact ⟨rfl, by intro i hi; rcases (show i = 0 by have q : i < 1 := hi; omega) with rfl <;> rfl⟩⟩, _, rfl⟩
            · refine zw_iaload a.toNatClampNeg 1 6 f175_5 rfl (hb_53 _ _ _ _) rfl hc1 (zix (by decide) hc1 (show ¬ 8 ≤ a from ix_le hp.1 (by decide) (by decide) hc1 hc2)) ((congrFun (hR.2.1 53 (by omega) (by omega)) a.toNatClampNeg).trans hk) ?_
              refine zw_iconst 2 7 f175_6 rfl (by decide +kernel) ?_
              refine zw_ic_ne_t 25 f175_7 (by decide +kernel) (by decide +kernel) ?_
              refine zw_aload_n 26 f175_25 rfl rfl ?_
              refine zw_iload_n 27 f175_26 rfl rfl ?_
              refine zw_virtual_i 30 0 0 [.ref 52, .int a] [(0, .ref 52), (1, .int a)] f175_27 rfl n175_158 k175_158_12 rfl (hb_52 _ _ _ _) (by decide +kernel) (Nat.le_of_ble_eq_true rfl) rfl rfl (by decide +kernel) (by decide +kernel) rfl (Nat.le_of_ble_eq_true rfl) rfl ?_
              refine zw_aload_n 1 f126_0 rfl rfl ?_
              refine zw_getfield 4 f126_1 rfl g126_7_12 (hb_52 _ _ _ _) rfl ?_
              refine zw_iload_n 5 f126_4 rfl rfl ?_
              refine zw_iaload a.toNatClampNeg 1 6 f126_5 rfl (hb_53 _ _ _ _) rfl hc1 (zix (by decide) hc1 (show ¬ 8 ≤ a from ix_le hp.1 (by decide) (by decide) hc1 hc2)) ((congrFun (hR.2.1 53 (by omega) (by omega)) a.toNatClampNeg).trans hk) ?_
              refine zw_iconst 3 7 f126_6 rfl (by decide +kernel) ?_
              refine zw_ic_eq_f 10 20 f126_7 (by decide +kernel) rfl (by decide +kernel) ?_
              refine zw_aload_n 11 f126_10 rfl rfl ?_
              refine zw_getfield 14 f126_11 rfl g126_7_12 (hb_52 _ _ _ _) rfl ?_
              refine zw_iload_n 15 f126_14 rfl rfl ?_
              refine zw_iaload a.toNatClampNeg 1 16 f126_15 rfl (hb_53 _ _ _ _) rfl hc1 (zix (by decide) hc1 (show ¬ 8 ≤ a from ix_le hp.1 (by decide) (by decide) hc1 hc2)) ((congrFun (hR.2.1 53 (by omega) (by omega)) a.toNatClampNeg).trans hk) ?_
              refine zw_iconst 4 17 f126_16 rfl (by decide +kernel) ?_
              refine zw_ic_ne_t 24 f126_17 (by decide +kernel) (by decide +kernel) ?_
              refine zw_iconst 0 25 f126_24 rfl (by decide +kernel) ?_
              refine zw_zreturn f126_25 r126 u126 (by decide +kernel) ⟨_, rfl, ?_⟩
              refine zw_if_eq_t 53 f175_30 (by decide +kernel) (by decide +kernel) ?_
              refine zw_aload_n 54 f175_53 rfl rfl ?_
              refine zw_iload_n 55 f175_54 rfl rfl ?_
              refine zw_iload_n 56 f175_55 rfl rfl ?_
              refine zw_virtual_i 59 0 0 [.ref 52, .int a, .int c] [(0, .ref 52), (1, .int a), (2, .int c)] f175_56 rfl n175_294 k175_294_12 rfl (hb_52 _ _ _ _) (by decide +kernel) (Nat.le_of_ble_eq_true rfl) rfl rfl (by decide +kernel) (by decide +kernel) rfl (Nat.le_of_ble_eq_true rfl) rfl ?_
              refine zw_aload_n 1 f174_0 rfl rfl ?_
              refine zw_bipush 10 3 f174_1 rfl (by decide +kernel) ?_
              refine zw_virtual_v 6 0 0 [.ref 52, .int 10] [(0, .ref 52), (1, .int 10)] f174_3 rfl n174_291 k174_291_12 rfl (hb_52 _ _ _ _) (by decide +kernel) (Nat.le_of_ble_eq_true rfl) rfl rfl (by decide +kernel) (by decide +kernel) rfl (Nat.le_of_ble_eq_true rfl) rfl ?_
              refine zw_aload_n 1 f173_0 rfl rfl ?_
              refine zw_getI 0 4 f173_1 rfl g173_246_12 (hb_52 _ _ _ _) rfl rfl ?_
              refine zw_bipush 50 6 f173_4 rfl (by decide +kernel) ?_
              refine zw_ic_ge_f 9 19 f173_6 (by decide +kernel) rfl (by decide +kernel) ?_
              refine zw_aload_n 10 f173_9 rfl rfl ?_
              refine zw_getfield 13 f173_10 rfl g173_74_12 (hb_52 _ _ _ _) rfl ?_
              refine zw_aload_n 14 f173_13 rfl rfl ?_
              refine zw_getI 0 17 f173_14 rfl g173_246_12 (hb_52 _ _ _ _) rfl rfl ?_
              refine zw_iload_n 18 f173_17 rfl rfl ?_
              refine zw_ast 0 _ 19 f173_18 rfl (hb_71 _ _ _ _) (by decide +kernel) (by decide +kernel) (by decide +kernel) (ha_71 _ _ _ _ _) ?_
              refine zw_aload_n 20 f173_19 rfl rfl ?_
              refine zw_dup 21 f173_20 rfl rfl ?_
              refine zw_getI 0 24 f173_21 rfl g173_246_12 (hb_52 _ _ _ _) rfl rfl ?_
              refine zw_iconst 1 25 f173_24 rfl (by decide +kernel) ?_
              refine zw_iadd 1 26 f173_25 rfl (by decide +kernel) ?_
              refine zw_put _ 29 f173_26 rfl g173_246_12 (hb_52 _ _ _ _) rfl (Nat.le_of_ble_eq_true rfl) (by decide +kernel) (hi_52_29 _ _ _ _ _) ?_
              refine zw_vreturn f173_29 r173 u173 ⟨rfl, ?_⟩
              refine zw_iload_n 7 f174_6 rfl rfl ?_
              refine zw_aload_n 8 f174_7 rfl rfl ?_
              refine zw_getfield 11 f174_8 rfl g174_13_12 (hb_52 _ _ _ _) rfl ?_
              refine zw_iload_n 12 f174_11 rfl rfl ?_
              refine zw_iaload a.toNatClampNeg (P 54 a.toNatClampNeg) 13 f174_12 rfl (hb_54 _ _ _ _) rfl hc1 (zix (by decide) hc1 (show ¬ 8 ≤ a from ix_le hp.1 (by decide) (by decide) hc1 hc2)) (congrFun ((hR.2.1 54 (by omega) (by omega))) a.toNatClampNeg) ?_
              refine zw_iadd (c + (P 54 a.toNatClampNeg)) 14 f174_13 rfl rfl ?_
              refine zw_ireturn f174_14 r174 u174 ⟨_, rfl, ?_⟩
              refine zw_ireturn f175_59 r175 u175 ⟨_, rfl, ?_⟩
              refine zw_goto 76 f180_39 (by decide +kernel) ?_
              refine zw_virtual_i 79 0 0 [.ref 52, .int (c + (P 54 a.toNatClampNeg))] [(0, .ref 52), (1, .int (c + (P 54 a.toNatClampNeg)))] f180_76 rfl n180_205 k180_205_12 rfl (hb_52 _ _ _ _) (by decide +kernel) (Nat.le_of_ble_eq_true rfl) rfl rfl (by decide +kernel) (by decide +kernel) rfl (Nat.le_of_ble_eq_true rfl) rfl ?_
              refine zw_aload_n 1 f122_0 rfl rfl ?_
              refine zw_iconst 0 2 f122_1 rfl (by decide +kernel) ?_
              refine zw_put _ 5 f122_2 rfl g122_111_12 (hb_52 _ _ _ _) rfl (Nat.le_of_ble_eq_true rfl) (by decide +kernel) (hi_52_27 _ _ _ _ _) ?_
              refine zw_iload_n 6 f122_5 rfl rfl ?_
              refine zw_ireturn f122_6 r122 u122 ⟨_, rfl, ?_⟩
              refine zw_ireturn f180_79 r180 u180 ?_
              exact ⟨_, _, _, _, rfl, (KQ.i rfl (KQ.i rfl (KQ.a rfl (KQ.i rfl KQ.rf)))), ⟨hi.1, hi.2.1, 1, by omega, (show _ = nI 1 from rfl)⟩, Or.inr ⟨⟨(qV.of (by omega) hc1 hc2), ⟨hc3, hc4⟩⟩, by rw [show an_tl (P 53 a.toNatClampNeg) b = [10] from ((cI_y (Decidable.of_not_not hc5)).trans ((cI_n (kne hk (by decide))).trans (cI_y hk)))]; exact ⟨rfl, by intro i hi; rcases (show i = 0 by have q : i < 1 := hi; omega) with rfl <;> rfl⟩⟩, _, rfl⟩
            · refine zw_iaload a.toNatClampNeg 2 6 f175_5 rfl (hb_53 _ _ _ _) rfl hc1 (zix (by decide) hc1 (show ¬ 8 ≤ a from ix_le hp.1 (by decide) (by decide) hc1 hc2)) ((congrFun (hR.2.1 53 (by omega) (by omega)) a.toNatClampNeg).trans hk) ?_
              refine zw_iconst 2 7 f175_6 rfl (by decide +kernel) ?_
              refine zw_ic_ne_f 10 25 f175_7 (by decide +kernel) rfl (by decide +kernel) ?_
              refine zw_aload_n 11 f175_10 rfl rfl ?_
              refine zw_bipush 30 13 f175_11 rfl (by decide +kernel) ?_
              refine zw_virtual_v 16 0 0 [.ref 52, .int 30] [(0, .ref 52), (1, .int 30)] f175_13 rfl n175_291 k175_291_12 rfl (hb_52 _ _ _ _) (by decide +kernel) (Nat.le_of_ble_eq_true rfl) rfl rfl (by decide +kernel) (by decide +kernel) rfl (Nat.le_of_ble_eq_true rfl) rfl ?_
              refine zw_aload_n 1 f173_0 rfl rfl ?_
              refine zw_getI 0 4 f173_1 rfl g173_246_12 (hb_52 _ _ _ _) rfl rfl ?_
              refine zw_bipush 50 6 f173_4 rfl (by decide +kernel) ?_
              refine zw_ic_ge_f 9 19 f173_6 (by decide +kernel) rfl (by decide +kernel) ?_
              refine zw_aload_n 10 f173_9 rfl rfl ?_
              refine zw_getfield 13 f173_10 rfl g173_74_12 (hb_52 _ _ _ _) rfl ?_
              refine zw_aload_n 14 f173_13 rfl rfl ?_
              refine zw_getI 0 17 f173_14 rfl g173_246_12 (hb_52 _ _ _ _) rfl rfl ?_
              refine zw_iload_n 18 f173_17 rfl rfl ?_
              refine zw_ast 0 _ 19 f173_18 rfl (hb_71 _ _ _ _) (by decide +kernel) (by decide +kernel) (by decide +kernel) (ha_71 _ _ _ _ _) ?_
              refine zw_aload_n 20 f173_19 rfl rfl ?_
              refine zw_dup 21 f173_20 rfl rfl ?_
              refine zw_getI 0 24 f173_21 rfl g173_246_12 (hb_52 _ _ _ _) rfl rfl ?_
              refine zw_iconst 1 25 f173_24 rfl (by decide +kernel) ?_
              refine zw_iadd 1 26 f173_25 rfl (by decide +kernel) ?_
              refine zw_put _ 29 f173_26 rfl g173_246_12 (hb_52 _ _ _ _) rfl (Nat.le_of_ble_eq_true rfl) (by decide +kernel) (hi_52_29 _ _ _ _ _) ?_
              refine zw_vreturn f173_29 r173 u173 ⟨rfl, ?_⟩
              refine zw_aload_n 17 f175_16 rfl rfl ?_
              refine zw_iload_n 18 f175_17 rfl rfl ?_
              refine zw_iload_n 19 f175_18 rfl rfl ?_
              refine zw_virtual_i 22 0 0 [.ref 52, .int a, .int c] [(0, .ref 52), (1, .int a), (2, .int c)] f175_19 rfl n175_294 k175_294_12 rfl (hb_52 _ _ _ _) (by decide +kernel) (Nat.le_of_ble_eq_true rfl) rfl rfl (by decide +kernel) (by decide +kernel) rfl (Nat.le_of_ble_eq_true rfl) rfl ?_
              refine zw_aload_n 1 f174_0 rfl rfl ?_
              refine zw_bipush 10 3 f174_1 rfl (by decide +kernel) ?_
              refine zw_virtual_v 6 0 0 [.ref 52, .int 10] [(0, .ref 52), (1, .int 10)] f174_3 rfl n174_291 k174_291_12 rfl (hb_52 _ _ _ _) (by decide +kernel) (Nat.le_of_ble_eq_true rfl) rfl rfl (by decide +kernel) (by decide +kernel) rfl (Nat.le_of_ble_eq_true rfl) rfl ?_
              refine zw_aload_n 1 f173_0 rfl rfl ?_
              refine zw_getI 1 4 f173_1 rfl g173_246_12 (hb_52 _ _ _ _) rfl rfl ?_
              refine zw_bipush 50 6 f173_4 rfl (by decide +kernel) ?_
              refine zw_ic_ge_f 9 19 f173_6 (by decide +kernel) rfl (by decide +kernel) ?_
              refine zw_aload_n 10 f173_9 rfl rfl ?_
              refine zw_getfield 13 f173_10 rfl g173_74_12 (hb_52 _ _ _ _) rfl ?_
              refine zw_aload_n 14 f173_13 rfl rfl ?_
              refine zw_getI 1 17 f173_14 rfl g173_246_12 (hb_52 _ _ _ _) rfl rfl ?_
              refine zw_iload_n 18 f173_17 rfl rfl ?_
              refine zw_ast 1 _ 19 f173_18 rfl (hb_71 _ _ _ _) (by decide +kernel) (by decide +kernel) (by decide +kernel) (ha_71 _ _ _ _ _) ?_
              refine zw_aload_n 20 f173_19 rfl rfl ?_
              refine zw_dup 21 f173_20 rfl rfl ?_
              refine zw_getI 1 24 f173_21 rfl g173_246_12 (hb_52 _ _ _ _) rfl rfl ?_
              refine zw_iconst 1 25 f173_24 rfl (by decide +kernel) ?_
              refine zw_iadd 2 26 f173_25 rfl (by decide +kernel) ?_
              refine zw_put _ 29 f173_26 rfl g173_246_12 (hb_52 _ _ _ _) rfl (Nat.le_of_ble_eq_true rfl) (by decide +kernel) (hi_52_29 _ _ _ _ _) ?_
              refine zw_vreturn f173_29 r173 u173 ⟨rfl, ?_⟩
              refine zw_iload_n 7 f174_6 rfl rfl ?_
              refine zw_aload_n 8 f174_7 rfl rfl ?_
              refine zw_getfield 11 f174_8 rfl g174_13_12 (hb_52 _ _ _ _) rfl ?_
              refine zw_iload_n 12 f174_11 rfl rfl ?_
              refine zw_iaload a.toNatClampNeg (P 54 a.toNatClampNeg) 13 f174_12 rfl (hb_54 _ _ _ _) rfl hc1 (zix (by decide) hc1 (show ¬ 8 ≤ a from ix_le hp.1 (by decide) (by decide) hc1 hc2)) (congrFun ((hR.2.1 54 (by omega) (by omega))) a.toNatClampNeg) ?_
              refine zw_iadd (c + (P 54 a.toNatClampNeg)) 14 f174_13 rfl rfl ?_
              refine zw_ireturn f174_14 r174 u174 ⟨_, rfl, ?_⟩
              refine zw_iconst 2 23 f175_22 rfl (by decide +kernel) ?_
              refine zw_imul ((c + (P 54 a.toNatClampNeg)) * 2) 24 f175_23 rfl rfl ?_
              refine zw_ireturn f175_24 r175 u175 ⟨_, rfl, ?_⟩
              refine zw_goto 76 f180_39 (by decide +kernel) ?_
              refine zw_virtual_i 79 0 0 [.ref 52, .int ((c + (P 54 a.toNatClampNeg)) * 2)] [(0, .ref 52), (1, .int ((c + (P 54 a.toNatClampNeg)) * 2))] f180_76 rfl n180_205 k180_205_12 rfl (hb_52 _ _ _ _) (by decide +kernel) (Nat.le_of_ble_eq_true rfl) rfl rfl (by decide +kernel) (by decide +kernel) rfl (Nat.le_of_ble_eq_true rfl) rfl ?_
              refine zw_aload_n 1 f122_0 rfl rfl ?_
              refine zw_iconst 0 2 f122_1 rfl (by decide +kernel) ?_
              refine zw_put _ 5 f122_2 rfl g122_111_12 (hb_52 _ _ _ _) rfl (Nat.le_of_ble_eq_true rfl) (by decide +kernel) (hi_52_27 _ _ _ _ _) ?_
              refine zw_iload_n 6 f122_5 rfl rfl ?_
              refine zw_ireturn f122_6 r122 u122 ⟨_, rfl, ?_⟩
              refine zw_ireturn f180_79 r180 u180 ?_
              exact ⟨_, _, _, _, rfl, (KQ.i rfl (KQ.i rfl (KQ.a rfl (KQ.i rfl (KQ.a rfl (KQ.i rfl KQ.rf)))))), ⟨hi.1, hi.2.1, 2, by omega, (show _ = nI 2 from rfl)⟩, Or.inr ⟨⟨(qV.of (by omega) hc1 hc2), ⟨hc3, hc4⟩⟩, by rw [show an_tl (P 53 a.toNatClampNeg) b = [30, 10] from ((cI_y (Decidable.of_not_not hc5)).trans ((cI_n (kne hk (by decide))).trans ((cI_n (kne hk (by decide))).trans (cI_y hk))))]; exact ⟨rfl, by intro i hi; rcases (show i = 0 ∨ i = 1 by have q : i < 2 := hi; omega) with rfl | rfl <;> rfl⟩⟩, _, rfl⟩
            · refine zw_iaload a.toNatClampNeg 3 6 f175_5 rfl (hb_53 _ _ _ _) rfl hc1 (zix (by decide) hc1 (show ¬ 8 ≤ a from ix_le hp.1 (by decide) (by decide) hc1 hc2)) ((congrFun (hR.2.1 53 (by omega) (by omega)) a.toNatClampNeg).trans hk) ?_
              refine zw_iconst 2 7 f175_6 rfl (by decide +kernel) ?_
              refine zw_ic_ne_t 25 f175_7 (by decide +kernel) (by decide +kernel) ?_
              refine zw_aload_n 26 f175_25 rfl rfl ?_
              refine zw_iload_n 27 f175_26 rfl rfl ?_
              refine zw_virtual_i 30 0 0 [.ref 52, .int a] [(0, .ref 52), (1, .int a)] f175_27 rfl n175_158 k175_158_12 rfl (hb_52 _ _ _ _) (by decide +kernel) (Nat.le_of_ble_eq_true rfl) rfl rfl (by decide +kernel) (by decide +kernel) rfl (Nat.le_of_ble_eq_true rfl) rfl ?_
              refine zw_aload_n 1 f126_0 rfl rfl ?_
              refine zw_getfield 4 f126_1 rfl g126_7_12 (hb_52 _ _ _ _) rfl ?_
              refine zw_iload_n 5 f126_4 rfl rfl ?_
              refine zw_iaload a.toNatClampNeg 3 6 f126_5 rfl (hb_53 _ _ _ _) rfl hc1 (zix (by decide) hc1 (show ¬ 8 ≤ a from ix_le hp.1 (by decide) (by decide) hc1 hc2)) ((congrFun (hR.2.1 53 (by omega) (by omega)) a.toNatClampNeg).trans hk) ?_
              refine zw_iconst 3 7 f126_6 rfl (by decide +kernel) ?_
              refine zw_ic_eq_t 20 f126_7 (by decide +kernel) (by decide +kernel) ?_
              refine zw_iconst 1 21 f126_20 rfl (by decide +kernel) ?_
              refine zw_goto 25 f126_21 (by decide +kernel) ?_
              refine zw_zreturn f126_25 r126 u126 (by decide +kernel) ⟨_, rfl, ?_⟩
              refine zw_if_eq_f 33 53 f175_30 (by decide +kernel) rfl (by decide +kernel) ?_
              refine zw_aload_n 34 f175_33 rfl rfl ?_
              refine zw_bipush 41 36 f175_34 rfl (by decide +kernel) ?_
              refine zw_virtual_v 39 0 0 [.ref 52, .int 41] [(0, .ref 52), (1, .int 41)] f175_36 rfl n175_291 k175_291_12 rfl (hb_52 _ _ _ _) (by decide +kernel) (Nat.le_of_ble_eq_true rfl) rfl rfl (by decide +kernel) (by decide +kernel) rfl (Nat.le_of_ble_eq_true rfl) rfl ?_
              refine zw_aload_n 1 f173_0 rfl rfl ?_
              refine zw_getI 0 4 f173_1 rfl g173_246_12 (hb_52 _ _ _ _) rfl rfl ?_
              refine zw_bipush 50 6 f173_4 rfl (by decide +kernel) ?_
              refine zw_ic_ge_f 9 19 f173_6 (by decide +kernel) rfl (by decide +kernel) ?_
              refine zw_aload_n 10 f173_9 rfl rfl ?_
              refine zw_getfield 13 f173_10 rfl g173_74_12 (hb_52 _ _ _ _) rfl ?_
              refine zw_aload_n 14 f173_13 rfl rfl ?_
              refine zw_getI 0 17 f173_14 rfl g173_246_12 (hb_52 _ _ _ _) rfl rfl ?_
              refine zw_iload_n 18 f173_17 rfl rfl ?_
              refine zw_ast 0 _ 19 f173_18 rfl (hb_71 _ _ _ _) (by decide +kernel) (by decide +kernel) (by decide +kernel) (ha_71 _ _ _ _ _) ?_
              refine zw_aload_n 20 f173_19 rfl rfl ?_
              refine zw_dup 21 f173_20 rfl rfl ?_
              refine zw_getI 0 24 f173_21 rfl g173_246_12 (hb_52 _ _ _ _) rfl rfl ?_
              refine zw_iconst 1 25 f173_24 rfl (by decide +kernel) ?_
              refine zw_iadd 1 26 f173_25 rfl (by decide +kernel) ?_
              refine zw_put _ 29 f173_26 rfl g173_246_12 (hb_52 _ _ _ _) rfl (Nat.le_of_ble_eq_true rfl) (by decide +kernel) (hi_52_29 _ _ _ _ _) ?_
              refine zw_vreturn f173_29 r173 u173 ⟨rfl, ?_⟩
              refine zw_aload_n 40 f175_39 rfl rfl ?_
              refine zw_iload_n 41 f175_40 rfl rfl ?_
              refine zw_iload_n 42 f175_41 rfl rfl ?_
              refine zw_aload_n 43 f175_42 rfl rfl ?_
              refine zw_getfield 46 f175_43 rfl g175_16_12 (hb_52 _ _ _ _) rfl ?_
              refine zw_iload_n 47 f175_46 rfl rfl ?_
              refine zw_iaload a.toNatClampNeg (P 55 a.toNatClampNeg) 48 f175_47 rfl (hb_55 _ _ _ _) rfl hc1 (zix (by decide) hc1 (show ¬ 8 ≤ a from ix_le hp.1 (by decide) (by decide) hc1 hc2)) (congrFun ((hR.2.1 55 (by omega) (by omega))) a.toNatClampNeg) ?_
              refine zw_iadd (c + (P 55 a.toNatClampNeg)) 49 f175_48 rfl rfl ?_
              refine zw_virtual_i 52 0 0 [.ref 52, .int a, .int (c + (P 55 a.toNatClampNeg))] [(0, .ref 52), (1, .int a), (2, .int (c + (P 55 a.toNatClampNeg)))] f175_49 rfl n175_294 k175_294_12 rfl (hb_52 _ _ _ _) (by decide +kernel) (Nat.le_of_ble_eq_true rfl) rfl rfl (by decide +kernel) (by decide +kernel) rfl (Nat.le_of_ble_eq_true rfl) rfl ?_
              refine zw_aload_n 1 f174_0 rfl rfl ?_
              refine zw_bipush 10 3 f174_1 rfl (by decide +kernel) ?_
              refine zw_virtual_v 6 0 0 [.ref 52, .int 10] [(0, .ref 52), (1, .int 10)] f174_3 rfl n174_291 k174_291_12 rfl (hb_52 _ _ _ _) (by decide +kernel) (Nat.le_of_ble_eq_true rfl) rfl rfl (by decide +kernel) (by decide +kernel) rfl (Nat.le_of_ble_eq_true rfl) rfl ?_
              refine zw_aload_n 1 f173_0 rfl rfl ?_
              refine zw_getI 1 4 f173_1 rfl g173_246_12 (hb_52 _ _ _ _) rfl rfl ?_
              refine zw_bipush 50 6 f173_4 rfl (by decide +kernel) ?_
              refine zw_ic_ge_f 9 19 f173_6 (by decide +kernel) rfl (by decide +kernel) ?_
              refine zw_aload_n 10 f173_9 rfl rfl ?_
              refine zw_getfield 13 f173_10 rfl g173_74_12 (hb_52 _ _ _ _) rfl ?_
              refine zw_aload_n 14 f173_13 rfl rfl ?_
              refine zw_getI 1 17 f173_14 rfl g173_246_12 (hb_52 _ _ _ _) rfl rfl ?_
              refine zw_iload_n 18 f173_17 rfl rfl ?_
              refine zw_ast 1 _ 19 f173_18 rfl (hb_71 _ _ _ _) (by decide +kernel) (by decide +kernel) (by decide +kernel) (ha_71 _ _ _ _ _) ?_
              refine zw_aload_n 20 f173_19 rfl rfl ?_
              refine zw_dup 21 f173_20 rfl rfl ?_
              refine zw_getI 1 24 f173_21 rfl g173_246_12 (hb_52 _ _ _ _) rfl rfl ?_
              refine zw_iconst 1 25 f173_24 rfl (by decide +kernel) ?_
              refine zw_iadd 2 26 f173_25 rfl (by decide +kernel) ?_
              refine zw_put _ 29 f173_26 rfl g173_246_12 (hb_52 _ _ _ _) rfl (Nat.le_of_ble_eq_true rfl) (by decide +kernel) (hi_52_29 _ _ _ _ _) ?_
              refine zw_vreturn f173_29 r173 u173 ⟨rfl, ?_⟩
              refine zw_iload_n 7 f174_6 rfl rfl ?_
              refine zw_aload_n 8 f174_7 rfl rfl ?_
              refine zw_getfield 11 f174_8 rfl g174_13_12 (hb_52 _ _ _ _) rfl ?_
              refine zw_iload_n 12 f174_11 rfl rfl ?_
              refine zw_iaload a.toNatClampNeg (P 54 a.toNatClampNeg) 13 f174_12 rfl (hb_54 _ _ _ _) rfl hc1 (zix (by decide) hc1 (show ¬ 8 ≤ a from ix_le hp.1 (by decide) (by decide) hc1 hc2)) (congrFun ((hR.2.1 54 (by omega) (by omega))) a.toNatClampNeg) ?_
              refine zw_iadd ((c + (P 55 a.toNatClampNeg)) + (P 54 a.toNatClampNeg)) 14 f174_13 rfl rfl ?_
              refine zw_ireturn f174_14 r174 u174 ⟨_, rfl, ?_⟩
              refine zw_ireturn f175_52 r175 u175 ⟨_, rfl, ?_⟩
              refine zw_goto 76 f180_39 (by decide +kernel) ?_
              refine zw_virtual_i 79 0 0 [.ref 52, .int ((c + (P 55 a.toNatClampNeg)) + (P 54 a.toNatClampNeg))] [(0, .ref 52), (1, .int ((c + (P 55 a.toNatClampNeg)) + (P 54 a.toNatClampNeg)))] f180_76 rfl n180_205 k180_205_12 rfl (hb_52 _ _ _ _) (by decide +kernel) (Nat.le_of_ble_eq_true rfl) rfl rfl (by decide +kernel) (by decide +kernel) rfl (Nat.le_of_ble_eq_true rfl) rfl ?_
              refine zw_aload_n 1 f122_0 rfl rfl ?_
              refine zw_iconst 0 2 f122_1 rfl (by decide +kernel) ?_
              refine zw_put _ 5 f122_2 rfl g122_111_12 (hb_52 _ _ _ _) rfl (Nat.le_of_ble_eq_true rfl) (by decide +kernel) (hi_52_27 _ _ _ _ _) ?_
              refine zw_iload_n 6 f122_5 rfl rfl ?_
              refine zw_ireturn f122_6 r122 u122 ⟨_, rfl, ?_⟩
              refine zw_ireturn f180_79 r180 u180 ?_
              exact ⟨_, _, _, _, rfl, (KQ.i rfl (KQ.i rfl (KQ.a rfl (KQ.i rfl (KQ.a rfl (KQ.i rfl KQ.rf)))))), ⟨hi.1, hi.2.1, 2, by omega, (show _ = nI 2 from rfl)⟩, Or.inr ⟨⟨(qV.of (by omega) hc1 hc2), ⟨hc3, hc4⟩⟩, by rw [show an_tl (P 53 a.toNatClampNeg) b = [41, 10] from ((cI_y (Decidable.of_not_not hc5)).trans ((cI_n (kne hk (by decide))).trans ((cI_n (kne hk (by decide))).trans ((cI_n (kne hk (by decide))).trans (cI_y hk)))))]; exact ⟨rfl, by intro i hi; rcases (show i = 0 ∨ i = 1 by have q : i < 2 := hi; omega) with rfl | rfl <;> rfl⟩⟩, _, rfl⟩
            · refine zw_iaload a.toNatClampNeg 4 6 f175_5 rfl (hb_53 _ _ _ _) rfl hc1 (zix (by decide) hc1 (show ¬ 8 ≤ a from ix_le hp.1 (by decide) (by decide) hc1 hc2)) ((congrFun (hR.2.1 53 (by omega) (by omega)) a.toNatClampNeg).trans hk) ?_
              refine zw_iconst 2 7 f175_6 rfl (by decide +kernel) ?_
              refine zw_ic_ne_t 25 f175_7 (by decide +kernel) (by decide +kernel) ?_
              refine zw_aload_n 26 f175_25 rfl rfl ?_
              refine zw_iload_n 27 f175_26 rfl rfl ?_
              refine zw_virtual_i 30 0 0 [.ref 52, .int a] [(0, .ref 52), (1, .int a)] f175_27 rfl n175_158 k175_158_12 rfl (hb_52 _ _ _ _) (by decide +kernel) (Nat.le_of_ble_eq_true rfl) rfl rfl (by decide +kernel) (by decide +kernel) rfl (Nat.le_of_ble_eq_true rfl) rfl ?_
              refine zw_aload_n 1 f126_0 rfl rfl ?_
              refine zw_getfield 4 f126_1 rfl g126_7_12 (hb_52 _ _ _ _) rfl ?_
              refine zw_iload_n 5 f126_4 rfl rfl ?_
              refine zw_iaload a.toNatClampNeg 4 6 f126_5 rfl (hb_53 _ _ _ _) rfl hc1 (zix (by decide) hc1 (show ¬ 8 ≤ a from ix_le hp.1 (by decide) (by decide) hc1 hc2)) ((congrFun (hR.2.1 53 (by omega) (by omega)) a.toNatClampNeg).trans hk) ?_
              refine zw_iconst 3 7 f126_6 rfl (by decide +kernel) ?_
              refine zw_ic_eq_f 10 20 f126_7 (by decide +kernel) rfl (by decide +kernel) ?_
              refine zw_aload_n 11 f126_10 rfl rfl ?_
              refine zw_getfield 14 f126_11 rfl g126_7_12 (hb_52 _ _ _ _) rfl ?_
              refine zw_iload_n 15 f126_14 rfl rfl ?_
              refine zw_iaload a.toNatClampNeg 4 16 f126_15 rfl (hb_53 _ _ _ _) rfl hc1 (zix (by decide) hc1 (show ¬ 8 ≤ a from ix_le hp.1 (by decide) (by decide) hc1 hc2)) ((congrFun (hR.2.1 53 (by omega) (by omega)) a.toNatClampNeg).trans hk) ?_
              refine zw_iconst 4 17 f126_16 rfl (by decide +kernel) ?_
              refine zw_ic_ne_f 20 24 f126_17 (by decide +kernel) rfl (by decide +kernel) ?_
              refine zw_iconst 1 21 f126_20 rfl (by decide +kernel) ?_
              refine zw_goto 25 f126_21 (by decide +kernel) ?_
              refine zw_zreturn f126_25 r126 u126 (by decide +kernel) ⟨_, rfl, ?_⟩
              refine zw_if_eq_f 33 53 f175_30 (by decide +kernel) rfl (by decide +kernel) ?_
              refine zw_aload_n 34 f175_33 rfl rfl ?_
              refine zw_bipush 41 36 f175_34 rfl (by decide +kernel) ?_
              refine zw_virtual_v 39 0 0 [.ref 52, .int 41] [(0, .ref 52), (1, .int 41)] f175_36 rfl n175_291 k175_291_12 rfl (hb_52 _ _ _ _) (by decide +kernel) (Nat.le_of_ble_eq_true rfl) rfl rfl (by decide +kernel) (by decide +kernel) rfl (Nat.le_of_ble_eq_true rfl) rfl ?_
              refine zw_aload_n 1 f173_0 rfl rfl ?_
              refine zw_getI 0 4 f173_1 rfl g173_246_12 (hb_52 _ _ _ _) rfl rfl ?_
              refine zw_bipush 50 6 f173_4 rfl (by decide +kernel) ?_
              refine zw_ic_ge_f 9 19 f173_6 (by decide +kernel) rfl (by decide +kernel) ?_
              refine zw_aload_n 10 f173_9 rfl rfl ?_
              refine zw_getfield 13 f173_10 rfl g173_74_12 (hb_52 _ _ _ _) rfl ?_
              refine zw_aload_n 14 f173_13 rfl rfl ?_
              refine zw_getI 0 17 f173_14 rfl g173_246_12 (hb_52 _ _ _ _) rfl rfl ?_
              refine zw_iload_n 18 f173_17 rfl rfl ?_
              refine zw_ast 0 _ 19 f173_18 rfl (hb_71 _ _ _ _) (by decide +kernel) (by decide +kernel) (by decide +kernel) (ha_71 _ _ _ _ _) ?_
              refine zw_aload_n 20 f173_19 rfl rfl ?_
              refine zw_dup 21 f173_20 rfl rfl ?_
              refine zw_getI 0 24 f173_21 rfl g173_246_12 (hb_52 _ _ _ _) rfl rfl ?_
              refine zw_iconst 1 25 f173_24 rfl (by decide +kernel) ?_
              refine zw_iadd 1 26 f173_25 rfl (by decide +kernel) ?_
              refine zw_put _ 29 f173_26 rfl g173_246_12 (hb_52 _ _ _ _) rfl (Nat.le_of_ble_eq_true rfl) (by decide +kernel) (hi_52_29 _ _ _ _ _) ?_
              refine zw_vreturn f173_29 r173 u173 ⟨rfl, ?_⟩
              refine zw_aload_n 40 f175_39 rfl rfl ?_
              refine zw_iload_n 41 f175_40 rfl rfl ?_
              refine zw_iload_n 42 f175_41 rfl rfl ?_
              refine zw_aload_n 43 f175_42 rfl rfl ?_
              refine zw_getfield 46 f175_43 rfl g175_16_12 (hb_52 _ _ _ _) rfl ?_
              refine zw_iload_n 47 f175_46 rfl rfl ?_
              refine zw_iaload a.toNatClampNeg (P 55 a.toNatClampNeg) 48 f175_47 rfl (hb_55 _ _ _ _) rfl hc1 (zix (by decide) hc1 (show ¬ 8 ≤ a from ix_le hp.1 (by decide) (by decide) hc1 hc2)) (congrFun ((hR.2.1 55 (by omega) (by omega))) a.toNatClampNeg) ?_
              refine zw_iadd (c + (P 55 a.toNatClampNeg)) 49 f175_48 rfl rfl ?_
              refine zw_virtual_i 52 0 0 [.ref 52, .int a, .int (c + (P 55 a.toNatClampNeg))] [(0, .ref 52), (1, .int a), (2, .int (c + (P 55 a.toNatClampNeg)))] f175_49 rfl n175_294 k175_294_12 rfl (hb_52 _ _ _ _) (by decide +kernel) (Nat.le_of_ble_eq_true rfl) rfl rfl (by decide +kernel) (by decide +kernel) rfl (Nat.le_of_ble_eq_true rfl) rfl ?_
              refine zw_aload_n 1 f174_0 rfl rfl ?_
              refine zw_bipush 10 3 f174_1 rfl (by decide +kernel) ?_
              refine zw_virtual_v 6 0 0 [.ref 52, .int 10] [(0, .ref 52), (1, .int 10)] f174_3 rfl n174_291 k174_291_12 rfl (hb_52 _ _ _ _) (by decide +kernel) (Nat.le_of_ble_eq_true rfl) rfl rfl (by decide +kernel) (by decide +kernel) rfl (Nat.le_of_ble_eq_true rfl) rfl ?_
              refine zw_aload_n 1 f173_0 rfl rfl ?_
              refine zw_getI 1 4 f173_1 rfl g173_246_12 (hb_52 _ _ _ _) rfl rfl ?_
              refine zw_bipush 50 6 f173_4 rfl (by decide +kernel) ?_
              refine zw_ic_ge_f 9 19 f173_6 (by decide +kernel) rfl (by decide +kernel) ?_
              refine zw_aload_n 10 f173_9 rfl rfl ?_
              refine zw_getfield 13 f173_10 rfl g173_74_12 (hb_52 _ _ _ _) rfl ?_
              refine zw_aload_n 14 f173_13 rfl rfl ?_
              refine zw_getI 1 17 f173_14 rfl g173_246_12 (hb_52 _ _ _ _) rfl rfl ?_
              refine zw_iload_n 18 f173_17 rfl rfl ?_
              refine zw_ast 1 _ 19 f173_18 rfl (hb_71 _ _ _ _) (by decide +kernel) (by decide +kernel) (by decide +kernel) (ha_71 _ _ _ _ _) ?_
              refine zw_aload_n 20 f173_19 rfl rfl ?_
              refine zw_dup 21 f173_20 rfl rfl ?_
              refine zw_getI 1 24 f173_21 rfl g173_246_12 (hb_52 _ _ _ _) rfl rfl ?_
              refine zw_iconst 1 25 f173_24 rfl (by decide +kernel) ?_
              refine zw_iadd 2 26 f173_25 rfl (by decide +kernel) ?_
              refine zw_put _ 29 f173_26 rfl g173_246_12 (hb_52 _ _ _ _) rfl (Nat.le_of_ble_eq_true rfl) (by decide +kernel) (hi_52_29 _ _ _ _ _) ?_
              refine zw_vreturn f173_29 r173 u173 ⟨rfl, ?_⟩
              refine zw_iload_n 7 f174_6 rfl rfl ?_
              refine zw_aload_n 8 f174_7 rfl rfl ?_
              refine zw_getfield 11 f174_8 rfl g174_13_12 (hb_52 _ _ _ _) rfl ?_
              refine zw_iload_n 12 f174_11 rfl rfl ?_
              refine zw_iaload a.toNatClampNeg (P 54 a.toNatClampNeg) 13 f174_12 rfl (hb_54 _ _ _ _) rfl hc1 (zix (by decide) hc1 (show ¬ 8 ≤ a from ix_le hp.1 (by decide) (by decide) hc1 hc2)) (congrFun ((hR.2.1 54 (by omega) (by omega))) a.toNatClampNeg) ?_
              refine zw_iadd ((c + (P 55 a.toNatClampNeg)) + (P 54 a.toNatClampNeg)) 14 f174_13 rfl rfl ?_
              refine zw_ireturn f174_14 r174 u174 ⟨_, rfl, ?_⟩
              refine zw_ireturn f175_52 r175 u175 ⟨_, rfl, ?_⟩
              refine zw_goto 76 f180_39 (by decide +kernel) ?_
              refine zw_virtual_i 79 0 0 [.ref 52, .int ((c + (P 55 a.toNatClampNeg)) + (P 54 a.toNatClampNeg))] [(0, .ref 52), (1, .int ((c + (P 55 a.toNatClampNeg)) + (P 54 a.toNatClampNeg)))] f180_76 rfl n180_205 k180_205_12 rfl (hb_52 _ _ _ _) (by decide +kernel) (Nat.le_of_ble_eq_true rfl) rfl rfl (by decide +kernel) (by decide +kernel) rfl (Nat.le_of_ble_eq_true rfl) rfl ?_
              refine zw_aload_n 1 f122_0 rfl rfl ?_
              refine zw_iconst 0 2 f122_1 rfl (by decide +kernel) ?_
              refine zw_put _ 5 f122_2 rfl g122_111_12 (hb_52 _ _ _ _) rfl (Nat.le_of_ble_eq_true rfl) (by decide +kernel) (hi_52_27 _ _ _ _ _) ?_
              refine zw_iload_n 6 f122_5 rfl rfl ?_
              refine zw_ireturn f122_6 r122 u122 ⟨_, rfl, ?_⟩
              refine zw_ireturn f180_79 r180 u180 ?_
              exact ⟨_, _, _, _, rfl, (KQ.i rfl (KQ.i rfl (KQ.a rfl (KQ.i rfl (KQ.a rfl (KQ.i rfl KQ.rf)))))), ⟨hi.1, hi.2.1, 2, by omega, (show _ = nI 2 from rfl)⟩, Or.inr ⟨⟨(qV.of (by omega) hc1 hc2), ⟨hc3, hc4⟩⟩, by rw [show an_tl (P 53 a.toNatClampNeg) b = [41, 10] from ((cI_y (Decidable.of_not_not hc5)).trans ((cI_n (kne hk (by decide))).trans ((cI_n (kne hk (by decide))).trans ((cI_n (kne hk (by decide))).trans ((cI_n (kne hk (by decide))).trans (cI_y hk))))))]; exact ⟨rfl, by intro i hi; rcases (show i = 0 ∨ i = 1 by have q : i < 2 := hi; omega) with rfl | rfl <;> rfl⟩⟩, _, rfl⟩
theorem tl_b {nv : Nat} {P : Nat → Nat → Int32} {a b : Int32} (kd : qKd nv P) (y : qV nv a ∧ qRg b 0 3) : (an_tl (P 53 a.toNatClampNeg) b).length ≤ 9 := by
  have k := k5 (kd.1 _ y.1.1)
  unfold an_tl
  by_cases b0 : b = 0
  · rw [cI_y b0]
    rcases k with e | e | e | e | e
    · rw [cI_y e]; decide
    · rw [cI_n (kne e (by decide)), cI_y e]; decide
    · rw [cI_n (kne e (by decide)), cI_n (kne e (by decide)), cI_y e]; decide
    · rw [cI_n (kne e (by decide)), cI_n (kne e (by decide)), cI_n (kne e (by decide)), cI_y e]; decide
    · rw [cI_n (kne e (by decide)), cI_n (kne e (by decide)), cI_n (kne e (by decide)), cI_n (kne e (by decide)), cI_y e]; decide
  · rw [cI_n b0]
    by_cases b1 : b = 1
    · rw [cI_y b1]
      rcases k with e | e | e | e | e
      · rw [cI_y e]; decide
      · rw [cI_n (kne e (by decide)), cI_y e]; decide
      · rw [cI_n (kne e (by decide)), cI_n (kne e (by decide)), cI_y e]; decide
      · rw [cI_n (kne e (by decide)), cI_n (kne e (by decide)), cI_n (kne e (by decide)), cI_y e]; decide
      · rw [cI_n (kne e (by decide)), cI_n (kne e (by decide)), cI_n (kne e (by decide)), cI_n (kne e (by decide)), cI_y e]; decide
    · rw [cI_n b1]
      by_cases b2 : b = 2
      · rw [cI_y b2]
        rcases k with e | e | e | e | e
        · rw [cI_y e]; decide
        · rw [cI_n (kne e (by decide)), cI_y e]; decide
        · rw [cI_n (kne e (by decide)), cI_n (kne e (by decide)), cI_y e]; decide
        · rw [cI_n (kne e (by decide)), cI_n (kne e (by decide)), cI_n (kne e (by decide)), cI_y e]; decide
        · rw [cI_n (kne e (by decide)), cI_n (kne e (by decide)), cI_n (kne e (by decide)), cI_n (kne e (by decide)), cI_y e]; decide
      · rw [cI_n b2]
        rcases k with e | e | e | e | e
        · rw [cI_y e]; decide
        · rw [cI_n (kne e (by decide)), cI_y e]; decide
        · rw [cI_n (kne e (by decide)), cI_n (kne e (by decide)), cI_y e]; decide
        · rw [cI_n (kne e (by decide)), cI_n (kne e (by decide)), cI_n (kne e (by decide)), cI_y e]; decide
        · rw [cI_n (kne e (by decide)), cI_n (kne e (by decide)), cI_n (kne e (by decide)), cI_n (kne e (by decide)), cI_y e]; decide
theorem tl_len {n t : Nat} (_ : t ≤ 50) (h : n ≤ 9) (_ : nI n = nI t) : n ≤ 50 := by omega
set_option maxHeartbeats 0 in
theorem pairX_act (ro : UInt32 → Nat × (Nat → Int32)) (k : Nat) (I : Nat → Nat → Int32) (G : Nat → Nat → Int64) (A : Nat → Nat → Int32) (B : Nat → Nat → Int64) (h : zCx k I G A B) (C : ∀ nv np W, cRS 11 nv np A W I G A B → MPa nv np A → CV nv np (1216 * k) I) (hk : k < 512) (hro : (ro 1).1 = 5 ∧ (ro 1).2 = zka) (a : Int32) (b : Int32) (c : Int32) : zWp ro 101 0 [(0, .ref 0), (1, .int a), (2, .int b), (3, .int c)] [] (hS I G A B) 0 0 (zPX ro 180 [(0, .ref 52), (1, .int a), (2, .int b), (3, .int c)] k (fun _ _ => True)) := by
  obtain ⟨nv, np, W, L, F, R, ow, kd, lw, lg, tl, tc, tm, tn⟩ := h
  have fn := F.2.2.2.2.2
  refine zWp.mono (ct_act ro nv np A W I G A B R F.2.1 kd a b c) ?_
  rintro r h1 ⟨I1, G1, A1, B1, rfl, K1, hc, v, rfl⟩
  have F1 := F.kq K1 fAc_52 pAc_52
  have e1 : PE A A1 := fun k _ _ => (K1.2.2.1 k (pAc_52 k (by omega))).symm
  have R1 := R.k K1 ⟨rfl, rfl⟩ (fun j h1 h2 => by simp only [fAc, decide_eq_false_iff_not]; omega) (fun k h1 h2 => by simp only [pAc, decide_eq_false_iff_not]; omega)
  have g1 := lg.k K1 rfl rfl rfl rfl rfl
  refine ⟨_, rfl, zWp.mono (mt_act ro nv np A W L I1 G1 A1 B1 (242600 * k) ⟨F1.1.1, e1.sy, F1.1.2.2⟩ F.2.1 F.2.2.1 (by omega) F1.2.2.2.1 F1.2.2.2.2.1 kd a b c) ?_⟩
  rintro r2 h2 ⟨I2, G2, A2, B2, rfl, K2, id2, hd, w, rfl⟩
  have R2 := F1.1.k K2 fQu_R pQu_R
  refine ⟨_, rfl, ?_, trivial⟩
  rcases hc with ⟨n1, c1, c2⟩ | ⟨y1, c1⟩
  · rcases hd with ⟨n2, d1, d2⟩ | ⟨y2, d1⟩
    · exact zCx.mk (zRf.of R2 F1.2.1 F1.2.2.1 F1.2.2.2.1 id2 fn) (by omega) (by omega) R1 (e1.tr R2.2.1.sy) K2 fQu_c pQu_c ow kd lw g1 (tc.e c1 c2) (tm.e (d1.trans (K1.1 52 29 rfl)) (d2.trans (K1.2.2.1 71 rfl))) tn
    · exact absurd y2 n1
  · rcases hd with ⟨n2, d1, d2⟩ | ⟨y2, d1⟩
    · exact absurd y1 n2
    · exact zCx.mk (zRf.of R2 F1.2.1 F1.2.2.1 F1.2.2.2.1 id2 fn) (by omega) (by omega) R1 (e1.tr R2.2.1.sy) K2 fQu_c pQu_c ow kd lw g1 c1 d1 (by obtain ⟨t, t1, t2⟩ := id2.2.2; have q := d1.1.symm.trans t2; exact tl_len t1 (tl_b kd y1) q)
theorem pair2_act (ro : UInt32 → Nat × (Nat → Int32)) (k : Nat) (I : Nat → Nat → Int32) (G : Nat → Nat → Int64) (A : Nat → Nat → Int32) (B : Nat → Nat → Int64) (h : zL2 k I G A B) (hk : k < 512) (hro : (ro 1).1 = 5 ∧ (ro 1).2 = zka) (a : Int32) (b : Int32) (c : Int32) : zWp ro 101 0 [(0, .ref 0), (1, .int a), (2, .int b), (3, .int c)] [] (hS I G A B) 0 0 (zP2 ro 180 [(0, .ref 52), (1, .int a), (2, .int b), (3, .int c)] k (fun _ _ => True)) := by
  obtain ⟨h1, I3, G3, A3, B3, eh, hx⟩ := h
  have p1 := pair_act ro k I G A B h1 hk hro a b c
  obtain ⟨nv1, np1, W1, L1, C1, -⟩ := h1
  have p2 := pairX_act ro k I3 G3 A3 B3 hx (fun nv np W R hp => CV_h eh C1 R hp) hk hro a b c
  rw [← eh] at p2
  exact zP_and p1 p2
set_option maxHeartbeats 0 in
theorem pairX_trace (ro : UInt32 → Nat × (Nat → Int32)) (k : Nat) (I : Nat → Nat → Int32) (G : Nat → Nat → Int64) (A : Nat → Nat → Int32) (B : Nat → Nat → Int64) (h : zCx k I G A B) (C : ∀ nv np W, cRS 11 nv np A W I G A B → MPa nv np A → CV nv np (1216 * k) I) (hk : k < 512) (a : Int32) : zWp ro 102 0 [(0, .ref 0), (1, .int a)] [] (hS I G A B) 0 0 (zPX ro 181 [(0, .ref 52), (1, .int a)] k (fun _ _ => True)) := by
  obtain ⟨nv, np, W, L, F, R, ow, kd, lw, lg, tl, tc, tm, tn⟩ := h
  have fn := F.2.2.2.2.2
  have hC := C nv np W R F.2.1
  refine zWp.mono (dv_X11_trace ro nv np (1216 * k) I G A B hC (by omega) a) ?_
  rintro r h1 ⟨I1, G1, A1, B1, rfl, K1, -, v, rfl⟩
  have F1 := F.kp K1 pLv_52
  have e1 : PE A A1 := fun k _ _ => (K1.2.2.1 k (pLv_52 k (by omega))).symm
  have R1 := R.k K1.kq ⟨rfl, rfl⟩ (fun j _ _ => rfl) (fun k h1 h2 => by simp only [pLv, decide_eq_false_iff_not]; omega)
  have g1 := lg.k K1.kq rfl rfl rfl rfl rfl
  refine ⟨_, rfl, zWp.mono (mv_trace ro nv np W L I1 G1 A1 B1 (242600 * k) F1.1 F1.2.1 F1.2.2.1 (by omega) F1.2.2.2.1 F1.2.2.2.2.1 a) ?_⟩
  rintro r2 h2 ⟨I2, G2, A2, B2, rfl, K2, id2, w, rfl⟩
  have R2 := F1.1.k K2 fQv_R pQv_R
  refine ⟨_, rfl, ?_, trivial⟩
  exact zCx.mk (zRf.of R2 F1.2.1 F1.2.2.1 F1.2.2.2.1 id2 fn) (by omega) (by omega) R1 (e1.tr R2.2.1.sy) K2 fQv_c pQv_c ow kd lw g1 (tc.e (K1.1 44 4 rfl) (K1.2.2.1 45 rfl)) (tm.e ((K2.1 52 29 rfl).trans (K1.1 52 29 rfl)) ((K2.2.2.1 71 rfl).trans (K1.2.2.1 71 rfl))) tn
theorem pair2_trace (ro : UInt32 → Nat × (Nat → Int32)) (k : Nat) (I : Nat → Nat → Int32) (G : Nat → Nat → Int64) (A : Nat → Nat → Int32) (B : Nat → Nat → Int64) (h : zL2 k I G A B) (hk : k < 512) (a : Int32) : zWp ro 102 0 [(0, .ref 0), (1, .int a)] [] (hS I G A B) 0 0 (zP2 ro 181 [(0, .ref 52), (1, .int a)] k (fun _ _ => True)) := by
  obtain ⟨h1, I3, G3, A3, B3, eh, hx⟩ := h
  have p1 := pair_trace ro k I G A B h1 hk a
  obtain ⟨nv1, np1, W1, L1, C1, -⟩ := h1
  have p2 := pairX_trace ro k I3 G3 A3 B3 hx (fun nv np W R hp => CV_h eh C1 R hp) hk a
  rw [← eh] at p2
  exact zP_and p1 p2
set_option maxHeartbeats 0 in
theorem pairX_forge (ro : UInt32 → Nat × (Nat → Int32)) (k : Nat) (I : Nat → Nat → Int32) (G : Nat → Nat → Int64) (A : Nat → Nat → Int32) (B : Nat → Nat → Int64) (h : zCx k I G A B) (C : ∀ nv np W, cRS 11 nv np A W I G A B → MPa nv np A → CV nv np (1216 * k) I) (hk : k < 512) (hro : (ro 1).1 = 5 ∧ (ro 1).2 = zka) (a : Int32) (b : Int32) (c : Int32) : zWp ro 103 0 [(0, .ref 0), (1, .int a), (2, .int b), (3, .int c)] [] (hS I G A B) 0 0 (zPX ro 184 [(0, .ref 52), (1, .int a), (2, .int b), (3, .int c)] k (fun _ _ => True)) := by
  obtain ⟨nv, np, W, L, F, R, ow, kd, lw, lg, tl, tc, tm, tn⟩ := h
  have fn := F.2.2.2.2.2
  have hC := C nv np W R F.2.1
  refine zWp.mono (dm_forge ro nv np (1216 * k) I G A B hC (by omega) (kd.pe R.2.1) hro a b c) ?_
  rintro r h1 ⟨I1, G1, A1, B1, rfl, K1, -, v, rfl⟩
  have F1 := F.kp K1 pLv_52
  have e1 : PE A A1 := fun k _ _ => (K1.2.2.1 k (pLv_52 k (by omega))).symm
  have R1 := R.k K1.kq ⟨rfl, rfl⟩ (fun j _ _ => rfl) (fun k h1 h2 => by simp only [pLv, decide_eq_false_iff_not]; omega)
  have g1 := lg.k K1.kq rfl rfl rfl rfl rfl
  refine ⟨_, rfl, zWp.mono (mv_forge ro nv np W L I1 G1 A1 B1 (242600 * k) F1.1 F1.2.1 F1.2.2.1 (by omega) F1.2.2.2.1 F1.2.2.2.2.1 a b c) ?_⟩
  rintro r2 h2 ⟨I2, G2, A2, B2, rfl, K2, id2, w, rfl⟩
  have R2 := F1.1.k K2 fQv_R pQv_R
  refine ⟨_, rfl, ?_, trivial⟩
  exact zCx.mk (zRf.of R2 F1.2.1 F1.2.2.1 F1.2.2.2.1 id2 fn) (by omega) (by omega) R1 (e1.tr R2.2.1.sy) K2 fQv_c pQv_c ow kd lw g1 (tc.e (K1.1 44 4 rfl) (K1.2.2.1 45 rfl)) (tm.e ((K2.1 52 29 rfl).trans (K1.1 52 29 rfl)) ((K2.2.2.1 71 rfl).trans (K1.2.2.1 71 rfl))) tn
theorem pair2_forge (ro : UInt32 → Nat × (Nat → Int32)) (k : Nat) (I : Nat → Nat → Int32) (G : Nat → Nat → Int64) (A : Nat → Nat → Int32) (B : Nat → Nat → Int64) (h : zL2 k I G A B) (hk : k < 512) (hro : (ro 1).1 = 5 ∧ (ro 1).2 = zka) (a : Int32) (b : Int32) (c : Int32) : zWp ro 103 0 [(0, .ref 0), (1, .int a), (2, .int b), (3, .int c)] [] (hS I G A B) 0 0 (zP2 ro 184 [(0, .ref 52), (1, .int a), (2, .int b), (3, .int c)] k (fun _ _ => True)) := by
  obtain ⟨h1, I3, G3, A3, B3, eh, hx⟩ := h
  have p1 := pair_forge ro k I G A B h1 hk hro a b c
  obtain ⟨nv1, np1, W1, L1, C1, -⟩ := h1
  have p2 := pairX_forge ro k I3 G3 A3 B3 hx (fun nv np W R hp => CV_h eh C1 R hp) hk hro a b c
  rw [← eh] at p2
  exact zP_and p1 p2
set_option maxHeartbeats 0 in
theorem pairX_status (ro : UInt32 → Nat × (Nat → Int32)) (k : Nat) (I : Nat → Nat → Int32) (G : Nat → Nat → Int64) (A : Nat → Nat → Int32) (B : Nat → Nat → Int64) (h : zCx k I G A B) (C : ∀ nv np W, cRS 11 nv np A W I G A B → MPa nv np A → CV nv np (1216 * k) I) (hk : k < 512)  : zWp ro 104 0 [(0, .ref 0)] [] (hS I G A B) 0 0 (zPX ro 185 [(0, .ref 52)] k (fun _ _ => True)) := by
  obtain ⟨nv, np, W, L, F, R, ow, kd, lw, lg, tl, tc, tm, tn⟩ := h
  have fn := F.2.2.2.2.2
  have hC := C nv np W R F.2.1
  refine zWp.mono (dv_X11_status ro nv np (1216 * k) I G A B hC (by omega) ) ?_
  rintro r h1 ⟨I1, G1, A1, B1, rfl, K1, -, v, rfl⟩
  have F1 := F.kp K1 pLv_52
  have e1 : PE A A1 := fun k _ _ => (K1.2.2.1 k (pLv_52 k (by omega))).symm
  have R1 := R.k K1.kq ⟨rfl, rfl⟩ (fun j _ _ => rfl) (fun k h1 h2 => by simp only [pLv, decide_eq_false_iff_not]; omega)
  have g1 := lg.k K1.kq rfl rfl rfl rfl rfl
  refine ⟨_, rfl, zWp.mono (mv_status ro nv np W L I1 G1 A1 B1 (242600 * k) F1.1 F1.2.1 F1.2.2.1 (by omega) F1.2.2.2.1 F1.2.2.2.2.1 ) ?_⟩
  rintro r2 h2 ⟨I2, G2, A2, B2, rfl, K2, id2, w, rfl⟩
  have R2 := F1.1.k K2 fQv_R pQv_R
  refine ⟨_, rfl, ?_, trivial⟩
  exact zCx.mk (zRf.of R2 F1.2.1 F1.2.2.1 F1.2.2.2.1 id2 fn) (by omega) (by omega) R1 (e1.tr R2.2.1.sy) K2 fQv_c pQv_c ow kd lw g1 (tc.e (K1.1 44 4 rfl) (K1.2.2.1 45 rfl)) (tm.e ((K2.1 52 29 rfl).trans (K1.1 52 29 rfl)) ((K2.2.2.1 71 rfl).trans (K1.2.2.1 71 rfl))) tn
theorem pair2_status (ro : UInt32 → Nat × (Nat → Int32)) (k : Nat) (I : Nat → Nat → Int32) (G : Nat → Nat → Int64) (A : Nat → Nat → Int32) (B : Nat → Nat → Int64) (h : zL2 k I G A B) (hk : k < 512)  : zWp ro 104 0 [(0, .ref 0)] [] (hS I G A B) 0 0 (zP2 ro 185 [(0, .ref 52)] k (fun _ _ => True)) := by
  obtain ⟨h1, I3, G3, A3, B3, eh, hx⟩ := h
  have p1 := pair_status ro k I G A B h1 hk 
  obtain ⟨nv1, np1, W1, L1, C1, -⟩ := h1
  have p2 := pairX_status ro k I3 G3 A3 B3 hx (fun nv np W R hp => CV_h eh C1 R hp) hk 
  rw [← eh] at p2
  exact zP_and p1 p2
