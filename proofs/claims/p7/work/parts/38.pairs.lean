/-! ===== both sides: what holds between two calls ===== -/
def zRf (nv np : Nat) (K : Int) (n : Nat) (W : qW) (L : qLog) (I : Nat → Nat → Int32) (G : Nat → Nat → Int64) (A : Nat → Nat → Int32) (B : Nat → Nat → Int64) : Prop := mRS nv np A W L I G A B ∧ MPa nv np A ∧ wInv nv 10000 K A W ∧ qLG L ∧ mId I ∧ L.1 ≤ n
section ZLI
variable {nv np : Nat} {K : Int} {n : Nat} {W : qW} {L : qLog} {I I1 I2 : Nat → Nat → Int32} {G G1 G2 : Nat → Nat → Int64} {A A1 A2 PA : Nat → Nat → Int32} {B B1 B2 : Nat → Nat → Int64} {pf : Nat → Nat → Bool} {pa p : Nat → Bool}
theorem mRS.self (h : mRS nv np PA W L I G A B) : mRS nv np A W L I G A B := ⟨h.1, PE.rf, h.2.2⟩
theorem zRf.of (R : mRS nv np PA W L I2 G2 A2 B2) (hp : MPa nv np PA) (hW : wInv nv 10000 K PA W) (hg : qLG L) (id : mId I2) (hn : L.1 ≤ n) : zRf nv np K n W L I2 G2 A2 B2 := ⟨R.self, hp.pe R.2.1, hW.pa (R.2.1 54 (by omega) (by omega)), hg, id, hn⟩
theorem zRf.kp (K1 : KP p I G A B I1 G1 A1 B1) (hp : ∀ k, 52 ≤ k → p k = false) (h : zRf nv np K n W L I G A B) : zRf nv np K n W L I1 G1 A1 B1 := by
  obtain ⟨a, b, c, d, e, f⟩ := h
  have h52 := hp 52 (by omega)
  have pe : PE A1 A := fun k k1 k2 => K1.2.2.1 k (hp k (by omega))
  refine ⟨⟨⟨(K1.1 52 0 h52).trans a.1.1, (K1.1 52 8 h52).trans a.1.2⟩, PE.rf, ?_, ⟨(K1.1 52 20 h52).trans a.2.2.2.1, (K1.2.2.1 67 (hp 67 (by omega))).trans a.2.2.2.2.1, (K1.2.2.1 68 (hp 68 (by omega))).trans a.2.2.2.2.2.1, (K1.2.2.2 69 (hp 69 (by omega))).trans a.2.2.2.2.2.2.1, (K1.2.2.2 70 (hp 70 (by omega))).trans a.2.2.2.2.2.2.2.1, (K1.1 52 42 h52).trans a.2.2.2.2.2.2.2.2⟩⟩, b.pe pe, c.pa (pe 54 (by omega) (by omega)), d, ?_, f⟩
  · rw [← a.2.2.1]
    unfold wR
    rw [K1.2.1 52 12 h52, K1.2.1 52 13 h52, K1.2.1 52 14 h52, K1.2.1 52 15 h52, K1.2.2.2 63 (hp 63 (by omega)), K1.2.2.1 65 (hp 65 (by omega)), K1.2.2.1 64 (hp 64 (by omega)), K1.2.2.1 66 (hp 66 (by omega))]
  · obtain ⟨e1, e2, t, e3, e4⟩ := e
    exact ⟨(K1.1 52 22 h52).trans e1, (K1.1 52 41 h52).trans e2, t, e3, (K1.1 52 29 h52).trans e4⟩
theorem mId.k (K2 : KQ pf pa I G A B I1 G1 A1 B1) (h1 : pf 52 22 = false) (h2 : pf 52 41 = false) (h3 : pf 52 29 = false) (h : mId I) : mId I1 := by
  obtain ⟨e1, e2, t, e3, e4⟩ := h
  exact ⟨(K2.1 52 22 h1).trans e1, (K2.1 52 41 h2).trans e2, t, e3, (K2.1 52 29 h3).trans e4⟩
def zLI (k : Nat) (I : Nat → Nat → Int32) (G : Nat → Nat → Int64) (A : Nat → Nat → Int32) (B : Nat → Nat → Int64) : Prop := ∃ nv np W L, CV nv np (1216 * k) I ∧ zRf nv np (242600 * k) (4000 * k) W L I G A B ∧ PE (cP A) A ∧ qKd nv (cP A)
theorem CV.k {cm : Nat} (h : ∀ k j, k < 52 → I2 k j = I1 k j) (C : CV nv np cm I1) : CV nv np cm I2 := by
  obtain ⟨⟨⟨a1, a2⟩, ⟨b1, b2⟩, ⟨c, c1, c2⟩, ⟨d, d1, d2⟩⟩, ⟨e, e1, e2⟩, ⟨f, f1, f2⟩⟩ := C
  exact ⟨⟨⟨(h 1 0 (by omega)).trans a1, a2⟩, ⟨(h 1 1 (by omega)).trans b1, b2⟩, ⟨c, c1, (h 11 12 (by omega)).trans c2⟩, ⟨d, d1, (h 22 12 (by omega)).trans d2⟩⟩, ⟨e, e1, (h 33 0 (by omega)).trans e2⟩, ⟨f, f1, (h 44 4 (by omega)).trans f2⟩⟩
theorem cP_c (h : ∀ k, k ≤ 15 → (k < 11 ∨ k = 15) → A2 k = A1 k) : cP A2 = cP A1 := by
  funext k
  unfold cP
  rw [h 2 (by omega) (by omega), h 3 (by omega) (by omega), h 4 (by omega) (by omega), h 5 (by omega) (by omega), h 6 (by omega) (by omega), h 7 (by omega) (by omega), h 8 (by omega) (by omega), h 9 (by omega) (by omega), h 10 (by omega) (by omega), h 15 (by omega) (by omega)]
theorem zLI.mk {k cm : Nat} (C1 : CV nv np cm I1) (hcm : cm ≤ 1216 * (k + 1)) (K2 : KQ pf pa I1 G1 A1 B1 I2 G2 A2 B2) (hf : ∀ k j, k < 52 → pf k j = false) (hpa : ∀ k, k < 52 → pa k = false) (F2 : zRf nv np K n W L I2 G2 A2 B2) (hK : K ≤ 242600 * (k + 1 : Nat)) (hn : n ≤ 4000 * (k + 1)) (hE : PE (cP A1) A2) (hQ : qKd nv (cP A1)) : zLI (k + 1) I2 G2 A2 B2 := by
  have e : cP A2 = cP A1 := cP_c (fun k h1 h2 => K2.2.2.1 k (hpa k (by omega)))
  refine ⟨nv, np, W, L, (CV.k (fun k j hk => K2.1 k j (hf k j hk)) C1).mono hcm, ⟨F2.1, F2.2.1, F2.2.2.1.mo (by omega) hK, F2.2.2.2.1, F2.2.2.2.2.1, by have := F2.2.2.2.2.2; omega⟩, ?_, ?_⟩
  · rw [e]; exact hE
  · rw [e]; exact hQ
theorem qLG.note {t g : Int64} {so a b : Int32} (h : qLG L) (hg : 1 ≤ g.toInt) : qLG (qNote 1 t g so L a b) := by
  intro i hi h4
  rw [qNote_1] at hi
  unfold qNote
  by_cases c : ¬ (1 : Int32) = 0 ∧ L.1 < 400
  · rw [if_pos c]
    show 1 ≤ (vp_updL L.2.2.2.2.1 L.1 g i).toInt
    by_cases e : i = L.1
    · rw [e, vpL_s]; exact hg
    · rw [vpL_o e]; exact h i (by omega) h4
  · rw [if_neg c]
    have : ¬ L.1 < 400 := fun z => c ⟨by decide, z⟩
    exact h i (by omega) h4
theorem qLG.notes {t g : Int64} {so : Int32} (hg : 1 ≤ g.toInt) : ∀ {L : qLog} (e : List (Int32 × Int32)), qLG L → qLG (qNotes 1 t g so L e)
  | L, [], h => h
  | L, (a, b) :: e, h => qLG.notes hg e (h.note hg)
theorem qArr.lg {L2 : qLog} (h : qLG L) (ha : qArr L L2) (hn : L2.1 = L.1) : qLG L2 := by
  intro i hi h4
  rw [ha.2.2.2]
  exact h i (by omega) h4
theorem zRf.hd {rec so : Int32} (hp : MPa nv np PA) (hW : wInv nv 10000 K PA W) (hK : K ≤ 200000000) (hg : qLG L) (e : rec = 1) (R : mRS nv np PA (wMom nv PA W) (qNotes rec W.2.1 W.1 so L (wEv nv PA W)) I2 G2 A2 B2) (id : mId I2) (hn : L.1 ≤ n) : zRf nv np (K + 1600) (n + 24) (wMom nv PA W) (qNotes rec W.2.1 W.1 so L (wEv nv PA W)) I2 G2 A2 B2 := by
  have m := wMom_ok hp hW.1 hW.2.1 (by omega) hK
  refine zRf.of R hp ⟨m.1, m.2.1, wMom_z hp hW.2.2⟩ ?_ id ?_
  · rw [e]; exact qLG.notes hW.1.1.1.1 _ hg
  · rw [qNotes_1]; have := m.2.2; omega
theorem wGo_ok {so : Int32} {u : Int64} (hp : MPa nv np PA) (u0 : 0 ≤ u.toInt) (u1 : u.toInt ≤ 10000) : ∀ (m : Nat) (K : Int) (W : qW) (L : qLog), wInv nv 10000 K PA W → 0 ≤ K → K + 1600 * m ≤ 200000000 → qLG L → wInv nv 10000 (K + 1600 * m) PA (wGo nv np PA 1 so u m W L).2.1 ∧ qLG (wGo nv np PA 1 so u m W L).2.2 ∧ (wGo nv np PA 1 so u m W L).2.2.1 ≤ L.1 + 24 * m ∧ (¬ (wGo nv np PA 1 so u m W L).1 = -1 → (wStep nv np PA u (wGo nv np PA 1 so u m W L).2.1).1 = 0)
  | 0, K, W, L, hW, hK0, hK, hg => by
    refine ⟨hW.mo (by omega) (by show K ≤ K + 1600 * (0 : Nat); omega), hg, Nat.le_refl _, fun z => ?_⟩
    show (wStep nv np PA u W).1 = 0
    rcases Classical.em ((wStep nv np PA u W).1 = 0) with y | y
    · exact y
    · exfalso
      apply z
      exact if_neg y
  | m + 1, K, W, L, hW, hK0, hK, hg => by
    rcases wStep_inv hp hW (by omega) (T2 := 10000) (by omega) hK0 (by omega) (Or.inr ⟨u0, u1, u1⟩) with q | ⟨e1, e2, e3⟩
    · have e : wGo nv np PA 1 so u (m + 1) W L = ((wStep nv np PA u W).1, W, L) := if_neg (by
        rcases q with q | q <;> rw [q]
        · show ¬ (0 : Int32) = 1; decide
        · show ¬ (-1 : Int32) = 1; decide)
      rw [e]
      refine ⟨hW.mo (by omega) (by omega), hg, by show L.1 ≤ _; omega, fun z => ?_⟩
      show (wStep nv np PA u W).1 = 0
      rcases q with q | q
      · rw [q]
      · exact absurd (show (wStep nv np PA u W).1 = -1 by rw [q]) z
    · have e : wGo nv np PA 1 so u (m + 1) W L = _ := if_pos e1
      rw [e]
      have hgg : 1 ≤ (wStep nv np PA u W).2.2.2.1.toInt := by
        obtain ⟨rs, na, nb, hN⟩ : ∃ rs na nb, wNx nv np PA W = (rs, na, nb) := ⟨_, _, _, rfl⟩
        by_cases r0 : rs = 0
        · subst r0
          by_cases hb : (u * W.1 - W.2.1) * nb < na * W.1
          · rw [wStep_b hN hb] at e1; exact absurd (show (0 : Int32) = 1 from e1) (by decide)
          · cases hps : wPass nv np PA W na nb with
            | none => rw [wStep_n hN hb hps] at e1; exact absurd (show (-1 : Int32) = 1 from e1) (by decide)
            | some W1 =>
              rw [wStep_y hN hb hps]
              exact ((wStep_pass (T := 10000) (T2 := 10000) hp hW.1 (by omega) hK0 (by omega) (Or.inr ⟨u0, u1, u1⟩) hN hb).2.2.2 W1 hps).1.1.1.1
        · rw [wStep_r (by rw [hN]; exact r0)] at e1; exact absurd (show (0 : Int32) = 1 from e1) (by decide)
      have ih := wGo_ok (so := so) hp u0 u1 m (K + 1600) (wStep nv np PA u W).2.1 (qNotes 1 (wStep nv np PA u W).2.2.1 (wStep nv np PA u W).2.2.2.1 so L (wStep nv np PA u W).2.2.2.2) e2 (by omega) (by omega) (qLG.notes hgg _ hg)
      rw [qNotes_1] at ih
      exact ⟨ih.1.mo (by omega) (by omega), ih.2.1, by have := ih.2.2.1; omega, ih.2.2.2⟩
theorem wGoR_ok {rec so u : Int32} (hp : MPa nv np PA) (hW : wInv nv 10000 K PA W) (hK0 : 0 ≤ K) (hK : K ≤ 199000000) (hg : qLG L) (er : rec = 1) : wInv nv 10000 (K + 240000) PA (wGoR nv np PA rec so u W L).2.2.1 ∧ qLG (wGoR nv np PA rec so u W L).2.2.2 ∧ (wGoR nv np PA rec so u W L).2.2.2.1 ≤ L.1 + 3600 := by
  subst er
  unfold wGoR
  by_cases c : 10000 < u ∨ Int32.toInt64 u * W.1 < W.2.1
  · rw [if_pos c]; exact ⟨hW.mo (by omega) (by omega), hg, by show L.1 ≤ _; omega⟩
  · rw [if_neg c]
    have cu := wGo_u hW.1 (fun z => c (Or.inl z)) (fun z => c (Or.inr z))
    have q := wGo_ok (so := so) hp cu.1 cu.2 150 K W L hW hK0 (by omega) hg
    unfold wGoX
    by_cases z : (wGo nv np PA 1 so (Int32.toInt64 u) 150 W L).1 = -1
    · rw [if_pos z]; exact ⟨q.1.mo (by omega) (by omega), q.2.1, q.2.2.1⟩
    · rw [if_neg z]
      exact ⟨(wTo_inv hp q.1 (by omega) (by omega) (by omega) cu.1 cu.2 (q.2.2.2 z)).mo (by omega) (by omega), q.2.1, q.2.2.1⟩
theorem PE.sy {P Q : Nat → Nat → Int32} (h : PE P Q) : PE Q P := fun k a b => (h k a b).symm
theorem PE.tr {P Q R : Nat → Nat → Int32} (h : PE P Q) (h2 : PE Q R) : PE P R := fun k a b => (h k a b).trans (h2 k a b)
theorem PE.up {P Q : Nat → Nat → Int32} {x y : Int32} (c j : Nat) (h : PE P Q) (h1 : 53 ≤ c) (h2 : c ≤ 62) (hx : x = y) : PE (updA P c (upd (P c) j x)) (updA Q c (upd (Q c) j y)) := by
  intro k k1 k2
  unfold updA
  by_cases e : k = c
  · rw [if_pos e, if_pos e, h c h1 h2, hx]
  · rw [if_neg e, if_neg e]; exact h k k1 k2
theorem qKd.pe {P Q : Nat → Nat → Int32} (h : qKd nv P) (e : PE Q P) : qKd nv Q := by
  unfold qKd
  rw [e 53 (by omega) (by omega), e 56 (by omega) (by omega)]
  exact h
theorem qKd.pe2 {P Q : Nat → Nat → Int32} (e : PE Q P) (h : qKd nv P) : qKd nv Q := h.pe e
theorem qKd.e {P Q : Nat → Nat → Int32} (h : qKd nv P) (e3 : Q 53 = P 53) (e6 : Q 56 = P 56) : qKd nv Q := by
  unfold qKd
  rw [e3, e6]; exact h
theorem qKd.vs {P Q : Nat → Nat → Int32} {a : Int32} (h : qKd nv P) (ha : qRg a 0 4) (e3 : Q 53 = upd (P 53) nv a) (e6 : Q 56 = upd (P 56) nv 0) : qKd (nv + 1) Q := by
  unfold qKd
  rw [e3, e6]
  refine ⟨fun v hv => ?_, fun v hv => ?_⟩
  · by_cases e : v = nv
    · rw [e, upd_s]; exact ha
    · rw [upd_o e]; exact h.1 v (by omega)
  · by_cases e : v = nv
    · rw [e, upd_s, upd_s]; exact fun _ => rfl
    · rw [upd_o e, upd_o e]; exact h.2 v (by omega)
theorem qKd.mk {P Q : Nat → Nat → Int32} {v : Nat} {c : Int32} (h : qKd nv P) (e3 : Q 53 = P 53) (e6 : Q 56 = upd (P 56) v (if P 53 v = 1 then 0 else c)) : qKd nv Q := by
  unfold qKd
  rw [e3, e6]
  refine ⟨h.1, fun w hw q => ?_⟩
  by_cases e : w = v
  · rw [e] at q ⊢
    rw [upd_s, if_pos q]
  · rw [upd_o e]; exact h.2 w hw q
end ZLI
theorem pX52 : ∀ k, 52 ≤ k → pX k = false := by
  intro k h
  simp only [pX, decide_eq_false_iff_not]
  omega
theorem pN52 : ∀ k, 52 ≤ k → pN k = false := fun k h => by
  simp only [pN, Bool.or_eq_false_iff, Bool.and_eq_false_iff, decide_eq_false_iff_not]
  omega
theorem pNpl : ∀ k, k ≤ 15 → (k < 11 ∨ k = 15) → 1 ≤ k → pN k = false := fun k h1 h2 h3 => by
  simp only [pN, Bool.or_eq_false_iff, Bool.and_eq_false_iff, decide_eq_false_iff_not]
  omega
theorem cP_n {I I1 : Nat → Nat → Int32} {G G1 : Nat → Nat → Int64} {A A1 : Nat → Nat → Int32} {B B1 : Nat → Nat → Int64} (K1 : KP pN I G A B I1 G1 A1 B1) : cP A1 = cP A := by
  funext k
  unfold cP
  rw [K1.2.2.1 2 rfl, K1.2.2.1 3 rfl, K1.2.2.1 4 rfl, K1.2.2.1 5 rfl, K1.2.2.1 6 rfl, K1.2.2.1 7 rfl, K1.2.2.1 8 rfl, K1.2.2.1 9 rfl, K1.2.2.1 10 rfl, K1.2.2.1 15 rfl]
theorem fHn_c : ∀ k j, k < 52 → fHn k j = false := by
  intro k j h
  simp only [fHn, decide_eq_false_iff_not]
  omega
theorem fQu_c : ∀ k j, k < 52 → fQu k j = false := by
  intro k j h
  simp only [fQu, decide_eq_false_iff_not]
  omega
theorem fGo_c : ∀ k j, k < 52 → fGo k j = false := by
  intro k j h
  simp only [fGo, decide_eq_false_iff_not]
  omega
theorem fTu_c : ∀ k j, k < 52 → fTu k j = false := by
  intro k j h
  simp only [fTu, decide_eq_false_iff_not]
  omega
theorem fRo_c : ∀ k j, k < 52 → fRo k j = false := by
  intro k j h
  simp only [fRo, decide_eq_false_iff_not]
  omega
theorem pHn_c : ∀ k, k < 52 → pHn k = false := by
  intro k h
  simp only [pHn, decide_eq_false_iff_not]
  omega
theorem pQu_c : ∀ k, k < 52 → pQu k = false := by
  intro k h
  simp only [pQu, decide_eq_false_iff_not]
  omega
theorem pSt_c : ∀ k, k < 52 → pSt k = false := by
  intro k h
  simp only [pSt, decide_eq_false_iff_not]
  omega
theorem pTu_c : ∀ k, k < 52 → pTu k = false := by
  intro k h
  simp only [pTu, decide_eq_false_iff_not]
  omega
theorem pRo_c : ∀ k, k < 52 → pRo k = false := by
  intro k h
  simp only [pRo, decide_eq_false_iff_not]
  omega
theorem pTu_pe {A A1 : Nat → Nat → Int32} : True := trivial
def zPI (ro : UInt32 → Nat × (Nat → Int32)) (M : Nat) (la : List (Nat × Value)) (k : Nat) (rel : Int32 → Int32 → Prop) (r : Option Value) (h1 : List va_E) : Prop := ∃ I1 G1 A1 B1 v, h1 = hS I1 G1 A1 B1 ∧ r = some (.int v) ∧ zWp ro M 0 la [] (hS I1 G1 A1 B1) 0 0 (fun r2 h2 => ∃ I2 G2 A2 B2 w, h2 = hS I2 G2 A2 B2 ∧ r2 = some (.int w) ∧ zLI (k + 1) I2 G2 A2 B2 ∧ rel v w)
def zPL (ro : UInt32 → Nat × (Nat → Int32)) (M : Nat) (la : List (Nat × Value)) (k : Nat) (rel : Int64 → Int64 → Prop) (r : Option Value) (h1 : List va_E) : Prop := ∃ I1 G1 A1 B1 v, h1 = hS I1 G1 A1 B1 ∧ r = some (.long v) ∧ zWp ro M 0 la [] (hS I1 G1 A1 B1) 0 0 (fun r2 h2 => ∃ I2 G2 A2 B2 w, h2 = hS I2 G2 A2 B2 ∧ r2 = some (.long w) ∧ zLI (k + 1) I2 G2 A2 B2 ∧ rel v w)
theorem ok_vessel_pe {nv np : Nat} {P Q : Nat → Nat → Int32} {a : Int32} {b : Int32} (e : PE P Q) : ok_vessel nv np P a b ↔ ok_vessel nv np Q a b := by
  unfold ok_vessel
  exact Iff.rfl
set_option maxHeartbeats 0 in
theorem pair_vessel (ro : UInt32 → Nat × (Nat → Int32)) (k : Nat) (I : Nat → Nat → Int32) (G : Nat → Nat → Int64) (A : Nat → Nat → Int32) (B : Nat → Nat → Int64) (h : zLI k I G A B) (hk : k < 512) (a : Int32) (b : Int32) : zWp ro 78 0 [(0, .ref 0), (1, .int a), (2, .int b)] [] (hS I G A B) 0 0 (zPI ro 141 [(0, .ref 52), (1, .int a), (2, .int b)] k (fun v w => v = w)) := by
  obtain ⟨nv, np, W, L, hC, hF, hE, hQ⟩ := h
  refine zWp.mono (cm_vessel ro nv np (1216 * k) I G A B hC (by omega) hQ a b) ?_
  rintro r h1 ⟨I1, G1, A1, B1, rfl, K1, hc⟩
  have F1 := hF.kp K1 pX52
  have fn := F1.2.2.2.2.2
  have hE1 : PE (cP A) A1 := fun k k1 k2 => (hE k k1 k2).trans (K1.2.2.1 k (pX52 k (by omega))).symm
  have key := ok_vessel_pe (nv := nv) (np := np) (a := a) (b := b) hE1
  have mm := mm_vessel ro nv np W L I1 G1 A1 B1 (242600 * k) F1.1 F1.2.1 F1.2.2.1 (by omega) (by omega) (by omega) a b
  rcases hc with ⟨n1, c1, rfl⟩ | ⟨y1, c1, rfl⟩
  · refine ⟨I1, G1, A1, B1, _, rfl, rfl, ?_⟩
    refine zWp.mono mm ?_
    rintro r2 h2 ⟨I2, G2, A2, B2, rfl, K2, (⟨n2, R2, rfl⟩ | ⟨y2, -⟩)⟩
    · refine ⟨I2, G2, A2, B2, _, rfl, rfl, ?_, rfl⟩
      exact zLI.mk c1.1 (by omega) K2 fHn_c pHn_c (zRf.of R2 F1.2.1 F1.2.2.1 F1.2.2.2.1 (mId.k K2 rfl rfl rfl F1.2.2.2.2.1) fn) (by omega) (by omega) ((c1.2.tr hE1).tr R2.2.1.sy) (hQ.pe c1.2)
    · exact absurd (key.mpr y2) n1
  · refine ⟨I1, G1, A1, B1, _, rfl, rfl, ?_⟩
    refine zWp.mono mm ?_
    rintro r2 h2 ⟨I2, G2, A2, B2, rfl, K2, (⟨n2, -⟩ | ⟨y2, p2, w2, R2, rfl⟩)⟩
    · exact absurd (key.mp y1) n2
    · refine ⟨I2, G2, A2, B2, _, rfl, rfl, ?_, rfl⟩
      exact zLI.mk c1.1 (by omega) K2 fHn_c pHn_c (zRf.hd p2 w2 (by omega) F1.2.2.2.1 F1.2.2.2.2.1.1 R2 (mId.k K2 rfl rfl rfl F1.2.2.2.2.1) fn) (by omega) (by omega) ((c1.2.tr (PE.up 59 nv (PE.up 58 nv (PE.up 57 nv (PE.up 56 nv (PE.up 55 nv (PE.up 54 nv (PE.up 53 nv hE1 (by omega) (by omega) rfl) (by omega) (by omega) rfl) (by omega) (by omega) rfl) (by omega) (by omega) rfl) (by omega) (by omega) rfl) (by omega) (by omega) rfl) (by omega) (by omega) rfl)).tr R2.2.1.sy) (qKd.pe2 c1.2 (hQ.vs y1.1 rfl rfl))
theorem ok_marks_pe {nv np : Nat} {P Q : Nat → Nat → Int32} {a : Int32} {b : Int32} {c : Int32} (e : PE P Q) : ok_marks nv np P a b c ↔ ok_marks nv np Q a b c := by
  unfold ok_marks
  rw [e 53 (by omega) (by omega), e 54 (by omega) (by omega)]
set_option maxHeartbeats 0 in
theorem pair_marks (ro : UInt32 → Nat × (Nat → Int32)) (k : Nat) (I : Nat → Nat → Int32) (G : Nat → Nat → Int64) (A : Nat → Nat → Int32) (B : Nat → Nat → Int64) (h : zLI k I G A B) (hk : k < 512) (a : Int32) (b : Int32) (c : Int32) : zWp ro 79 0 [(0, .ref 0), (1, .int a), (2, .int b), (3, .int c)] [] (hS I G A B) 0 0 (zPI ro 142 [(0, .ref 52), (1, .int a), (2, .int b), (3, .int c)] k (fun v w => v = w)) := by
  obtain ⟨nv, np, W, L, hC, hF, hE, hQ⟩ := h
  refine zWp.mono (cm_marks ro nv np (1216 * k) I G A B hC (by omega) hQ a b c) ?_
  rintro r h1 ⟨I1, G1, A1, B1, rfl, K1, hc⟩
  have F1 := hF.kp K1 pX52
  have fn := F1.2.2.2.2.2
  have hE1 : PE (cP A) A1 := fun k k1 k2 => (hE k k1 k2).trans (K1.2.2.1 k (pX52 k (by omega))).symm
  have key := ok_marks_pe (nv := nv) (np := np) (a := a) (b := b) (c := c) hE1
  have mm := mm_marks ro nv np W L I1 G1 A1 B1 (242600 * k) F1.1 F1.2.1 F1.2.2.1 (by omega) (by omega) (by omega) a b c
  rcases hc with ⟨n1, c1, rfl⟩ | ⟨y1, c1, rfl⟩
  · refine ⟨I1, G1, A1, B1, _, rfl, rfl, ?_⟩
    refine zWp.mono mm ?_
    rintro r2 h2 ⟨I2, G2, A2, B2, rfl, K2, (⟨n2, R2, rfl⟩ | ⟨y2, -⟩)⟩
    · refine ⟨I2, G2, A2, B2, _, rfl, rfl, ?_, rfl⟩
      exact zLI.mk c1.1 (by omega) K2 fHn_c pHn_c (zRf.of R2 F1.2.1 F1.2.2.1 F1.2.2.2.1 (mId.k K2 rfl rfl rfl F1.2.2.2.2.1) fn) (by omega) (by omega) ((c1.2.tr hE1).tr R2.2.1.sy) (hQ.pe c1.2)
    · exact absurd (key.mpr y2) n1
  · refine ⟨I1, G1, A1, B1, _, rfl, rfl, ?_⟩
    refine zWp.mono mm ?_
    rintro r2 h2 ⟨I2, G2, A2, B2, rfl, K2, (⟨n2, -⟩ | ⟨y2, p2, w2, R2, rfl⟩)⟩
    · exact absurd (key.mp y1) n2
    · refine ⟨I2, G2, A2, B2, _, rfl, rfl, ?_, rfl⟩
      exact zLI.mk c1.1 (by omega) K2 fHn_c pHn_c (zRf.hd p2 w2 (by omega) F1.2.2.2.1 F1.2.2.2.2.1.1 R2 (mId.k K2 rfl rfl rfl F1.2.2.2.2.1) fn) (by omega) (by omega) ((c1.2.tr (PE.up 56 a.toNatClampNeg (PE.up 55 a.toNatClampNeg hE1 (by omega) (by omega) rfl) (by omega) (by omega) (by rw [hE1 53 (by omega) (by omega)]))).tr R2.2.1.sy) (qKd.pe2 c1.2 (hQ.mk rfl rfl))
theorem ok_own_pe {nv np : Nat} {P Q : Nat → Nat → Int32} {a : Int32} {b : Int32} (e : PE P Q) : ok_own nv np P a b ↔ ok_own nv np Q a b := by
  unfold ok_own
  rw [e 53 (by omega) (by omega), e 60 (by omega) (by omega)]
set_option maxHeartbeats 0 in
theorem pair_own (ro : UInt32 → Nat × (Nat → Int32)) (k : Nat) (I : Nat → Nat → Int32) (G : Nat → Nat → Int64) (A : Nat → Nat → Int32) (B : Nat → Nat → Int64) (h : zLI k I G A B) (hk : k < 512) (a : Int32) (b : Int32) : zWp ro 80 0 [(0, .ref 0), (1, .int a), (2, .int b)] [] (hS I G A B) 0 0 (zPI ro 143 [(0, .ref 52), (1, .int a), (2, .int b)] k (fun v w => v = w)) := by
  obtain ⟨nv, np, W, L, hC, hF, hE, hQ⟩ := h
  refine zWp.mono (cm_own ro nv np (1216 * k) I G A B hC (by omega) hQ a b) ?_
  rintro r h1 ⟨I1, G1, A1, B1, rfl, K1, hc⟩
  have F1 := hF.kp K1 pX52
  have fn := F1.2.2.2.2.2
  have hE1 : PE (cP A) A1 := fun k k1 k2 => (hE k k1 k2).trans (K1.2.2.1 k (pX52 k (by omega))).symm
  have key := ok_own_pe (nv := nv) (np := np) (a := a) (b := b) hE1
  have mm := mm_own ro nv np W L I1 G1 A1 B1 (242600 * k) F1.1 F1.2.1 F1.2.2.1 (by omega) (by omega) (by omega) a b
  rcases hc with ⟨n1, c1, rfl⟩ | ⟨y1, c1, rfl⟩
  · refine ⟨I1, G1, A1, B1, _, rfl, rfl, ?_⟩
    refine zWp.mono mm ?_
    rintro r2 h2 ⟨I2, G2, A2, B2, rfl, K2, (⟨n2, R2, rfl⟩ | ⟨y2, -⟩)⟩
    · refine ⟨I2, G2, A2, B2, _, rfl, rfl, ?_, rfl⟩
      exact zLI.mk c1.1 (by omega) K2 fHn_c pHn_c (zRf.of R2 F1.2.1 F1.2.2.1 F1.2.2.2.1 (mId.k K2 rfl rfl rfl F1.2.2.2.2.1) fn) (by omega) (by omega) ((c1.2.tr hE1).tr R2.2.1.sy) (hQ.pe c1.2)
    · exact absurd (key.mpr y2) n1
  · refine ⟨I1, G1, A1, B1, _, rfl, rfl, ?_⟩
    refine zWp.mono mm ?_
    rintro r2 h2 ⟨I2, G2, A2, B2, rfl, K2, (⟨n2, -⟩ | ⟨y2, p2, w2, R2, rfl⟩)⟩
    · exact absurd (key.mp y1) n2
    · refine ⟨I2, G2, A2, B2, _, rfl, rfl, ?_, rfl⟩
      exact zLI.mk c1.1 (by omega) K2 fHn_c pHn_c (zRf.hd p2 w2 (by omega) F1.2.2.2.1 F1.2.2.2.2.1.1 R2 (mId.k K2 rfl rfl rfl F1.2.2.2.2.1) fn) (by omega) (by omega) ((c1.2.tr (PE.up 57 a.toNatClampNeg hE1 (by omega) (by omega) rfl)).tr R2.2.1.sy) (qKd.pe2 c1.2 (hQ.e rfl rfl))
theorem ok_tips_pe {nv np : Nat} {P Q : Nat → Nat → Int32} {a : Int32} {b : Int32} (e : PE P Q) : ok_tips nv np P a b ↔ ok_tips nv np Q a b := by
  unfold ok_tips
  rw [e 53 (by omega) (by omega)]
set_option maxHeartbeats 0 in
theorem pair_tips (ro : UInt32 → Nat × (Nat → Int32)) (k : Nat) (I : Nat → Nat → Int32) (G : Nat → Nat → Int64) (A : Nat → Nat → Int32) (B : Nat → Nat → Int64) (h : zLI k I G A B) (hk : k < 512) (a : Int32) (b : Int32) : zWp ro 81 0 [(0, .ref 0), (1, .int a), (2, .int b)] [] (hS I G A B) 0 0 (zPI ro 145 [(0, .ref 52), (1, .int a), (2, .int b)] k (fun v w => v = w)) := by
  obtain ⟨nv, np, W, L, hC, hF, hE, hQ⟩ := h
  refine zWp.mono (cm_tips ro nv np (1216 * k) I G A B hC (by omega) hQ a b) ?_
  rintro r h1 ⟨I1, G1, A1, B1, rfl, K1, hc⟩
  have F1 := hF.kp K1 pX52
  have fn := F1.2.2.2.2.2
  have hE1 : PE (cP A) A1 := fun k k1 k2 => (hE k k1 k2).trans (K1.2.2.1 k (pX52 k (by omega))).symm
  have key := ok_tips_pe (nv := nv) (np := np) (a := a) (b := b) hE1
  have mm := mm_tips ro nv np W L I1 G1 A1 B1 (242600 * k) F1.1 F1.2.1 F1.2.2.1 (by omega) (by omega) (by omega) a b
  rcases hc with ⟨n1, c1, rfl⟩ | ⟨y1, c1, rfl⟩
  · refine ⟨I1, G1, A1, B1, _, rfl, rfl, ?_⟩
    refine zWp.mono mm ?_
    rintro r2 h2 ⟨I2, G2, A2, B2, rfl, K2, (⟨n2, R2, rfl⟩ | ⟨y2, -⟩)⟩
    · refine ⟨I2, G2, A2, B2, _, rfl, rfl, ?_, rfl⟩
      exact zLI.mk c1.1 (by omega) K2 fHn_c pHn_c (zRf.of R2 F1.2.1 F1.2.2.1 F1.2.2.2.1 (mId.k K2 rfl rfl rfl F1.2.2.2.2.1) fn) (by omega) (by omega) ((c1.2.tr hE1).tr R2.2.1.sy) (hQ.pe c1.2)
    · exact absurd (key.mpr y2) n1
  · refine ⟨I1, G1, A1, B1, _, rfl, rfl, ?_⟩
    refine zWp.mono mm ?_
    rintro r2 h2 ⟨I2, G2, A2, B2, rfl, K2, (⟨n2, -⟩ | ⟨y2, p2, w2, R2, rfl⟩)⟩
    · exact absurd (key.mp y1) n2
    · refine ⟨I2, G2, A2, B2, _, rfl, rfl, ?_, rfl⟩
      exact zLI.mk c1.1 (by omega) K2 fHn_c pHn_c (zRf.hd p2 w2 (by omega) F1.2.2.2.1 F1.2.2.2.2.1.1 R2 (mId.k K2 rfl rfl rfl F1.2.2.2.2.1) fn) (by omega) (by omega) ((c1.2.tr (PE.up 58 a.toNatClampNeg hE1 (by omega) (by omega) rfl)).tr R2.2.1.sy) (qKd.pe2 c1.2 (hQ.e rfl rfl))
theorem ok_over_pe {nv np : Nat} {P Q : Nat → Nat → Int32} {a : Int32} {b : Int32} (e : PE P Q) : ok_over nv np P a b ↔ ok_over nv np Q a b := by
  unfold ok_over
  exact Iff.rfl
set_option maxHeartbeats 0 in
theorem pair_over (ro : UInt32 → Nat × (Nat → Int32)) (k : Nat) (I : Nat → Nat → Int32) (G : Nat → Nat → Int64) (A : Nat → Nat → Int32) (B : Nat → Nat → Int64) (h : zLI k I G A B) (hk : k < 512) (a : Int32) (b : Int32) : zWp ro 82 0 [(0, .ref 0), (1, .int a), (2, .int b)] [] (hS I G A B) 0 0 (zPI ro 146 [(0, .ref 52), (1, .int a), (2, .int b)] k (fun v w => v = w)) := by
  obtain ⟨nv, np, W, L, hC, hF, hE, hQ⟩ := h
  refine zWp.mono (cm_over ro nv np (1216 * k) I G A B hC (by omega) hQ a b) ?_
  rintro r h1 ⟨I1, G1, A1, B1, rfl, K1, hc⟩
  have F1 := hF.kp K1 pX52
  have fn := F1.2.2.2.2.2
  have hE1 : PE (cP A) A1 := fun k k1 k2 => (hE k k1 k2).trans (K1.2.2.1 k (pX52 k (by omega))).symm
  have key := ok_over_pe (nv := nv) (np := np) (a := a) (b := b) hE1
  have mm := mm_over ro nv np W L I1 G1 A1 B1 (242600 * k) F1.1 F1.2.1 F1.2.2.1 (by omega) (by omega) (by omega) a b
  rcases hc with ⟨n1, c1, rfl⟩ | ⟨y1, c1, rfl⟩
  · refine ⟨I1, G1, A1, B1, _, rfl, rfl, ?_⟩
    refine zWp.mono mm ?_
    rintro r2 h2 ⟨I2, G2, A2, B2, rfl, K2, (⟨n2, R2, rfl⟩ | ⟨y2, -⟩)⟩
    · refine ⟨I2, G2, A2, B2, _, rfl, rfl, ?_, rfl⟩
      exact zLI.mk c1.1 (by omega) K2 fHn_c pHn_c (zRf.of R2 F1.2.1 F1.2.2.1 F1.2.2.2.1 (mId.k K2 rfl rfl rfl F1.2.2.2.2.1) fn) (by omega) (by omega) ((c1.2.tr hE1).tr R2.2.1.sy) (hQ.pe c1.2)
    · exact absurd (key.mpr y2) n1
  · refine ⟨I1, G1, A1, B1, _, rfl, rfl, ?_⟩
    refine zWp.mono mm ?_
    rintro r2 h2 ⟨I2, G2, A2, B2, rfl, K2, (⟨n2, -⟩ | ⟨y2, p2, w2, R2, rfl⟩)⟩
    · exact absurd (key.mp y1) n2
    · refine ⟨I2, G2, A2, B2, _, rfl, rfl, ?_, rfl⟩
      exact zLI.mk c1.1 (by omega) K2 fHn_c pHn_c (zRf.hd p2 w2 (by omega) F1.2.2.2.1 F1.2.2.2.2.1.1 R2 (mId.k K2 rfl rfl rfl F1.2.2.2.2.1) fn) (by omega) (by omega) ((c1.2.tr (PE.up 59 a.toNatClampNeg hE1 (by omega) (by omega) rfl)).tr R2.2.1.sy) (qKd.pe2 c1.2 (hQ.e rfl rfl))
theorem ok_pipe_pe {nv np : Nat} {P Q : Nat → Nat → Int32} {a : Int32} {b : Int32} {c : Int32} (e : PE P Q) : ok_pipe nv np P a b c ↔ ok_pipe nv np Q a b c := by
  unfold ok_pipe
  exact Iff.rfl
set_option maxHeartbeats 0 in
theorem pair_pipe (ro : UInt32 → Nat × (Nat → Int32)) (k : Nat) (I : Nat → Nat → Int32) (G : Nat → Nat → Int64) (A : Nat → Nat → Int32) (B : Nat → Nat → Int64) (h : zLI k I G A B) (hk : k < 512) (a : Int32) (b : Int32) (c : Int32) : zWp ro 83 0 [(0, .ref 0), (1, .int a), (2, .int b), (3, .int c)] [] (hS I G A B) 0 0 (zPI ro 147 [(0, .ref 52), (1, .int a), (2, .int b), (3, .int c)] k (fun v w => v = w)) := by
  obtain ⟨nv, np, W, L, hC, hF, hE, hQ⟩ := h
  refine zWp.mono (cm_pipe ro nv np (1216 * k) I G A B hC (by omega) hQ a b c) ?_
  rintro r h1 ⟨I1, G1, A1, B1, rfl, K1, hc⟩
  have F1 := hF.kp K1 pX52
  have fn := F1.2.2.2.2.2
  have hE1 : PE (cP A) A1 := fun k k1 k2 => (hE k k1 k2).trans (K1.2.2.1 k (pX52 k (by omega))).symm
  have key := ok_pipe_pe (nv := nv) (np := np) (a := a) (b := b) (c := c) hE1
  have mm := mm_pipe ro nv np W L I1 G1 A1 B1 (242600 * k) F1.1 F1.2.1 F1.2.2.1 (by omega) (by omega) (by omega) a b c
  rcases hc with ⟨n1, c1, rfl⟩ | ⟨y1, c1, rfl⟩
  · refine ⟨I1, G1, A1, B1, _, rfl, rfl, ?_⟩
    refine zWp.mono mm ?_
    rintro r2 h2 ⟨I2, G2, A2, B2, rfl, K2, (⟨n2, R2, rfl⟩ | ⟨y2, -⟩)⟩
    · refine ⟨I2, G2, A2, B2, _, rfl, rfl, ?_, rfl⟩
      exact zLI.mk c1.1 (by omega) K2 fHn_c pHn_c (zRf.of R2 F1.2.1 F1.2.2.1 F1.2.2.2.1 (mId.k K2 rfl rfl rfl F1.2.2.2.2.1) fn) (by omega) (by omega) ((c1.2.tr hE1).tr R2.2.1.sy) (hQ.pe c1.2)
    · exact absurd (key.mpr y2) n1
  · refine ⟨I1, G1, A1, B1, _, rfl, rfl, ?_⟩
    refine zWp.mono mm ?_
    rintro r2 h2 ⟨I2, G2, A2, B2, rfl, K2, (⟨n2, -⟩ | ⟨y2, p2, w2, R2, rfl⟩)⟩
    · exact absurd (key.mp y1) n2
    · refine ⟨I2, G2, A2, B2, _, rfl, rfl, ?_, rfl⟩
      exact zLI.mk c1.1 (by omega) K2 fHn_c pHn_c (zRf.hd p2 w2 (by omega) F1.2.2.2.1 F1.2.2.2.2.1.1 R2 (mId.k K2 rfl rfl rfl F1.2.2.2.2.1) fn) (by omega) (by omega) ((c1.2.tr (PE.up 62 np (PE.up 61 np (PE.up 60 np hE1 (by omega) (by omega) rfl) (by omega) (by omega) rfl) (by omega) (by omega) rfl)).tr R2.2.1.sy) (qKd.pe2 c1.2 (hQ.e rfl rfl))
set_option maxHeartbeats 0 in
theorem pair_fill (ro : UInt32 → Nat × (Nat → Int32)) (k : Nat) (I : Nat → Nat → Int32) (G : Nat → Nat → Int64) (A : Nat → Nat → Int32) (B : Nat → Nat → Int64) (h : zLI k I G A B) (hk : k < 512) (a : Int32) (b : Int32) : zWp ro 84 0 [(0, .ref 0), (1, .int a), (2, .int b)] [] (hS I G A B) 0 0 (zPI ro 148 [(0, .ref 52), (1, .int a), (2, .int b)] k (fun _ _ => True)) := by
  obtain ⟨nv, np, W, L, hC, hF, hE, hQ⟩ := h
  refine zWp.mono (cv_X11_fill ro nv np (1216 * k) I G A B hC (by omega) a b) ?_
  rintro r h1 ⟨I1, G1, A1, B1, rfl, K1, c1, v, rfl⟩
  have F1 := hF.kp K1 pN52
  have fn := F1.2.2.2.2.2
  have ec := cP_n K1
  have hE1 : PE (cP A1) A1 := by rw [ec]; exact fun k k1 k2 => (hE k k1 k2).trans (K1.2.2.1 k (pN52 k (by omega))).symm
  have hQ1 : qKd nv (cP A1) := by rw [ec]; exact hQ
  refine ⟨I1, G1, A1, B1, v, rfl, rfl, ?_⟩
  refine zWp.mono (mm_fill ro nv np W L I1 G1 A1 B1 (242600 * k) F1.1 F1.2.1 F1.2.2.1 (by omega) (by omega) (by omega) a b) ?_
  rintro r2 h2 ⟨I2, G2, A2, B2, rfl, K2, (⟨n2, R2, rfl⟩ | ⟨y2, p2, w2, R2, rfl⟩)⟩
  · refine ⟨I2, G2, A2, B2, _, rfl, rfl, ?_, trivial⟩
    exact zLI.mk c1 (by omega) K2 fHn_c pHn_c (zRf.of R2 F1.2.1 F1.2.2.1 F1.2.2.2.1 (mId.k K2 rfl rfl rfl F1.2.2.2.2.1) fn) (by omega) (by omega) (hE1.tr R2.2.1.sy) hQ1
  · refine ⟨I2, G2, A2, B2, _, rfl, rfl, ?_, trivial⟩
    exact zLI.mk c1 (by omega) K2 fHn_c pHn_c (zRf.hd p2 w2 (by omega) F1.2.2.2.1 F1.2.2.2.2.1.1 R2 (mId.k K2 rfl rfl rfl F1.2.2.2.2.1) fn) (by omega) (by omega) (hE1.tr R2.2.1.sy) hQ1
set_option maxHeartbeats 0 in
theorem pair_shut (ro : UInt32 → Nat × (Nat → Int32)) (k : Nat) (I : Nat → Nat → Int32) (G : Nat → Nat → Int64) (A : Nat → Nat → Int32) (B : Nat → Nat → Int64) (h : zLI k I G A B) (hk : k < 512) (a : Int32) (b : Int32) (hz : b = 0 ∨ b = 1) : zWp ro 85 0 [(0, .ref 0), (1, .int a), (2, .int b)] [] (hS I G A B) 0 0 (zPI ro 149 [(0, .ref 52), (1, .int a), (2, .int b)] k (fun _ _ => True)) := by
  obtain ⟨nv, np, W, L, hC, hF, hE, hQ⟩ := h
  refine zWp.mono (cv_X11_shut ro nv np (1216 * k) I G A B hC (by omega) a b) ?_
  rintro r h1 ⟨I1, G1, A1, B1, rfl, K1, c1, v, rfl⟩
  have F1 := hF.kp K1 pN52
  have fn := F1.2.2.2.2.2
  have ec := cP_n K1
  have hE1 : PE (cP A1) A1 := by rw [ec]; exact fun k k1 k2 => (hE k k1 k2).trans (K1.2.2.1 k (pN52 k (by omega))).symm
  have hQ1 : qKd nv (cP A1) := by rw [ec]; exact hQ
  refine ⟨I1, G1, A1, B1, v, rfl, rfl, ?_⟩
  refine zWp.mono (mm_shut ro nv np W L I1 G1 A1 B1 (242600 * k) F1.1 F1.2.1 F1.2.2.1 (by omega) (by omega) (by omega) a b hz) ?_
  rintro r2 h2 ⟨I2, G2, A2, B2, rfl, K2, (⟨n2, R2, rfl⟩ | ⟨y2, p2, w2, R2, rfl⟩)⟩
  · refine ⟨I2, G2, A2, B2, _, rfl, rfl, ?_, trivial⟩
    exact zLI.mk c1 (by omega) K2 fHn_c pHn_c (zRf.of R2 F1.2.1 F1.2.2.1 F1.2.2.2.1 (mId.k K2 rfl rfl rfl F1.2.2.2.2.1) fn) (by omega) (by omega) (hE1.tr R2.2.1.sy) hQ1
  · refine ⟨I2, G2, A2, B2, _, rfl, rfl, ?_, trivial⟩
    exact zLI.mk c1 (by omega) K2 fHn_c pHn_c (zRf.hd p2 w2 (by omega) F1.2.2.2.1 F1.2.2.2.2.1.1 R2 (mId.k K2 rfl rfl rfl F1.2.2.2.2.1) fn) (by omega) (by omega) (hE1.tr R2.2.1.sy) hQ1
theorem ok_amount_pe {nv np : Nat} {P Q : Nat → Nat → Int32} {a : Int32} {b : Int32} (e : PE P Q) : ok_amount nv np P a b ↔ ok_amount nv np Q a b := by
  unfold ok_amount
  exact Iff.rfl
set_option maxHeartbeats 0 in
theorem pair_amount (ro : UInt32 → Nat × (Nat → Int32)) (k : Nat) (I : Nat → Nat → Int32) (G : Nat → Nat → Int64) (A : Nat → Nat → Int32) (B : Nat → Nat → Int64) (h : zLI k I G A B) (hk : k < 512) (a : Int32) (b : Int32) : zWp ro 86 0 [(0, .ref 0), (1, .int a), (2, .int b)] [] (hS I G A B) 0 0 (zPI ro 150 [(0, .ref 52), (1, .int a), (2, .int b)] k (fun v w => v = w)) := by
  obtain ⟨nv, np, W, L, hC, hF, hE, hQ⟩ := h
  refine zWp.mono (cm_amount ro nv np (1216 * k) I G A B hC (by omega) hQ a b) ?_
  rintro r h1 ⟨I1, G1, A1, B1, rfl, K1, hc⟩
  have F1 := hF.kp K1 pX52
  have fn := F1.2.2.2.2.2
  have hE1 : PE (cP A) A1 := fun k k1 k2 => (hE k k1 k2).trans (K1.2.2.1 k (pX52 k (by omega))).symm
  have key := ok_amount_pe (nv := nv) (np := np) (a := a) (b := b) hE1
  have mm := mm_amount ro nv np W L I1 G1 A1 B1 (242600 * k) F1.1 F1.2.1 F1.2.2.1 (by omega) (by omega) (by omega) a b
  rcases hc with ⟨n1, c1, rfl⟩ | ⟨y1, c1, rfl⟩
  · refine ⟨I1, G1, A1, B1, _, rfl, rfl, ?_⟩
    refine zWp.mono mm ?_
    rintro r2 h2 ⟨I2, G2, A2, B2, rfl, K2, (⟨n2, R2, rfl⟩ | ⟨y2, -⟩)⟩
    · refine ⟨I2, G2, A2, B2, _, rfl, rfl, ?_, rfl⟩
      exact zLI.mk c1.1 (by omega) K2 fHn_c pHn_c (zRf.of R2 F1.2.1 F1.2.2.1 F1.2.2.2.1 (mId.k K2 rfl rfl rfl F1.2.2.2.2.1) fn) (by omega) (by omega) ((c1.2.tr hE1).tr R2.2.1.sy) (hQ.pe c1.2)
    · exact absurd (key.mpr y2) n1
  · refine ⟨I1, G1, A1, B1, _, rfl, rfl, ?_⟩
    refine zWp.mono mm ?_
    rintro r2 h2 ⟨I2, G2, A2, B2, rfl, K2, (⟨n2, -⟩ | ⟨y2, p2, w2, R2, rfl⟩)⟩
    · exact absurd (key.mp y1) n2
    · refine ⟨I2, G2, A2, B2, _, rfl, rfl, ?_, (congrFun (hE1 62 (by omega) (by omega)) _)⟩
      exact zLI.mk c1.1 (by omega) K2 fHn_c pHn_c (zRf.hd p2 w2 (by omega) F1.2.2.2.1 F1.2.2.2.2.1.1 R2 (mId.k K2 rfl rfl rfl F1.2.2.2.2.1) fn) (by omega) (by omega) ((c1.2.tr (PE.up 62 a.toNatClampNeg hE1 (by omega) (by omega) rfl)).tr R2.2.1.sy) (qKd.pe2 c1.2 (hQ.e rfl rfl))
set_option maxHeartbeats 0 in
theorem pair_go (ro : UInt32 → Nat × (Nat → Int32)) (k : Nat) (I : Nat → Nat → Int32) (G : Nat → Nat → Int64) (A : Nat → Nat → Int32) (B : Nat → Nat → Int64) (h : zLI k I G A B) (hk : k < 512) (a : Int32) : zWp ro 87 0 [(0, .ref 0), (1, .int a)] [] (hS I G A B) 0 0 (zPI ro 152 [(0, .ref 52), (1, .int a)] k (fun _ _ => True)) := by
  obtain ⟨nv, np, W, L, hC, hF, hE, hQ⟩ := h
  refine zWp.mono (cv_X11_go ro nv np (1216 * k) I G A B hC (by omega) a) ?_
  rintro r h1 ⟨I1, G1, A1, B1, rfl, K1, c1, v, rfl⟩
  have F1 := hF.kp K1 pN52
  have fn := F1.2.2.2.2.2
  have ec := cP_n K1
  have hE1 : PE (cP A1) A1 := by rw [ec]; exact fun k k1 k2 => (hE k k1 k2).trans (K1.2.2.1 k (pN52 k (by omega))).symm
  have hQ1 : qKd nv (cP A1) := by rw [ec]; exact hQ
  refine ⟨I1, G1, A1, B1, v, rfl, rfl, ?_⟩
  refine zWp.mono (mm_go ro nv np A1 W L I1 G1 A1 B1 (242600 * k) a F1.1 F1.2.1 F1.2.2.1 (by omega) (by omega) (by omega)) ?_
  rintro r2 h2 ⟨I2, G2, A2, B2, rfl, K2, R2, -, rfl⟩
  have g := wGoR_ok (so := I1 52 41) (u := a) F1.2.1 F1.2.2.1 (by omega) (by omega) F1.2.2.2.1 F1.2.2.2.2.1.1
  refine ⟨I2, G2, A2, B2, _, rfl, rfl, ?_, trivial⟩
  exact zLI.mk c1 (by omega) K2 fGo_c pSt_c (zRf.of (n := 4000 * k + 3600) R2 F1.2.1 g.1 g.2.1 (mId.k K2 rfl rfl rfl F1.2.2.2.2.1) (by have := g.2.2; omega)) (by omega) (by omega) (hE1.tr R2.2.1.sy) hQ1
set_option maxHeartbeats 0 in
theorem pair_now (ro : UInt32 → Nat × (Nat → Int32)) (k : Nat) (I : Nat → Nat → Int32) (G : Nat → Nat → Int64) (A : Nat → Nat → Int32) (B : Nat → Nat → Int64) (h : zLI k I G A B) (hk : k < 512) (a : Int32) : zWp ro 88 0 [(0, .ref 0), (1, .int a)] [] (hS I G A B) 0 0 (zPI ro 154 [(0, .ref 52), (1, .int a)] k (fun _ _ => True)) := by
  obtain ⟨nv, np, W, L, hC, hF, hE, hQ⟩ := h
  refine zWp.mono (cv_X11_now ro nv np (1216 * k) I G A B hC (by omega) a) ?_
  rintro r h1 ⟨I1, G1, A1, B1, rfl, K1, c1, v, rfl⟩
  have F1 := hF.kp K1 pN52
  have fn := F1.2.2.2.2.2
  have ec := cP_n K1
  have hE1 : PE (cP A1) A1 := by rw [ec]; exact fun k k1 k2 => (hE k k1 k2).trans (K1.2.2.1 k (pN52 k (by omega))).symm
  have hQ1 : qKd nv (cP A1) := by rw [ec]; exact hQ
  refine ⟨I1, G1, A1, B1, v, rfl, rfl, ?_⟩
  refine zWp.mono (mq_now ro nv np W L I1 G1 A1 B1 (242600 * k) F1.1 F1.2.1 F1.2.2.1 (by omega) F1.2.2.2.1 F1.2.2.2.2.1 a) ?_
  rintro r2 h2 ⟨I2, G2, A2, B2, rfl, K2, id2, w, rfl⟩
  have R2 := F1.1.k K2 fQu_R pQu_R
  refine ⟨I2, G2, A2, B2, _, rfl, rfl, ?_, trivial⟩
  exact zLI.mk c1 (by omega) K2 fQu_c pQu_c (zRf.of R2 F1.2.1 F1.2.2.1 F1.2.2.2.1 id2 fn) (by omega) (by omega) (hE1.tr R2.2.1.sy) hQ1
set_option maxHeartbeats 0 in
theorem pair_next (ro : UInt32 → Nat × (Nat → Int32)) (k : Nat) (I : Nat → Nat → Int32) (G : Nat → Nat → Int64) (A : Nat → Nat → Int32) (B : Nat → Nat → Int64) (h : zLI k I G A B) (hk : k < 512) (a : Int32) : zWp ro 89 0 [(0, .ref 0), (1, .int a)] [] (hS I G A B) 0 0 (zPL ro 155 [(0, .ref 52), (1, .int a)] k (fun _ _ => True)) := by
  obtain ⟨nv, np, W, L, hC, hF, hE, hQ⟩ := h
  refine zWp.mono (cv_X11_next ro nv np (1216 * k) I G A B hC (by omega) a) ?_
  rintro r h1 ⟨I1, G1, A1, B1, rfl, K1, c1, v, rfl⟩
  have F1 := hF.kp K1 pN52
  have fn := F1.2.2.2.2.2
  have ec := cP_n K1
  have hE1 : PE (cP A1) A1 := by rw [ec]; exact fun k k1 k2 => (hE k k1 k2).trans (K1.2.2.1 k (pN52 k (by omega))).symm
  have hQ1 : qKd nv (cP A1) := by rw [ec]; exact hQ
  refine ⟨I1, G1, A1, B1, v, rfl, rfl, ?_⟩
  refine zWp.mono (mq_next ro nv np W L I1 G1 A1 B1 (242600 * k) F1.1 F1.2.1 F1.2.2.1 (by omega) F1.2.2.2.1 F1.2.2.2.2.1 a) ?_
  rintro r2 h2 ⟨I2, G2, A2, B2, rfl, K2, id2, w, rfl⟩
  have R2 := F1.1.k K2 fQu_R pQu_R
  refine ⟨I2, G2, A2, B2, _, rfl, rfl, ?_, trivial⟩
  exact zLI.mk c1 (by omega) K2 fQu_c pQu_c (zRf.of R2 F1.2.1 F1.2.2.1 F1.2.2.2.1 id2 fn) (by omega) (by omega) (hE1.tr R2.2.1.sy) hQ1
set_option maxHeartbeats 0 in
theorem pair_level (ro : UInt32 → Nat × (Nat → Int32)) (k : Nat) (I : Nat → Nat → Int32) (G : Nat → Nat → Int64) (A : Nat → Nat → Int32) (B : Nat → Nat → Int64) (h : zLI k I G A B) (hk : k < 512) (a : Int32) (b : Int32) : zWp ro 90 0 [(0, .ref 0), (1, .int a), (2, .int b)] [] (hS I G A B) 0 0 (zPI ro 156 [(0, .ref 52), (1, .int a), (2, .int b)] k (fun _ _ => True)) := by
  obtain ⟨nv, np, W, L, hC, hF, hE, hQ⟩ := h
  refine zWp.mono (cv_X11_level ro nv np (1216 * k) I G A B hC (by omega) a b) ?_
  rintro r h1 ⟨I1, G1, A1, B1, rfl, K1, c1, v, rfl⟩
  have F1 := hF.kp K1 pN52
  have fn := F1.2.2.2.2.2
  have ec := cP_n K1
  have hE1 : PE (cP A1) A1 := by rw [ec]; exact fun k k1 k2 => (hE k k1 k2).trans (K1.2.2.1 k (pN52 k (by omega))).symm
  have hQ1 : qKd nv (cP A1) := by rw [ec]; exact hQ
  refine ⟨I1, G1, A1, B1, v, rfl, rfl, ?_⟩
  refine zWp.mono (mq_level ro nv np W L I1 G1 A1 B1 (242600 * k) F1.1 F1.2.1 F1.2.2.1 (by omega) F1.2.2.2.1 F1.2.2.2.2.1 a b) ?_
  rintro r2 h2 ⟨I2, G2, A2, B2, rfl, K2, id2, w, rfl⟩
  have R2 := F1.1.k K2 fQu_R pQu_R
  refine ⟨I2, G2, A2, B2, _, rfl, rfl, ?_, trivial⟩
  exact zLI.mk c1 (by omega) K2 fQu_c pQu_c (zRf.of R2 F1.2.1 F1.2.2.1 F1.2.2.2.1 id2 fn) (by omega) (by omega) (hE1.tr R2.2.1.sy) hQ1
set_option maxHeartbeats 0 in
theorem pair_rate (ro : UInt32 → Nat × (Nat → Int32)) (k : Nat) (I : Nat → Nat → Int32) (G : Nat → Nat → Int64) (A : Nat → Nat → Int32) (B : Nat → Nat → Int64) (h : zLI k I G A B) (hk : k < 512) (a : Int32) : zWp ro 91 0 [(0, .ref 0), (1, .int a)] [] (hS I G A B) 0 0 (zPI ro 157 [(0, .ref 52), (1, .int a)] k (fun _ _ => True)) := by
  obtain ⟨nv, np, W, L, hC, hF, hE, hQ⟩ := h
  refine zWp.mono (cv_X11_rate ro nv np (1216 * k) I G A B hC (by omega) a) ?_
  rintro r h1 ⟨I1, G1, A1, B1, rfl, K1, c1, v, rfl⟩
  have F1 := hF.kp K1 pN52
  have fn := F1.2.2.2.2.2
  have ec := cP_n K1
  have hE1 : PE (cP A1) A1 := by rw [ec]; exact fun k k1 k2 => (hE k k1 k2).trans (K1.2.2.1 k (pN52 k (by omega))).symm
  have hQ1 : qKd nv (cP A1) := by rw [ec]; exact hQ
  refine ⟨I1, G1, A1, B1, v, rfl, rfl, ?_⟩
  refine zWp.mono (mq_rate ro nv np W L I1 G1 A1 B1 (242600 * k) F1.1 F1.2.1 F1.2.2.1 (by omega) F1.2.2.2.1 F1.2.2.2.2.1 a) ?_
  rintro r2 h2 ⟨I2, G2, A2, B2, rfl, K2, id2, w, rfl⟩
  have R2 := F1.1.k K2 fQu_R pQu_R
  refine ⟨I2, G2, A2, B2, _, rfl, rfl, ?_, trivial⟩
  exact zLI.mk c1 (by omega) K2 fQu_c pQu_c (zRf.of R2 F1.2.1 F1.2.2.1 F1.2.2.2.1 id2 fn) (by omega) (by omega) (hE1.tr R2.2.1.sy) hQ1
set_option maxHeartbeats 0 in
theorem pair_flow (ro : UInt32 → Nat × (Nat → Int32)) (k : Nat) (I : Nat → Nat → Int32) (G : Nat → Nat → Int64) (A : Nat → Nat → Int32) (B : Nat → Nat → Int64) (h : zLI k I G A B) (hk : k < 512) (a : Int32) : zWp ro 92 0 [(0, .ref 0), (1, .int a)] [] (hS I G A B) 0 0 (zPI ro 158 [(0, .ref 52), (1, .int a)] k (fun _ _ => True)) := by
  obtain ⟨nv, np, W, L, hC, hF, hE, hQ⟩ := h
  refine zWp.mono (cv_X11_flow ro nv np (1216 * k) I G A B hC (by omega) a) ?_
  rintro r h1 ⟨I1, G1, A1, B1, rfl, K1, c1, v, rfl⟩
  have F1 := hF.kp K1 pN52
  have fn := F1.2.2.2.2.2
  have ec := cP_n K1
  have hE1 : PE (cP A1) A1 := by rw [ec]; exact fun k k1 k2 => (hE k k1 k2).trans (K1.2.2.1 k (pN52 k (by omega))).symm
  have hQ1 : qKd nv (cP A1) := by rw [ec]; exact hQ
  refine ⟨I1, G1, A1, B1, v, rfl, rfl, ?_⟩
  refine zWp.mono (mq_flow ro nv np W L I1 G1 A1 B1 (242600 * k) F1.1 F1.2.1 F1.2.2.1 (by omega) F1.2.2.2.1 F1.2.2.2.2.1 a) ?_
  rintro r2 h2 ⟨I2, G2, A2, B2, rfl, K2, id2, w, rfl⟩
  have R2 := F1.1.k K2 fQu_R pQu_R
  refine ⟨I2, G2, A2, B2, _, rfl, rfl, ?_, trivial⟩
  exact zLI.mk c1 (by omega) K2 fQu_c pQu_c (zRf.of R2 F1.2.1 F1.2.2.1 F1.2.2.2.1 id2 fn) (by omega) (by omega) (hE1.tr R2.2.1.sy) hQ1
set_option maxHeartbeats 0 in
theorem pair_flood (ro : UInt32 → Nat × (Nat → Int32)) (k : Nat) (I : Nat → Nat → Int32) (G : Nat → Nat → Int64) (A : Nat → Nat → Int32) (B : Nat → Nat → Int64) (h : zLI k I G A B) (hk : k < 512) (a : Int32) : zWp ro 93 0 [(0, .ref 0), (1, .int a)] [] (hS I G A B) 0 0 (zPI ro 159 [(0, .ref 52), (1, .int a)] k (fun _ _ => True)) := by
  obtain ⟨nv, np, W, L, hC, hF, hE, hQ⟩ := h
  refine zWp.mono (cv_X11_flood ro nv np (1216 * k) I G A B hC (by omega) a) ?_
  rintro r h1 ⟨I1, G1, A1, B1, rfl, K1, c1, v, rfl⟩
  have F1 := hF.kp K1 pN52
  have fn := F1.2.2.2.2.2
  have ec := cP_n K1
  have hE1 : PE (cP A1) A1 := by rw [ec]; exact fun k k1 k2 => (hE k k1 k2).trans (K1.2.2.1 k (pN52 k (by omega))).symm
  have hQ1 : qKd nv (cP A1) := by rw [ec]; exact hQ
  refine ⟨I1, G1, A1, B1, v, rfl, rfl, ?_⟩
  refine zWp.mono (mq_flood ro nv np W L I1 G1 A1 B1 (242600 * k) F1.1 F1.2.1 F1.2.2.1 (by omega) F1.2.2.2.1 F1.2.2.2.2.1 a) ?_
  rintro r2 h2 ⟨I2, G2, A2, B2, rfl, K2, id2, w, rfl⟩
  have R2 := F1.1.k K2 fQu_R pQu_R
  refine ⟨I2, G2, A2, B2, _, rfl, rfl, ?_, trivial⟩
  exact zLI.mk c1 (by omega) K2 fQu_c pQu_c (zRf.of R2 F1.2.1 F1.2.2.1 F1.2.2.2.1 id2 fn) (by omega) (by omega) (hE1.tr R2.2.1.sy) hQ1
set_option maxHeartbeats 0 in
theorem pair_told (ro : UInt32 → Nat × (Nat → Int32)) (k : Nat) (I : Nat → Nat → Int32) (G : Nat → Nat → Int64) (A : Nat → Nat → Int32) (B : Nat → Nat → Int64) (h : zLI k I G A B) (hk : k < 512) (a : Int32) (b : Int32) : zWp ro 94 0 [(0, .ref 0), (1, .int a), (2, .int b)] [] (hS I G A B) 0 0 (zPI ro 160 [(0, .ref 52), (1, .int a), (2, .int b)] k (fun _ _ => True)) := by
  obtain ⟨nv, np, W, L, hC, hF, hE, hQ⟩ := h
  refine zWp.mono (cv_X11_told ro nv np (1216 * k) I G A B hC (by omega) a b) ?_
  rintro r h1 ⟨I1, G1, A1, B1, rfl, K1, c1, v, rfl⟩
  have F1 := hF.kp K1 pN52
  have fn := F1.2.2.2.2.2
  have ec := cP_n K1
  have hE1 : PE (cP A1) A1 := by rw [ec]; exact fun k k1 k2 => (hE k k1 k2).trans (K1.2.2.1 k (pN52 k (by omega))).symm
  have hQ1 : qKd nv (cP A1) := by rw [ec]; exact hQ
  refine ⟨I1, G1, A1, B1, v, rfl, rfl, ?_⟩
  refine zWp.mono (mq_told ro nv np W L I1 G1 A1 B1 (242600 * k) F1.1 F1.2.1 F1.2.2.1 (by omega) F1.2.2.2.1 F1.2.2.2.2.1 a b) ?_
  rintro r2 h2 ⟨I2, G2, A2, B2, rfl, K2, id2, w, rfl⟩
  have R2 := F1.1.k K2 fQu_R pQu_R
  refine ⟨I2, G2, A2, B2, _, rfl, rfl, ?_, trivial⟩
  exact zLI.mk c1 (by omega) K2 fQu_c pQu_c (zRf.of R2 F1.2.1 F1.2.2.1 F1.2.2.2.1 id2 fn) (by omega) (by omega) (hE1.tr R2.2.1.sy) hQ1
set_option maxHeartbeats 0 in
theorem pair_pipeTold (ro : UInt32 → Nat × (Nat → Int32)) (k : Nat) (I : Nat → Nat → Int32) (G : Nat → Nat → Int64) (A : Nat → Nat → Int32) (B : Nat → Nat → Int64) (h : zLI k I G A B) (hk : k < 512) (a : Int32) (b : Int32) : zWp ro 95 0 [(0, .ref 0), (1, .int a), (2, .int b)] [] (hS I G A B) 0 0 (zPI ro 161 [(0, .ref 52), (1, .int a), (2, .int b)] k (fun _ _ => True)) := by
  obtain ⟨nv, np, W, L, hC, hF, hE, hQ⟩ := h
  refine zWp.mono (cv_X11_pipeTold ro nv np (1216 * k) I G A B hC (by omega) a b) ?_
  rintro r h1 ⟨I1, G1, A1, B1, rfl, K1, c1, v, rfl⟩
  have F1 := hF.kp K1 pN52
  have fn := F1.2.2.2.2.2
  have ec := cP_n K1
  have hE1 : PE (cP A1) A1 := by rw [ec]; exact fun k k1 k2 => (hE k k1 k2).trans (K1.2.2.1 k (pN52 k (by omega))).symm
  have hQ1 : qKd nv (cP A1) := by rw [ec]; exact hQ
  refine ⟨I1, G1, A1, B1, v, rfl, rfl, ?_⟩
  refine zWp.mono (mq_pipeTold ro nv np W L I1 G1 A1 B1 (242600 * k) F1.1 F1.2.1 F1.2.2.1 (by omega) F1.2.2.2.1 F1.2.2.2.2.1 a b) ?_
  rintro r2 h2 ⟨I2, G2, A2, B2, rfl, K2, id2, w, rfl⟩
  have R2 := F1.1.k K2 fQu_R pQu_R
  refine ⟨I2, G2, A2, B2, _, rfl, rfl, ?_, trivial⟩
  exact zLI.mk c1 (by omega) K2 fQu_c pQu_c (zRf.of R2 F1.2.1 F1.2.2.1 F1.2.2.2.1 id2 fn) (by omega) (by omega) (hE1.tr R2.2.1.sy) hQ1
set_option maxHeartbeats 0 in
theorem pair_count (ro : UInt32 → Nat × (Nat → Int32)) (k : Nat) (I : Nat → Nat → Int32) (G : Nat → Nat → Int64) (A : Nat → Nat → Int32) (B : Nat → Nat → Int64) (h : zLI k I G A B) (hk : k < 512) (a : Int32) : zWp ro 96 0 [(0, .ref 0), (1, .int a)] [] (hS I G A B) 0 0 (zPI ro 162 [(0, .ref 52), (1, .int a)] k (fun _ _ => True)) := by
  obtain ⟨nv, np, W, L, hC, hF, hE, hQ⟩ := h
  refine zWp.mono (cv_X11_count ro nv np (1216 * k) I G A B hC (by omega) a) ?_
  rintro r h1 ⟨I1, G1, A1, B1, rfl, K1, c1, v, rfl⟩
  have F1 := hF.kp K1 pN52
  have fn := F1.2.2.2.2.2
  have ec := cP_n K1
  have hE1 : PE (cP A1) A1 := by rw [ec]; exact fun k k1 k2 => (hE k k1 k2).trans (K1.2.2.1 k (pN52 k (by omega))).symm
  have hQ1 : qKd nv (cP A1) := by rw [ec]; exact hQ
  refine ⟨I1, G1, A1, B1, v, rfl, rfl, ?_⟩
  refine zWp.mono (mq_count ro nv np W L I1 G1 A1 B1 (242600 * k) F1.1 F1.2.1 F1.2.2.1 (by omega) F1.2.2.2.1 F1.2.2.2.2.1 a) ?_
  rintro r2 h2 ⟨I2, G2, A2, B2, rfl, K2, id2, w, rfl⟩
  have R2 := F1.1.k K2 fQu_R pQu_R
  refine ⟨I2, G2, A2, B2, _, rfl, rfl, ?_, trivial⟩
  exact zLI.mk c1 (by omega) K2 fQu_c pQu_c (zRf.of R2 F1.2.1 F1.2.2.1 F1.2.2.2.1 id2 fn) (by omega) (by omega) (hE1.tr R2.2.1.sy) hQ1
set_option maxHeartbeats 0 in
theorem pair_event (ro : UInt32 → Nat × (Nat → Int32)) (k : Nat) (I : Nat → Nat → Int32) (G : Nat → Nat → Int64) (A : Nat → Nat → Int32) (B : Nat → Nat → Int64) (h : zLI k I G A B) (hk : k < 512) (a : Int32) (b : Int32) : zWp ro 97 0 [(0, .ref 0), (1, .int a), (2, .int b)] [] (hS I G A B) 0 0 (zPI ro 163 [(0, .ref 52), (1, .int a), (2, .int b)] k (fun _ _ => True)) := by
  obtain ⟨nv, np, W, L, hC, hF, hE, hQ⟩ := h
  refine zWp.mono (cv_X11_event ro nv np (1216 * k) I G A B hC (by omega) a b) ?_
  rintro r h1 ⟨I1, G1, A1, B1, rfl, K1, c1, v, rfl⟩
  have F1 := hF.kp K1 pN52
  have fn := F1.2.2.2.2.2
  have ec := cP_n K1
  have hE1 : PE (cP A1) A1 := by rw [ec]; exact fun k k1 k2 => (hE k k1 k2).trans (K1.2.2.1 k (pN52 k (by omega))).symm
  have hQ1 : qKd nv (cP A1) := by rw [ec]; exact hQ
  refine ⟨I1, G1, A1, B1, v, rfl, rfl, ?_⟩
  refine zWp.mono (mq_event ro nv np W L I1 G1 A1 B1 (242600 * k) F1.1 F1.2.1 F1.2.2.1 (by omega) F1.2.2.2.1 F1.2.2.2.2.1 a b) ?_
  rintro r2 h2 ⟨I2, G2, A2, B2, rfl, K2, id2, w, rfl⟩
  have R2 := F1.1.k K2 fQu_R pQu_R
  refine ⟨I2, G2, A2, B2, _, rfl, rfl, ?_, trivial⟩
  exact zLI.mk c1 (by omega) K2 fQu_c pQu_c (zRf.of R2 F1.2.1 F1.2.2.1 F1.2.2.2.1 id2 fn) (by omega) (by omega) (hE1.tr R2.2.1.sy) hQ1
set_option maxHeartbeats 0 in
theorem pair_sum (ro : UInt32 → Nat × (Nat → Int32)) (k : Nat) (I : Nat → Nat → Int32) (G : Nat → Nat → Int64) (A : Nat → Nat → Int32) (B : Nat → Nat → Int64) (h : zLI k I G A B) (hk : k < 512) (a : Int32) : zWp ro 98 0 [(0, .ref 0), (1, .int a)] [] (hS I G A B) 0 0 (zPL ro 164 [(0, .ref 52), (1, .int a)] k (fun _ _ => True)) := by
  obtain ⟨nv, np, W, L, hC, hF, hE, hQ⟩ := h
  refine zWp.mono (cv_X11_sum ro nv np (1216 * k) I G A B hC (by omega) a) ?_
  rintro r h1 ⟨I1, G1, A1, B1, rfl, K1, c1, v, rfl⟩
  have F1 := hF.kp K1 pN52
  have fn := F1.2.2.2.2.2
  have ec := cP_n K1
  have hE1 : PE (cP A1) A1 := by rw [ec]; exact fun k k1 k2 => (hE k k1 k2).trans (K1.2.2.1 k (pN52 k (by omega))).symm
  have hQ1 : qKd nv (cP A1) := by rw [ec]; exact hQ
  refine ⟨I1, G1, A1, B1, v, rfl, rfl, ?_⟩
  refine zWp.mono (mq_sum ro nv np W L I1 G1 A1 B1 (242600 * k) F1.1 F1.2.1 F1.2.2.1 (by omega) F1.2.2.2.1 F1.2.2.2.2.1 a) ?_
  rintro r2 h2 ⟨I2, G2, A2, B2, rfl, K2, id2, w, rfl⟩
  have R2 := F1.1.k K2 fQu_R pQu_R
  refine ⟨I2, G2, A2, B2, _, rfl, rfl, ?_, trivial⟩
  exact zLI.mk c1 (by omega) K2 fQu_c pQu_c (zRf.of R2 F1.2.1 F1.2.2.1 F1.2.2.2.1 id2 fn) (by omega) (by omega) (hE1.tr R2.2.1.sy) hQ1
set_option maxHeartbeats 0 in
theorem pair_round (ro : UInt32 → Nat × (Nat → Int32)) (k : Nat) (I : Nat → Nat → Int32) (G : Nat → Nat → Int64) (A : Nat → Nat → Int32) (B : Nat → Nat → Int64) (h : zLI k I G A B) (hk : k < 512) (a : Int32) : zWp ro 99 0 [(0, .ref 0), (1, .int a)] [] (hS I G A B) 0 0 (zPI ro 170 [(0, .ref 52), (1, .int a)] k (fun _ _ => True)) := by
  obtain ⟨nv, np, W, L, hC, hF, hE, hQ⟩ := h
  refine zWp.mono (cv_X11_round ro nv np (1216 * k) I G A B hC (by omega) a) ?_
  rintro r h1 ⟨I1, G1, A1, B1, rfl, K1, c1, v, rfl⟩
  have F1 := hF.kp K1 pN52
  have fn := F1.2.2.2.2.2
  have ec := cP_n K1
  have hE1 : PE (cP A1) A1 := by rw [ec]; exact fun k k1 k2 => (hE k k1 k2).trans (K1.2.2.1 k (pN52 k (by omega))).symm
  have hQ1 : qKd nv (cP A1) := by rw [ec]; exact hQ
  refine ⟨I1, G1, A1, B1, v, rfl, rfl, ?_⟩
  refine zWp.mono (mm_round ro nv np A1 W L I1 G1 A1 B1 (242600 * k) a F1.1 F1.2.1 F1.2.2.1 (by omega) (by omega) (by omega) F1.2.2.2.2.1.1) ?_
  rintro r2 h2 ⟨I2, G2, A2, B2, rfl, K2, ⟨L2, R2, ar, ln⟩, i1, w, rfl⟩
  refine ⟨I2, G2, A2, B2, _, rfl, rfl, ?_, trivial⟩
  obtain ⟨t, t1, t2⟩ := F1.2.2.2.2.1.2.2
  exact zLI.mk c1 (by omega) K2 fRo_c pRo_c (zRf.of R2 F1.2.1 F1.2.2.1 (qArr.lg F1.2.2.2.1 ar ln) ⟨i1, (K2.1 52 41 rfl).trans F1.2.2.2.2.1.2.1, t, t1, (K2.1 52 29 rfl).trans t2⟩ (by rw [ln]; exact fn)) (by omega) (by omega) (hE1.tr R2.2.1.sy) hQ1
set_option maxHeartbeats 0 in
theorem pair_tune (ro : UInt32 → Nat × (Nat → Int32)) (k : Nat) (I : Nat → Nat → Int32) (G : Nat → Nat → Int64) (A : Nat → Nat → Int32) (B : Nat → Nat → Int64) (h : zLI k I G A B) (hk : k < 512) (a : Int32) (b : Int32) (c : Int32) (d : Int32) (e : Int32) : zWp ro 100 0 [(0, .ref 0), (1, .int a), (2, .int b), (3, .int c), (4, .int d), (5, .int e)] [] (hS I G A B) 0 0 (zPI ro 172 [(0, .ref 52), (1, .int a), (2, .int b), (3, .int c), (4, .int d), (5, .int e)] k (fun _ _ => True)) := by
  obtain ⟨nv, np, W, L, hC, hF, hE, hQ⟩ := h
  refine zWp.mono (cm_tune ro nv np (1216 * k) I G A B hC (by omega) hQ a b c d e) ?_
  rintro r h1 ⟨I1, G1, A1, B1, rfl, K1, ⟨c1, e1⟩, v, rfl⟩
  have F1 := hF.kp K1 pX52
  have fn := F1.2.2.2.2.2
  have hE1 : PE (cP A1) A1 := fun k k1 k2 => ((e1 k k1 k2).trans (hE k k1 k2)).trans (K1.2.2.1 k (pX52 k (by omega))).symm
  have hQ1 : qKd nv (cP A1) := hQ.pe e1
  refine ⟨I1, G1, A1, B1, v, rfl, rfl, ?_⟩
  refine zWp.mono (mm_tune ro nv np A1 W L I1 G1 A1 B1 (242600 * k) a b c d e F1.1 F1.2.1 F1.2.2.1 (by omega) (by omega) (by omega) F1.2.2.2.2.1.1 F1.2.2.2.2.1.2.1) ?_
  rintro r2 h2 ⟨I2, G2, A2, B2, rfl, K2, ⟨L2, R2, ar, ln⟩, ⟨i1, i2⟩, w, -, rfl⟩
  refine ⟨I2, G2, A2, B2, _, rfl, rfl, ?_, trivial⟩
  obtain ⟨t, t1, t2⟩ := F1.2.2.2.2.1.2.2
  exact zLI.mk c1 (by omega) K2 fTu_c pTu_c (zRf.of R2 F1.2.1 F1.2.2.1 (qArr.lg F1.2.2.2.1 ar ln) ⟨i1, i2, t, t1, (K2.1 52 29 rfl).trans t2⟩ (by rw [ln]; exact fn)) (by omega) (by omega) (hE1.tr R2.2.1.sy) hQ1
set_option maxHeartbeats 0 in
theorem pair_act (ro : UInt32 → Nat × (Nat → Int32)) (k : Nat) (I : Nat → Nat → Int32) (G : Nat → Nat → Int64) (A : Nat → Nat → Int32) (B : Nat → Nat → Int64) (h : zLI k I G A B) (hk : k < 512) (hro : (ro 1).1 = 5 ∧ (ro 1).2 = zka) (a : Int32) (b : Int32) (c : Int32) : zWp ro 101 0 [(0, .ref 0), (1, .int a), (2, .int b), (3, .int c)] [] (hS I G A B) 0 0 (zPI ro 180 [(0, .ref 52), (1, .int a), (2, .int b), (3, .int c)] k (fun _ _ => True)) := by
  obtain ⟨nv, np, W, L, hC, hF, hE, hQ⟩ := h
  refine zWp.mono (cm_act ro nv np (1216 * k) I G A B hC (by omega) hQ hro a b c) ?_
  rintro r h1 ⟨I1, G1, A1, B1, rfl, K1, ⟨c1, e1⟩, v, rfl⟩
  have F1 := hF.kp K1 pX52
  have fn := F1.2.2.2.2.2
  have hE1 : PE (cP A1) A1 := fun k k1 k2 => ((e1 k k1 k2).trans (hE k k1 k2)).trans (K1.2.2.1 k (pX52 k (by omega))).symm
  have hQ1 : qKd nv (cP A1) := hQ.pe e1
  refine ⟨I1, G1, A1, B1, v, rfl, rfl, ?_⟩
  refine zWp.mono (mq_act ro nv np W L I1 G1 A1 B1 (242600 * k) F1.1 F1.2.1 F1.2.2.1 (by omega) F1.2.2.2.1 F1.2.2.2.2.1 a b c) ?_
  rintro r2 h2 ⟨I2, G2, A2, B2, rfl, K2, id2, w, rfl⟩
  have R2 := F1.1.k K2 fQu_R pQu_R
  refine ⟨I2, G2, A2, B2, _, rfl, rfl, ?_, trivial⟩
  exact zLI.mk c1 (by omega) K2 fQu_c pQu_c (zRf.of R2 F1.2.1 F1.2.2.1 F1.2.2.2.1 id2 fn) (by omega) (by omega) (hE1.tr R2.2.1.sy) hQ1
set_option maxHeartbeats 0 in
theorem pair_trace (ro : UInt32 → Nat × (Nat → Int32)) (k : Nat) (I : Nat → Nat → Int32) (G : Nat → Nat → Int64) (A : Nat → Nat → Int32) (B : Nat → Nat → Int64) (h : zLI k I G A B) (hk : k < 512) (a : Int32) : zWp ro 102 0 [(0, .ref 0), (1, .int a)] [] (hS I G A B) 0 0 (zPI ro 181 [(0, .ref 52), (1, .int a)] k (fun _ _ => True)) := by
  obtain ⟨nv, np, W, L, hC, hF, hE, hQ⟩ := h
  refine zWp.mono (cv_X11_trace ro nv np (1216 * k) I G A B hC (by omega) a) ?_
  rintro r h1 ⟨I1, G1, A1, B1, rfl, K1, c1, v, rfl⟩
  have F1 := hF.kp K1 pN52
  have fn := F1.2.2.2.2.2
  have ec := cP_n K1
  have hE1 : PE (cP A1) A1 := by rw [ec]; exact fun k k1 k2 => (hE k k1 k2).trans (K1.2.2.1 k (pN52 k (by omega))).symm
  have hQ1 : qKd nv (cP A1) := by rw [ec]; exact hQ
  refine ⟨I1, G1, A1, B1, v, rfl, rfl, ?_⟩
  refine zWp.mono (mq_trace ro nv np W L I1 G1 A1 B1 (242600 * k) F1.1 F1.2.1 F1.2.2.1 (by omega) F1.2.2.2.1 F1.2.2.2.2.1 a) ?_
  rintro r2 h2 ⟨I2, G2, A2, B2, rfl, K2, id2, w, rfl⟩
  have R2 := F1.1.k K2 fQu_R pQu_R
  refine ⟨I2, G2, A2, B2, _, rfl, rfl, ?_, trivial⟩
  exact zLI.mk c1 (by omega) K2 fQu_c pQu_c (zRf.of R2 F1.2.1 F1.2.2.1 F1.2.2.2.1 id2 fn) (by omega) (by omega) (hE1.tr R2.2.1.sy) hQ1
set_option maxHeartbeats 0 in
theorem pair_forge (ro : UInt32 → Nat × (Nat → Int32)) (k : Nat) (I : Nat → Nat → Int32) (G : Nat → Nat → Int64) (A : Nat → Nat → Int32) (B : Nat → Nat → Int64) (h : zLI k I G A B) (hk : k < 512) (hro : (ro 1).1 = 5 ∧ (ro 1).2 = zka) (a : Int32) (b : Int32) (c : Int32) : zWp ro 103 0 [(0, .ref 0), (1, .int a), (2, .int b), (3, .int c)] [] (hS I G A B) 0 0 (zPI ro 184 [(0, .ref 52), (1, .int a), (2, .int b), (3, .int c)] k (fun _ _ => True)) := by
  obtain ⟨nv, np, W, L, hC, hF, hE, hQ⟩ := h
  refine zWp.mono (cm_forge ro nv np (1216 * k) I G A B hC (by omega) hQ hro a b c) ?_
  rintro r h1 ⟨I1, G1, A1, B1, rfl, K1, ⟨c1, e1⟩, v, rfl⟩
  have F1 := hF.kp K1 pX52
  have fn := F1.2.2.2.2.2
  have hE1 : PE (cP A1) A1 := fun k k1 k2 => ((e1 k k1 k2).trans (hE k k1 k2)).trans (K1.2.2.1 k (pX52 k (by omega))).symm
  have hQ1 : qKd nv (cP A1) := hQ.pe e1
  refine ⟨I1, G1, A1, B1, v, rfl, rfl, ?_⟩
  refine zWp.mono (mq_forge ro nv np W L I1 G1 A1 B1 (242600 * k) F1.1 F1.2.1 F1.2.2.1 (by omega) F1.2.2.2.1 F1.2.2.2.2.1 a b c) ?_
  rintro r2 h2 ⟨I2, G2, A2, B2, rfl, K2, id2, w, rfl⟩
  have R2 := F1.1.k K2 fQu_R pQu_R
  refine ⟨I2, G2, A2, B2, _, rfl, rfl, ?_, trivial⟩
  exact zLI.mk c1 (by omega) K2 fQu_c pQu_c (zRf.of R2 F1.2.1 F1.2.2.1 F1.2.2.2.1 id2 fn) (by omega) (by omega) (hE1.tr R2.2.1.sy) hQ1
set_option maxHeartbeats 0 in
theorem pair_status (ro : UInt32 → Nat × (Nat → Int32)) (k : Nat) (I : Nat → Nat → Int32) (G : Nat → Nat → Int64) (A : Nat → Nat → Int32) (B : Nat → Nat → Int64) (h : zLI k I G A B) (hk : k < 512)  : zWp ro 104 0 [(0, .ref 0)] [] (hS I G A B) 0 0 (zPI ro 185 [(0, .ref 52)] k (fun _ _ => True)) := by
  obtain ⟨nv, np, W, L, hC, hF, hE, hQ⟩ := h
  refine zWp.mono (cv_X11_status ro nv np (1216 * k) I G A B hC (by omega) ) ?_
  rintro r h1 ⟨I1, G1, A1, B1, rfl, K1, c1, v, rfl⟩
  have F1 := hF.kp K1 pN52
  have fn := F1.2.2.2.2.2
  have ec := cP_n K1
  have hE1 : PE (cP A1) A1 := by rw [ec]; exact fun k k1 k2 => (hE k k1 k2).trans (K1.2.2.1 k (pN52 k (by omega))).symm
  have hQ1 : qKd nv (cP A1) := by rw [ec]; exact hQ
  refine ⟨I1, G1, A1, B1, v, rfl, rfl, ?_⟩
  refine zWp.mono (mq_status ro nv np W L I1 G1 A1 B1 (242600 * k) F1.1 F1.2.1 F1.2.2.1 (by omega) F1.2.2.2.1 F1.2.2.2.2.1 ) ?_
  rintro r2 h2 ⟨I2, G2, A2, B2, rfl, K2, id2, w, rfl⟩
  have R2 := F1.1.k K2 fQu_R pQu_R
  refine ⟨I2, G2, A2, B2, _, rfl, rfl, ?_, trivial⟩
  exact zLI.mk c1 (by omega) K2 fQu_c pQu_c (zRf.of R2 F1.2.1 F1.2.2.1 F1.2.2.2.1 id2 fn) (by omega) (by omega) (hE1.tr R2.2.1.sy) hQ1
