/-! ===== what a moment does, as a function ===== -/
abbrev qLog : Type := Nat × (Nat → Int32) × (Nat → Int32) × (Nat → Int64) × (Nat → Int64) × Int32
/-- levels, drain, siphoning, open, counted, the events -/
abbrev qM : Type := (Nat → Int64) × Int64 × (Nat → Int32) × (Nat → Int32) × (Nat → Int32) × List (Int32 × Int32)
def qL2 (b : Int64) : Int64 := if 0 < b then b else 0
def qPour (brim over : Nat → Int32) (g : Int64) : Nat → (Nat → Int64) → Int64 → Int32 → Int64 → (Nat → Int64) × Int64
  | 0, lev, dr, _, left => (lev, dr + left)
  | n + 1, lev, dr, w, left => if ¬ w = -1 ∧ 0 < left then qPour brim over g n (vp_updL (vp_updL lev w.toNatClampNeg (lev w.toNatClampNeg + left)) w.toNatClampNeg (lev w.toNatClampNeg + left - qL2 (lev w.toNatClampNeg + left - Int32.toInt64 (brim w.toNatClampNeg) * g))) dr (over w.toNatClampNeg) (qL2 (lev w.toNatClampNeg + left - Int32.toInt64 (brim w.toNatClampNeg) * g)) else (lev, dr + left)
section ZQP
variable {brim over : Nat → Int32} {g : Int64} {n : Nat} {lev : Nat → Int64} {dr left : Int64} {w : Int32}
theorem qPour_m (h : w = -1) : qPour brim over g (n + 1) lev dr w left = (lev, dr + left) := if_neg (fun q => q.1 h)
theorem qPour_z (h : ¬ 0 < left) : qPour brim over g (n + 1) lev dr w left = (lev, dr + left) := if_neg (fun q => h q.2)
theorem qPour_y {t : Nat} (h : w = nI t) (ht : t < 100) (hl : 0 < left) : qPour brim over g (n + 1) lev dr w left = qPour brim over g n (vp_updL (vp_updL lev t (lev t + left)) t (lev t + left - qL2 (lev t + left - Int32.toInt64 (brim t) * g))) dr (over t) (qL2 (lev t + left - Int32.toInt64 (brim t) * g)) := by
  subst h
  rw [qPour, if_pos ⟨nI_nem (by omega), hl⟩, nI_clamp (by omega)]
end ZQP
theorem qL2_y {b : Int64} (h : 0 < b) : qL2 b = b := if_pos h
theorem qL2_n {b : Int64} (h : ¬ 0 < b) : qL2 b = 0 := if_neg h
def qSs (ss what v sought : Int32) : Int32 := if ¬ ss = 0 ∨ (what = 4 ∧ v = sought) then 1 else 0
def qNote (rec : Int32) (t g : Int64) (sought : Int32) (L : qLog) (what v : Int32) : qLog := if ¬ rec = 0 ∧ L.1 < 400 then (L.1 + 1, upd L.2.1 L.1 what, upd L.2.2.1 L.1 v, vp_updL L.2.2.2.1 L.1 t, vp_updL L.2.2.2.2.1 L.1 g, qSs L.2.2.2.2.2 what v sought) else (L.1 + 1, L.2.1, L.2.2.1, L.2.2.2.1, L.2.2.2.2.1, qSs L.2.2.2.2.2 what v sought)
def qNotes (rec : Int32) (t g : Int64) (sought : Int32) (L : qLog) (e : List (Int32 × Int32)) : qLog := e.foldl (fun L x => qNote rec t g sought L x.1 x.2) L
theorem qNotes_s {rec : Int32} {t g : Int64} {sought : Int32} {L : qLog} {e : List (Int32 × Int32)} {a b : Int32} : qNotes rec t g sought L (e ++ [(a, b)]) = qNote rec t g sought (qNotes rec t g sought L e) a b := by
  unfold qNotes
  rw [List.foldl_append]
  rfl
theorem qNote_1 {rec : Int32} {t g : Int64} {sought : Int32} {L : qLog} {a b : Int32} : (qNote rec t g sought L a b).1 = L.1 + 1 := by
  unfold qNote
  split <;> rfl
theorem qNotes_1 {rec : Int32} {t g : Int64} {sought : Int32} : ∀ {L : qLog} (e : List (Int32 × Int32)), (qNotes rec t g sought L e).1 = L.1 + e.length
  | L, [] => rfl
  | L, x :: e => by
    show (qNotes rec t g sought (qNote rec t g sought L x.1 x.2) e).1 = _
    rw [qNotes_1 e, qNote_1, List.length_cons]
    omega
def qLR (I : Nat → Nat → Int32) (A : Nat → Nat → Int32) (B : Nat → Nat → Int64) (L : qLog) : Prop := I 52 20 = nI L.1 ∧ A 67 = L.2.1 ∧ A 68 = L.2.2.1 ∧ B 69 = L.2.2.2.1 ∧ B 70 = L.2.2.2.2.1 ∧ I 52 42 = L.2.2.2.2.2
def fE (k j : Nat) : Bool := decide (k = 52 ∧ (j = 20 ∨ j = 42))
def pE (k : Nat) : Bool := decide (67 ≤ k ∧ k ≤ 70)
def fW (k j : Nat) : Bool := decide (k = 52 ∧ j = 15)
def fM1 (k j : Nat) : Bool := decide (k = 52 ∧ (j = 15 ∨ j = 20 ∨ j = 42))
def pM1 (k : Nat) : Bool := decide (63 ≤ k ∧ k ≤ 70)
def fMo (k j : Nat) : Bool := decide (k = 52 ∧ ((12 ≤ j ∧ j ≤ 15) ∨ j = 20 ∨ j = 39 ∨ j = 42))
def fHa (k j : Nat) : Bool := decide (k = 52 ∧ ((12 ≤ j ∧ j ≤ 15) ∨ j = 20 ∨ j = 27 ∨ j = 39 ∨ j = 42))
theorem fE_M1 : ∀ k j, fM1 k j = false → fE k j = false := by
  intro k j h
  simp only [fE, fM1, decide_eq_false_iff_not] at h ⊢
  omega
theorem fW_M1 : ∀ k j, fM1 k j = false → fW k j = false := by
  intro k j h
  simp only [fW, fM1, decide_eq_false_iff_not] at h ⊢
  omega
theorem pE_M1 : ∀ k, pM1 k = false → pE k = false := by
  intro k h
  simp only [pE, pM1, decide_eq_false_iff_not] at h ⊢
  omega
theorem p63_M1 : ∀ k, pM1 k = false → p63 k = false := by
  intro k h
  simp only [p63, pM1, decide_eq_false_iff_not] at h ⊢
  omega
theorem fM1_Mo : ∀ k j, fMo k j = false → fM1 k j = false := by
  intro k j h
  simp only [fM1, fMo, decide_eq_false_iff_not] at h ⊢
  omega
theorem fP_Mo : ∀ k j, fMo k j = false → fP k j = false := by
  intro k j h
  simp only [fP, fMo, decide_eq_false_iff_not] at h ⊢
  omega
theorem fMo_Ha : ∀ k j, fHa k j = false → fMo k j = false := by
  intro k j h
  simp only [fMo, fHa, decide_eq_false_iff_not] at h ⊢
  omega
theorem pM1_p : ∀ k, 53 ≤ k → k ≤ 62 → pM1 k = false := by
  intro k h1 h2
  simp only [pM1, decide_eq_false_iff_not]
  omega
theorem vnar_0 : vp_nar .boolean 0 = 0 := by decide
theorem vnar_1 : vp_nar .boolean 1 = 1 := by decide
def qTip1 (kind brim tip over : Nat → Int32) (g : Int64) (k : Nat) (m : qM) : qM := if kind k = 2 ∧ m.1 k = Int32.toInt64 (brim k) * g then ((qPour brim over g 9 (vp_updL m.1 k 0) m.2.1 (tip k) (m.1 k)).1, (qPour brim over g 9 (vp_updL m.1 k 0) m.2.1 (tip k) (m.1 k)).2, m.2.2.1, m.2.2.2.1, m.2.2.2.2.1, m.2.2.2.2.2 ++ [(1, nI k)]) else m
def qSip1 (kind high : Nat → Int32) (g : Int64) (k : Nat) (m : qM) : qM := if kind k = 1 ∧ m.2.2.1 k = 0 ∧ Int32.toInt64 (high k) * g ≤ m.1 k then (m.1, m.2.1, upd m.2.2.1 k 1, m.2.2.2.1, m.2.2.2.2.1, m.2.2.2.2.2 ++ [(2, nI k)]) else if kind k = 1 ∧ ¬ m.2.2.1 k = 0 ∧ m.1 k = 0 then (m.1, m.2.1, upd m.2.2.1 k 0, m.2.2.2.1, m.2.2.2.2.1, m.2.2.2.2.2 ++ [(3, nI k)]) else m
def qFlo2 (kind high low : Nat → Int32) (g : Int64) (k o : Nat) (m : qM) : qM := if ¬ m.2.2.2.1 o = 0 ∧ Int32.toInt64 (high k) * g ≤ m.1 k then (m.1, m.2.1, m.2.2.1, upd m.2.2.2.1 o 0, upd m.2.2.2.2.1 k (m.2.2.2.2.1 k + if kind k = 4 then 1 else 0), m.2.2.2.2.2 ++ [(4, nI k)]) else if m.2.2.2.1 o = 0 ∧ m.1 k ≤ Int32.toInt64 (low k) * g then (m.1, m.2.1, m.2.2.1, upd m.2.2.2.1 o 1, m.2.2.2.2.1, m.2.2.2.2.2 ++ [(5, nI k)]) else m
def qFlo1 (kind high low own : Nat → Int32) (g : Int64) (k : Nat) (m : qM) : qM := if (kind k = 3 ∨ kind k = 4) ∧ ¬ own k = -1 then qFlo2 kind high low g k (own k).toNatClampNeg m else m
def qIt (f : Nat → qM → qM) (m : qM) : Nat → qM
  | 0 => m
  | k + 1 => f k (qIt f m k)
theorem qIt_s {f : Nat → qM → qM} {m : qM} {k : Nat} : qIt f m (k + 1) = f k (qIt f m k) := rfl
section ZQM
variable {kind brim high low own tip over : Nat → Int32} {g : Int64} {k o : Nat} {lev : Nat → Int64} {dr : Int64} {sip opn cnt : Nat → Int32} {ev : List (Int32 × Int32)}
theorem qTip1_a (h : ¬ kind k = 2) {m : qM} : qTip1 kind brim tip over g k m = m := if_neg (fun q => h q.1)
theorem qTip1_b (h : ¬ lev k = Int32.toInt64 (brim k) * g) : qTip1 kind brim tip over g k (lev, dr, sip, opn, cnt, ev) = (lev, dr, sip, opn, cnt, ev) := if_neg (fun q => h q.2)
theorem qTip1_y (h : kind k = 2) (h2 : lev k = Int32.toInt64 (brim k) * g) : qTip1 kind brim tip over g k (lev, dr, sip, opn, cnt, ev) = ((qPour brim over g 9 (vp_updL lev k 0) dr (tip k) (lev k)).1, (qPour brim over g 9 (vp_updL lev k 0) dr (tip k) (lev k)).2, sip, opn, cnt, ev ++ [(1, nI k)]) := if_pos ⟨h, h2⟩
theorem qSip1_a (h : ¬ kind k = 1) {m : qM} : qSip1 kind high g k m = m := (if_neg (fun q => h q.1)).trans (if_neg (fun q => h q.1))
theorem qSip1_y (h : kind k = 1) (h2 : sip k = 0) (h3 : Int32.toInt64 (high k) * g ≤ lev k) : qSip1 kind high g k (lev, dr, sip, opn, cnt, ev) = (lev, dr, upd sip k 1, opn, cnt, ev ++ [(2, nI k)]) := if_pos ⟨h, h2, h3⟩
theorem qSip1_b (h2 : sip k = 0) (h3 : ¬ Int32.toInt64 (high k) * g ≤ lev k) : qSip1 kind high g k (lev, dr, sip, opn, cnt, ev) = (lev, dr, sip, opn, cnt, ev) := (if_neg (fun q => h3 q.2.2)).trans (if_neg (fun q => q.2.1 h2))
theorem qSip1_z (h : kind k = 1) (h2 : ¬ sip k = 0) (h3 : lev k = 0) : qSip1 kind high g k (lev, dr, sip, opn, cnt, ev) = (lev, dr, upd sip k 0, opn, cnt, ev ++ [(3, nI k)]) := (if_neg (fun q => h2 q.2.1)).trans (if_pos ⟨h, h2, h3⟩)
theorem qSip1_c (h2 : ¬ sip k = 0) (h3 : ¬ lev k = 0) : qSip1 kind high g k (lev, dr, sip, opn, cnt, ev) = (lev, dr, sip, opn, cnt, ev) := (if_neg (fun q => h2 q.2.1)).trans (if_neg (fun q => h3 q.2.2))
theorem qFlo1_a (h : ¬ kind k = 3) (h2 : ¬ kind k = 4) {m : qM} : qFlo1 kind high low own g k m = m := if_neg (fun q => q.1.elim h h2)
theorem qFlo1_b (h : own k = -1) {m : qM} : qFlo1 kind high low own g k m = m := if_neg (fun q => q.2 h)
theorem qFlo1_o {t : Nat} (h : kind k = 3 ∨ kind k = 4) (h1 : own k = nI t) (ht : t < 100) {m : qM} : qFlo1 kind high low own g k m = qFlo2 kind high low g k t m := by
  have e : ¬ own k = -1 := fun q => nI_nem (a := t) (by omega) (h1.symm.trans q)
  unfold qFlo1
  rw [if_pos ⟨h, e⟩, h1, nI_clamp (by omega)]
theorem qFlo2_y {x : Int32} (h : ¬ opn o = 0) (h3 : Int32.toInt64 (high k) * g ≤ lev k) (hx : (if kind k = 4 then (1 : Int32) else 0) = x) : qFlo2 kind high low g k o (lev, dr, sip, opn, cnt, ev) = (lev, dr, sip, upd opn o 0, upd cnt k (cnt k + x), ev ++ [(4, nI k)]) := by
  subst hx
  exact if_pos ⟨h, h3⟩
theorem qFlo2_b (h : ¬ opn o = 0) (h3 : ¬ Int32.toInt64 (high k) * g ≤ lev k) : qFlo2 kind high low g k o (lev, dr, sip, opn, cnt, ev) = (lev, dr, sip, opn, cnt, ev) := (if_neg (fun q => h3 q.2)).trans (if_neg (fun q => h q.1))
theorem qFlo2_z (h : opn o = 0) (h3 : lev k ≤ Int32.toInt64 (low k) * g) : qFlo2 kind high low g k o (lev, dr, sip, opn, cnt, ev) = (lev, dr, sip, upd opn o 1, cnt, ev ++ [(5, nI k)]) := (if_neg (fun q => q.1 h)).trans (if_pos ⟨h, h3⟩)
theorem qFlo2_c (h : opn o = 0) (h3 : ¬ lev k ≤ Int32.toInt64 (low k) * g) : qFlo2 kind high low g k o (lev, dr, sip, opn, cnt, ev) = (lev, dr, sip, opn, cnt, ev) := (if_neg (fun q => q.1 h)).trans (if_neg (fun q => h3 q.2))
end ZQM
def qMom (kind brim high low own tip over : Nat → Int32) (g : Int64) (nv : Nat) (m : qM) : qM := qIt (qFlo1 kind high low own g) (qIt (qSip1 kind high g) (qIt (qTip1 kind brim tip over g) m nv) nv) nv
def qLc (t sp dr g : Int64) (lev : Nat → Int64) : Nat → Int64
  | 0 => mD t (mD sp (mD dr g))
  | k + 1 => mD (lev k) (qLc t sp dr g lev k)
theorem mLc_q {G B : Nat → Nat → Int64} {t sp dr g : Int64} {lev : Nat → Int64} (h1 : G 52 13 = t) (h2 : G 52 14 = sp) (h3 : G 52 15 = dr) (h4 : G 52 12 = g) (h5 : B 63 = lev) : ∀ k, mLc G B k = qLc t sp dr g lev k
  | 0 => by rw [mLc, qLc, h1, h2, h3, h4]
  | k + 1 => by rw [mLc, qLc, mLc_q h1 h2 h3 h4 h5 k, h5]
set_option maxRecDepth 100000 in
set_option maxHeartbeats 0 in
theorem mm_note0 (ro : UInt32 → Nat × (Nat → Int32)) (I : Nat → Nat → Int32) (G : Nat → Nat → Int64) (A : Nat → Nat → Int32) (B : Nat → Nat → Int64) (rec : Int32) (t g : Int64) (so w v : Int32) (n : Nat) (ek ev : Nat → Int32) (et eg : Nat → Int64) (ss : Int32) (hrec : I 52 22 = rec) (ht : G 52 13 = t) (hg : G 52 12 = g) (hso : I 52 41 = so) (hL : qLR I A B (n, ek, ev, et, eg, ss)) (hn : n < 2000000000) : zWp ro 137 0 [(0, .ref 52), (1, .int w), (2, .int v)] [] (hS I G A B) 0 0 (fun r h1 => ∃ I2 G2 A2 B2, h1 = hS I2 G2 A2 B2 ∧ KQ fE pE I G A B I2 G2 A2 B2 ∧ qLR I2 A2 B2 (qNote rec t g so (n, ek, ev, et, eg, ss) w v) ∧ r = none) := by
  refine zw_aload_n 1 f137_0 rfl rfl ?_
  refine zw_getI rec 4 f137_1 rfl g137_58_12 (hb_52 _ _ _ _) rfl hrec ?_
  refine zw_if_eq 7 63 f137_4 (by decide +kernel) rfl (fun hc1 => ?_) (fun hc1 => ?_)
  · refine zw_aload_n 64 f137_63 rfl rfl ?_
    refine zw_dup 65 f137_64 rfl rfl ?_
    refine zw_getI (nI n) 68 f137_65 rfl g137_183_12 (hb_52 _ _ _ _) rfl hL.1 ?_
    refine zw_iconst 1 69 f137_68 rfl (by decide +kernel) ?_
    refine zw_iadd (nI (n + 1)) 70 f137_69 rfl (nI_add _ 1) ?_
    refine zw_put _ 73 f137_70 rfl g137_183_12 (hb_52 _ _ _ _) rfl (Nat.le_of_ble_eq_true rfl) (by decide +kernel) (hi_52_20 _ _ _ _ _) ?_
    refine zw_aload_n 74 f137_73 rfl rfl ?_
    refine zw_aload_n 75 f137_74 rfl rfl ?_
    refine zw_getI ss 78 f137_75 rfl g137_186_12 (hb_52 _ _ _ _) rfl hL.2.2.2.2.2 ?_
    refine zw_if_ne 81 94 f137_78 (by decide +kernel) rfl (fun hc2 => ?_) (fun hc2 => ?_)
    · refine zw_iconst 1 95 f137_94 rfl (by decide +kernel) ?_
      refine zw_goto 99 f137_95 (by decide +kernel) ?_
      refine zw_put _ 102 f137_99 rfl g137_186_12 (hb_52 _ _ _ _) rfl (Nat.le_of_ble_eq_true rfl) (by decide +kernel) (hi_52_42 _ _ _ _ _) ?_
      refine zw_vreturn f137_102 r137 u137 ?_
      refine ⟨_, _, _, _, rfl, (KQ.i rfl (KQ.i rfl KQ.rf)), ?_, rfl⟩
      have hq : qSs ss w v so = 1 := (if_pos (Or.inl hc2))
      rw [show qNote rec t g so (n, ek, ev, et, eg, ss) w v = _ from if_neg (fun q => q.1 hc1)]
      exact ⟨rfl, hL.2.1, hL.2.2.1, hL.2.2.2.1, hL.2.2.2.2.1, hq.symm⟩
    · refine zw_iload_n 82 f137_81 rfl rfl ?_
      refine zw_iconst 4 83 f137_82 rfl (by decide +kernel) ?_
      refine zw_ic_ne 86 98 f137_83 (by decide +kernel) rfl (fun hc3 => ?_) (fun hc3 => ?_)
      · refine zw_iconst 0 99 f137_98 rfl (by decide +kernel) ?_
        refine zw_put _ 102 f137_99 rfl g137_186_12 (hb_52 _ _ _ _) rfl (Nat.le_of_ble_eq_true rfl) (by decide +kernel) (hi_52_42 _ _ _ _ _) ?_
        refine zw_vreturn f137_102 r137 u137 ?_
        refine ⟨_, _, _, _, rfl, (KQ.i rfl (KQ.i rfl KQ.rf)), ?_, rfl⟩
        have hq : qSs ss w v so = 0 := (if_neg (fun q => q.elim (fun z => z (Decidable.of_not_not hc2)) (fun z => hc3 z.1)))
        rw [show qNote rec t g so (n, ek, ev, et, eg, ss) w v = _ from if_neg (fun q => q.1 hc1)]
        exact ⟨rfl, hL.2.1, hL.2.2.1, hL.2.2.2.1, hL.2.2.2.2.1, hq.symm⟩
      · refine zw_iload_n 87 f137_86 rfl rfl ?_
        refine zw_aload_n 88 f137_87 rfl rfl ?_
        refine zw_getI so 91 f137_88 rfl g137_92_12 (hb_52 _ _ _ _) rfl hso ?_
        refine zw_ic_ne 94 98 f137_91 (by decide +kernel) rfl (fun hc4 => ?_) (fun hc4 => ?_)
        · refine zw_iconst 0 99 f137_98 rfl (by decide +kernel) ?_
          refine zw_put _ 102 f137_99 rfl g137_186_12 (hb_52 _ _ _ _) rfl (Nat.le_of_ble_eq_true rfl) (by decide +kernel) (hi_52_42 _ _ _ _ _) ?_
          refine zw_vreturn f137_102 r137 u137 ?_
          refine ⟨_, _, _, _, rfl, (KQ.i rfl (KQ.i rfl KQ.rf)), ?_, rfl⟩
          have hq : qSs ss w v so = 0 := (if_neg (fun q => q.elim (fun z => z (Decidable.of_not_not hc2)) (fun z => hc4 z.2)))
          rw [show qNote rec t g so (n, ek, ev, et, eg, ss) w v = _ from if_neg (fun q => q.1 hc1)]
          exact ⟨rfl, hL.2.1, hL.2.2.1, hL.2.2.2.1, hL.2.2.2.2.1, hq.symm⟩
        · refine zw_iconst 1 95 f137_94 rfl (by decide +kernel) ?_
          refine zw_goto 99 f137_95 (by decide +kernel) ?_
          refine zw_put _ 102 f137_99 rfl g137_186_12 (hb_52 _ _ _ _) rfl (Nat.le_of_ble_eq_true rfl) (by decide +kernel) (hi_52_42 _ _ _ _ _) ?_
          refine zw_vreturn f137_102 r137 u137 ?_
          refine ⟨_, _, _, _, rfl, (KQ.i rfl (KQ.i rfl KQ.rf)), ?_, rfl⟩
          have hq : qSs ss w v so = 1 := (if_pos (Or.inr ⟨(Decidable.of_not_not hc3), (Decidable.of_not_not hc4)⟩))
          rw [show qNote rec t g so (n, ek, ev, et, eg, ss) w v = _ from if_neg (fun q => q.1 hc1)]
          exact ⟨rfl, hL.2.1, hL.2.2.1, hL.2.2.2.1, hL.2.2.2.2.1, hq.symm⟩
  · refine zw_aload_n 8 f137_7 rfl rfl ?_
    refine zw_getI (nI n) 11 f137_8 rfl g137_183_12 (hb_52 _ _ _ _) rfl hL.1 ?_
    refine zw_sipush 400 14 f137_11 rfl (by decide +kernel) ?_
    refine zw_ic_ge 17 63 f137_14 (by decide +kernel) rfl (fun hc5 => ?_) (fun hc5 => ?_)
    · have hn_hc5 : 400 ≤ n := zn_ge (by omega) (by omega) hc5
      refine zw_aload_n 64 f137_63 rfl rfl ?_
      refine zw_dup 65 f137_64 rfl rfl ?_
      refine zw_getI (nI n) 68 f137_65 rfl g137_183_12 (hb_52 _ _ _ _) rfl hL.1 ?_
      refine zw_iconst 1 69 f137_68 rfl (by decide +kernel) ?_
      refine zw_iadd (nI (n + 1)) 70 f137_69 rfl (nI_add _ 1) ?_
      refine zw_put _ 73 f137_70 rfl g137_183_12 (hb_52 _ _ _ _) rfl (Nat.le_of_ble_eq_true rfl) (by decide +kernel) (hi_52_20 _ _ _ _ _) ?_
      refine zw_aload_n 74 f137_73 rfl rfl ?_
      refine zw_aload_n 75 f137_74 rfl rfl ?_
      refine zw_getI ss 78 f137_75 rfl g137_186_12 (hb_52 _ _ _ _) rfl hL.2.2.2.2.2 ?_
      refine zw_if_ne 81 94 f137_78 (by decide +kernel) rfl (fun hc6 => ?_) (fun hc6 => ?_)
      · refine zw_iconst 1 95 f137_94 rfl (by decide +kernel) ?_
        refine zw_goto 99 f137_95 (by decide +kernel) ?_
        refine zw_put _ 102 f137_99 rfl g137_186_12 (hb_52 _ _ _ _) rfl (Nat.le_of_ble_eq_true rfl) (by decide +kernel) (hi_52_42 _ _ _ _ _) ?_
        refine zw_vreturn f137_102 r137 u137 ?_
        refine ⟨_, _, _, _, rfl, (KQ.i rfl (KQ.i rfl KQ.rf)), ?_, rfl⟩
        have hq : qSs ss w v so = 1 := (if_pos (Or.inl hc6))
        rw [show qNote rec t g so (n, ek, ev, et, eg, ss) w v = _ from if_neg (fun q => absurd (show n < 400 from q.2) (by omega))]
        exact ⟨rfl, hL.2.1, hL.2.2.1, hL.2.2.2.1, hL.2.2.2.2.1, hq.symm⟩
      · refine zw_iload_n 82 f137_81 rfl rfl ?_
        refine zw_iconst 4 83 f137_82 rfl (by decide +kernel) ?_
        refine zw_ic_ne 86 98 f137_83 (by decide +kernel) rfl (fun hc7 => ?_) (fun hc7 => ?_)
        · refine zw_iconst 0 99 f137_98 rfl (by decide +kernel) ?_
          refine zw_put _ 102 f137_99 rfl g137_186_12 (hb_52 _ _ _ _) rfl (Nat.le_of_ble_eq_true rfl) (by decide +kernel) (hi_52_42 _ _ _ _ _) ?_
          refine zw_vreturn f137_102 r137 u137 ?_
          refine ⟨_, _, _, _, rfl, (KQ.i rfl (KQ.i rfl KQ.rf)), ?_, rfl⟩
          have hq : qSs ss w v so = 0 := (if_neg (fun q => q.elim (fun z => z (Decidable.of_not_not hc6)) (fun z => hc7 z.1)))
          rw [show qNote rec t g so (n, ek, ev, et, eg, ss) w v = _ from if_neg (fun q => absurd (show n < 400 from q.2) (by omega))]
          exact ⟨rfl, hL.2.1, hL.2.2.1, hL.2.2.2.1, hL.2.2.2.2.1, hq.symm⟩
        · refine zw_iload_n 87 f137_86 rfl rfl ?_
          refine zw_aload_n 88 f137_87 rfl rfl ?_
          refine zw_getI so 91 f137_88 rfl g137_92_12 (hb_52 _ _ _ _) rfl hso ?_
          refine zw_ic_ne 94 98 f137_91 (by decide +kernel) rfl (fun hc8 => ?_) (fun hc8 => ?_)
          · refine zw_iconst 0 99 f137_98 rfl (by decide +kernel) ?_
            refine zw_put _ 102 f137_99 rfl g137_186_12 (hb_52 _ _ _ _) rfl (Nat.le_of_ble_eq_true rfl) (by decide +kernel) (hi_52_42 _ _ _ _ _) ?_
            refine zw_vreturn f137_102 r137 u137 ?_
            refine ⟨_, _, _, _, rfl, (KQ.i rfl (KQ.i rfl KQ.rf)), ?_, rfl⟩
            have hq : qSs ss w v so = 0 := (if_neg (fun q => q.elim (fun z => z (Decidable.of_not_not hc6)) (fun z => hc8 z.2)))
            rw [show qNote rec t g so (n, ek, ev, et, eg, ss) w v = _ from if_neg (fun q => absurd (show n < 400 from q.2) (by omega))]
            exact ⟨rfl, hL.2.1, hL.2.2.1, hL.2.2.2.1, hL.2.2.2.2.1, hq.symm⟩
          · refine zw_iconst 1 95 f137_94 rfl (by decide +kernel) ?_
            refine zw_goto 99 f137_95 (by decide +kernel) ?_
            refine zw_put _ 102 f137_99 rfl g137_186_12 (hb_52 _ _ _ _) rfl (Nat.le_of_ble_eq_true rfl) (by decide +kernel) (hi_52_42 _ _ _ _ _) ?_
            refine zw_vreturn f137_102 r137 u137 ?_
            refine ⟨_, _, _, _, rfl, (KQ.i rfl (KQ.i rfl KQ.rf)), ?_, rfl⟩
            have hq : qSs ss w v so = 1 := (if_pos (Or.inr ⟨(Decidable.of_not_not hc7), (Decidable.of_not_not hc8)⟩))
            rw [show qNote rec t g so (n, ek, ev, et, eg, ss) w v = _ from if_neg (fun q => absurd (show n < 400 from q.2) (by omega))]
            exact ⟨rfl, hL.2.1, hL.2.2.1, hL.2.2.2.1, hL.2.2.2.2.1, hq.symm⟩
    · have hn_hc5 : n < 400 := zn_lt (by omega) (by omega) hc5
      refine zw_aload_n 18 f137_17 rfl rfl ?_
      refine zw_getfield 21 f137_18 rfl g137_62_12 (hb_52 _ _ _ _) rfl ?_
      refine zw_aload_n 22 f137_21 rfl rfl ?_
      refine zw_getI (nI n) 25 f137_22 rfl g137_183_12 (hb_52 _ _ _ _) rfl hL.1 ?_
      refine zw_iload_n 26 f137_25 rfl rfl ?_
      refine zw_ast n _ 27 f137_26 rfl (hb_67 _ _ _ _) (nI_clamp (by omega)) (nI_pos (by omega)) (by omega) (ha_67 _ _ _ _ _) ?_
      refine zw_aload_n 28 f137_27 rfl rfl ?_
      refine zw_getfield 31 f137_28 rfl g137_65_12 (hb_52 _ _ _ _) rfl ?_
      refine zw_aload_n 32 f137_31 rfl rfl ?_
      refine zw_getI (nI n) 35 f137_32 rfl g137_183_12 (hb_52 _ _ _ _) rfl hL.1 ?_
      refine zw_iload_n 36 f137_35 rfl rfl ?_
      refine zw_ast n _ 37 f137_36 rfl (hb_68 _ _ _ _) (nI_clamp (by omega)) (nI_pos (by omega)) (by omega) (ha_68 _ _ _ _ _) ?_
      refine zw_aload_n 38 f137_37 rfl rfl ?_
      refine zw_getfield 41 f137_38 rfl g137_68_12 (hb_52 _ _ _ _) rfl ?_
      refine zw_aload_n 42 f137_41 rfl rfl ?_
      refine zw_getI (nI n) 45 f137_42 rfl g137_183_12 (hb_52 _ _ _ _) rfl hL.1 ?_
      refine zw_aload_n 46 f137_45 rfl rfl ?_
      refine zw_getG t 49 f137_46 rfl g137_172_12 (hb_52 _ _ _ _) rfl ht ?_
      refine zw_lst n _ 50 f137_49 rfl (hb_69 _ _ _ _) (nI_clamp (by omega)) (nI_pos (by omega)) (by omega) (ha_69 _ _ _ _ _) ?_
      refine zw_aload_n 51 f137_50 rfl rfl ?_
      refine zw_getfield 54 f137_51 rfl g137_71_12 (hb_52 _ _ _ _) rfl ?_
      refine zw_aload_n 55 f137_54 rfl rfl ?_
      refine zw_getI (nI n) 58 f137_55 rfl g137_183_12 (hb_52 _ _ _ _) rfl hL.1 ?_
      refine zw_aload_n 59 f137_58 rfl rfl ?_
      refine zw_getG g 62 f137_59 rfl g137_40_12 (hb_52 _ _ _ _) rfl hg ?_
      refine zw_lst n _ 63 f137_62 rfl (hb_70 _ _ _ _) (nI_clamp (by omega)) (nI_pos (by omega)) (by omega) (ha_70 _ _ _ _ _) ?_
      refine zw_aload_n 64 f137_63 rfl rfl ?_
      refine zw_dup 65 f137_64 rfl rfl ?_
      refine zw_getI (nI n) 68 f137_65 rfl g137_183_12 (hb_52 _ _ _ _) rfl hL.1 ?_
      refine zw_iconst 1 69 f137_68 rfl (by decide +kernel) ?_
      refine zw_iadd (nI (n + 1)) 70 f137_69 rfl (nI_add _ 1) ?_
      refine zw_put _ 73 f137_70 rfl g137_183_12 (hb_52 _ _ _ _) rfl (Nat.le_of_ble_eq_true rfl) (by decide +kernel) (hi_52_20 _ _ _ _ _) ?_
      refine zw_aload_n 74 f137_73 rfl rfl ?_
      refine zw_aload_n 75 f137_74 rfl rfl ?_
      refine zw_getI ss 78 f137_75 rfl g137_186_12 (hb_52 _ _ _ _) rfl hL.2.2.2.2.2 ?_
      refine zw_if_ne 81 94 f137_78 (by decide +kernel) rfl (fun hc9 => ?_) (fun hc9 => ?_)
      · refine zw_iconst 1 95 f137_94 rfl (by decide +kernel) ?_
        refine zw_goto 99 f137_95 (by decide +kernel) ?_
        refine zw_put _ 102 f137_99 rfl g137_186_12 (hb_52 _ _ _ _) rfl (Nat.le_of_ble_eq_true rfl) (by decide +kernel) (hi_52_42 _ _ _ _ _) ?_
        refine zw_vreturn f137_102 r137 u137 ?_
        refine ⟨_, _, _, _, rfl, (KQ.i rfl (KQ.i rfl (KQ.b rfl (KQ.b rfl (KQ.a rfl (KQ.a rfl KQ.rf)))))), ?_, rfl⟩
        have hq : qSs ss w v so = 1 := (if_pos (Or.inl hc9))
        rw [show qNote rec t g so (n, ek, ev, et, eg, ss) w v = _ from if_pos ⟨hc1, (by show n < 400; omega)⟩]
        exact ⟨rfl, (congrArg (fun z => upd z n w) (hL.2.1)), (congrArg (fun z => upd z n v) (hL.2.2.1)), (congrArg (fun z => vp_updL z n t) (hL.2.2.2.1)), (congrArg (fun z => vp_updL z n g) (hL.2.2.2.2.1)), hq.symm⟩
      · refine zw_iload_n 82 f137_81 rfl rfl ?_
        refine zw_iconst 4 83 f137_82 rfl (by decide +kernel) ?_
        refine zw_ic_ne 86 98 f137_83 (by decide +kernel) rfl (fun hc10 => ?_) (fun hc10 => ?_)
        · refine zw_iconst 0 99 f137_98 rfl (by decide +kernel) ?_
          refine zw_put _ 102 f137_99 rfl g137_186_12 (hb_52 _ _ _ _) rfl (Nat.le_of_ble_eq_true rfl) (by decide +kernel) (hi_52_42 _ _ _ _ _) ?_
          refine zw_vreturn f137_102 r137 u137 ?_
          refine ⟨_, _, _, _, rfl, (KQ.i rfl (KQ.i rfl (KQ.b rfl (KQ.b rfl (KQ.a rfl (KQ.a rfl KQ.rf)))))), ?_, rfl⟩
          have hq : qSs ss w v so = 0 := (if_neg (fun q => q.elim (fun z => z (Decidable.of_not_not hc9)) (fun z => hc10 z.1)))
          rw [show qNote rec t g so (n, ek, ev, et, eg, ss) w v = _ from if_pos ⟨hc1, (by show n < 400; omega)⟩]
          exact ⟨rfl, (congrArg (fun z => upd z n w) (hL.2.1)), (congrArg (fun z => upd z n v) (hL.2.2.1)), (congrArg (fun z => vp_updL z n t) (hL.2.2.2.1)), (congrArg (fun z => vp_updL z n g) (hL.2.2.2.2.1)), hq.symm⟩
        · refine zw_iload_n 87 f137_86 rfl rfl ?_
          refine zw_aload_n 88 f137_87 rfl rfl ?_
          refine zw_getI so 91 f137_88 rfl g137_92_12 (hb_52 _ _ _ _) rfl hso ?_
          refine zw_ic_ne 94 98 f137_91 (by decide +kernel) rfl (fun hc11 => ?_) (fun hc11 => ?_)
          · refine zw_iconst 0 99 f137_98 rfl (by decide +kernel) ?_
            refine zw_put _ 102 f137_99 rfl g137_186_12 (hb_52 _ _ _ _) rfl (Nat.le_of_ble_eq_true rfl) (by decide +kernel) (hi_52_42 _ _ _ _ _) ?_
            refine zw_vreturn f137_102 r137 u137 ?_
            refine ⟨_, _, _, _, rfl, (KQ.i rfl (KQ.i rfl (KQ.b rfl (KQ.b rfl (KQ.a rfl (KQ.a rfl KQ.rf)))))), ?_, rfl⟩
            have hq : qSs ss w v so = 0 := (if_neg (fun q => q.elim (fun z => z (Decidable.of_not_not hc9)) (fun z => hc11 z.2)))
            rw [show qNote rec t g so (n, ek, ev, et, eg, ss) w v = _ from if_pos ⟨hc1, (by show n < 400; omega)⟩]
            exact ⟨rfl, (congrArg (fun z => upd z n w) (hL.2.1)), (congrArg (fun z => upd z n v) (hL.2.2.1)), (congrArg (fun z => vp_updL z n t) (hL.2.2.2.1)), (congrArg (fun z => vp_updL z n g) (hL.2.2.2.2.1)), hq.symm⟩
          · refine zw_iconst 1 95 f137_94 rfl (by decide +kernel) ?_
            refine zw_goto 99 f137_95 (by decide +kernel) ?_
            refine zw_put _ 102 f137_99 rfl g137_186_12 (hb_52 _ _ _ _) rfl (Nat.le_of_ble_eq_true rfl) (by decide +kernel) (hi_52_42 _ _ _ _ _) ?_
            refine zw_vreturn f137_102 r137 u137 ?_
            refine ⟨_, _, _, _, rfl, (KQ.i rfl (KQ.i rfl (KQ.b rfl (KQ.b rfl (KQ.a rfl (KQ.a rfl KQ.rf)))))), ?_, rfl⟩
            have hq : qSs ss w v so = 1 := (if_pos (Or.inr ⟨(Decidable.of_not_not hc10), (Decidable.of_not_not hc11)⟩))
            rw [show qNote rec t g so (n, ek, ev, et, eg, ss) w v = _ from if_pos ⟨hc1, (by show n < 400; omega)⟩]
            exact ⟨rfl, (congrArg (fun z => upd z n w) (hL.2.1)), (congrArg (fun z => upd z n v) (hL.2.2.1)), (congrArg (fun z => vp_updL z n t) (hL.2.2.2.1)), (congrArg (fun z => vp_updL z n g) (hL.2.2.2.2.1)), hq.symm⟩
theorem mm_note (ro : UInt32 → Nat × (Nat → Int32)) (I : Nat → Nat → Int32) (G : Nat → Nat → Int64) (A : Nat → Nat → Int32) (B : Nat → Nat → Int64) (rec : Int32) (t g : Int64) (so w v : Int32) (L : qLog) (hrec : I 52 22 = rec) (ht : G 52 13 = t) (hg : G 52 12 = g) (hso : I 52 41 = so) (hL : qLR I A B L) (hn : L.1 < 2000000000) : zWp ro 137 0 [(0, .ref 52), (1, .int w), (2, .int v)] [] (hS I G A B) 0 0 (fun r h1 => ∃ I2 G2 A2 B2, h1 = hS I2 G2 A2 B2 ∧ KQ fE pE I G A B I2 G2 A2 B2 ∧ qLR I2 A2 B2 (qNote rec t g so L w v) ∧ r = none) := by
  obtain ⟨n, ek, ev, et, eg, ss⟩ := L
  exact mm_note0 ro I G A B rec t g so w v n ek ev et eg ss hrec ht hg hso hL hn
set_option maxRecDepth 100000 in
set_option maxHeartbeats 0 in
theorem lmm_pour (ro : UInt32 → Nat × (Nat → Int32)) (nv np : Nat) (I : Nat → Nat → Int32) (G : Nat → Nat → Int64) (A : Nat → Nat → Int32) (B : Nat → Nat → Int64) (hP : MP nv np I A) (brim over : Nat → Int32) (g dr : Int64) (hbr : A 54 = brim) (hov : A 59 = over) (hg : G 52 12 = g) : ∀ (n lo : Nat) (ls : List (Nat × Value)) (I1 : Nat → Nat → Int32) (G1 : Nat → Nat → Int64) (A1 : Nat → Nat → Int32) (B1 : Nat → Nat → Int64) (lev : Nat → Int64) (w : Int32) (left : Int64), KQ fW p63 I G A B I1 G1 A1 B1 → G1 52 15 = dr → B1 63 = lev → mTo nv lo w → nv + 1 ≤ lo + n → zld ls 0 = some (.ref 52) → zld ls 4 = some (.int w) → zld ls 5 = some (.long left) → zWp ro 136 6 ls [] (hS I1 G1 A1 B1) 0 0 (fun r h1 => ∃ I2 G2 A2 B2, h1 = hS I2 G2 A2 B2 ∧ KQ fW p63 I G A B I2 G2 A2 B2 ∧ (B2 63 = (qPour brim over g n lev dr w left).1 ∧ G2 52 15 = (qPour brim over g n lev dr w left).2) ∧ r = none) := by
  have hnv := hP.1.2
  intro n
  induction n with
  | zero =>
    intro lo ls I1 G1 A1 B1 lev w left K hd hl hw hn h0 h4 h5
    rcases hw with hw | ⟨t, a, b, hw⟩
    · subst hw
      refine zw_iload 8 f136_6 rfl h4 ?_
      refine zw_iconst (-1) 9 f136_8 rfl (by decide +kernel) ?_
      refine zw_ic_eq_t 93 f136_9 (by decide +kernel) (by decide +kernel) ?_
      refine zw_aload_n 94 f136_93 rfl h0 ?_
      refine zw_dup 95 f136_94 rfl rfl ?_
      refine zw_getG dr 98 f136_95 rfl g136_178_12 (hb_52 _ _ _ _) rfl hd ?_
      refine zw_lload 100 f136_98 rfl h5 ?_
      refine zw_ladd (dr + left) 101 f136_100 rfl rfl ?_
      refine zw_put _ 104 f136_101 rfl g136_178_12 (hb_52 _ _ _ _) rfl (Nat.le_of_ble_eq_true rfl) (by decide +kernel) (hg_52_15 _ _ _ _ _) ?_
      refine zw_vreturn f136_104 r136 u136 ?_
      exact ⟨_, _, _, _, rfl, (KQ.g rfl K), ⟨hl, rfl⟩, rfl⟩
    · exact absurd b (by omega)
  | succ n ih =>
    intro lo ls I1 G1 A1 B1 lev w left K hd hl hw hn h0 h4 h5
    rcases hw with hw | ⟨t, ht1, ht2, hw⟩ <;> subst hw
    · refine zw_iload 8 f136_6 rfl h4 ?_
      refine zw_iconst (-1) 9 f136_8 rfl (by decide +kernel) ?_
      refine zw_ic_eq_t 93 f136_9 (by decide +kernel) (by decide +kernel) ?_
      refine zw_aload_n 94 f136_93 rfl h0 ?_
      refine zw_dup 95 f136_94 rfl rfl ?_
      refine zw_getG dr 98 f136_95 rfl g136_178_12 (hb_52 _ _ _ _) rfl hd ?_
      refine zw_lload 100 f136_98 rfl h5 ?_
      refine zw_ladd (dr + left) 101 f136_100 rfl rfl ?_
      refine zw_put _ 104 f136_101 rfl g136_178_12 (hb_52 _ _ _ _) rfl (Nat.le_of_ble_eq_true rfl) (by decide +kernel) (hg_52_15 _ _ _ _ _) ?_
      refine zw_vreturn f136_104 r136 u136 ?_
      rw [(qPour_m rfl)]
      exact ⟨_, _, _, _, rfl, (KQ.g rfl K), ⟨hl, rfl⟩, rfl⟩
    · refine zw_iload 8 f136_6 rfl h4 ?_
      refine zw_iconst (-1) 9 f136_8 rfl (by decide +kernel) ?_
      refine zw_ic_eq_f 12 93 f136_9 (by decide +kernel) rfl (nI_nem (by omega)) ?_
      refine zw_lload 14 f136_12 rfl h5 ?_
      refine zw_lconst 0 15 f136_14 rfl (by decide +kernel) ?_
      refine zw_lcmp (lg_cmp left 0) 16 f136_15 rfl rfl ?_
      refine zw_if_le 19 93 f136_16 (by decide +kernel) rfl (fun hc1 => ?_) (fun hc1 => ?_)
      · refine zw_aload_n 94 f136_93 rfl h0 ?_
        refine zw_dup 95 f136_94 rfl rfl ?_
        refine zw_getG dr 98 f136_95 rfl g136_178_12 (hb_52 _ _ _ _) rfl hd ?_
        refine zw_lload 100 f136_98 rfl h5 ?_
        refine zw_ladd (dr + left) 101 f136_100 rfl rfl ?_
        refine zw_put _ 104 f136_101 rfl g136_178_12 (hb_52 _ _ _ _) rfl (Nat.le_of_ble_eq_true rfl) (by decide +kernel) (hg_52_15 _ _ _ _ _) ?_
        refine zw_vreturn f136_104 r136 u136 ?_
        rw [(qPour_z (Int64.not_lt.mpr ((lg_cmp_le _ _).mp hc1)))]
        exact ⟨_, _, _, _, rfl, (KQ.g rfl K), ⟨hl, rfl⟩, rfl⟩
      · refine zw_aload_n 20 f136_19 rfl h0 ?_
        refine zw_getfield 23 f136_20 rfl g136_44_12 (hb_52 _ _ _ _) rfl ?_
        refine zw_iload 25 f136_23 rfl h4 ?_
        refine zw_dup2 26 f136_25 rfl rfl rfl ?_
        refine zw_laload t (lev t) 27 f136_26 rfl (hb_63 _ _ _ _) (nI_clamp (by omega)) (nI_pos (by omega)) (by omega) (congrFun (hl) t) ?_
        refine zw_lload 29 f136_27 rfl h5 ?_
        refine zw_ladd ((lev t) + left) 30 f136_29 rfl rfl ?_
        refine zw_lst t _ 31 f136_30 rfl (hb_63 _ _ _ _) (nI_clamp (by omega)) (nI_pos (by omega)) (by omega) (ha_63 _ _ _ _ _) ?_
        refine zw_aload_n 32 f136_31 rfl h0 ?_
        refine zw_getfield 35 f136_32 rfl g136_44_12 (hb_52 _ _ _ _) rfl ?_
        refine zw_iload 37 f136_35 rfl h4 ?_
        refine zw_laload t ((lev t) + left) 38 f136_37 rfl (hb_63 _ _ _ _) (nI_clamp (by omega)) (nI_pos (by omega)) (by omega) (if_pos rfl) ?_
        refine zw_aload_n 39 f136_38 rfl h0 ?_
        refine zw_getfield 42 f136_39 rfl g136_13_12 (hb_52 _ _ _ _) rfl ?_
        refine zw_iload 44 f136_42 rfl h4 ?_
        refine zw_iaload t (brim t) 45 f136_44 rfl (hb_54 _ _ _ _) (nI_clamp (by omega)) (nI_pos (by omega)) (by omega) (congrFun (((K.2.2.1 54 rfl).trans hbr)) t) ?_
        refine zw_i2l (Int32.toInt64 (brim t)) 46 f136_45 rfl rfl ?_
        refine zw_aload_n 47 f136_46 rfl h0 ?_
        refine zw_getG g 50 f136_47 rfl g136_40_12 (hb_52 _ _ _ _) rfl ((K.2.1 52 12 rfl).trans hg) ?_
        refine zw_lmul ((Int32.toInt64 (brim t)) * g) 51 f136_50 rfl rfl ?_
        refine zw_lsub (((lev t) + left) - ((Int32.toInt64 (brim t)) * g)) 52 f136_51 rfl rfl ?_
        refine zw_lstore _ 54 f136_52 rfl (by decide +kernel) rfl ?_
        refine zw_lload 56 f136_54 rfl zl2_eq ?_
        refine zw_lconst 0 57 f136_56 rfl (by decide +kernel) ?_
        refine zw_lcmp (lg_cmp (((lev t) + left) - ((Int32.toInt64 (brim t)) * g)) 0) 58 f136_57 rfl rfl ?_
        refine zw_if_le 61 66 f136_58 (by decide +kernel) rfl (fun hc2 => ?_) (fun hc2 => ?_)
        · refine zw_lconst 0 67 f136_66 rfl (by decide +kernel) ?_
          refine zw_lstore _ 69 f136_67 rfl (by decide +kernel) rfl ?_
          refine zw_aload_n 70 f136_69 rfl (zl2_ne rfl rfl (zl2_ne rfl rfl h0)) ?_
          refine zw_getfield 73 f136_70 rfl g136_44_12 (hb_52 _ _ _ _) rfl ?_
          refine zw_iload 75 f136_73 rfl (zl2_ne rfl rfl (zl2_ne rfl rfl h4)) ?_
          refine zw_dup2 76 f136_75 rfl rfl rfl ?_
          refine zw_laload t ((lev t) + left) 77 f136_76 rfl (hb_63 _ _ _ _) (nI_clamp (by omega)) (nI_pos (by omega)) (by omega) (if_pos rfl) ?_
          refine zw_lload 79 f136_77 rfl zl2_eq ?_
          refine zw_lsub (((lev t) + left) - 0) 80 f136_79 rfl rfl ?_
          refine zw_lst t _ 81 f136_80 rfl (hb_63 _ _ _ _) (nI_clamp (by omega)) (nI_pos (by omega)) (by omega) (ha_63 _ _ _ _ _) ?_
          refine zw_aload_n 82 f136_81 rfl (zl2_ne rfl rfl (zl2_ne rfl rfl h0)) ?_
          refine zw_getfield 85 f136_82 rfl g136_28_12 (hb_52 _ _ _ _) rfl ?_
          refine zw_iload 87 f136_85 rfl (zl2_ne rfl rfl (zl2_ne rfl rfl h4)) ?_
          refine zw_iaload t (over t) 88 f136_87 rfl (hb_59 _ _ _ _) (nI_clamp (by omega)) (nI_pos (by omega)) (by omega) (congrFun (((K.2.2.1 59 rfl).trans hov)) t) ?_
          refine zw_istore _ 90 f136_88 rfl (by decide +kernel) rfl ?_
          refine zw_goto 6 f136_90 (by decide +kernel) ?_
          have E := qPour_y (brim := brim) (over := over) (g := g) (n := n) (lev := lev) (dr := dr) (left := left) (w := nI t) (t := t) rfl (by omega) (Int64.not_le.mp (fun q => hc1 ((lg_cmp_le _ _).mpr q)))
          rw [show qL2 (((lev t) + left) - ((Int32.toInt64 (brim t)) * g)) = 0 from (qL2_n (Int64.not_lt.mpr ((lg_cmp_le _ _).mp hc2)))] at E
          rw [E]
          exact ih (t + 1) _ _ _ _ _ _ _ _ (KQ.b rfl (KQ.b rfl K)) hd (congrArg (fun z => vp_updL z t (((lev t) + left) - 0)) (congrArg (fun z => vp_updL z t ((lev t) + left)) (hl))) (hov ▸ (hP.2.2.1 t (by omega)).2.2.2.2.2) (by omega) (zl1_ne rfl rfl (zl2_ne rfl rfl (zl2_ne rfl rfl h0))) zl1_eq (zl1_ne rfl rfl zl2_eq)
        · refine zw_lload 63 f136_61 rfl zl2_eq ?_
          refine zw_goto 67 f136_63 (by decide +kernel) ?_
          refine zw_lstore _ 69 f136_67 rfl (by decide +kernel) rfl ?_
          refine zw_aload_n 70 f136_69 rfl (zl2_ne rfl rfl (zl2_ne rfl rfl h0)) ?_
          refine zw_getfield 73 f136_70 rfl g136_44_12 (hb_52 _ _ _ _) rfl ?_
          refine zw_iload 75 f136_73 rfl (zl2_ne rfl rfl (zl2_ne rfl rfl h4)) ?_
          refine zw_dup2 76 f136_75 rfl rfl rfl ?_
          refine zw_laload t ((lev t) + left) 77 f136_76 rfl (hb_63 _ _ _ _) (nI_clamp (by omega)) (nI_pos (by omega)) (by omega) (if_pos rfl) ?_
          refine zw_lload 79 f136_77 rfl zl2_eq ?_
          refine zw_lsub (((lev t) + left) - (((lev t) + left) - ((Int32.toInt64 (brim t)) * g))) 80 f136_79 rfl rfl ?_
          refine zw_lst t _ 81 f136_80 rfl (hb_63 _ _ _ _) (nI_clamp (by omega)) (nI_pos (by omega)) (by omega) (ha_63 _ _ _ _ _) ?_
          refine zw_aload_n 82 f136_81 rfl (zl2_ne rfl rfl (zl2_ne rfl rfl h0)) ?_
          refine zw_getfield 85 f136_82 rfl g136_28_12 (hb_52 _ _ _ _) rfl ?_
          refine zw_iload 87 f136_85 rfl (zl2_ne rfl rfl (zl2_ne rfl rfl h4)) ?_
          refine zw_iaload t (over t) 88 f136_87 rfl (hb_59 _ _ _ _) (nI_clamp (by omega)) (nI_pos (by omega)) (by omega) (congrFun (((K.2.2.1 59 rfl).trans hov)) t) ?_
          refine zw_istore _ 90 f136_88 rfl (by decide +kernel) rfl ?_
          refine zw_goto 6 f136_90 (by decide +kernel) ?_
          have E := qPour_y (brim := brim) (over := over) (g := g) (n := n) (lev := lev) (dr := dr) (left := left) (w := nI t) (t := t) rfl (by omega) (Int64.not_le.mp (fun q => hc1 ((lg_cmp_le _ _).mpr q)))
          rw [show qL2 (((lev t) + left) - ((Int32.toInt64 (brim t)) * g)) = (((lev t) + left) - ((Int32.toInt64 (brim t)) * g)) from (qL2_y (Int64.not_le.mp (fun q => hc2 ((lg_cmp_le _ _).mpr q))))] at E
          rw [E]
          exact ih (t + 1) _ _ _ _ _ _ _ _ (KQ.b rfl (KQ.b rfl K)) hd (congrArg (fun z => vp_updL z t (((lev t) + left) - (((lev t) + left) - ((Int32.toInt64 (brim t)) * g)))) (congrArg (fun z => vp_updL z t ((lev t) + left)) (hl))) (hov ▸ (hP.2.2.1 t (by omega)).2.2.2.2.2) (by omega) (zl1_ne rfl rfl (zl2_ne rfl rfl (zl2_ne rfl rfl h0))) zl1_eq (zl1_ne rfl rfl zl2_eq)
set_option maxRecDepth 100000 in
set_option maxHeartbeats 0 in
theorem mm_pour (ro : UInt32 → Nat × (Nat → Int32)) (nv np : Nat) (I : Nat → Nat → Int32) (G : Nat → Nat → Int64) (A : Nat → Nat → Int32) (B : Nat → Nat → Int64) (hP : MP nv np I A) (brim over : Nat → Int32) (g dr : Int64) (hbr : A 54 = brim) (hov : A 59 = over) (hg : G 52 12 = g) (lev : Nat → Int64) (hl : B 63 = lev) (hd : G 52 15 = dr) (w : Int32) (left : Int64) (hw : mTo nv 0 w) : zWp ro 136 0 [(0, .ref 52), (1, .int w), (2, .long left)] [] (hS I G A B) 0 0 (fun r h1 => ∃ I2 G2 A2 B2, h1 = hS I2 G2 A2 B2 ∧ KQ fW p63 I G A B I2 G2 A2 B2 ∧ (B2 63 = (qPour brim over g 9 lev dr w left).1 ∧ G2 52 15 = (qPour brim over g 9 lev dr w left).2) ∧ r = none) := by
  have hnv := hP.1.2
  refine zw_iload_n 1 f136_0 rfl rfl ?_
  refine zw_istore _ 3 f136_1 rfl (by decide +kernel) rfl ?_
  refine zw_lload_n 4 f136_3 rfl (zl1_ne rfl rfl rfl) ?_
  refine zw_lstore _ 6 f136_4 rfl (by decide +kernel) rfl ?_
  exact lmm_pour ro nv np I G A B hP brim over g dr hbr hov hg 9 0 _ _ _ _ _ lev w left KQ.rf hd hl hw (by omega) (zl2_ne rfl rfl (zl1_ne rfl rfl rfl)) (zl2_ne rfl rfl zl1_eq) zl2_eq
theorem qLR.k {pf : Nat → Nat → Bool} {pa : Nat → Bool} {I I1 : Nat → Nat → Int32} {G G1 : Nat → Nat → Int64} {A A1 : Nat → Nat → Int32} {B B1 : Nat → Nat → Int64} {L : qLog} (K : KQ pf pa I G A B I1 G1 A1 B1) (h1 : pf 52 20 = false) (h2 : pf 52 42 = false) (h3 : pa 67 = false) (h4 : pa 68 = false) (h5 : pa 69 = false) (h6 : pa 70 = false) (h : qLR I A B L) : qLR I1 A1 B1 L := ⟨(K.1 52 20 h1).trans h.1, (K.2.2.1 67 h3).trans h.2.1, (K.2.2.1 68 h4).trans h.2.2.1, (K.2.2.2 69 h5).trans h.2.2.2.1, (K.2.2.2 70 h6).trans h.2.2.2.2.1, (K.1 52 42 h2).trans h.2.2.2.2.2⟩
theorem mTo_0 {n lo : Nat} {x : Int32} (h : mTo n lo x) : mTo n 0 x := h.elim Or.inl (fun ⟨t, _, b, c⟩ => Or.inr ⟨t, Nat.zero_le _, b, c⟩)
def qMR (G : Nat → Nat → Int64) (A : Nat → Nat → Int32) (B : Nat → Nat → Int64) (m : qM) : Prop := B 63 = m.1 ∧ G 52 15 = m.2.1 ∧ A 65 = m.2.2.1 ∧ A 64 = m.2.2.2.1 ∧ A 66 = m.2.2.2.2.1
def qM0 (G : Nat → Nat → Int64) (A : Nat → Nat → Int32) (B : Nat → Nat → Int64) : qM := (B 63, G 52 15, A 65, A 64, A 66, [])
def qMoms (nv : Nat) (G : Nat → Nat → Int64) (A : Nat → Nat → Int32) (B : Nat → Nat → Int64) : qM := qMom (A 53) (A 54) (A 55) (A 56) (A 57) (A 58) (A 59) (G 52 12) nv (qM0 G A B)
/-- what stands behind a moment -/
def qAft (I2 : Nat → Nat → Int32) (G2 : Nat → Nat → Int64) (A2 : Nat → Nat → Int32) (B2 : Nat → Nat → Int64) (t sp g c : Int64) (m : qM) (L : qLog) : Prop := (∀ j, j < 8 → B2 63 j = m.1 j / c) ∧ (∀ j, 8 ≤ j → B2 63 j = m.1 j) ∧ G2 52 13 = t / c ∧ G2 52 14 = sp / c ∧ G2 52 15 = m.2.1 / c ∧ G2 52 12 = g / c ∧ A2 65 = m.2.2.1 ∧ A2 64 = m.2.2.2.1 ∧ A2 66 = m.2.2.2.2.1 ∧ qLR I2 A2 B2 L
theorem k34 : ¬ (3 : Int32) = 4 := by decide
set_option maxRecDepth 100000 in
set_option maxHeartbeats 0 in
theorem lmm_moment_197 (ro : UInt32 → Nat × (Nat → Int32)) (nv np : Nat) (I : Nat → Nat → Int32) (G : Nat → Nat → Int64) (A : Nat → Nat → Int32) (B : Nat → Nat → Int64) (hP : MP nv np I A) (hB : MB A) (hg : ¬ G 52 12 = 0) (L : qLog) (hL : qLR I A B L) (hn : L.1 < 1000000000) : ∀ (n k : Nat) (ls : List (Nat × Value)) (I1 : Nat → Nat → Int32) (G1 : Nat → Nat → Int64) (A1 : Nat → Nat → Int32) (B1 : Nat → Nat → Int64) (lev : Nat → Int64) (dr : Int64) (sip opn cnt : Nat → Int32) (ev : List (Int32 × Int32)), KQ fM1 pM1 I G A B I1 G1 A1 B1 → qIt (qFlo1 (A 53) (A 55) (A 56) (A 57) (G 52 12)) (qIt (qSip1 (A 53) (A 55) (G 52 12)) (qIt (qTip1 (A 53) (A 54) (A 58) (A 59) (G 52 12)) (qM0 G A B) nv) nv) k = (lev, dr, sip, opn, cnt, ev) → qMR G1 A1 B1 (lev, dr, sip, opn, cnt, ev) → qLR I1 A1 B1 (qNotes (I 52 22) (G 52 13) (G 52 12) (I 52 41) L ev) → ev.length ≤ 2 * nv + k → zld ls 0 = some (.ref 52) → zld ls 1 = some (.int (nI k)) → k ≤ nv → nv + 1 ≤ k + n → zWp ro 138 197 ls [] (hS I1 G1 A1 B1) 0 0 (fun r h1 => ∃ I2 G2 A2 B2, h1 = hS I2 G2 A2 B2 ∧ KQ fMo pM1 I G A B I2 G2 A2 B2 ∧ qAft I2 G2 A2 B2 (G 52 13) (G 52 14) (G 52 12) (qLc (G 52 13) (G 52 14) (qMoms nv G A B).2.1 (G 52 12) (qMoms nv G A B).1 8) (qMoms nv G A B) (qNotes (I 52 22) (G 52 13) (G 52 12) (I 52 41) L (qMoms nv G A B).2.2.2.2.2) ∧ r = none) := by
  have hnv := hP.1.2
  have hnp := hP.2.1.2
  intro n
  induction n with
  | zero =>
    intro k ls I1 G1 A1 B1 lev dr sip opn cnt ev _ _ _ _ _ _ _ a b
    exact absurd b (by omega)
  | succ n ih =>
    intro k ls I1 G1 A1 B1 lev dr sip opn cnt ev K hm hM hQ he h0 h1 hk1 hk2
    refine zw_iload_n 198 f138_197 rfl h1 ?_
    refine zw_aload_n 199 f138_198 rfl h0 ?_
    refine zw_getI (nI nv) 202 f138_199 rfl g138_114_12 (hb_52 _ _ _ _) rfl ((K.1 52 0 rfl).trans hP.1.1) ?_
    refine zw_ic_ge 205 234 f138_202 (by decide +kernel) rfl (fun hc1 => ?_) (fun hc1 => ?_)
    · have hn_hc1 : nv ≤ k := zn_ge (by omega) (by omega) hc1
      refine zw_aload_n 235 f138_234 rfl h0 ?_
      refine zw_virtual_v 238 0 0 [.ref 52] [(0, .ref 52)] f138_235 rfl n138_199 k138_199_12 rfl (hb_52 _ _ _ _) (by decide +kernel) (Nat.le_of_ble_eq_true rfl) rfl rfl (by decide +kernel) (by decide +kernel) rfl (Nat.le_of_ble_eq_true rfl) rfl ?_
      refine zWp.mono (mm_lowest ro _ _ _ _ (by rw [(K.2.1 52 12 rfl)]; exact hg)) ?_
      rintro r h1 ⟨I_z, G_z, A_z, B_z, rfl, K_z, P_z, rfl⟩
      refine ⟨rfl, ?_⟩
      have EL := mLc_q (K.2.1 52 13 rfl) (K.2.1 52 14 rfl) hM.2.1 (K.2.1 52 12 rfl) hM.1 8
      rw [EL, (K.2.1 52 13 rfl), (K.2.1 52 14 rfl), hM.2.1, (K.2.1 52 12 rfl)] at P_z
      have N_z := qLR.k K_z rfl rfl rfl rfl rfl rfl hQ
      refine zw_vreturn f138_238 r138 u138 ?_
      have hk : k = nv := by omega
      rw [hk] at hm
      have EM : qMoms nv G A B = (lev, dr, sip, opn, cnt, ev) := hm
      rw [EM]
      exact ⟨_, _, _, _, rfl, (KQ.tr (KQ.wk K fM1_Mo (fun _ h => h)) (KQ.wk K_z fP_Mo p63_M1)), ⟨fun j hj => (P_z.1 j hj).trans (by rw [hM.1]), fun j hj => (P_z.2.2.2.2.2 j hj).trans (congrFun hM.1 j), P_z.2.1, P_z.2.2.1, P_z.2.2.2.1, P_z.2.2.2.2.1, (K_z.2.2.1 65 rfl).trans hM.2.2.1, (K_z.2.2.1 64 rfl).trans hM.2.2.2.1, (K_z.2.2.1 66 rfl).trans hM.2.2.2.2, N_z⟩, rfl⟩
    · have hn_hc1 : k < nv := zn_lt (by omega) (by omega) hc1
      refine zw_aload_n 206 f138_205 rfl h0 ?_
      refine zw_iload_n 207 f138_206 rfl h1 ?_
      refine zw_virtual_i 210 0 0 [.ref 52, .int (nI k)] [(0, .ref 52), (1, .int (nI k))] f138_207 rfl n138_158 k138_158_12 rfl (hb_52 _ _ _ _) (by decide +kernel) (Nat.le_of_ble_eq_true rfl) rfl rfl (by decide +kernel) (by decide +kernel) rfl (Nat.le_of_ble_eq_true rfl) rfl ?_
      refine zw_aload_n 1 f126_0 rfl rfl ?_
      refine zw_getfield 4 f126_1 rfl g126_7_12 (hb_52 _ _ _ _) rfl ?_
      refine zw_iload_n 5 f126_4 rfl rfl ?_
      refine zw_iaload k (A 53 k) 6 f126_5 rfl (hb_53 _ _ _ _) (nI_clamp (by omega)) (nI_pos (by omega)) (by omega) (congrFun ((K.2.2.1 53 rfl)) k) ?_
      refine zw_iconst 3 7 f126_6 rfl (by decide +kernel) ?_
      refine zw_ic_eq 10 20 f126_7 (by decide +kernel) rfl (fun hc2 => ?_) (fun hc2 => ?_)
      · refine zw_iconst 1 21 f126_20 rfl (by decide +kernel) ?_
        refine zw_goto 25 f126_21 (by decide +kernel) ?_
        refine zw_zreturn f126_25 r126 u126 (by decide +kernel) ⟨_, rfl, ?_⟩
        refine zw_if_eq_f 213 228 f138_210 (by decide +kernel) rfl (by decide +kernel) ?_
        refine zw_aload_n 214 f138_213 rfl h0 ?_
        refine zw_getfield 217 f138_214 rfl g138_22_12 (hb_52 _ _ _ _) rfl ?_
        refine zw_iload_n 218 f138_217 rfl h1 ?_
        rcases (hP.2.2.1 k (by omega)).2.2.2.1 with t3q | ⟨t3, t3l, t3n, t3q⟩
        · refine zw_iaload k (-1) 219 f138_218 rfl (hb_57 _ _ _ _) (nI_clamp (by omega)) (nI_pos (by omega)) (by omega) ((congrFun (K.2.2.1 57 rfl) k).trans t3q) ?_
          refine zw_iconst (-1) 220 f138_219 rfl (by decide +kernel) ?_
          refine zw_ic_eq_t 228 f138_220 (by decide +kernel) (by decide +kernel) ?_
          refine zw_iinc (nI (k + 1)) _ 231 f138_228 rfl h1 (by decide +kernel) (nI_1 _) rfl ?_
          refine zw_goto 197 f138_231 (by decide +kernel) ?_
          have E : qIt (qFlo1 (A 53) (A 55) (A 56) (A 57) (G 52 12)) (qIt (qSip1 (A 53) (A 55) (G 52 12)) (qIt (qTip1 (A 53) (A 54) (A 58) (A 59) (G 52 12)) (qM0 G A B) nv) nv) (k + 1) = (lev, dr, sip, opn, cnt, ev) := by
            rw [qIt_s, hm]
            exact qFlo1_b t3q
          exact ih (k + 1) _ _ _ _ _ _ _ _ _ _ _ K E ⟨hM.1, hM.2.1, hM.2.2.1, hM.2.2.2.1, hM.2.2.2.2⟩ hQ (by omega) (zl1_ne rfl rfl h0) zl1_eq (by omega) (by omega)
        · refine zw_iaload k (nI t3) 219 f138_218 rfl (hb_57 _ _ _ _) (nI_clamp (by omega)) (nI_pos (by omega)) (by omega) ((congrFun (K.2.2.1 57 rfl) k).trans t3q) ?_
          refine zw_iconst (-1) 220 f138_219 rfl (by decide +kernel) ?_
          refine zw_ic_eq_f 223 228 f138_220 (by decide +kernel) rfl (nI_nem (by omega)) ?_
          refine zw_aload_n 224 f138_223 rfl h0 ?_
          refine zw_iload_n 225 f138_224 rfl h1 ?_
          refine zw_virtual_v 228 0 0 [.ref 52, .int (nI k)] [(0, .ref 52), (1, .int (nI k))] f138_225 rfl n138_196 k138_196_12 rfl (hb_52 _ _ _ _) (by decide +kernel) (Nat.le_of_ble_eq_true rfl) rfl rfl (by decide +kernel) (by decide +kernel) rfl (Nat.le_of_ble_eq_true rfl) rfl ?_
          refine zw_aload_n 1 f139_0 rfl rfl ?_
          refine zw_getfield 4 f139_1 rfl g139_48_12 (hb_52 _ _ _ _) rfl ?_
          refine zw_aload_n 5 f139_4 rfl rfl ?_
          refine zw_getfield 8 f139_5 rfl g139_22_12 (hb_52 _ _ _ _) rfl ?_
          refine zw_iload_n 9 f139_8 rfl rfl ?_
          refine zw_iaload k (nI t3) 10 f139_9 rfl (hb_57 _ _ _ _) (nI_clamp (by omega)) (nI_pos (by omega)) (by omega) ((congrFun (K.2.2.1 57 rfl) k).trans t3q) ?_
          refine zw_baload t3 (opn t3) 11 f139_10 rfl (hb_64 _ _ _ _) (nI_clamp (by omega)) (nI_pos (by omega)) (by omega) (congrFun (hM.2.2.2.1) t3) ?_
          refine zw_if_eq 14 81 f139_11 (by decide +kernel) rfl (fun hc4 => ?_) (fun hc4 => ?_)
          · refine zw_aload_n 82 f139_81 rfl rfl ?_
            refine zw_getfield 85 f139_82 rfl g139_48_12 (hb_52 _ _ _ _) rfl ?_
            refine zw_aload_n 86 f139_85 rfl rfl ?_
            refine zw_getfield 89 f139_86 rfl g139_22_12 (hb_52 _ _ _ _) rfl ?_
            refine zw_iload_n 90 f139_89 rfl rfl ?_
            refine zw_iaload k (nI t3) 91 f139_90 rfl (hb_57 _ _ _ _) (nI_clamp (by omega)) (nI_pos (by omega)) (by omega) ((congrFun (K.2.2.1 57 rfl) k).trans t3q) ?_
            refine zw_baload t3 (opn t3) 92 f139_91 rfl (hb_64 _ _ _ _) (nI_clamp (by omega)) (nI_pos (by omega)) (by omega) (congrFun (hM.2.2.2.1) t3) ?_
            refine zw_if_ne_f 95 135 f139_92 (by decide +kernel) rfl (fun q => q hc4) ?_
            refine zw_aload_n 96 f139_95 rfl rfl ?_
            refine zw_getfield 99 f139_96 rfl g139_44_12 (hb_52 _ _ _ _) rfl ?_
            refine zw_iload_n 100 f139_99 rfl rfl ?_
            refine zw_laload k (lev k) 101 f139_100 rfl (hb_63 _ _ _ _) (nI_clamp (by omega)) (nI_pos (by omega)) (by omega) (congrFun (hM.1) k) ?_
            refine zw_aload_n 102 f139_101 rfl rfl ?_
            refine zw_getfield 105 f139_102 rfl g139_19_12 (hb_52 _ _ _ _) rfl ?_
            refine zw_iload_n 106 f139_105 rfl rfl ?_
            refine zw_iaload k (A 56 k) 107 f139_106 rfl (hb_56 _ _ _ _) (nI_clamp (by omega)) (nI_pos (by omega)) (by omega) (congrFun ((K.2.2.1 56 rfl)) k) ?_
            refine zw_i2l (Int32.toInt64 (A 56 k)) 108 f139_107 rfl rfl ?_
            refine zw_aload_n 109 f139_108 rfl rfl ?_
            refine zw_getG (G 52 12) 112 f139_109 rfl g139_40_12 (hb_52 _ _ _ _) rfl (K.2.1 52 12 rfl) ?_
            refine zw_lmul ((Int32.toInt64 (A 56 k)) * (G 52 12)) 113 f139_112 rfl rfl ?_
            refine zw_lcmp (lg_cmp (lev k) ((Int32.toInt64 (A 56 k)) * (G 52 12))) 114 f139_113 rfl rfl ?_
            refine zw_if_gt 117 135 f139_114 (by decide +kernel) rfl (fun hc5 => ?_) (fun hc5 => ?_)
            · refine zw_vreturn f139_135 r139 u139 ⟨rfl, ?_⟩
              refine zw_iinc (nI (k + 1)) _ 231 f138_228 rfl h1 (by decide +kernel) (nI_1 _) rfl ?_
              refine zw_goto 197 f138_231 (by decide +kernel) ?_
              have E : qIt (qFlo1 (A 53) (A 55) (A 56) (A 57) (G 52 12)) (qIt (qSip1 (A 53) (A 55) (G 52 12)) (qIt (qTip1 (A 53) (A 54) (A 58) (A 59) (G 52 12)) (qM0 G A B) nv) nv) (k + 1) = (lev, dr, sip, opn, cnt, ev) := by
                rw [qIt_s, hm]
                exact (qFlo1_o (Or.inl hc2) t3q (by omega)).trans (qFlo2_c hc4 (Int64.not_le.mpr ((lg_cmp_gt _ _).mp hc5)))
              exact ih (k + 1) _ _ _ _ _ _ _ _ _ _ _ K E ⟨hM.1, hM.2.1, hM.2.2.1, hM.2.2.2.1, hM.2.2.2.2⟩ hQ (by omega) (zl1_ne rfl rfl h0) zl1_eq (by omega) (by omega)
            · refine zw_aload_n 118 f139_117 rfl rfl ?_
              refine zw_getfield 121 f139_118 rfl g139_48_12 (hb_52 _ _ _ _) rfl ?_
              refine zw_aload_n 122 f139_121 rfl rfl ?_
              refine zw_getfield 125 f139_122 rfl g139_22_12 (hb_52 _ _ _ _) rfl ?_
              refine zw_iload_n 126 f139_125 rfl rfl ?_
              refine zw_iaload k (nI t3) 127 f139_126 rfl (hb_57 _ _ _ _) (nI_clamp (by omega)) (nI_pos (by omega)) (by omega) ((congrFun (K.2.2.1 57 rfl) k).trans t3q) ?_
              refine zw_iconst 1 128 f139_127 rfl (by decide +kernel) ?_
              refine zw_bst t3 _ 129 f139_128 rfl (hb_64 _ _ _ _) (nI_clamp (by omega)) (nI_pos (by omega)) (by omega) (ha_64 _ _ _ _ _) ?_
              refine zw_aload_n 130 f139_129 rfl rfl ?_
              refine zw_iconst 5 131 f139_130 rfl (by decide +kernel) ?_
              refine zw_iload_n 132 f139_131 rfl rfl ?_
              refine zw_virtual_v 135 0 0 [.ref 52, .int 5, .int (nI k)] [(0, .ref 52), (1, .int 5), (2, .int (nI k))] f139_132 rfl n139_189 k139_189_12 rfl (hb_52 _ _ _ _) (by decide +kernel) (Nat.le_of_ble_eq_true rfl) rfl rfl (by decide +kernel) (by decide +kernel) rfl (Nat.le_of_ble_eq_true rfl) rfl ?_
              refine zWp.mono (mm_note ro _ _ _ _ (I 52 22) (G 52 13) (G 52 12) (I 52 41) 5 (nI k) _ (K.1 52 22 rfl) (K.2.1 52 13 rfl) (K.2.1 52 12 rfl) (K.1 52 41 rfl) hQ (by have q := qNotes_1 (rec := I 52 22) (t := G 52 13) (g := G 52 12) (sought := I 52 41) (L := L) ev; omega)) ?_
              rintro r h1 ⟨I_6, G_6, A_6, B_6, rfl, K_6, N_6, rfl⟩
              refine ⟨rfl, ?_⟩
              rw [← qNotes_s] at N_6
              refine zw_vreturn f139_135 r139 u139 ⟨rfl, ?_⟩
              refine zw_iinc (nI (k + 1)) _ 231 f138_228 rfl h1 (by decide +kernel) (nI_1 _) rfl ?_
              refine zw_goto 197 f138_231 (by decide +kernel) ?_
              have E : qIt (qFlo1 (A 53) (A 55) (A 56) (A 57) (G 52 12)) (qIt (qSip1 (A 53) (A 55) (G 52 12)) (qIt (qTip1 (A 53) (A 54) (A 58) (A 59) (G 52 12)) (qM0 G A B) nv) nv) (k + 1) = (lev, dr, sip, (upd opn t3 1), cnt, (ev ++ [(5, (nI k))])) := by
                rw [qIt_s, hm]
                exact (qFlo1_o (Or.inl hc2) t3q (by omega)).trans (qFlo2_z hc4 (Int64.not_lt.mp (fun q => hc5 ((lg_cmp_gt _ _).mpr q))))
              exact ih (k + 1) _ _ _ _ _ _ _ _ _ _ _ (KQ.tr (KQ.a rfl K) (KQ.wk K_6 fE_M1 pE_M1)) E ⟨((K_6.2.2.2 63 rfl).trans hM.1), ((K_6.2.1 52 15 rfl).trans hM.2.1), ((K_6.2.2.1 65 rfl).trans hM.2.2.1), ((K_6.2.2.1 64 rfl).trans (((congrArg (fun z => upd z t3 (vp_nar .boolean 1)) (hM.2.2.2.1))).trans (by rw [vnar_1]))), ((K_6.2.2.1 66 rfl).trans hM.2.2.2.2)⟩ N_6 (by simp only [List.length_append, List.length_cons, List.length_nil]; omega) (zl1_ne rfl rfl h0) zl1_eq (by omega) (by omega)
          · refine zw_aload_n 15 f139_14 rfl rfl ?_
            refine zw_getfield 18 f139_15 rfl g139_44_12 (hb_52 _ _ _ _) rfl ?_
            refine zw_iload_n 19 f139_18 rfl rfl ?_
            refine zw_laload k (lev k) 20 f139_19 rfl (hb_63 _ _ _ _) (nI_clamp (by omega)) (nI_pos (by omega)) (by omega) (congrFun (hM.1) k) ?_
            refine zw_aload_n 21 f139_20 rfl rfl ?_
            refine zw_getfield 24 f139_21 rfl g139_16_12 (hb_52 _ _ _ _) rfl ?_
            refine zw_iload_n 25 f139_24 rfl rfl ?_
            refine zw_iaload k (A 55 k) 26 f139_25 rfl (hb_55 _ _ _ _) (nI_clamp (by omega)) (nI_pos (by omega)) (by omega) (congrFun ((K.2.2.1 55 rfl)) k) ?_
            refine zw_i2l (Int32.toInt64 (A 55 k)) 27 f139_26 rfl rfl ?_
            refine zw_aload_n 28 f139_27 rfl rfl ?_
            refine zw_getG (G 52 12) 31 f139_28 rfl g139_40_12 (hb_52 _ _ _ _) rfl (K.2.1 52 12 rfl) ?_
            refine zw_lmul ((Int32.toInt64 (A 55 k)) * (G 52 12)) 32 f139_31 rfl rfl ?_
            refine zw_lcmp (lg_cmp (lev k) ((Int32.toInt64 (A 55 k)) * (G 52 12))) 33 f139_32 rfl rfl ?_
            refine zw_if_lt 36 81 f139_33 (by decide +kernel) rfl (fun hc7 => ?_) (fun hc7 => ?_)
            · refine zw_aload_n 82 f139_81 rfl rfl ?_
              refine zw_getfield 85 f139_82 rfl g139_48_12 (hb_52 _ _ _ _) rfl ?_
              refine zw_aload_n 86 f139_85 rfl rfl ?_
              refine zw_getfield 89 f139_86 rfl g139_22_12 (hb_52 _ _ _ _) rfl ?_
              refine zw_iload_n 90 f139_89 rfl rfl ?_
              refine zw_iaload k (nI t3) 91 f139_90 rfl (hb_57 _ _ _ _) (nI_clamp (by omega)) (nI_pos (by omega)) (by omega) ((congrFun (K.2.2.1 57 rfl) k).trans t3q) ?_
              refine zw_baload t3 (opn t3) 92 f139_91 rfl (hb_64 _ _ _ _) (nI_clamp (by omega)) (nI_pos (by omega)) (by omega) (congrFun (hM.2.2.2.1) t3) ?_
              refine zw_if_ne_t 135 f139_92 (by decide +kernel) hc4 ?_
              refine zw_vreturn f139_135 r139 u139 ⟨rfl, ?_⟩
              refine zw_iinc (nI (k + 1)) _ 231 f138_228 rfl h1 (by decide +kernel) (nI_1 _) rfl ?_
              refine zw_goto 197 f138_231 (by decide +kernel) ?_
              have E : qIt (qFlo1 (A 53) (A 55) (A 56) (A 57) (G 52 12)) (qIt (qSip1 (A 53) (A 55) (G 52 12)) (qIt (qTip1 (A 53) (A 54) (A 58) (A 59) (G 52 12)) (qM0 G A B) nv) nv) (k + 1) = (lev, dr, sip, opn, cnt, ev) := by
                rw [qIt_s, hm]
                exact (qFlo1_o (Or.inl hc2) t3q (by omega)).trans (qFlo2_b hc4 (Int64.not_le.mpr ((lg_cmp_lt _ _).mp hc7)))
              exact ih (k + 1) _ _ _ _ _ _ _ _ _ _ _ K E ⟨hM.1, hM.2.1, hM.2.2.1, hM.2.2.2.1, hM.2.2.2.2⟩ hQ (by omega) (zl1_ne rfl rfl h0) zl1_eq (by omega) (by omega)
            · refine zw_aload_n 37 f139_36 rfl rfl ?_
              refine zw_getfield 40 f139_37 rfl g139_48_12 (hb_52 _ _ _ _) rfl ?_
              refine zw_aload_n 41 f139_40 rfl rfl ?_
              refine zw_getfield 44 f139_41 rfl g139_22_12 (hb_52 _ _ _ _) rfl ?_
              refine zw_iload_n 45 f139_44 rfl rfl ?_
              refine zw_iaload k (nI t3) 46 f139_45 rfl (hb_57 _ _ _ _) (nI_clamp (by omega)) (nI_pos (by omega)) (by omega) ((congrFun (K.2.2.1 57 rfl) k).trans t3q) ?_
              refine zw_iconst 0 47 f139_46 rfl (by decide +kernel) ?_
              refine zw_bst t3 _ 48 f139_47 rfl (hb_64 _ _ _ _) (nI_clamp (by omega)) (nI_pos (by omega)) (by omega) (ha_64 _ _ _ _ _) ?_
              refine zw_aload_n 49 f139_48 rfl rfl ?_
              refine zw_getfield 52 f139_49 rfl g139_55_12 (hb_52 _ _ _ _) rfl ?_
              refine zw_iload_n 53 f139_52 rfl rfl ?_
              refine zw_dup2 54 f139_53 rfl rfl rfl ?_
              refine zw_iaload k (cnt k) 55 f139_54 rfl (hb_66 _ _ _ _) (nI_clamp (by omega)) (nI_pos (by omega)) (by omega) (congrFun (hM.2.2.2.2) k) ?_
              refine zw_aload_n 56 f139_55 rfl rfl ?_
              refine zw_getfield 59 f139_56 rfl g139_7_12 (hb_52 _ _ _ _) rfl ?_
              refine zw_iload_n 60 f139_59 rfl rfl ?_
              refine zw_iaload k (A 53 k) 61 f139_60 rfl (hb_53 _ _ _ _) (nI_clamp (by omega)) (nI_pos (by omega)) (by omega) (congrFun ((K.2.2.1 53 rfl)) k) ?_
              refine zw_iconst 4 62 f139_61 rfl (by decide +kernel) ?_
              refine zw_ic_ne 65 69 f139_62 (by decide +kernel) rfl (fun hc8 => ?_) (fun hc8 => ?_)
              · refine zw_iconst 0 70 f139_69 rfl (by decide +kernel) ?_
                refine zw_iadd ((cnt k) + 0) 71 f139_70 rfl rfl ?_
                refine zw_ast k _ 72 f139_71 rfl (hb_66 _ _ _ _) (nI_clamp (by omega)) (nI_pos (by omega)) (by omega) (ha_66 _ _ _ _ _) ?_
                refine zw_aload_n 73 f139_72 rfl rfl ?_
                refine zw_iconst 4 74 f139_73 rfl (by decide +kernel) ?_
                refine zw_iload_n 75 f139_74 rfl rfl ?_
                refine zw_virtual_v 78 0 0 [.ref 52, .int 4, .int (nI k)] [(0, .ref 52), (1, .int 4), (2, .int (nI k))] f139_75 rfl n139_189 k139_189_12 rfl (hb_52 _ _ _ _) (by decide +kernel) (Nat.le_of_ble_eq_true rfl) rfl rfl (by decide +kernel) (by decide +kernel) rfl (Nat.le_of_ble_eq_true rfl) rfl ?_
                refine zWp.mono (mm_note ro _ _ _ _ (I 52 22) (G 52 13) (G 52 12) (I 52 41) 4 (nI k) _ (K.1 52 22 rfl) (K.2.1 52 13 rfl) (K.2.1 52 12 rfl) (K.1 52 41 rfl) hQ (by have q := qNotes_1 (rec := I 52 22) (t := G 52 13) (g := G 52 12) (sought := I 52 41) (L := L) ev; omega)) ?_
                rintro r h1 ⟨I_9, G_9, A_9, B_9, rfl, K_9, N_9, rfl⟩
                refine ⟨rfl, ?_⟩
                rw [← qNotes_s] at N_9
                refine zw_goto 135 f139_78 (by decide +kernel) ?_
                refine zw_vreturn f139_135 r139 u139 ⟨rfl, ?_⟩
                refine zw_iinc (nI (k + 1)) _ 231 f138_228 rfl h1 (by decide +kernel) (nI_1 _) rfl ?_
                refine zw_goto 197 f138_231 (by decide +kernel) ?_
                have E : qIt (qFlo1 (A 53) (A 55) (A 56) (A 57) (G 52 12)) (qIt (qSip1 (A 53) (A 55) (G 52 12)) (qIt (qTip1 (A 53) (A 54) (A 58) (A 59) (G 52 12)) (qM0 G A B) nv) nv) (k + 1) = (lev, dr, sip, (upd opn t3 0), (upd cnt k ((cnt k) + 0)), (ev ++ [(4, (nI k))])) := by
                  rw [qIt_s, hm]
                  exact (qFlo1_o (Or.inl hc2) t3q (by omega)).trans (qFlo2_y hc4 (Int64.not_lt.mp (fun q => hc7 ((lg_cmp_lt _ _).mpr q))) (if_neg hc8))
                exact ih (k + 1) _ _ _ _ _ _ _ _ _ _ _ (KQ.tr (KQ.a rfl (KQ.a rfl K)) (KQ.wk K_9 fE_M1 pE_M1)) E ⟨((K_9.2.2.2 63 rfl).trans hM.1), ((K_9.2.1 52 15 rfl).trans hM.2.1), ((K_9.2.2.1 65 rfl).trans hM.2.2.1), ((K_9.2.2.1 64 rfl).trans (((congrArg (fun z => upd z t3 (vp_nar .boolean 0)) (hM.2.2.2.1))).trans (by rw [vnar_0]))), ((K_9.2.2.1 66 rfl).trans (congrArg (fun z => upd z k ((cnt k) + 0)) (hM.2.2.2.2)))⟩ N_9 (by simp only [List.length_append, List.length_cons, List.length_nil]; omega) (zl1_ne rfl rfl h0) zl1_eq (by omega) (by omega)
              · refine zw_iconst 1 66 f139_65 rfl (by decide +kernel) ?_
                refine zw_goto 70 f139_66 (by decide +kernel) ?_
                refine zw_iadd ((cnt k) + 1) 71 f139_70 rfl rfl ?_
                refine zw_ast k _ 72 f139_71 rfl (hb_66 _ _ _ _) (nI_clamp (by omega)) (nI_pos (by omega)) (by omega) (ha_66 _ _ _ _ _) ?_
                refine zw_aload_n 73 f139_72 rfl rfl ?_
                refine zw_iconst 4 74 f139_73 rfl (by decide +kernel) ?_
                refine zw_iload_n 75 f139_74 rfl rfl ?_
                refine zw_virtual_v 78 0 0 [.ref 52, .int 4, .int (nI k)] [(0, .ref 52), (1, .int 4), (2, .int (nI k))] f139_75 rfl n139_189 k139_189_12 rfl (hb_52 _ _ _ _) (by decide +kernel) (Nat.le_of_ble_eq_true rfl) rfl rfl (by decide +kernel) (by decide +kernel) rfl (Nat.le_of_ble_eq_true rfl) rfl ?_
                refine zWp.mono (mm_note ro _ _ _ _ (I 52 22) (G 52 13) (G 52 12) (I 52 41) 4 (nI k) _ (K.1 52 22 rfl) (K.2.1 52 13 rfl) (K.2.1 52 12 rfl) (K.1 52 41 rfl) hQ (by have q := qNotes_1 (rec := I 52 22) (t := G 52 13) (g := G 52 12) (sought := I 52 41) (L := L) ev; omega)) ?_
                rintro r h1 ⟨I_10, G_10, A_10, B_10, rfl, K_10, N_10, rfl⟩
                refine ⟨rfl, ?_⟩
                rw [← qNotes_s] at N_10
                refine zw_goto 135 f139_78 (by decide +kernel) ?_
                refine zw_vreturn f139_135 r139 u139 ⟨rfl, ?_⟩
                refine zw_iinc (nI (k + 1)) _ 231 f138_228 rfl h1 (by decide +kernel) (nI_1 _) rfl ?_
                refine zw_goto 197 f138_231 (by decide +kernel) ?_
                have E : qIt (qFlo1 (A 53) (A 55) (A 56) (A 57) (G 52 12)) (qIt (qSip1 (A 53) (A 55) (G 52 12)) (qIt (qTip1 (A 53) (A 54) (A 58) (A 59) (G 52 12)) (qM0 G A B) nv) nv) (k + 1) = (lev, dr, sip, (upd opn t3 0), (upd cnt k ((cnt k) + 1)), (ev ++ [(4, (nI k))])) := by
                  rw [qIt_s, hm]
                  exact (qFlo1_o (Or.inl hc2) t3q (by omega)).trans (qFlo2_y hc4 (Int64.not_lt.mp (fun q => hc7 ((lg_cmp_lt _ _).mpr q))) (if_pos (Decidable.of_not_not hc8)))
                exact ih (k + 1) _ _ _ _ _ _ _ _ _ _ _ (KQ.tr (KQ.a rfl (KQ.a rfl K)) (KQ.wk K_10 fE_M1 pE_M1)) E ⟨((K_10.2.2.2 63 rfl).trans hM.1), ((K_10.2.1 52 15 rfl).trans hM.2.1), ((K_10.2.2.1 65 rfl).trans hM.2.2.1), ((K_10.2.2.1 64 rfl).trans (((congrArg (fun z => upd z t3 (vp_nar .boolean 0)) (hM.2.2.2.1))).trans (by rw [vnar_0]))), ((K_10.2.2.1 66 rfl).trans (congrArg (fun z => upd z k ((cnt k) + 1)) (hM.2.2.2.2)))⟩ N_10 (by simp only [List.length_append, List.length_cons, List.length_nil]; omega) (zl1_ne rfl rfl h0) zl1_eq (by omega) (by omega)
      · refine zw_aload_n 11 f126_10 rfl rfl ?_
        refine zw_getfield 14 f126_11 rfl g126_7_12 (hb_52 _ _ _ _) rfl ?_
        refine zw_iload_n 15 f126_14 rfl rfl ?_
        refine zw_iaload k (A 53 k) 16 f126_15 rfl (hb_53 _ _ _ _) (nI_clamp (by omega)) (nI_pos (by omega)) (by omega) (congrFun ((K.2.2.1 53 rfl)) k) ?_
        refine zw_iconst 4 17 f126_16 rfl (by decide +kernel) ?_
        refine zw_ic_ne 20 24 f126_17 (by decide +kernel) rfl (fun hc11 => ?_) (fun hc11 => ?_)
        · refine zw_iconst 0 25 f126_24 rfl (by decide +kernel) ?_
          refine zw_zreturn f126_25 r126 u126 (by decide +kernel) ⟨_, rfl, ?_⟩
          refine zw_if_eq_t 228 f138_210 (by decide +kernel) (by decide +kernel) ?_
          refine zw_iinc (nI (k + 1)) _ 231 f138_228 rfl h1 (by decide +kernel) (nI_1 _) rfl ?_
          refine zw_goto 197 f138_231 (by decide +kernel) ?_
          have E : qIt (qFlo1 (A 53) (A 55) (A 56) (A 57) (G 52 12)) (qIt (qSip1 (A 53) (A 55) (G 52 12)) (qIt (qTip1 (A 53) (A 54) (A 58) (A 59) (G 52 12)) (qM0 G A B) nv) nv) (k + 1) = (lev, dr, sip, opn, cnt, ev) := by
            rw [qIt_s, hm]
            exact qFlo1_a hc2 hc11
          exact ih (k + 1) _ _ _ _ _ _ _ _ _ _ _ K E ⟨hM.1, hM.2.1, hM.2.2.1, hM.2.2.2.1, hM.2.2.2.2⟩ hQ (by omega) (zl1_ne rfl rfl h0) zl1_eq (by omega) (by omega)
        · refine zw_iconst 1 21 f126_20 rfl (by decide +kernel) ?_
          refine zw_goto 25 f126_21 (by decide +kernel) ?_
          refine zw_zreturn f126_25 r126 u126 (by decide +kernel) ⟨_, rfl, ?_⟩
          refine zw_if_eq_f 213 228 f138_210 (by decide +kernel) rfl (by decide +kernel) ?_
          refine zw_aload_n 214 f138_213 rfl h0 ?_
          refine zw_getfield 217 f138_214 rfl g138_22_12 (hb_52 _ _ _ _) rfl ?_
          refine zw_iload_n 218 f138_217 rfl h1 ?_
          rcases (hP.2.2.1 k (by omega)).2.2.2.1 with t12q | ⟨t12, t12l, t12n, t12q⟩
          · refine zw_iaload k (-1) 219 f138_218 rfl (hb_57 _ _ _ _) (nI_clamp (by omega)) (nI_pos (by omega)) (by omega) ((congrFun (K.2.2.1 57 rfl) k).trans t12q) ?_
            refine zw_iconst (-1) 220 f138_219 rfl (by decide +kernel) ?_
            refine zw_ic_eq_t 228 f138_220 (by decide +kernel) (by decide +kernel) ?_
            refine zw_iinc (nI (k + 1)) _ 231 f138_228 rfl h1 (by decide +kernel) (nI_1 _) rfl ?_
            refine zw_goto 197 f138_231 (by decide +kernel) ?_
            have E : qIt (qFlo1 (A 53) (A 55) (A 56) (A 57) (G 52 12)) (qIt (qSip1 (A 53) (A 55) (G 52 12)) (qIt (qTip1 (A 53) (A 54) (A 58) (A 59) (G 52 12)) (qM0 G A B) nv) nv) (k + 1) = (lev, dr, sip, opn, cnt, ev) := by
              rw [qIt_s, hm]
              exact qFlo1_b t12q
            exact ih (k + 1) _ _ _ _ _ _ _ _ _ _ _ K E ⟨hM.1, hM.2.1, hM.2.2.1, hM.2.2.2.1, hM.2.2.2.2⟩ hQ (by omega) (zl1_ne rfl rfl h0) zl1_eq (by omega) (by omega)
          · refine zw_iaload k (nI t12) 219 f138_218 rfl (hb_57 _ _ _ _) (nI_clamp (by omega)) (nI_pos (by omega)) (by omega) ((congrFun (K.2.2.1 57 rfl) k).trans t12q) ?_
            refine zw_iconst (-1) 220 f138_219 rfl (by decide +kernel) ?_
            refine zw_ic_eq_f 223 228 f138_220 (by decide +kernel) rfl (nI_nem (by omega)) ?_
            refine zw_aload_n 224 f138_223 rfl h0 ?_
            refine zw_iload_n 225 f138_224 rfl h1 ?_
            refine zw_virtual_v 228 0 0 [.ref 52, .int (nI k)] [(0, .ref 52), (1, .int (nI k))] f138_225 rfl n138_196 k138_196_12 rfl (hb_52 _ _ _ _) (by decide +kernel) (Nat.le_of_ble_eq_true rfl) rfl rfl (by decide +kernel) (by decide +kernel) rfl (Nat.le_of_ble_eq_true rfl) rfl ?_
            refine zw_aload_n 1 f139_0 rfl rfl ?_
            refine zw_getfield 4 f139_1 rfl g139_48_12 (hb_52 _ _ _ _) rfl ?_
            refine zw_aload_n 5 f139_4 rfl rfl ?_
            refine zw_getfield 8 f139_5 rfl g139_22_12 (hb_52 _ _ _ _) rfl ?_
            refine zw_iload_n 9 f139_8 rfl rfl ?_
            refine zw_iaload k (nI t12) 10 f139_9 rfl (hb_57 _ _ _ _) (nI_clamp (by omega)) (nI_pos (by omega)) (by omega) ((congrFun (K.2.2.1 57 rfl) k).trans t12q) ?_
            refine zw_baload t12 (opn t12) 11 f139_10 rfl (hb_64 _ _ _ _) (nI_clamp (by omega)) (nI_pos (by omega)) (by omega) (congrFun (hM.2.2.2.1) t12) ?_
            refine zw_if_eq 14 81 f139_11 (by decide +kernel) rfl (fun hc13 => ?_) (fun hc13 => ?_)
            · refine zw_aload_n 82 f139_81 rfl rfl ?_
              refine zw_getfield 85 f139_82 rfl g139_48_12 (hb_52 _ _ _ _) rfl ?_
              refine zw_aload_n 86 f139_85 rfl rfl ?_
              refine zw_getfield 89 f139_86 rfl g139_22_12 (hb_52 _ _ _ _) rfl ?_
              refine zw_iload_n 90 f139_89 rfl rfl ?_
              refine zw_iaload k (nI t12) 91 f139_90 rfl (hb_57 _ _ _ _) (nI_clamp (by omega)) (nI_pos (by omega)) (by omega) ((congrFun (K.2.2.1 57 rfl) k).trans t12q) ?_
              refine zw_baload t12 (opn t12) 92 f139_91 rfl (hb_64 _ _ _ _) (nI_clamp (by omega)) (nI_pos (by omega)) (by omega) (congrFun (hM.2.2.2.1) t12) ?_
              refine zw_if_ne_f 95 135 f139_92 (by decide +kernel) rfl (fun q => q hc13) ?_
              refine zw_aload_n 96 f139_95 rfl rfl ?_
              refine zw_getfield 99 f139_96 rfl g139_44_12 (hb_52 _ _ _ _) rfl ?_
              refine zw_iload_n 100 f139_99 rfl rfl ?_
              refine zw_laload k (lev k) 101 f139_100 rfl (hb_63 _ _ _ _) (nI_clamp (by omega)) (nI_pos (by omega)) (by omega) (congrFun (hM.1) k) ?_
              refine zw_aload_n 102 f139_101 rfl rfl ?_
              refine zw_getfield 105 f139_102 rfl g139_19_12 (hb_52 _ _ _ _) rfl ?_
              refine zw_iload_n 106 f139_105 rfl rfl ?_
              refine zw_iaload k (A 56 k) 107 f139_106 rfl (hb_56 _ _ _ _) (nI_clamp (by omega)) (nI_pos (by omega)) (by omega) (congrFun ((K.2.2.1 56 rfl)) k) ?_
              refine zw_i2l (Int32.toInt64 (A 56 k)) 108 f139_107 rfl rfl ?_
              refine zw_aload_n 109 f139_108 rfl rfl ?_
              refine zw_getG (G 52 12) 112 f139_109 rfl g139_40_12 (hb_52 _ _ _ _) rfl (K.2.1 52 12 rfl) ?_
              refine zw_lmul ((Int32.toInt64 (A 56 k)) * (G 52 12)) 113 f139_112 rfl rfl ?_
              refine zw_lcmp (lg_cmp (lev k) ((Int32.toInt64 (A 56 k)) * (G 52 12))) 114 f139_113 rfl rfl ?_
              refine zw_if_gt 117 135 f139_114 (by decide +kernel) rfl (fun hc14 => ?_) (fun hc14 => ?_)
              · refine zw_vreturn f139_135 r139 u139 ⟨rfl, ?_⟩
                refine zw_iinc (nI (k + 1)) _ 231 f138_228 rfl h1 (by decide +kernel) (nI_1 _) rfl ?_
                refine zw_goto 197 f138_231 (by decide +kernel) ?_
                have E : qIt (qFlo1 (A 53) (A 55) (A 56) (A 57) (G 52 12)) (qIt (qSip1 (A 53) (A 55) (G 52 12)) (qIt (qTip1 (A 53) (A 54) (A 58) (A 59) (G 52 12)) (qM0 G A B) nv) nv) (k + 1) = (lev, dr, sip, opn, cnt, ev) := by
                  rw [qIt_s, hm]
                  exact (qFlo1_o (Or.inr (Decidable.of_not_not hc11)) t12q (by omega)).trans (qFlo2_c hc13 (Int64.not_le.mpr ((lg_cmp_gt _ _).mp hc14)))
                exact ih (k + 1) _ _ _ _ _ _ _ _ _ _ _ K E ⟨hM.1, hM.2.1, hM.2.2.1, hM.2.2.2.1, hM.2.2.2.2⟩ hQ (by omega) (zl1_ne rfl rfl h0) zl1_eq (by omega) (by omega)
              · refine zw_aload_n 118 f139_117 rfl rfl ?_
                refine zw_getfield 121 f139_118 rfl g139_48_12 (hb_52 _ _ _ _) rfl ?_
                refine zw_aload_n 122 f139_121 rfl rfl ?_
                refine zw_getfield 125 f139_122 rfl g139_22_12 (hb_52 _ _ _ _) rfl ?_
                refine zw_iload_n 126 f139_125 rfl rfl ?_
                refine zw_iaload k (nI t12) 127 f139_126 rfl (hb_57 _ _ _ _) (nI_clamp (by omega)) (nI_pos (by omega)) (by omega) ((congrFun (K.2.2.1 57 rfl) k).trans t12q) ?_
                refine zw_iconst 1 128 f139_127 rfl (by decide +kernel) ?_
                refine zw_bst t12 _ 129 f139_128 rfl (hb_64 _ _ _ _) (nI_clamp (by omega)) (nI_pos (by omega)) (by omega) (ha_64 _ _ _ _ _) ?_
                refine zw_aload_n 130 f139_129 rfl rfl ?_
                refine zw_iconst 5 131 f139_130 rfl (by decide +kernel) ?_
                refine zw_iload_n 132 f139_131 rfl rfl ?_
                refine zw_virtual_v 135 0 0 [.ref 52, .int 5, .int (nI k)] [(0, .ref 52), (1, .int 5), (2, .int (nI k))] f139_132 rfl n139_189 k139_189_12 rfl (hb_52 _ _ _ _) (by decide +kernel) (Nat.le_of_ble_eq_true rfl) rfl rfl (by decide +kernel) (by decide +kernel) rfl (Nat.le_of_ble_eq_true rfl) rfl ?_
                refine zWp.mono (mm_note ro _ _ _ _ (I 52 22) (G 52 13) (G 52 12) (I 52 41) 5 (nI k) _ (K.1 52 22 rfl) (K.2.1 52 13 rfl) (K.2.1 52 12 rfl) (K.1 52 41 rfl) hQ (by have q := qNotes_1 (rec := I 52 22) (t := G 52 13) (g := G 52 12) (sought := I 52 41) (L := L) ev; omega)) ?_
                rintro r h1 ⟨I_15, G_15, A_15, B_15, rfl, K_15, N_15, rfl⟩
                refine ⟨rfl, ?_⟩
                rw [← qNotes_s] at N_15
                refine zw_vreturn f139_135 r139 u139 ⟨rfl, ?_⟩
                refine zw_iinc (nI (k + 1)) _ 231 f138_228 rfl h1 (by decide +kernel) (nI_1 _) rfl ?_
                refine zw_goto 197 f138_231 (by decide +kernel) ?_
                have E : qIt (qFlo1 (A 53) (A 55) (A 56) (A 57) (G 52 12)) (qIt (qSip1 (A 53) (A 55) (G 52 12)) (qIt (qTip1 (A 53) (A 54) (A 58) (A 59) (G 52 12)) (qM0 G A B) nv) nv) (k + 1) = (lev, dr, sip, (upd opn t12 1), cnt, (ev ++ [(5, (nI k))])) := by
                  rw [qIt_s, hm]
                  exact (qFlo1_o (Or.inr (Decidable.of_not_not hc11)) t12q (by omega)).trans (qFlo2_z hc13 (Int64.not_lt.mp (fun q => hc14 ((lg_cmp_gt _ _).mpr q))))
                exact ih (k + 1) _ _ _ _ _ _ _ _ _ _ _ (KQ.tr (KQ.a rfl K) (KQ.wk K_15 fE_M1 pE_M1)) E ⟨((K_15.2.2.2 63 rfl).trans hM.1), ((K_15.2.1 52 15 rfl).trans hM.2.1), ((K_15.2.2.1 65 rfl).trans hM.2.2.1), ((K_15.2.2.1 64 rfl).trans (((congrArg (fun z => upd z t12 (vp_nar .boolean 1)) (hM.2.2.2.1))).trans (by rw [vnar_1]))), ((K_15.2.2.1 66 rfl).trans hM.2.2.2.2)⟩ N_15 (by simp only [List.length_append, List.length_cons, List.length_nil]; omega) (zl1_ne rfl rfl h0) zl1_eq (by omega) (by omega)
            · refine zw_aload_n 15 f139_14 rfl rfl ?_
              refine zw_getfield 18 f139_15 rfl g139_44_12 (hb_52 _ _ _ _) rfl ?_
              refine zw_iload_n 19 f139_18 rfl rfl ?_
              refine zw_laload k (lev k) 20 f139_19 rfl (hb_63 _ _ _ _) (nI_clamp (by omega)) (nI_pos (by omega)) (by omega) (congrFun (hM.1) k) ?_
              refine zw_aload_n 21 f139_20 rfl rfl ?_
              refine zw_getfield 24 f139_21 rfl g139_16_12 (hb_52 _ _ _ _) rfl ?_
              refine zw_iload_n 25 f139_24 rfl rfl ?_
              refine zw_iaload k (A 55 k) 26 f139_25 rfl (hb_55 _ _ _ _) (nI_clamp (by omega)) (nI_pos (by omega)) (by omega) (congrFun ((K.2.2.1 55 rfl)) k) ?_
              refine zw_i2l (Int32.toInt64 (A 55 k)) 27 f139_26 rfl rfl ?_
              refine zw_aload_n 28 f139_27 rfl rfl ?_
              refine zw_getG (G 52 12) 31 f139_28 rfl g139_40_12 (hb_52 _ _ _ _) rfl (K.2.1 52 12 rfl) ?_
              refine zw_lmul ((Int32.toInt64 (A 55 k)) * (G 52 12)) 32 f139_31 rfl rfl ?_
              refine zw_lcmp (lg_cmp (lev k) ((Int32.toInt64 (A 55 k)) * (G 52 12))) 33 f139_32 rfl rfl ?_
              refine zw_if_lt 36 81 f139_33 (by decide +kernel) rfl (fun hc16 => ?_) (fun hc16 => ?_)
              · refine zw_aload_n 82 f139_81 rfl rfl ?_
                refine zw_getfield 85 f139_82 rfl g139_48_12 (hb_52 _ _ _ _) rfl ?_
                refine zw_aload_n 86 f139_85 rfl rfl ?_
                refine zw_getfield 89 f139_86 rfl g139_22_12 (hb_52 _ _ _ _) rfl ?_
                refine zw_iload_n 90 f139_89 rfl rfl ?_
                refine zw_iaload k (nI t12) 91 f139_90 rfl (hb_57 _ _ _ _) (nI_clamp (by omega)) (nI_pos (by omega)) (by omega) ((congrFun (K.2.2.1 57 rfl) k).trans t12q) ?_
                refine zw_baload t12 (opn t12) 92 f139_91 rfl (hb_64 _ _ _ _) (nI_clamp (by omega)) (nI_pos (by omega)) (by omega) (congrFun (hM.2.2.2.1) t12) ?_
                refine zw_if_ne_t 135 f139_92 (by decide +kernel) hc13 ?_
                refine zw_vreturn f139_135 r139 u139 ⟨rfl, ?_⟩
                refine zw_iinc (nI (k + 1)) _ 231 f138_228 rfl h1 (by decide +kernel) (nI_1 _) rfl ?_
                refine zw_goto 197 f138_231 (by decide +kernel) ?_
                have E : qIt (qFlo1 (A 53) (A 55) (A 56) (A 57) (G 52 12)) (qIt (qSip1 (A 53) (A 55) (G 52 12)) (qIt (qTip1 (A 53) (A 54) (A 58) (A 59) (G 52 12)) (qM0 G A B) nv) nv) (k + 1) = (lev, dr, sip, opn, cnt, ev) := by
                  rw [qIt_s, hm]
                  exact (qFlo1_o (Or.inr (Decidable.of_not_not hc11)) t12q (by omega)).trans (qFlo2_b hc13 (Int64.not_le.mpr ((lg_cmp_lt _ _).mp hc16)))
                exact ih (k + 1) _ _ _ _ _ _ _ _ _ _ _ K E ⟨hM.1, hM.2.1, hM.2.2.1, hM.2.2.2.1, hM.2.2.2.2⟩ hQ (by omega) (zl1_ne rfl rfl h0) zl1_eq (by omega) (by omega)
              · refine zw_aload_n 37 f139_36 rfl rfl ?_
                refine zw_getfield 40 f139_37 rfl g139_48_12 (hb_52 _ _ _ _) rfl ?_
                refine zw_aload_n 41 f139_40 rfl rfl ?_
                refine zw_getfield 44 f139_41 rfl g139_22_12 (hb_52 _ _ _ _) rfl ?_
                refine zw_iload_n 45 f139_44 rfl rfl ?_
                refine zw_iaload k (nI t12) 46 f139_45 rfl (hb_57 _ _ _ _) (nI_clamp (by omega)) (nI_pos (by omega)) (by omega) ((congrFun (K.2.2.1 57 rfl) k).trans t12q) ?_
                refine zw_iconst 0 47 f139_46 rfl (by decide +kernel) ?_
                refine zw_bst t12 _ 48 f139_47 rfl (hb_64 _ _ _ _) (nI_clamp (by omega)) (nI_pos (by omega)) (by omega) (ha_64 _ _ _ _ _) ?_
                refine zw_aload_n 49 f139_48 rfl rfl ?_
                refine zw_getfield 52 f139_49 rfl g139_55_12 (hb_52 _ _ _ _) rfl ?_
                refine zw_iload_n 53 f139_52 rfl rfl ?_
                refine zw_dup2 54 f139_53 rfl rfl rfl ?_
                refine zw_iaload k (cnt k) 55 f139_54 rfl (hb_66 _ _ _ _) (nI_clamp (by omega)) (nI_pos (by omega)) (by omega) (congrFun (hM.2.2.2.2) k) ?_
                refine zw_aload_n 56 f139_55 rfl rfl ?_
                refine zw_getfield 59 f139_56 rfl g139_7_12 (hb_52 _ _ _ _) rfl ?_
                refine zw_iload_n 60 f139_59 rfl rfl ?_
                refine zw_iaload k (A 53 k) 61 f139_60 rfl (hb_53 _ _ _ _) (nI_clamp (by omega)) (nI_pos (by omega)) (by omega) (congrFun ((K.2.2.1 53 rfl)) k) ?_
                refine zw_iconst 4 62 f139_61 rfl (by decide +kernel) ?_
                refine zw_ic_ne_f 65 69 f139_62 (by decide +kernel) rfl hc11 ?_
                refine zw_iconst 1 66 f139_65 rfl (by decide +kernel) ?_
                refine zw_goto 70 f139_66 (by decide +kernel) ?_
                refine zw_iadd ((cnt k) + 1) 71 f139_70 rfl rfl ?_
                refine zw_ast k _ 72 f139_71 rfl (hb_66 _ _ _ _) (nI_clamp (by omega)) (nI_pos (by omega)) (by omega) (ha_66 _ _ _ _ _) ?_
                refine zw_aload_n 73 f139_72 rfl rfl ?_
                refine zw_iconst 4 74 f139_73 rfl (by decide +kernel) ?_
                refine zw_iload_n 75 f139_74 rfl rfl ?_
                refine zw_virtual_v 78 0 0 [.ref 52, .int 4, .int (nI k)] [(0, .ref 52), (1, .int 4), (2, .int (nI k))] f139_75 rfl n139_189 k139_189_12 rfl (hb_52 _ _ _ _) (by decide +kernel) (Nat.le_of_ble_eq_true rfl) rfl rfl (by decide +kernel) (by decide +kernel) rfl (Nat.le_of_ble_eq_true rfl) rfl ?_
                refine zWp.mono (mm_note ro _ _ _ _ (I 52 22) (G 52 13) (G 52 12) (I 52 41) 4 (nI k) _ (K.1 52 22 rfl) (K.2.1 52 13 rfl) (K.2.1 52 12 rfl) (K.1 52 41 rfl) hQ (by have q := qNotes_1 (rec := I 52 22) (t := G 52 13) (g := G 52 12) (sought := I 52 41) (L := L) ev; omega)) ?_
                rintro r h1 ⟨I_17, G_17, A_17, B_17, rfl, K_17, N_17, rfl⟩
                refine ⟨rfl, ?_⟩
                rw [← qNotes_s] at N_17
                refine zw_goto 135 f139_78 (by decide +kernel) ?_
                refine zw_vreturn f139_135 r139 u139 ⟨rfl, ?_⟩
                refine zw_iinc (nI (k + 1)) _ 231 f138_228 rfl h1 (by decide +kernel) (nI_1 _) rfl ?_
                refine zw_goto 197 f138_231 (by decide +kernel) ?_
                have E : qIt (qFlo1 (A 53) (A 55) (A 56) (A 57) (G 52 12)) (qIt (qSip1 (A 53) (A 55) (G 52 12)) (qIt (qTip1 (A 53) (A 54) (A 58) (A 59) (G 52 12)) (qM0 G A B) nv) nv) (k + 1) = (lev, dr, sip, (upd opn t12 0), (upd cnt k ((cnt k) + 1)), (ev ++ [(4, (nI k))])) := by
                  rw [qIt_s, hm]
                  exact (qFlo1_o (Or.inr (Decidable.of_not_not hc11)) t12q (by omega)).trans (qFlo2_y hc13 (Int64.not_lt.mp (fun q => hc16 ((lg_cmp_lt _ _).mpr q))) (if_pos (Decidable.of_not_not hc11)))
                exact ih (k + 1) _ _ _ _ _ _ _ _ _ _ _ (KQ.tr (KQ.a rfl (KQ.a rfl K)) (KQ.wk K_17 fE_M1 pE_M1)) E ⟨((K_17.2.2.2 63 rfl).trans hM.1), ((K_17.2.1 52 15 rfl).trans hM.2.1), ((K_17.2.2.1 65 rfl).trans hM.2.2.1), ((K_17.2.2.1 64 rfl).trans (((congrArg (fun z => upd z t12 (vp_nar .boolean 0)) (hM.2.2.2.1))).trans (by rw [vnar_0]))), ((K_17.2.2.1 66 rfl).trans (congrArg (fun z => upd z k ((cnt k) + 1)) (hM.2.2.2.2)))⟩ N_17 (by simp only [List.length_append, List.length_cons, List.length_nil]; omega) (zl1_ne rfl rfl h0) zl1_eq (by omega) (by omega)
set_option maxRecDepth 100000 in
set_option maxHeartbeats 0 in
theorem lmm_moment_81 (ro : UInt32 → Nat × (Nat → Int32)) (nv np : Nat) (I : Nat → Nat → Int32) (G : Nat → Nat → Int64) (A : Nat → Nat → Int32) (B : Nat → Nat → Int64) (hP : MP nv np I A) (hB : MB A) (hg : ¬ G 52 12 = 0) (L : qLog) (hL : qLR I A B L) (hn : L.1 < 1000000000) : ∀ (n k : Nat) (ls : List (Nat × Value)) (I1 : Nat → Nat → Int32) (G1 : Nat → Nat → Int64) (A1 : Nat → Nat → Int32) (B1 : Nat → Nat → Int64) (lev : Nat → Int64) (dr : Int64) (sip opn cnt : Nat → Int32) (ev : List (Int32 × Int32)), KQ fM1 pM1 I G A B I1 G1 A1 B1 → qIt (qSip1 (A 53) (A 55) (G 52 12)) (qIt (qTip1 (A 53) (A 54) (A 58) (A 59) (G 52 12)) (qM0 G A B) nv) k = (lev, dr, sip, opn, cnt, ev) → qMR G1 A1 B1 (lev, dr, sip, opn, cnt, ev) → qLR I1 A1 B1 (qNotes (I 52 22) (G 52 13) (G 52 12) (I 52 41) L ev) → ev.length ≤ nv + k → zld ls 0 = some (.ref 52) → zld ls 1 = some (.int (nI k)) → k ≤ nv → nv + 1 ≤ k + n → zWp ro 138 81 ls [] (hS I1 G1 A1 B1) 0 0 (fun r h1 => ∃ I2 G2 A2 B2, h1 = hS I2 G2 A2 B2 ∧ KQ fMo pM1 I G A B I2 G2 A2 B2 ∧ qAft I2 G2 A2 B2 (G 52 13) (G 52 14) (G 52 12) (qLc (G 52 13) (G 52 14) (qMoms nv G A B).2.1 (G 52 12) (qMoms nv G A B).1 8) (qMoms nv G A B) (qNotes (I 52 22) (G 52 13) (G 52 12) (I 52 41) L (qMoms nv G A B).2.2.2.2.2) ∧ r = none) := by
  have hnv := hP.1.2
  have hnp := hP.2.1.2
  intro n
  induction n with
  | zero =>
    intro k ls I1 G1 A1 B1 lev dr sip opn cnt ev _ _ _ _ _ _ _ a b
    exact absurd b (by omega)
  | succ n ih =>
    intro k ls I1 G1 A1 B1 lev dr sip opn cnt ev K hm hM hQ he h0 h1 hk1 hk2
    refine zw_iload_n 82 f138_81 rfl h1 ?_
    refine zw_aload_n 83 f138_82 rfl h0 ?_
    refine zw_getI (nI nv) 86 f138_83 rfl g138_114_12 (hb_52 _ _ _ _) rfl ((K.1 52 0 rfl).trans hP.1.1) ?_
    refine zw_ic_ge 89 195 f138_86 (by decide +kernel) rfl (fun hc1 => ?_) (fun hc1 => ?_)
    · have hn_hc1 : nv ≤ k := zn_ge (by omega) (by omega) hc1
      refine zw_iconst 0 196 f138_195 rfl (by decide +kernel) ?_
      refine zw_istore_n _ 197 f138_196 rfl (by decide +kernel) rfl ?_
      have hk : k = nv := by omega
      subst hk
      exact lmm_moment_197 ro k np I G A B hP hB hg L hL hn (k + 1) 0 _ _ _ _ _ _ _ _ _ _ _ K hm hM hQ (by omega) (zl1_ne rfl rfl h0) zl1_eq (by omega) (by omega)
    · have hn_hc1 : k < nv := zn_lt (by omega) (by omega) hc1
      refine zw_aload_n 90 f138_89 rfl h0 ?_
      refine zw_getfield 93 f138_90 rfl g138_7_12 (hb_52 _ _ _ _) rfl ?_
      refine zw_iload_n 94 f138_93 rfl h1 ?_
      refine zw_iaload k (A 53 k) 95 f138_94 rfl (hb_53 _ _ _ _) (nI_clamp (by omega)) (nI_pos (by omega)) (by omega) (congrFun ((K.2.2.1 53 rfl)) k) ?_
      refine zw_iconst 1 96 f138_95 rfl (by decide +kernel) ?_
      refine zw_ic_ne 99 146 f138_96 (by decide +kernel) rfl (fun hc2 => ?_) (fun hc2 => ?_)
      · refine zw_aload_n 147 f138_146 rfl h0 ?_
        refine zw_getfield 150 f138_147 rfl g138_7_12 (hb_52 _ _ _ _) rfl ?_
        refine zw_iload_n 151 f138_150 rfl h1 ?_
        refine zw_iaload k (A 53 k) 152 f138_151 rfl (hb_53 _ _ _ _) (nI_clamp (by omega)) (nI_pos (by omega)) (by omega) (congrFun ((K.2.2.1 53 rfl)) k) ?_
        refine zw_iconst 1 153 f138_152 rfl (by decide +kernel) ?_
        refine zw_ic_ne_t 189 f138_153 (by decide +kernel) hc2 ?_
        refine zw_iinc (nI (k + 1)) _ 192 f138_189 rfl h1 (by decide +kernel) (nI_1 _) rfl ?_
        refine zw_goto 81 f138_192 (by decide +kernel) ?_
        have E : qIt (qSip1 (A 53) (A 55) (G 52 12)) (qIt (qTip1 (A 53) (A 54) (A 58) (A 59) (G 52 12)) (qM0 G A B) nv) (k + 1) = (lev, dr, sip, opn, cnt, ev) := by
          rw [qIt_s, hm]
          exact qSip1_a hc2
        exact ih (k + 1) _ _ _ _ _ _ _ _ _ _ _ K E ⟨hM.1, hM.2.1, hM.2.2.1, hM.2.2.2.1, hM.2.2.2.2⟩ hQ (by omega) (zl1_ne rfl rfl h0) zl1_eq (by omega) (by omega)
      · refine zw_aload_n 100 f138_99 rfl h0 ?_
        refine zw_getfield 103 f138_100 rfl g138_52_12 (hb_52 _ _ _ _) rfl ?_
        refine zw_iload_n 104 f138_103 rfl h1 ?_
        refine zw_baload k (sip k) 105 f138_104 rfl (hb_65 _ _ _ _) (nI_clamp (by omega)) (nI_pos (by omega)) (by omega) (congrFun (hM.2.2.1) k) ?_
        refine zw_if_ne 108 146 f138_105 (by decide +kernel) rfl (fun hc3 => ?_) (fun hc3 => ?_)
        · refine zw_aload_n 147 f138_146 rfl h0 ?_
          refine zw_getfield 150 f138_147 rfl g138_7_12 (hb_52 _ _ _ _) rfl ?_
          refine zw_iload_n 151 f138_150 rfl h1 ?_
          refine zw_iaload k (A 53 k) 152 f138_151 rfl (hb_53 _ _ _ _) (nI_clamp (by omega)) (nI_pos (by omega)) (by omega) (congrFun ((K.2.2.1 53 rfl)) k) ?_
          refine zw_iconst 1 153 f138_152 rfl (by decide +kernel) ?_
          refine zw_ic_ne_f 156 189 f138_153 (by decide +kernel) rfl hc2 ?_
          refine zw_aload_n 157 f138_156 rfl h0 ?_
          refine zw_getfield 160 f138_157 rfl g138_52_12 (hb_52 _ _ _ _) rfl ?_
          refine zw_iload_n 161 f138_160 rfl h1 ?_
          refine zw_baload k (sip k) 162 f138_161 rfl (hb_65 _ _ _ _) (nI_clamp (by omega)) (nI_pos (by omega)) (by omega) (congrFun (hM.2.2.1) k) ?_
          refine zw_if_eq_f 165 189 f138_162 (by decide +kernel) rfl hc3 ?_
          refine zw_aload_n 166 f138_165 rfl h0 ?_
          refine zw_getfield 169 f138_166 rfl g138_44_12 (hb_52 _ _ _ _) rfl ?_
          refine zw_iload_n 170 f138_169 rfl h1 ?_
          refine zw_laload k (lev k) 171 f138_170 rfl (hb_63 _ _ _ _) (nI_clamp (by omega)) (nI_pos (by omega)) (by omega) (congrFun (hM.1) k) ?_
          refine zw_lconst 0 172 f138_171 rfl (by decide +kernel) ?_
          refine zw_lcmp (lg_cmp (lev k) 0) 173 f138_172 rfl rfl ?_
          refine zw_if_ne 176 189 f138_173 (by decide +kernel) rfl (fun hc4 => ?_) (fun hc4 => ?_)
          · refine zw_iinc (nI (k + 1)) _ 192 f138_189 rfl h1 (by decide +kernel) (nI_1 _) rfl ?_
            refine zw_goto 81 f138_192 (by decide +kernel) ?_
            have E : qIt (qSip1 (A 53) (A 55) (G 52 12)) (qIt (qTip1 (A 53) (A 54) (A 58) (A 59) (G 52 12)) (qM0 G A B) nv) (k + 1) = (lev, dr, sip, opn, cnt, ev) := by
              rw [qIt_s, hm]
              exact qSip1_c hc3 (fun q => hc4 ((lg_cmp_eq _ _).mpr q))
            exact ih (k + 1) _ _ _ _ _ _ _ _ _ _ _ K E ⟨hM.1, hM.2.1, hM.2.2.1, hM.2.2.2.1, hM.2.2.2.2⟩ hQ (by omega) (zl1_ne rfl rfl h0) zl1_eq (by omega) (by omega)
          · refine zw_aload_n 177 f138_176 rfl h0 ?_
            refine zw_getfield 180 f138_177 rfl g138_52_12 (hb_52 _ _ _ _) rfl ?_
            refine zw_iload_n 181 f138_180 rfl h1 ?_
            refine zw_iconst 0 182 f138_181 rfl (by decide +kernel) ?_
            refine zw_bst k _ 183 f138_182 rfl (hb_65 _ _ _ _) (nI_clamp (by omega)) (nI_pos (by omega)) (by omega) (ha_65 _ _ _ _ _) ?_
            refine zw_aload_n 184 f138_183 rfl h0 ?_
            refine zw_iconst 3 185 f138_184 rfl (by decide +kernel) ?_
            refine zw_iload_n 186 f138_185 rfl h1 ?_
            refine zw_virtual_v 189 0 0 [.ref 52, .int 3, .int (nI k)] [(0, .ref 52), (1, .int 3), (2, .int (nI k))] f138_186 rfl n138_189 k138_189_12 rfl (hb_52 _ _ _ _) (by decide +kernel) (Nat.le_of_ble_eq_true rfl) rfl rfl (by decide +kernel) (by decide +kernel) rfl (Nat.le_of_ble_eq_true rfl) rfl ?_
            refine zWp.mono (mm_note ro _ _ _ _ (I 52 22) (G 52 13) (G 52 12) (I 52 41) 3 (nI k) _ (K.1 52 22 rfl) (K.2.1 52 13 rfl) (K.2.1 52 12 rfl) (K.1 52 41 rfl) hQ (by have q := qNotes_1 (rec := I 52 22) (t := G 52 13) (g := G 52 12) (sought := I 52 41) (L := L) ev; omega)) ?_
            rintro r h1 ⟨I_5, G_5, A_5, B_5, rfl, K_5, N_5, rfl⟩
            refine ⟨rfl, ?_⟩
            rw [← qNotes_s] at N_5
            refine zw_iinc (nI (k + 1)) _ 192 f138_189 rfl h1 (by decide +kernel) (nI_1 _) rfl ?_
            refine zw_goto 81 f138_192 (by decide +kernel) ?_
            have E : qIt (qSip1 (A 53) (A 55) (G 52 12)) (qIt (qTip1 (A 53) (A 54) (A 58) (A 59) (G 52 12)) (qM0 G A B) nv) (k + 1) = (lev, dr, (upd sip k 0), opn, cnt, (ev ++ [(3, (nI k))])) := by
              rw [qIt_s, hm]
              exact qSip1_z (Decidable.of_not_not hc2) hc3 ((lg_cmp_eq _ _).mp (Decidable.of_not_not hc4))
            exact ih (k + 1) _ _ _ _ _ _ _ _ _ _ _ (KQ.tr (KQ.a rfl K) (KQ.wk K_5 fE_M1 pE_M1)) E ⟨((K_5.2.2.2 63 rfl).trans hM.1), ((K_5.2.1 52 15 rfl).trans hM.2.1), ((K_5.2.2.1 65 rfl).trans (((congrArg (fun z => upd z k (vp_nar .boolean 0)) (hM.2.2.1))).trans (by rw [vnar_0]))), ((K_5.2.2.1 64 rfl).trans hM.2.2.2.1), ((K_5.2.2.1 66 rfl).trans hM.2.2.2.2)⟩ N_5 (by simp only [List.length_append, List.length_cons, List.length_nil]; omega) (zl1_ne rfl rfl h0) zl1_eq (by omega) (by omega)
        · refine zw_aload_n 109 f138_108 rfl h0 ?_
          refine zw_getfield 112 f138_109 rfl g138_44_12 (hb_52 _ _ _ _) rfl ?_
          refine zw_iload_n 113 f138_112 rfl h1 ?_
          refine zw_laload k (lev k) 114 f138_113 rfl (hb_63 _ _ _ _) (nI_clamp (by omega)) (nI_pos (by omega)) (by omega) (congrFun (hM.1) k) ?_
          refine zw_aload_n 115 f138_114 rfl h0 ?_
          refine zw_getfield 118 f138_115 rfl g138_16_12 (hb_52 _ _ _ _) rfl ?_
          refine zw_iload_n 119 f138_118 rfl h1 ?_
          refine zw_iaload k (A 55 k) 120 f138_119 rfl (hb_55 _ _ _ _) (nI_clamp (by omega)) (nI_pos (by omega)) (by omega) (congrFun ((K.2.2.1 55 rfl)) k) ?_
          refine zw_i2l (Int32.toInt64 (A 55 k)) 121 f138_120 rfl rfl ?_
          refine zw_aload_n 122 f138_121 rfl h0 ?_
          refine zw_getG (G 52 12) 125 f138_122 rfl g138_40_12 (hb_52 _ _ _ _) rfl (K.2.1 52 12 rfl) ?_
          refine zw_lmul ((Int32.toInt64 (A 55 k)) * (G 52 12)) 126 f138_125 rfl rfl ?_
          refine zw_lcmp (lg_cmp (lev k) ((Int32.toInt64 (A 55 k)) * (G 52 12))) 127 f138_126 rfl rfl ?_
          refine zw_if_lt 130 146 f138_127 (by decide +kernel) rfl (fun hc6 => ?_) (fun hc6 => ?_)
          · refine zw_aload_n 147 f138_146 rfl h0 ?_
            refine zw_getfield 150 f138_147 rfl g138_7_12 (hb_52 _ _ _ _) rfl ?_
            refine zw_iload_n 151 f138_150 rfl h1 ?_
            refine zw_iaload k (A 53 k) 152 f138_151 rfl (hb_53 _ _ _ _) (nI_clamp (by omega)) (nI_pos (by omega)) (by omega) (congrFun ((K.2.2.1 53 rfl)) k) ?_
            refine zw_iconst 1 153 f138_152 rfl (by decide +kernel) ?_
            refine zw_ic_ne_f 156 189 f138_153 (by decide +kernel) rfl hc2 ?_
            refine zw_aload_n 157 f138_156 rfl h0 ?_
            refine zw_getfield 160 f138_157 rfl g138_52_12 (hb_52 _ _ _ _) rfl ?_
            refine zw_iload_n 161 f138_160 rfl h1 ?_
            refine zw_baload k (sip k) 162 f138_161 rfl (hb_65 _ _ _ _) (nI_clamp (by omega)) (nI_pos (by omega)) (by omega) (congrFun (hM.2.2.1) k) ?_
            refine zw_if_eq_t 189 f138_162 (by decide +kernel) (Decidable.of_not_not hc3) ?_
            refine zw_iinc (nI (k + 1)) _ 192 f138_189 rfl h1 (by decide +kernel) (nI_1 _) rfl ?_
            refine zw_goto 81 f138_192 (by decide +kernel) ?_
            have E : qIt (qSip1 (A 53) (A 55) (G 52 12)) (qIt (qTip1 (A 53) (A 54) (A 58) (A 59) (G 52 12)) (qM0 G A B) nv) (k + 1) = (lev, dr, sip, opn, cnt, ev) := by
              rw [qIt_s, hm]
              exact qSip1_b (Decidable.of_not_not hc3) (Int64.not_le.mpr ((lg_cmp_lt _ _).mp hc6))
            exact ih (k + 1) _ _ _ _ _ _ _ _ _ _ _ K E ⟨hM.1, hM.2.1, hM.2.2.1, hM.2.2.2.1, hM.2.2.2.2⟩ hQ (by omega) (zl1_ne rfl rfl h0) zl1_eq (by omega) (by omega)
          · refine zw_aload_n 131 f138_130 rfl h0 ?_
            refine zw_getfield 134 f138_131 rfl g138_52_12 (hb_52 _ _ _ _) rfl ?_
            refine zw_iload_n 135 f138_134 rfl h1 ?_
            refine zw_iconst 1 136 f138_135 rfl (by decide +kernel) ?_
            refine zw_bst k _ 137 f138_136 rfl (hb_65 _ _ _ _) (nI_clamp (by omega)) (nI_pos (by omega)) (by omega) (ha_65 _ _ _ _ _) ?_
            refine zw_aload_n 138 f138_137 rfl h0 ?_
            refine zw_iconst 2 139 f138_138 rfl (by decide +kernel) ?_
            refine zw_iload_n 140 f138_139 rfl h1 ?_
            refine zw_virtual_v 143 0 0 [.ref 52, .int 2, .int (nI k)] [(0, .ref 52), (1, .int 2), (2, .int (nI k))] f138_140 rfl n138_189 k138_189_12 rfl (hb_52 _ _ _ _) (by decide +kernel) (Nat.le_of_ble_eq_true rfl) rfl rfl (by decide +kernel) (by decide +kernel) rfl (Nat.le_of_ble_eq_true rfl) rfl ?_
            refine zWp.mono (mm_note ro _ _ _ _ (I 52 22) (G 52 13) (G 52 12) (I 52 41) 2 (nI k) _ (K.1 52 22 rfl) (K.2.1 52 13 rfl) (K.2.1 52 12 rfl) (K.1 52 41 rfl) hQ (by have q := qNotes_1 (rec := I 52 22) (t := G 52 13) (g := G 52 12) (sought := I 52 41) (L := L) ev; omega)) ?_
            rintro r h1 ⟨I_7, G_7, A_7, B_7, rfl, K_7, N_7, rfl⟩
            refine ⟨rfl, ?_⟩
            rw [← qNotes_s] at N_7
            refine zw_goto 189 f138_143 (by decide +kernel) ?_
            refine zw_iinc (nI (k + 1)) _ 192 f138_189 rfl h1 (by decide +kernel) (nI_1 _) rfl ?_
            refine zw_goto 81 f138_192 (by decide +kernel) ?_
            have E : qIt (qSip1 (A 53) (A 55) (G 52 12)) (qIt (qTip1 (A 53) (A 54) (A 58) (A 59) (G 52 12)) (qM0 G A B) nv) (k + 1) = (lev, dr, (upd sip k 1), opn, cnt, (ev ++ [(2, (nI k))])) := by
              rw [qIt_s, hm]
              exact qSip1_y (Decidable.of_not_not hc2) (Decidable.of_not_not hc3) (Int64.not_lt.mp (fun q => hc6 ((lg_cmp_lt _ _).mpr q)))
            exact ih (k + 1) _ _ _ _ _ _ _ _ _ _ _ (KQ.tr (KQ.a rfl K) (KQ.wk K_7 fE_M1 pE_M1)) E ⟨((K_7.2.2.2 63 rfl).trans hM.1), ((K_7.2.1 52 15 rfl).trans hM.2.1), ((K_7.2.2.1 65 rfl).trans (((congrArg (fun z => upd z k (vp_nar .boolean 1)) (hM.2.2.1))).trans (by rw [vnar_1]))), ((K_7.2.2.1 64 rfl).trans hM.2.2.2.1), ((K_7.2.2.1 66 rfl).trans hM.2.2.2.2)⟩ N_7 (by simp only [List.length_append, List.length_cons, List.length_nil]; omega) (zl1_ne rfl rfl h0) zl1_eq (by omega) (by omega)
set_option maxRecDepth 100000 in
set_option maxHeartbeats 0 in
theorem lmm_moment_2 (ro : UInt32 → Nat × (Nat → Int32)) (nv np : Nat) (I : Nat → Nat → Int32) (G : Nat → Nat → Int64) (A : Nat → Nat → Int32) (B : Nat → Nat → Int64) (hP : MP nv np I A) (hB : MB A) (hg : ¬ G 52 12 = 0) (L : qLog) (hL : qLR I A B L) (hn : L.1 < 1000000000) : ∀ (n k : Nat) (ls : List (Nat × Value)) (I1 : Nat → Nat → Int32) (G1 : Nat → Nat → Int64) (A1 : Nat → Nat → Int32) (B1 : Nat → Nat → Int64) (lev : Nat → Int64) (dr : Int64) (sip opn cnt : Nat → Int32) (ev : List (Int32 × Int32)), KQ fM1 pM1 I G A B I1 G1 A1 B1 → qIt (qTip1 (A 53) (A 54) (A 58) (A 59) (G 52 12)) (qM0 G A B) k = (lev, dr, sip, opn, cnt, ev) → qMR G1 A1 B1 (lev, dr, sip, opn, cnt, ev) → qLR I1 A1 B1 (qNotes (I 52 22) (G 52 13) (G 52 12) (I 52 41) L ev) → ev.length ≤ k → zld ls 0 = some (.ref 52) → zld ls 1 = some (.int (nI k)) → k ≤ nv → nv + 1 ≤ k + n → zWp ro 138 2 ls [] (hS I1 G1 A1 B1) 0 0 (fun r h1 => ∃ I2 G2 A2 B2, h1 = hS I2 G2 A2 B2 ∧ KQ fMo pM1 I G A B I2 G2 A2 B2 ∧ qAft I2 G2 A2 B2 (G 52 13) (G 52 14) (G 52 12) (qLc (G 52 13) (G 52 14) (qMoms nv G A B).2.1 (G 52 12) (qMoms nv G A B).1 8) (qMoms nv G A B) (qNotes (I 52 22) (G 52 13) (G 52 12) (I 52 41) L (qMoms nv G A B).2.2.2.2.2) ∧ r = none) := by
  have hnv := hP.1.2
  have hnp := hP.2.1.2
  intro n
  induction n with
  | zero =>
    intro k ls I1 G1 A1 B1 lev dr sip opn cnt ev _ _ _ _ _ _ _ a b
    exact absurd b (by omega)
  | succ n ih =>
    intro k ls I1 G1 A1 B1 lev dr sip opn cnt ev K hm hM hQ he h0 h1 hk1 hk2
    refine zw_iload_n 3 f138_2 rfl h1 ?_
    refine zw_aload_n 4 f138_3 rfl h0 ?_
    refine zw_getI (nI nv) 7 f138_4 rfl g138_114_12 (hb_52 _ _ _ _) rfl ((K.1 52 0 rfl).trans hP.1.1) ?_
    refine zw_ic_ge 10 79 f138_7 (by decide +kernel) rfl (fun hc1 => ?_) (fun hc1 => ?_)
    · have hn_hc1 : nv ≤ k := zn_ge (by omega) (by omega) hc1
      refine zw_iconst 0 80 f138_79 rfl (by decide +kernel) ?_
      refine zw_istore_n _ 81 f138_80 rfl (by decide +kernel) rfl ?_
      have hk : k = nv := by omega
      subst hk
      exact lmm_moment_81 ro k np I G A B hP hB hg L hL hn (k + 1) 0 _ _ _ _ _ _ _ _ _ _ _ K hm hM hQ (by omega) (zl1_ne rfl rfl h0) zl1_eq (by omega) (by omega)
    · have hn_hc1 : k < nv := zn_lt (by omega) (by omega) hc1
      refine zw_aload_n 11 f138_10 rfl h0 ?_
      refine zw_getfield 14 f138_11 rfl g138_7_12 (hb_52 _ _ _ _) rfl ?_
      refine zw_iload_n 15 f138_14 rfl h1 ?_
      refine zw_iaload k (A 53 k) 16 f138_15 rfl (hb_53 _ _ _ _) (nI_clamp (by omega)) (nI_pos (by omega)) (by omega) (congrFun ((K.2.2.1 53 rfl)) k) ?_
      refine zw_iconst 2 17 f138_16 rfl (by decide +kernel) ?_
      refine zw_ic_ne 20 73 f138_17 (by decide +kernel) rfl (fun hc2 => ?_) (fun hc2 => ?_)
      · refine zw_iinc (nI (k + 1)) _ 76 f138_73 rfl h1 (by decide +kernel) (nI_1 _) rfl ?_
        refine zw_goto 2 f138_76 (by decide +kernel) ?_
        have E : qIt (qTip1 (A 53) (A 54) (A 58) (A 59) (G 52 12)) (qM0 G A B) (k + 1) = (lev, dr, sip, opn, cnt, ev) := by
          rw [qIt_s, hm]
          exact qTip1_a hc2
        exact ih (k + 1) _ _ _ _ _ _ _ _ _ _ _ K E ⟨hM.1, hM.2.1, hM.2.2.1, hM.2.2.2.1, hM.2.2.2.2⟩ hQ (by omega) (zl1_ne rfl rfl h0) zl1_eq (by omega) (by omega)
      · refine zw_aload_n 21 f138_20 rfl h0 ?_
        refine zw_getfield 24 f138_21 rfl g138_44_12 (hb_52 _ _ _ _) rfl ?_
        refine zw_iload_n 25 f138_24 rfl h1 ?_
        refine zw_laload k (lev k) 26 f138_25 rfl (hb_63 _ _ _ _) (nI_clamp (by omega)) (nI_pos (by omega)) (by omega) (congrFun (hM.1) k) ?_
        refine zw_aload_n 27 f138_26 rfl h0 ?_
        refine zw_getfield 30 f138_27 rfl g138_13_12 (hb_52 _ _ _ _) rfl ?_
        refine zw_iload_n 31 f138_30 rfl h1 ?_
        refine zw_iaload k (A 54 k) 32 f138_31 rfl (hb_54 _ _ _ _) (nI_clamp (by omega)) (nI_pos (by omega)) (by omega) (congrFun ((K.2.2.1 54 rfl)) k) ?_
        refine zw_i2l (Int32.toInt64 (A 54 k)) 33 f138_32 rfl rfl ?_
        refine zw_aload_n 34 f138_33 rfl h0 ?_
        refine zw_getG (G 52 12) 37 f138_34 rfl g138_40_12 (hb_52 _ _ _ _) rfl (K.2.1 52 12 rfl) ?_
        refine zw_lmul ((Int32.toInt64 (A 54 k)) * (G 52 12)) 38 f138_37 rfl rfl ?_
        refine zw_lcmp (lg_cmp (lev k) ((Int32.toInt64 (A 54 k)) * (G 52 12))) 39 f138_38 rfl rfl ?_
        refine zw_if_ne 42 73 f138_39 (by decide +kernel) rfl (fun hc3 => ?_) (fun hc3 => ?_)
        · refine zw_iinc (nI (k + 1)) _ 76 f138_73 rfl h1 (by decide +kernel) (nI_1 _) rfl ?_
          refine zw_goto 2 f138_76 (by decide +kernel) ?_
          have E : qIt (qTip1 (A 53) (A 54) (A 58) (A 59) (G 52 12)) (qM0 G A B) (k + 1) = (lev, dr, sip, opn, cnt, ev) := by
            rw [qIt_s, hm]
            exact qTip1_b (fun q => hc3 ((lg_cmp_eq _ _).mpr q))
          exact ih (k + 1) _ _ _ _ _ _ _ _ _ _ _ K E ⟨hM.1, hM.2.1, hM.2.2.1, hM.2.2.2.1, hM.2.2.2.2⟩ hQ (by omega) (zl1_ne rfl rfl h0) zl1_eq (by omega) (by omega)
        · refine zw_aload_n 43 f138_42 rfl h0 ?_
          refine zw_getfield 46 f138_43 rfl g138_44_12 (hb_52 _ _ _ _) rfl ?_
          refine zw_iload_n 47 f138_46 rfl h1 ?_
          refine zw_laload k (lev k) 48 f138_47 rfl (hb_63 _ _ _ _) (nI_clamp (by omega)) (nI_pos (by omega)) (by omega) (congrFun (hM.1) k) ?_
          refine zw_lstore_n _ 49 f138_48 rfl (by decide +kernel) rfl ?_
          refine zw_aload_n 50 f138_49 rfl (zl2_ne rfl rfl h0) ?_
          refine zw_getfield 53 f138_50 rfl g138_44_12 (hb_52 _ _ _ _) rfl ?_
          refine zw_iload_n 54 f138_53 rfl (zl2_ne rfl rfl h1) ?_
          refine zw_lconst 0 55 f138_54 rfl (by decide +kernel) ?_
          refine zw_lst k _ 56 f138_55 rfl (hb_63 _ _ _ _) (nI_clamp (by omega)) (nI_pos (by omega)) (by omega) (ha_63 _ _ _ _ _) ?_
          refine zw_aload_n 57 f138_56 rfl (zl2_ne rfl rfl h0) ?_
          refine zw_iconst 1 58 f138_57 rfl (by decide +kernel) ?_
          refine zw_iload_n 59 f138_58 rfl (zl2_ne rfl rfl h1) ?_
          refine zw_virtual_v 62 0 0 [.ref 52, .int 1, .int (nI k)] [(0, .ref 52), (1, .int 1), (2, .int (nI k))] f138_59 rfl n138_189 k138_189_12 rfl (hb_52 _ _ _ _) (by decide +kernel) (Nat.le_of_ble_eq_true rfl) rfl rfl (by decide +kernel) (by decide +kernel) rfl (Nat.le_of_ble_eq_true rfl) rfl ?_
          refine zWp.mono (mm_note ro _ _ _ _ (I 52 22) (G 52 13) (G 52 12) (I 52 41) 1 (nI k) _ (K.1 52 22 rfl) (K.2.1 52 13 rfl) (K.2.1 52 12 rfl) (K.1 52 41 rfl) hQ (by have q := qNotes_1 (rec := I 52 22) (t := G 52 13) (g := G 52 12) (sought := I 52 41) (L := L) ev; omega)) ?_
          rintro r h1 ⟨I_4, G_4, A_4, B_4, rfl, K_4, N_4, rfl⟩
          refine ⟨rfl, ?_⟩
          rw [← qNotes_s] at N_4
          refine zw_aload_n 63 f138_62 rfl (zl2_ne rfl rfl h0) ?_
          refine zw_aload_n 64 f138_63 rfl (zl2_ne rfl rfl h0) ?_
          refine zw_getfield 67 f138_64 rfl g138_25_12 (hb_52 _ _ _ _) rfl ?_
          refine zw_iload_n 68 f138_67 rfl (zl2_ne rfl rfl h1) ?_
          refine zw_iaload k (A 58 k) 69 f138_68 rfl (hb_58 _ _ _ _) (nI_clamp (by omega)) (nI_pos (by omega)) (by omega) (congrFun (((K_4.2.2.1 58 rfl).trans (K.2.2.1 58 rfl))) k) ?_
          refine zw_lload_n 70 f138_69 rfl zl2_eq ?_
          refine zw_virtual_v 73 0 0 [.ref 52, .int (A 58 k), .long (lev k)] [(0, .ref 52), (1, .int (A 58 k)), (2, .long (lev k))] f138_70 rfl n138_192 k138_192_12 rfl (hb_52 _ _ _ _) (by decide +kernel) (Nat.le_of_ble_eq_true rfl) rfl rfl (by decide +kernel) (by decide +kernel) rfl (Nat.le_of_ble_eq_true rfl) rfl ?_
          refine zWp.mono (mm_pour ro nv np _ _ _ _ (MP.k (KQ.tr (KQ.b rfl K) (KQ.wk K_4 fE_M1 pE_M1)) rfl rfl pM1_p hP) (A 54) (A 59) (G 52 12) dr ((K_4.2.2.1 54 rfl).trans (K.2.2.1 54 rfl)) ((K_4.2.2.1 59 rfl).trans (K.2.2.1 59 rfl)) ((K_4.2.1 52 12 rfl).trans (K.2.1 52 12 rfl)) (vp_updL lev k 0) ((K_4.2.2.2 63 rfl).trans (congrArg (fun z => vp_updL z k 0) (hM.1))) ((K_4.2.1 52 15 rfl).trans hM.2.1) (A 58 k) (lev k) (mTo_0 (hP.2.2.1 k (by omega)).2.2.2.2.1)) ?_
          rintro r h1 ⟨I_5, G_5, A_5, B_5, rfl, K_5, P_5, rfl⟩
          refine ⟨rfl, ?_⟩
          have N_5 := qLR.k K_5 rfl rfl rfl rfl rfl rfl N_4
          refine zw_iinc (nI (k + 1)) _ 76 f138_73 rfl (zl2_ne rfl rfl h1) (by decide +kernel) (nI_1 _) rfl ?_
          refine zw_goto 2 f138_76 (by decide +kernel) ?_
          have E : qIt (qTip1 (A 53) (A 54) (A 58) (A 59) (G 52 12)) (qM0 G A B) (k + 1) = (((qPour (A 54) (A 59) (G 52 12) 9 (vp_updL lev k 0) dr (A 58 k) (lev k)).1), ((qPour (A 54) (A 59) (G 52 12) 9 (vp_updL lev k 0) dr (A 58 k) (lev k)).2), sip, opn, cnt, (ev ++ [(1, (nI k))])) := by
            rw [qIt_s, hm]
            exact qTip1_y (Decidable.of_not_not hc2) ((lg_cmp_eq _ _).mp (Decidable.of_not_not hc3))
          exact ih (k + 1) _ _ _ _ _ _ _ _ _ _ _ (KQ.tr (KQ.tr (KQ.b rfl K) (KQ.wk K_4 fE_M1 pE_M1)) (KQ.wk K_5 fW_M1 p63_M1)) E ⟨P_5.1, P_5.2, ((K_5.2.2.1 65 rfl).trans ((K_4.2.2.1 65 rfl).trans hM.2.2.1)), ((K_5.2.2.1 64 rfl).trans ((K_4.2.2.1 64 rfl).trans hM.2.2.2.1)), ((K_5.2.2.1 66 rfl).trans ((K_4.2.2.1 66 rfl).trans hM.2.2.2.2))⟩ N_5 (by simp only [List.length_append, List.length_cons, List.length_nil]; omega) (zl1_ne rfl rfl (zl2_ne rfl rfl h0)) zl1_eq (by omega) (by omega)
set_option maxRecDepth 100000 in
set_option maxHeartbeats 0 in
theorem mm_moment (ro : UInt32 → Nat × (Nat → Int32)) (nv np : Nat) (I : Nat → Nat → Int32) (G : Nat → Nat → Int64) (A : Nat → Nat → Int32) (B : Nat → Nat → Int64) (hP : MP nv np I A) (hB : MB A) (hg : ¬ G 52 12 = 0) (L : qLog) (hL : qLR I A B L) (hn : L.1 < 1000000000) : zWp ro 138 0 [(0, .ref 52)] [] (hS I G A B) 0 0 (fun r h1 => ∃ I2 G2 A2 B2, h1 = hS I2 G2 A2 B2 ∧ KQ fMo pM1 I G A B I2 G2 A2 B2 ∧ qAft I2 G2 A2 B2 (G 52 13) (G 52 14) (G 52 12) (qLc (G 52 13) (G 52 14) (qMoms nv G A B).2.1 (G 52 12) (qMoms nv G A B).1 8) (qMoms nv G A B) (qNotes (I 52 22) (G 52 13) (G 52 12) (I 52 41) L (qMoms nv G A B).2.2.2.2.2) ∧ r = none) := by
  have hnv := hP.1.2
  have hnp := hP.2.1.2
  refine zw_iconst 0 1 f138_0 rfl (by decide +kernel) ?_
  refine zw_istore_n _ 2 f138_1 rfl (by decide +kernel) rfl ?_
  exact lmm_moment_2 ro nv np I G A B hP hB hg L hL hn (nv + 1) 0 _ _ _ _ _ _ _ _ _ _ _ KQ.rf rfl ⟨rfl, rfl, rfl, rfl, rfl⟩ hL (Nat.zero_le _) (zl1_ne rfl rfl rfl) zl1_eq (by omega) (by omega)
