/-! ===== the reference: which fields and cells a method leaves, and what it computes ===== -/
def KQ (pf : Nat → Nat → Bool) (pa : Nat → Bool) (I : Nat → Nat → Int32) (G : Nat → Nat → Int64) (A : Nat → Nat → Int32) (B : Nat → Nat → Int64) (I2 : Nat → Nat → Int32) (G2 : Nat → Nat → Int64) (A2 : Nat → Nat → Int32) (B2 : Nat → Nat → Int64) : Prop :=
  (∀ k j, pf k j = false → I2 k j = I k j) ∧ (∀ k j, pf k j = false → G2 k j = G k j) ∧ (∀ k, pa k = false → A2 k = A k) ∧ ∀ k, pa k = false → B2 k = B k
section ZKQ
variable {pf pf2 : Nat → Nat → Bool} {pa pa2 : Nat → Bool} {I I2 I3 : Nat → Nat → Int32} {G G2 G3 : Nat → Nat → Int64} {A A2 A3 : Nat → Nat → Int32} {B B2 B3 : Nat → Nat → Int64}
theorem KQ.rf : KQ pf pa I G A B I G A B := ⟨fun _ _ _ => rfl, fun _ _ _ => rfl, fun _ _ => rfl, fun _ _ => rfl⟩
theorem KQ.tr (h1 : KQ pf pa I G A B I2 G2 A2 B2) (h2 : KQ pf pa I2 G2 A2 B2 I3 G3 A3 B3) : KQ pf pa I G A B I3 G3 A3 B3 := ⟨fun k j h => (h2.1 k j h).trans (h1.1 k j h), fun k j h => (h2.2.1 k j h).trans (h1.2.1 k j h), fun k h => (h2.2.2.1 k h).trans (h1.2.2.1 k h), fun k h => (h2.2.2.2 k h).trans (h1.2.2.2 k h)⟩
theorem KQ.wk (h1 : KQ pf pa I G A B I2 G2 A2 B2) (hf : ∀ k j, pf2 k j = false → pf k j = false) (hp : ∀ k, pa2 k = false → pa k = false) : KQ pf2 pa2 I G A B I2 G2 A2 B2 := ⟨fun k j h => h1.1 k j (hf k j h), fun k j h => h1.2.1 k j (hf k j h), fun k h => h1.2.2.1 k (hp k h), fun k h => h1.2.2.2 k (hp k h)⟩
theorem KQ.i {k j : Nat} {v : Int32} (hk : pf k j = true) (h : KQ pf pa I G A B I2 G2 A2 B2) : KQ pf pa I G A B (upd2 I2 k j v) G2 A2 B2 := by
  refine ⟨fun a b ha => ?_, h.2.1, h.2.2.1, h.2.2.2⟩
  unfold upd2
  by_cases e : a = k
  · rw [if_pos e]
    by_cases e2 : b = j
    · rw [e, e2, hk] at ha; cases ha
    · rw [if_neg e2]; exact h.1 a b ha
  · rw [if_neg e]; exact h.1 a b ha
theorem KQ.g {k j : Nat} {v : Int64} (hk : pf k j = true) (h : KQ pf pa I G A B I2 G2 A2 B2) : KQ pf pa I G A B I2 (upd2 G2 k j v) A2 B2 := by
  refine ⟨h.1, fun a b ha => ?_, h.2.2.1, h.2.2.2⟩
  unfold upd2
  by_cases e : a = k
  · rw [if_pos e]
    by_cases e2 : b = j
    · rw [e, e2, hk] at ha; cases ha
    · rw [if_neg e2]; exact h.2.1 a b ha
  · rw [if_neg e]; exact h.2.1 a b ha
theorem KQ.a {k : Nat} {f : Nat → Int32} (hk : pa k = true) (h : KQ pf pa I G A B I2 G2 A2 B2) : KQ pf pa I G A B I2 G2 (updA A2 k f) B2 := by
  refine ⟨h.1, h.2.1, fun a ha => ?_, h.2.2.2⟩
  unfold updA
  rw [if_neg (fun q => by rw [q, hk] at ha; cases ha)]
  exact h.2.2.1 a ha
theorem KQ.b {k : Nat} {f : Nat → Int64} (hk : pa k = true) (h : KQ pf pa I G A B I2 G2 A2 B2) : KQ pf pa I G A B I2 G2 A2 (updA B2 k f) := by
  refine ⟨h.1, h.2.1, h.2.2.1, fun a ha => ?_⟩
  unfold updA
  rw [if_neg (fun q => by rw [q, hk] at ha; cases ha)]
  exact h.2.2.2 a ha
end ZKQ
theorem nI_nem {a : Nat} (h : a < 2 ^ 31) : ¬ nI a = -1 := by
  intro q
  have e := congrArg Int32.toInt q
  rw [nI_toInt h] at e
  have e1 : (-1 : Int32).toInt = -1 := by decide
  omega
theorem nI_mulL (a b : Nat) : (nI a : Int32) * nI b = nI (a * b) := pk_mul a b
theorem upd_o {f : Nat → Int32} {k j : Nat} {x : Int32} (h : ¬ j = k) : upd f k x j = f j := if_neg h
theorem upd_s {f : Nat → Int32} {k : Nat} {x : Int32} : upd f k x k = x := if_pos rfl
/-- scratch of rates, seek, passes -/
def fN (k j : Nat) : Bool := decide (k = 52 ∧ 36 ≤ j ∧ j ≤ 38)
def fR (k j : Nat) : Bool := decide (k = 52 ∧ 34 ≤ j ∧ j ≤ 35)
def fD (k j : Nat) : Bool := decide (k = 52 ∧ j = 35)
def fS (k j : Nat) : Bool := decide (k = 52 ∧ 34 ≤ j ∧ j ≤ 39)
def p0 (_ : Nat) : Bool := false
def pR (k : Nat) : Bool := decide (72 ≤ k ∧ k ≤ 75)
def pS (k : Nat) : Bool := decide (72 ≤ k ∧ k ≤ 76)
theorem fN_S : ∀ k j, fS k j = false → fN k j = false := by
  intro k j h
  simp only [fS, fN, decide_eq_false_iff_not] at h ⊢
  omega
theorem fR_S : ∀ k j, fS k j = false → fR k j = false := by
  intro k j h
  simp only [fS, fR, decide_eq_false_iff_not] at h ⊢
  omega
theorem fD_R : ∀ k j, fR k j = false → fD k j = false := by
  intro k j h
  simp only [fR, fD, decide_eq_false_iff_not] at h ⊢
  omega
theorem pR_S : ∀ k, pS k = false → pR k = false := by
  intro k h
  simp only [pS, pR, decide_eq_false_iff_not] at h ⊢
  omega
theorem p0_x {p : Nat → Bool} : ∀ k, p k = false → p0 k = false := fun _ _ => rfl
/-- Euclid's walk -/
def mDv : Nat → Int64 → Int64 → Int64
  | 0, x, _ => x
  | n + 1, x, y => if y = 0 then x else mDv n y (x - x / y * y)
def mAb (a : Int64) : Int64 := if a < 0 then -a else a
def mD (a b : Int64) : Int64 := mDv (b.toInt.natAbs + 1) (mAb a) b
def mRun (kind own siph opn : Nat → Int32) (p : Nat) : Nat → Int32
  | 0 => opn p
  | k + 1 => if mRun kind own siph opn p k = 0 then 0 else if kind k = 1 ∧ own k = nI p ∧ siph k = 0 then 0 else 1
theorem mRun_Z {kind own siph opn : Nat → Int32} {p : Nat} (h : opn p = 0 ∨ opn p = 1) : ∀ k, mRun kind own siph opn p k = 0 ∨ mRun kind own siph opn p k = 1
  | 0 => h
  | k + 1 => by
    unfold mRun
    split
    · exact Or.inl rfl
    · split
      · exact Or.inl rfl
      · exact Or.inr rfl
theorem mRun_0 {kind own siph opn : Nat → Int32} {p k : Nat} (h : mRun kind own siph opn p k = 0) : mRun kind own siph opn p (k + 1) = 0 := if_pos h
theorem mRun_a {kind own siph opn : Nat → Int32} {p k : Nat} (h : ¬ mRun kind own siph opn p k = 0) (h1 : kind k = 1) (h2 : own k = nI p) (h3 : siph k = 0) : mRun kind own siph opn p (k + 1) = 0 := (if_neg h).trans (if_pos ⟨h1, h2, h3⟩)
theorem mRun_b {kind own siph opn : Nat → Int32} {p k : Nat} (h : ¬ mRun kind own siph opn p k = 0) (h1 : ¬ kind k = 1) : mRun kind own siph opn p (k + 1) = 1 := (if_neg h).trans (if_neg (fun q => h1 q.1))
theorem mRun_c {kind own siph opn : Nat → Int32} {p k : Nat} (h : ¬ mRun kind own siph opn p k = 0) (h1 : ¬ own k = nI p) : mRun kind own siph opn p (k + 1) = 1 := (if_neg h).trans (if_neg (fun q => h1 q.2.1))
theorem mRun_d {kind own siph opn : Nat → Int32} {p k : Nat} (h : ¬ mRun kind own siph opn p k = 0) (h1 : ¬ siph k = 0) : mRun kind own siph opn p (k + 1) = 1 := (if_neg h).trans (if_neg (fun q => h1 q.2.2))
def mFl (lev : Int64) (amt left : Int32) : Int32 := if 0 < lev ∨ amt < left then amt else left
theorem mFl_a {lev : Int64} {amt left : Int32} (h : 0 < lev) : mFl lev amt left = amt := if_pos (Or.inl h)
theorem mFl_b {lev : Int64} {amt left : Int32} (h : amt < left) : mFl lev amt left = amt := if_pos (Or.inr h)
theorem mFl_c {lev : Int64} {amt left : Int32} (h : ¬ 0 < lev) (h2 : ¬ amt < left) : mFl lev amt left = left := if_neg (fun q => q.elim h h2)
def mGoC (c : Nat → Int32) (w m : Int32) : Nat → Int32 := if w = -1 then c else upd c w.toNatClampNeg (c w.toNatClampNeg + m)
def mGoD (d w m : Int32) : Int32 := if w = -1 then d + m else d
theorem mGoC_m {c : Nat → Int32} {m : Int32} : mGoC c (-1) m = c := if_pos rfl
theorem mGoD_m {d m : Int32} : mGoD d (-1) m = d + m := if_pos rfl
theorem mGoC_t {c : Nat → Int32} {m : Int32} {t : Nat} (h : t < 8) : mGoC c (nI t) m = upd c t (c t + m) := by
  unfold mGoC
  rw [if_neg (nI_nem (by omega)), nI_clamp (by omega)]
theorem mGoD_t {d m : Int32} {t : Nat} (h : t < 8) : mGoD d (nI t) m = d := if_neg (nI_nem (by omega))
/-- what a vessel's pipes let: rates' came, drainRate, left, lets behind k pipes -/
def mRO (frm too amt run : Nat → Int32) (lev : Int64) (v : Nat) (s : (Nat → Int32) × Int32 × Int32 × Int32) : Nat → (Nat → Int32) × Int32 × Int32 × Int32
  | 0 => s
  | k + 1 => if frm k = nI v ∧ ¬ run k = 0 then (mGoC (mRO frm too amt run lev v s k).1 (too k) (mFl lev (amt k) (mRO frm too amt run lev v s k).2.2.1), mGoD (mRO frm too amt run lev v s k).2.1 (too k) (mFl lev (amt k) (mRO frm too amt run lev v s k).2.2.1), (mRO frm too amt run lev v s k).2.2.1 - mFl lev (amt k) (mRO frm too amt run lev v s k).2.2.1, (mRO frm too amt run lev v s k).2.2.2 + mFl lev (amt k) (mRO frm too amt run lev v s k).2.2.1) else mRO frm too amt run lev v s k
theorem mRO_n {frm too amt run : Nat → Int32} {lev : Int64} {v : Nat} {s : (Nat → Int32) × Int32 × Int32 × Int32} {k : Nat} (h : ¬ (frm k = nI v ∧ ¬ run k = 0)) : mRO frm too amt run lev v s (k + 1) = mRO frm too amt run lev v s k := if_neg h
theorem mRO_y {frm too amt run : Nat → Int32} {lev : Int64} {v : Nat} {s : (Nat → Int32) × Int32 × Int32 × Int32} {k : Nat} (f w : Int32) (hw : too k = w) (hf : mFl lev (amt k) (mRO frm too amt run lev v s k).2.2.1 = f) (h : frm k = nI v) (h2 : ¬ run k = 0) : mRO frm too amt run lev v s (k + 1) = (mGoC (mRO frm too amt run lev v s k).1 w f, mGoD (mRO frm too amt run lev v s k).2.1 w f, (mRO frm too amt run lev v s k).2.2.1 - f, (mRO frm too amt run lev v s k).2.2.2 + f) := by
  subst hf hw
  exact if_pos ⟨h, h2⟩
/-- came, drainRate, change, floods behind vessel v -/
def mRateOf (frm too amt run over brim : Nat → Int32) (lev : Nat → Int64) (g : Int64) (np v : Nat) (s : (Nat → Int32) × Int32 × (Nat → Int32) × (Nat → Int32)) : (Nat → Int32) × Int32 × (Nat → Int32) × (Nat → Int32) :=
  if 0 < (mRO frm too amt run (lev v) v (s.1, s.2.1, s.1 v, 0) np).1 v - (mRO frm too amt run (lev v) v (s.1, s.2.1, s.1 v, 0) np).2.2.2 ∧ lev v = Int32.toInt64 (brim v) * g then
    (mGoC (mRO frm too amt run (lev v) v (s.1, s.2.1, s.1 v, 0) np).1 (over v) ((mRO frm too amt run (lev v) v (s.1, s.2.1, s.1 v, 0) np).1 v - (mRO frm too amt run (lev v) v (s.1, s.2.1, s.1 v, 0) np).2.2.2), mGoD (mRO frm too amt run (lev v) v (s.1, s.2.1, s.1 v, 0) np).2.1 (over v) ((mRO frm too amt run (lev v) v (s.1, s.2.1, s.1 v, 0) np).1 v - (mRO frm too amt run (lev v) v (s.1, s.2.1, s.1 v, 0) np).2.2.2), upd s.2.2.1 v 0, upd s.2.2.2 v ((mRO frm too amt run (lev v) v (s.1, s.2.1, s.1 v, 0) np).1 v - (mRO frm too amt run (lev v) v (s.1, s.2.1, s.1 v, 0) np).2.2.2))
  else ((mRO frm too amt run (lev v) v (s.1, s.2.1, s.1 v, 0) np).1, (mRO frm too amt run (lev v) v (s.1, s.2.1, s.1 v, 0) np).2.1, upd s.2.2.1 v ((mRO frm too amt run (lev v) v (s.1, s.2.1, s.1 v, 0) np).1 v - (mRO frm too amt run (lev v) v (s.1, s.2.1, s.1 v, 0) np).2.2.2), s.2.2.2)
theorem mRateOf_n {frm too amt run over brim : Nat → Int32} {lev : Nat → Int64} {g : Int64} {np v : Nat} {s : (Nat → Int32) × Int32 × (Nat → Int32) × (Nat → Int32)} {r : (Nat → Int32) × Int32 × Int32 × Int32} (hr : mRO frm too amt run (lev v) v (s.1, s.2.1, s.1 v, 0) np = r) (h : ¬ (0 < r.1 v - r.2.2.2 ∧ lev v = Int32.toInt64 (brim v) * g)) : mRateOf frm too amt run over brim lev g np v s = (r.1, r.2.1, upd s.2.2.1 v (r.1 v - r.2.2.2), s.2.2.2) := by
  unfold mRateOf
  rw [hr, if_neg h]
theorem mRateOf_y {frm too amt run over brim : Nat → Int32} {lev : Nat → Int64} {g : Int64} {np v : Nat} {s : (Nat → Int32) × Int32 × (Nat → Int32) × (Nat → Int32)} {r : (Nat → Int32) × Int32 × Int32 × Int32} (w : Int32) (hw : over v = w) (hr : mRO frm too amt run (lev v) v (s.1, s.2.1, s.1 v, 0) np = r) (h : 0 < r.1 v - r.2.2.2) (h2 : lev v = Int32.toInt64 (brim v) * g) : mRateOf frm too amt run over brim lev g np v s = (mGoC r.1 w (r.1 v - r.2.2.2), mGoD r.2.1 w (r.1 v - r.2.2.2), upd s.2.2.1 v 0, upd s.2.2.2 v (r.1 v - r.2.2.2)) := by
  subst hw
  unfold mRateOf
  rw [hr, if_pos ⟨h, h2⟩]
/-- what comes out of the spring: came, drainRate, springRate behind k pipes -/
def mF0 (frm amt run : Nat → Int32) (p : Nat) : Int32 := if frm p = -1 ∧ ¬ run p = 0 then amt p else 0
def mR1 (frm too amt run : Nat → Int32) : Nat → (Nat → Int32) × Int32 × Int32
  | 0 => (fun _ => 0, 0, 0)
  | k + 1 => (if 0 < mF0 frm amt run k then mGoC (mR1 frm too amt run k).1 (too k) (mF0 frm amt run k) else (mR1 frm too amt run k).1, if 0 < mF0 frm amt run k then mGoD (mR1 frm too amt run k).2.1 (too k) (mF0 frm amt run k) else (mR1 frm too amt run k).2.1, (mR1 frm too amt run k).2.2 + mF0 frm amt run k)
theorem mR1_n {frm too amt run : Nat → Int32} {k : Nat} (f : Int32) (hf : mF0 frm amt run k = f) (h : ¬ 0 < f) : mR1 frm too amt run (k + 1) = ((mR1 frm too amt run k).1, (mR1 frm too amt run k).2.1, (mR1 frm too amt run k).2.2 + f) := by
  subst hf
  rw [mR1, if_neg h, if_neg h]
theorem mR1_y {frm too amt run : Nat → Int32} {k : Nat} (f w : Int32) (hw : too k = w) (hf : mF0 frm amt run k = f) (h : 0 < f) : mR1 frm too amt run (k + 1) = (mGoC (mR1 frm too amt run k).1 w f, mGoD (mR1 frm too amt run k).2.1 w f, (mR1 frm too amt run k).2.2 + f) := by
  subst hf hw
  rw [mR1, if_pos h, if_pos h]
def mR2 (frm too amt run over brim : Nat → Int32) (lev : Nat → Int64) (g : Int64) (np : Nat) : Nat → (Nat → Int32) × Int32 × (Nat → Int32) × (Nat → Int32)
  | 0 => ((mR1 frm too amt run np).1, (mR1 frm too amt run np).2.1, fun _ => 0, fun _ => 0)
  | v + 1 => mRateOf frm too amt run over brim lev g np v (mR2 frm too amt run over brim lev g np v)
/-- the rates' rows as they stand -/
def mRel (I : Nat → Nat → Int32) (A : Nat → Nat → Int32) (s : (Nat → Int32) × Int32 × (Nat → Int32) × (Nat → Int32)) : Prop := (∀ j, j < 8 → A 72 j = s.1 j) ∧ I 52 35 = s.2.1 ∧ (∀ j, j < 8 → A 73 j = s.2.2.1 j) ∧ ∀ j, j < 8 → A 74 j = s.2.2.2 j
/-- the next change -/
def mN (I : Nat → Nat → Int32) (G : Nat → Nat → Int64) : Int32 × Int64 × Int64 := (I 52 38, G 52 36, G 52 37)
def mayF (g : Int64) (s : Int32 × Int64 × Int64) (way : Int64) (speed : Int32) : Int32 × Int64 × Int64 := if 0 < way ∧ 0 < speed ∧ (¬ s.1 = 0 ∨ way * s.2.2 < s.2.1 * (g * Int32.toInt64 speed)) then (0, way, g * Int32.toInt64 speed) else s
theorem mayF_a {g way : Int64} {s : Int32 × Int64 × Int64} {speed : Int32} (h : ¬ 0 < way) : mayF g s way speed = s := if_neg (fun q => h q.1)
theorem mayF_b {g way : Int64} {s : Int32 × Int64 × Int64} {speed : Int32} (h : ¬ 0 < speed) : mayF g s way speed = s := if_neg (fun q => h q.2.1)
theorem mayF_c {g way : Int64} {s : Int32 × Int64 × Int64} {speed : Int32} (h : s.1 = 0) (h2 : ¬ way * s.2.2 < s.2.1 * (g * Int32.toInt64 speed)) : mayF g s way speed = s := if_neg (fun q => q.2.2.elim (fun z => z h) h2)
theorem mayF_d {g way : Int64} {s : Int32 × Int64 × Int64} {speed : Int32} (h : 0 < way) (h1 : 0 < speed) (h2 : ¬ s.1 = 0) : mayF g s way speed = (0, way, g * Int32.toInt64 speed) := if_pos ⟨h, h1, Or.inl h2⟩
theorem mayF_e {g way : Int64} {s : Int32 × Int64 × Int64} {speed : Int32} (h : 0 < way) (h1 : 0 < speed) (h2 : way * s.2.2 < s.2.1 * (g * Int32.toInt64 speed)) : mayF g s way speed = (0, way, g * Int32.toInt64 speed) := if_pos ⟨h, h1, Or.inr h2⟩
theorem i64_rem (x y : Int64) (hy : ¬ y = 0) : (x - x / y * y).toInt = Int.tmod x.toInt y.toInt := by
  have hy0 : y.toInt ≠ 0 := fun q => hy (Int64.toInt_inj.mp (q.trans (by decide)))
  rw [Int64.toInt_sub, Int64.toInt_mul, Int64.toInt_div, Int.sub_bmod_bmod, ← Int.sub_bmod_bmod]
  have e1 : (((x.toInt.tdiv y.toInt).bmod (2 ^ 64)) * y.toInt).bmod (2 ^ 64) = ((x.toInt.tdiv y.toInt) * y.toInt).bmod (2 ^ 64) := Int.bmod_mul_bmod
  rw [e1, Int.sub_bmod_bmod]
  have e2 : x.toInt - x.toInt.tdiv y.toInt * y.toInt = Int.tmod x.toInt y.toInt := by
    rw [Int.tmod_def, Int.mul_comm]
  rw [e2]
  have b1 := Int.tmod_lt_of_pos
  have hx1 := Int64.toInt_lt x
  have hx2 := Int64.le_toInt x
  have hy1 := Int64.toInt_lt y
  have hy2 := Int64.le_toInt y
  have b2 : (Int.tmod x.toInt y.toInt).natAbs < y.toInt.natAbs := by
    rw [Int.natAbs_tmod]
    exact Nat.mod_lt _ (by omega)
  exact Int.bmod_eq_of_le (by omega) (by omega)
theorem mRem_lt (x : Int64) {y : Int64} (hy : ¬ y = 0) : (x - x / y * y).toInt.natAbs < y.toInt.natAbs := by
  rw [i64_rem x y hy, Int.natAbs_tmod]
  have hy0 : y.toInt ≠ 0 := fun q => hy (Int64.toInt_inj.mp (q.trans (by decide)))
  exact Nat.mod_lt _ (by omega)
theorem mDv_ne0 : ∀ (n : Nat) (x y : Int64), (¬ x = 0 ∨ ¬ y = 0) → y.toInt.natAbs < n → ¬ mDv n x y = 0
  | 0, _, _, _, h => absurd h (by omega)
  | n + 1, x, y, h, hn => by
    rw [mDv]
    by_cases hy : y = 0
    · rw [if_pos hy]; exact h.elim id (fun q => absurd hy q)
    · rw [if_neg hy]
      exact mDv_ne0 n _ _ (Or.inl hy) (by have q := mRem_lt x hy; omega)
theorem mD_ne0 {a b : Int64} (h : ¬ b = 0) : ¬ mD a b = 0 := mDv_ne0 _ _ _ (Or.inr h) (by omega)
theorem mDv_gcd : ∀ (n : Nat) (x y : Int64), 0 ≤ x.toInt → 0 ≤ y.toInt → y.toInt.natAbs < n → (mDv n x y).toInt = (Nat.gcd x.toInt.toNat y.toInt.toNat : Int)
  | 0, _, _, _, _, h => absurd h (by omega)
  | n + 1, x, y, hx, h0, hn => by
    rw [mDv]
    by_cases hy : y = 0
    · rw [if_pos hy, hy]
      show x.toInt = _
      rw [show (0 : Int64).toInt.toNat = 0 by decide, Nat.gcd_zero_right]
      omega
    · rw [if_neg hy]
      have q := mRem_lt x hy
      have e := i64_rem x y hy
      have hy0 : y.toInt ≠ 0 := fun q => hy (Int64.toInt_inj.mp (q.trans (by decide)))
      have e3 : (x - x / y * y).toInt = ((x.toInt.toNat % y.toInt.toNat : Nat) : Int) := by
        rw [e, Int.tmod_eq_emod_of_nonneg hx]
        rw [Int.natCast_emod, Int.toNat_of_nonneg hx, Int.toNat_of_nonneg h0]
      rw [mDv_gcd n _ _ h0 (by omega) (by omega), e3, Int.toNat_natCast]
      rw [Nat.gcd_comm, Nat.gcd_comm x.toInt.toNat, ← Nat.gcd_rec]
theorem mD_gcd {a b : Int64} (ha : -2 ^ 63 < a.toInt) (hb : 0 ≤ b.toInt) : (mD a b).toInt = (Nat.gcd a.toInt.natAbs b.toInt.toNat : Int) := by
  unfold mD mAb
  by_cases h : a < 0
  · rw [if_pos h]
    rw [Int64.lt_iff_toInt_lt] at h
    have e0 : (0 : Int64).toInt = 0 := by decide
    have h2 := Int64.toInt_lt a
    have e : (-a).toInt = -a.toInt := by
      rw [Int64.toInt_neg]
      exact Int.bmod_eq_of_le (by omega) (by omega)
    rw [mDv_gcd _ _ _ (by omega) hb (by omega), e]
    congr 2
    omega
  · rw [if_neg h]
    rw [Int64.lt_iff_toInt_lt] at h
    have e0 : (0 : Int64).toInt = 0 := by decide
    rw [mDv_gcd _ _ _ (by omega) hb (by omega)]
    congr 2
    omega
set_option maxRecDepth 100000 in
set_option maxHeartbeats 0 in
theorem lmm_divisor (ro : UInt32 → Nat × (Nat → Int32)) (h : List va_E) : ∀ (n : Nat) (ls : List (Nat × Value)) (x y : Int64), zld ls 4 = some (.long x) → zld ls 6 = some (.long y) → y.toInt.natAbs < n → zWp ro 125 17 ls [] h 0 0 (fun r h1 => h1 = h ∧ r = some (.long (mDv n x y))) := by
  intro n
  induction n with
  | zero =>
    intro ls x y _ _ q
    exact absurd q (by omega)
  | succ n ih =>
    intro ls x y h4 h6 hn
    refine zw_lload 19 f125_17 rfl h6 ?_
    refine zw_lconst 0 20 f125_19 rfl (by decide +kernel) ?_
    refine zw_lcmp (lg_cmp y 0) 21 f125_20 rfl rfl ?_
    refine zw_if_eq 24 42 f125_21 (by decide +kernel) rfl (fun hc1 => ?_) (fun hc1 => ?_)
    · refine zw_lload 44 f125_42 rfl h4 ?_
      refine zw_lreturn f125_44 r125 u125 ?_
      refine ⟨rfl, ?_⟩
      rw [mDv, if_pos ((lg_cmp_eq _ _).mp hc1)]
    · refine zw_lload 26 f125_24 rfl h4 ?_
      refine zw_lload 28 f125_26 rfl h6 ?_
      refine zw_lrem (x - x / y * y) 29 f125_28 rfl (fun q => hc1 ((lg_cmp_eq _ _).mpr q)) rfl ?_
      refine zw_lstore _ 31 f125_29 rfl (by decide +kernel) rfl ?_
      refine zw_lload 33 f125_31 rfl (zl2_ne rfl rfl h6) ?_
      refine zw_lstore _ 35 f125_33 rfl (by decide +kernel) rfl ?_
      refine zw_lload 37 f125_35 rfl (zl2_ne rfl rfl zl2_eq) ?_
      refine zw_lstore _ 39 f125_37 rfl (by decide +kernel) rfl ?_
      refine zw_goto 17 f125_39 (by decide +kernel) ?_
      rw [mDv, if_neg (fun q => hc1 ((lg_cmp_eq _ _).mpr q))]
      exact ih _ _ _ (zl2_ne rfl rfl zl2_eq) zl2_eq (by have q := mRem_lt x (fun q => hc1 ((lg_cmp_eq _ _).mpr q)); omega)
set_option maxRecDepth 100000 in
set_option maxHeartbeats 0 in
theorem mm_divisor (ro : UInt32 → Nat × (Nat → Int32)) (h : List va_E) (a b : Int64) : zWp ro 125 0 [(0, .long a), (2, .long b)] [] h 0 0 (fun r h1 => h1 = h ∧ r = some (.long (mD a b))) := by
  refine zw_lload_n 1 f125_0 rfl rfl ?_
  refine zw_lconst 0 2 f125_1 rfl (by decide +kernel) ?_
  refine zw_lcmp (lg_cmp a 0) 3 f125_2 rfl rfl ?_
  refine zw_if_ge 6 11 f125_3 (by decide +kernel) rfl (fun hc1 => ?_) (fun hc1 => ?_)
  · refine zw_lload_n 12 f125_11 rfl rfl ?_
    refine zw_lstore _ 14 f125_12 rfl (by decide +kernel) rfl ?_
    refine zw_lload_n 15 f125_14 rfl (zl2_ne rfl rfl rfl) ?_
    refine zw_lstore _ 17 f125_15 rfl (by decide +kernel) rfl ?_
    unfold mD
    rw [show mAb a = a from (if_neg (Int64.not_lt.mpr ((lg_cmp_ge _ _).mp hc1)))]
    exact lmm_divisor ro h _ _ _ _ (zl2_ne rfl rfl zl2_eq) zl2_eq (by omega)
  · refine zw_lload_n 7 f125_6 rfl rfl ?_
    refine zw_lneg (-a) 8 f125_7 rfl rfl ?_
    refine zw_goto 12 f125_8 (by decide +kernel) ?_
    refine zw_lstore _ 14 f125_12 rfl (by decide +kernel) rfl ?_
    refine zw_lload_n 15 f125_14 rfl (zl2_ne rfl rfl rfl) ?_
    refine zw_lstore _ 17 f125_15 rfl (by decide +kernel) rfl ?_
    unfold mD
    rw [show mAb a = (-a) from (if_pos (Int64.not_le.mp (fun q => hc1 ((lg_cmp_ge _ _).mpr q))))]
    exact lmm_divisor ro h _ _ _ _ (zl2_ne rfl rfl zl2_eq) zl2_eq (by omega)
