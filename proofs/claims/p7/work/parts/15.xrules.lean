section ZXR
variable {ro : UInt32 → Nat × (Nat → Int32)} {M pc : Nat} {ls : List (Nat × Value)} {st : List Value} {h : List va_E} {uc us : Nat} {post : Option Value → List va_E → Prop}
theorem zx_iadd {x y : Int32} (q : Nat) (e : zf M pc = some (.iadd)) (hq : pc + 1 = q) (kk : ∀ v : Int32, x + y = v → zWp ro M q ls (.int v :: st) h uc us post) : zWp ro M pc ls (.int y :: .int x :: st) h uc us post := zw_iadd _ q e hq rfl (kk _ rfl)
theorem zx_isub {x y : Int32} (q : Nat) (e : zf M pc = some (.isub)) (hq : pc + 1 = q) (kk : ∀ v : Int32, x - y = v → zWp ro M q ls (.int v :: st) h uc us post) : zWp ro M pc ls (.int y :: .int x :: st) h uc us post := zw_isub _ q e hq rfl (kk _ rfl)
theorem zx_imul {x y : Int32} (q : Nat) (e : zf M pc = some (.imul)) (hq : pc + 1 = q) (kk : ∀ v : Int32, x * y = v → zWp ro M q ls (.int v :: st) h uc us post) : zWp ro M pc ls (.int y :: .int x :: st) h uc us post := zw_imul _ q e hq rfl (kk _ rfl)
theorem zx_iand {x y : Int32} (q : Nat) (e : zf M pc = some (.iand)) (hq : pc + 1 = q) (kk : ∀ v : Int32, x &&& y = v → zWp ro M q ls (.int v :: st) h uc us post) : zWp ro M pc ls (.int y :: .int x :: st) h uc us post := zw_iand _ q e hq rfl (kk _ rfl)
theorem zx_ior {x y : Int32} (q : Nat) (e : zf M pc = some (.ior)) (hq : pc + 1 = q) (kk : ∀ v : Int32, x ||| y = v → zWp ro M q ls (.int v :: st) h uc us post) : zWp ro M pc ls (.int y :: .int x :: st) h uc us post := zw_ior _ q e hq rfl (kk _ rfl)
theorem zx_ixor {x y : Int32} (q : Nat) (e : zf M pc = some (.ixor)) (hq : pc + 1 = q) (kk : ∀ v : Int32, x ^^^ y = v → zWp ro M q ls (.int v :: st) h uc us post) : zWp ro M pc ls (.int y :: .int x :: st) h uc us post := zw_ixor _ q e hq rfl (kk _ rfl)
theorem zx_ishl {x y : Int32} (q : Nat) (e : zf M pc = some (.ishl)) (hq : pc + 1 = q) (kk : ∀ v : Int32, x <<< (y &&& 31) = v → zWp ro M q ls (.int v :: st) h uc us post) : zWp ro M pc ls (.int y :: .int x :: st) h uc us post := zw_ishl _ q e hq rfl (kk _ rfl)
theorem zx_ishr {x y : Int32} (q : Nat) (e : zf M pc = some (.ishr)) (hq : pc + 1 = q) (kk : ∀ v : Int32, x >>> (y &&& 31) = v → zWp ro M q ls (.int v :: st) h uc us post) : zWp ro M pc ls (.int y :: .int x :: st) h uc us post := zw_ishr _ q e hq rfl (kk _ rfl)
theorem zx_ladd {x y : Int64} (q : Nat) (e : zf M pc = some (.ladd)) (hq : pc + 1 = q) (kk : ∀ v : Int64, x + y = v → zWp ro M q ls (.long v :: st) h uc us post) : zWp ro M pc ls (.long y :: .long x :: st) h uc us post := zw_ladd _ q e hq rfl (kk _ rfl)
theorem zx_lsub {x y : Int64} (q : Nat) (e : zf M pc = some (.lsub)) (hq : pc + 1 = q) (kk : ∀ v : Int64, x - y = v → zWp ro M q ls (.long v :: st) h uc us post) : zWp ro M pc ls (.long y :: .long x :: st) h uc us post := zw_lsub _ q e hq rfl (kk _ rfl)
theorem zx_lmul {x y : Int64} (q : Nat) (e : zf M pc = some (.lmul)) (hq : pc + 1 = q) (kk : ∀ v : Int64, x * y = v → zWp ro M q ls (.long v :: st) h uc us post) : zWp ro M pc ls (.long y :: .long x :: st) h uc us post := zw_lmul _ q e hq rfl (kk _ rfl)
theorem zx_lor {x y : Int64} (q : Nat) (e : zf M pc = some (.lor)) (hq : pc + 1 = q) (kk : ∀ v : Int64, x ||| y = v → zWp ro M q ls (.long v :: st) h uc us post) : zWp ro M pc ls (.long y :: .long x :: st) h uc us post := zw_lor _ q e hq rfl (kk _ rfl)
theorem zx_idiv {x y : Int32} (q : Nat) (e : zf M pc = some (.idiv)) (hq : pc + 1 = q) (hn : ¬ y = 0) (kk : ∀ v : Int32, x / y = v → zWp ro M q ls (.int v :: st) h uc us post) : zWp ro M pc ls (.int y :: .int x :: st) h uc us post := zw_idiv _ q e hq hn rfl (kk _ rfl)
theorem zx_irem {x y : Int32} (q : Nat) (e : zf M pc = some (.irem)) (hq : pc + 1 = q) (hn : ¬ y = 0) (kk : ∀ v : Int32, x - x / y * y = v → zWp ro M q ls (.int v :: st) h uc us post) : zWp ro M pc ls (.int y :: .int x :: st) h uc us post := zw_irem _ q e hq hn rfl (kk _ rfl)
theorem zx_ldiv {x y : Int64} (q : Nat) (e : zf M pc = some (.ldiv)) (hq : pc + 1 = q) (hn : ¬ y = 0) (kk : ∀ v : Int64, x / y = v → zWp ro M q ls (.long v :: st) h uc us post) : zWp ro M pc ls (.long y :: .long x :: st) h uc us post := zw_ldiv _ q e hq hn rfl (kk _ rfl)
theorem zx_lrem {x y : Int64} (q : Nat) (e : zf M pc = some (.lrem)) (hq : pc + 1 = q) (hn : ¬ y = 0) (kk : ∀ v : Int64, x - x / y * y = v → zWp ro M q ls (.long v :: st) h uc us post) : zWp ro M pc ls (.long y :: .long x :: st) h uc us post := zw_lrem _ q e hq hn rfl (kk _ rfl)
theorem zx_ineg {x : Int32} (q : Nat) (e : zf M pc = some (.ineg)) (hq : pc + 1 = q) (kk : ∀ v : Int32, -x = v → zWp ro M q ls (.int v :: st) h uc us post) : zWp ro M pc ls (.int x :: st) h uc us post := zw_ineg _ q e hq rfl (kk _ rfl)
theorem zx_lneg {x : Int64} (q : Nat) (e : zf M pc = some (.lneg)) (hq : pc + 1 = q) (kk : ∀ v : Int64, -x = v → zWp ro M q ls (.long v :: st) h uc us post) : zWp ro M pc ls (.long x :: st) h uc us post := zw_lneg _ q e hq rfl (kk _ rfl)
theorem zx_lshl {x : Int64} {y : Int32} (q : Nat) (e : zf M pc = some (.lshl)) (hq : pc + 1 = q) (kk : ∀ v : Int64, x <<< (y.toInt64 &&& 63) = v → zWp ro M q ls (.long v :: st) h uc us post) : zWp ro M pc ls (.int y :: .long x :: st) h uc us post := zw_lshl _ q e hq rfl (kk _ rfl)
theorem zx_lcmp {x y : Int64} (q : Nat) (e : zf M pc = some (.lcmp)) (hq : pc + 1 = q) (kk : ∀ v : Int32, lg_cmp x y = v → zWp ro M q ls (.int v :: st) h uc us post) : zWp ro M pc ls (.long y :: .long x :: st) h uc us post := zw_lcmp _ q e hq rfl (kk _ rfl)
theorem zx_i2l {x : Int32} (q : Nat) (e : zf M pc = some (.i2l)) (hq : pc + 1 = q) (kk : ∀ v : Int64, x.toInt64 = v → zWp ro M q ls (.long v :: st) h uc us post) : zWp ro M pc ls (.int x :: st) h uc us post := zw_i2l _ q e hq rfl (kk _ rfl)
theorem zx_l2i {x : Int64} (q : Nat) (e : zf M pc = some (.l2i)) (hq : pc + 1 = q) (kk : ∀ v : Int32, x.toInt32 = v → zWp ro M q ls (.int v :: st) h uc us post) : zWp ro M pc ls (.long x :: st) h uc us post := zw_l2i _ q e hq rfl (kk _ rfl)
theorem zx_iaload {i : Int32} {k n : Nat} {f : Nat → Int32} (j : Nat) (q : Nat) (e : zf M pc = some (.iaload)) (hq : pc + 1 = q) (hk : h[k]? = some (.inl (0, n, .inl f))) (hi : i.toNatClampNeg = j) (h0 : ¬ i < 0) (hj : j < n) (kk : ∀ v : Int32, f j = v → zWp ro M q ls (.int v :: st) h uc us post) : zWp ro M pc ls (.int i :: .ref k :: st) h uc us post := zw_iaload j _ q e hq hk hi h0 hj rfl (kk _ rfl)
theorem zx_baload {i : Int32} {k n : Nat} {f : Nat → Int32} (j : Nat) (q : Nat) (e : zf M pc = some (.baload)) (hq : pc + 1 = q) (hk : h[k]? = some (.inl (2, n, .inl f))) (hi : i.toNatClampNeg = j) (h0 : ¬ i < 0) (hj : j < n) (kk : ∀ v : Int32, f j = v → zWp ro M q ls (.int v :: st) h uc us post) : zWp ro M pc ls (.int i :: .ref k :: st) h uc us post := zw_baload j _ q e hq hk hi h0 hj rfl (kk _ rfl)
theorem zx_laload {i : Int32} {k n : Nat} {f : Nat → Int64} (j : Nat) (q : Nat) (e : zf M pc = some (.laload)) (hq : pc + 1 = q) (hk : h[k]? = some (.inl (1, n, .inr (.inl f)))) (hi : i.toNatClampNeg = j) (h0 : ¬ i < 0) (hj : j < n) (kk : ∀ v : Int64, f j = v → zWp ro M q ls (.long v :: st) h uc us post) : zWp ro M pc ls (.int i :: .ref k :: st) h uc us post := zw_laload j _ q e hq hk hi h0 hj rfl (kk _ rfl)
theorem zx_getI {n k ci j : Nat} {fs : List Value} {x : Int32} (q : Nat) (e : zf M pc = some (.getfield n)) (hq : pc + 3 = q) (hf : zfd (zoc M) n ci = some j) (hk : h[k]? = some (.inr (ci, fs))) (hx : fs[j]? = some (.int x)) (kk : ∀ v : Int32, x = v → zWp ro M q ls (.int v :: st) h uc us post) : zWp ro M pc ls (.ref k :: st) h uc us post := zw_getI _ q e hq hf hk hx rfl (kk _ rfl)
theorem zx_getG {n k ci j : Nat} {fs : List Value} {x : Int64} (q : Nat) (e : zf M pc = some (.getfield n)) (hq : pc + 3 = q) (hf : zfd (zoc M) n ci = some j) (hk : h[k]? = some (.inr (ci, fs))) (hx : fs[j]? = some (.long x)) (kk : ∀ v : Int64, x = v → zWp ro M q ls (.long v :: st) h uc us post) : zWp ro M pc ls (.ref k :: st) h uc us post := zw_getG _ q e hq hf hk hx rfl (kk _ rfl)
theorem zx_iinc {n : Nat} {d : Int} {x : Int32} {ls2 : Int32 → List (Nat × Value)} (q : Nat) (e : zf M pc = some (.iinc n d)) (hq : pc + 3 = q) (hx : zld ls n = some (.int x)) (hk : n < zN M) (hl : ∀ v, zs1 ls n (.int v) = ls2 v) (kk : ∀ v : Int32, x + Int32.ofInt d = v → zWp ro M q (ls2 v) st h uc us post) : zWp ro M pc ls st h uc us post := zw_iinc _ _ q e hq hx hk rfl (hl _) (kk _ rfl)
end ZXR
/-- which cells of a state are as before -/
def KP (p : Nat → Bool) (I : Nat → Nat → Int32) (G : Nat → Nat → Int64) (A : Nat → Nat → Int32) (B : Nat → Nat → Int64) (I2 : Nat → Nat → Int32) (G2 : Nat → Nat → Int64) (A2 : Nat → Nat → Int32) (B2 : Nat → Nat → Int64) : Prop :=
  (∀ k j, p k = false → I2 k j = I k j) ∧ (∀ k j, p k = false → G2 k j = G k j) ∧ (∀ k, p k = false → A2 k = A k) ∧ ∀ k, p k = false → B2 k = B k
section ZKP
variable {p p2 : Nat → Bool} {I I2 I3 : Nat → Nat → Int32} {G G2 G3 : Nat → Nat → Int64} {A A2 A3 : Nat → Nat → Int32} {B B2 B3 : Nat → Nat → Int64}
theorem KP.rf : KP p I G A B I G A B := ⟨fun _ _ _ => rfl, fun _ _ _ => rfl, fun _ _ => rfl, fun _ _ => rfl⟩
theorem KP.tr (h1 : KP p I G A B I2 G2 A2 B2) (h2 : KP p I2 G2 A2 B2 I3 G3 A3 B3) : KP p I G A B I3 G3 A3 B3 := ⟨fun k j h => (h2.1 k j h).trans (h1.1 k j h), fun k j h => (h2.2.1 k j h).trans (h1.2.1 k j h), fun k h => (h2.2.2.1 k h).trans (h1.2.2.1 k h), fun k h => (h2.2.2.2 k h).trans (h1.2.2.2 k h)⟩
theorem KP.wk (h1 : KP p I G A B I2 G2 A2 B2) (hp : ∀ k, p2 k = false → p k = false) : KP p2 I G A B I2 G2 A2 B2 := ⟨fun k j h => h1.1 k j (hp k h), fun k j h => h1.2.1 k j (hp k h), fun k h => h1.2.2.1 k (hp k h), fun k h => h1.2.2.2 k (hp k h)⟩
theorem KP.i {k j : Nat} {v : Int32} (hk : p k = true) (h : KP p I G A B I2 G2 A2 B2) : KP p I G A B (upd2 I2 k j v) G2 A2 B2 := by
  refine ⟨fun a b ha => ?_, h.2.1, h.2.2.1, h.2.2.2⟩
  unfold upd2
  rw [if_neg (fun q => by rw [q, hk] at ha; cases ha)]
  exact h.1 a b ha
theorem KP.g {k j : Nat} {v : Int64} (hk : p k = true) (h : KP p I G A B I2 G2 A2 B2) : KP p I G A B I2 (upd2 G2 k j v) A2 B2 := by
  refine ⟨h.1, fun a b ha => ?_, h.2.2.1, h.2.2.2⟩
  unfold upd2
  rw [if_neg (fun q => by rw [q, hk] at ha; cases ha)]
  exact h.2.1 a b ha
theorem KP.a {k : Nat} {f : Nat → Int32} (hk : p k = true) (h : KP p I G A B I2 G2 A2 B2) : KP p I G A B I2 G2 (updA A2 k f) B2 := by
  refine ⟨h.1, h.2.1, fun a ha => ?_, h.2.2.2⟩
  unfold updA
  rw [if_neg (fun q => by rw [q, hk] at ha; cases ha)]
  exact h.2.2.1 a ha
theorem KP.b {k : Nat} {f : Nat → Int64} (hk : p k = true) (h : KP p I G A B I2 G2 A2 B2) : KP p I G A B I2 G2 A2 (updA B2 k f) := by
  refine ⟨h.1, h.2.1, h.2.2.1, fun a ha => ?_⟩
  unfold updA
  rw [if_neg (fun q => by rw [q, hk] at ha; cases ha)]
  exact h.2.2.2 a ha
end ZKP
theorem zld_f {p : Nat × Value → Bool} : ∀ {ls : List (Nat × Value)} {j : Nat} {x : Value}, p (j, x) = true → zld ls j = some x → zld (ls.filter p) j = some x
  | [], _, _, _, h => h
  | q :: r, j, x, hp, h => by
    unfold zld at h
    by_cases hq : q.1 = j
    · rw [if_pos hq] at h
      have e : q = (j, x) := Prod.ext hq (Option.some.inj h)
      subst e
      rw [List.filter_cons_of_pos hp]
      unfold zld
      rw [if_pos rfl]
    · rw [if_neg hq] at h
      by_cases hpq : p q = true
      · rw [List.filter_cons_of_pos hpq]
        unfold zld
        rw [if_neg hq]
        exact zld_f hp h
      · rw [List.filter_cons_of_neg hpq]
        exact zld_f hp h
theorem zld_no : ∀ {ls : List (Nat × Value)} {i : Nat}, (∀ q ∈ ls, ¬ q.1 = i) → ∀ v, zld (zins ls i v) i = some v
  | [], i, _, v => by unfold zins zld; rw [if_pos rfl]
  | q :: r, i, h, v => by
    unfold zins
    split
    · unfold zld
      rw [if_neg (h q List.mem_cons_self)]
      exact zld_no (fun w hw => h w (List.mem_cons_of_mem _ hw)) v
    · unfold zld
      rw [if_pos rfl]
theorem zld_in : ∀ {ls : List (Nat × Value)} {i j : Nat} {v x : Value}, ¬ i = j → zld ls j = some x → zld (zins ls i v) j = some x
  | [], _, _, _, _, _, h => by simp [zld] at h
  | q :: r, i, j, v, x, hn, h => by
    unfold zins
    split
    · unfold zld at h ⊢
      by_cases hq : q.1 = j
      · rw [if_pos hq] at h ⊢; exact h
      · rw [if_neg hq] at h ⊢; exact zld_in hn h
    · show zld ((i, v) :: q :: r) j = some x
      rw [zld, if_neg hn]
      exact h
theorem zl1_eq {ls : List (Nat × Value)} {i : Nat} {v : Value} : zld (zs1 ls i v) i = some v := by
  refine zld_no (fun q hq => ?_) v
  have h := (List.mem_filter.mp hq).2
  simp only [Bool.and_eq_true, Bool.not_eq_true', beq_eq_false_iff_ne, ne_eq] at h
  exact h.1
theorem zl2_eq {ls : List (Nat × Value)} {i : Nat} {v : Value} : zld (zs2 ls i v) i = some v := by
  refine zld_no (fun q hq => ?_) v
  have h := (List.mem_filter.mp hq).2
  simp only [Bool.and_eq_true, Bool.not_eq_true', beq_eq_false_iff_ne, ne_eq] at h
  exact h.1
theorem zl1_ne {ls : List (Nat × Value)} {i j : Nat} {v x : Value} (hn : Nat.beq i j = false) (hp : (!(j == i) && !(j + 1 == i && x.category == 2)) = true) (h : zld ls j = some x) : zld (zs1 ls i v) j = some x :=
  zld_in (Nat.ne_of_beq_eq_false hn) (zld_f hp h)
theorem zl2_ne {ls : List (Nat × Value)} {i j : Nat} {v x : Value} (hn : Nat.beq i j = false) (hp : (!(j == i) && (!(j == i + 1) && !(j + 1 == i && x.category == 2))) = true) (h : zld ls j = some x) : zld (zs2 ls i v) j = some x :=
  zld_in (Nat.ne_of_beq_eq_false hn) (zld_f hp h)
theorem zix {a N : Int32} {n : Nat} (hN : N.toInt = (n : Int)) (h0 : ¬ a < 0) (h1 : ¬ N ≤ a) : a.toNatClampNeg < n := by
  rw [Int32.lt_iff_toInt_lt] at h0
  rw [Int32.le_iff_toInt_le] at h1
  have e0 : (0 : Int32).toInt = 0 := by decide
  show a.toInt.toNat < n
  omega
theorem zn_lt {a b : Nat} (ha : a < 2 ^ 31) (hb : b < 2 ^ 31) (h : ¬ nI a ≤ nI b) : b < a := by
  rcases Nat.lt_or_ge b a with q | q
  · exact q
  · exact absurd (nI_le q hb) h
theorem zn_ge {a b : Nat} (ha : a < 2 ^ 31) (hb : b < 2 ^ 31) (h : nI a ≤ nI b) : a ≤ b := by
  rcases Nat.lt_or_ge b a with q | q
  · exact absurd h (nI_ge q ha)
  · exact q
/-- the two works' cells -/
def pW (k : Nat) : Bool := decide (11 ≤ k) && (decide (k ≤ 32) && decide (k ≠ 15))
/-- all of the class's that moves: works, log, rounds, status -/
def pN (k : Nat) : Bool := decide (k = 0) || (decide (11 ≤ k) && (decide (k ≤ 43) && decide (k ≠ 15)))
def pX (k : Nat) : Bool := decide (k < 52)
def CI (nv np : Nat) (I : Nat → Nat → Int32) : Prop := (I 1 0 = nI nv ∧ nv ≤ 8) ∧ (I 1 1 = nI np ∧ np ≤ 14) ∧ (∃ a, a ≤ 8 ∧ I 11 12 = nI a) ∧ ∃ a, a ≤ 8 ∧ I 22 12 = nI a
def zRt0 (r : Option Value) : Prop := r = none
def zRt1 (r : Option Value) : Prop := ∃ v : Int32, r = some (.int v)
def zRt2 (r : Option Value) : Prop := ∃ v : Int32, r = some (.int v) ∧ (v = 0 ∨ v = 1)
def zRt3 (r : Option Value) : Prop := ∃ v : Int64, r = some (.long v)
/-- what a method of the works leaves -/
def zWk (p : Nat → Bool) (nv np : Nat) (I : Nat → Nat → Int32) (G : Nat → Nat → Int64) (A : Nat → Nat → Int32) (B : Nat → Nat → Int64) (rt : Option Value → Prop) (r : Option Value) (h1 : List va_E) : Prop :=
  ∃ I2 G2 A2 B2, h1 = hS I2 G2 A2 B2 ∧ KP p I G A B I2 G2 A2 B2 ∧ CI nv np I2 ∧ rt r
