/-! ===== the class, exact: bits (the rows up to b_sshr are kit/laws/BITS.to-paste) ===== -/
def bt (x : Int32) (i : Nat) : Bool := x.toBitVec.getLsbD i
theorem b_ext {x y : Int32} (h : ∀ i, i < 32 → bt x i = bt y i) : x = y := Int32.toBitVec_inj.mp (BitVec.eq_of_getLsbD_eq (fun i hi => h i hi))
theorem b_or (x y : Int32) (i : Nat) : bt (x ||| y) i = (bt x i || bt y i) := by unfold bt; rw [Int32.toBitVec_or, BitVec.getLsbD_or]
theorem b_and (x y : Int32) (i : Nat) : bt (x &&& y) i = (bt x i && bt y i) := by unfold bt; rw [Int32.toBitVec_and, BitVec.getLsbD_and]
theorem b_xor (x y : Int32) (i : Nat) : bt (x ^^^ y) i = (bt x i ^^ bt y i) := by unfold bt; rw [Int32.toBitVec_xor, BitVec.getLsbD_xor]
theorem b_big {x : Int32} {i : Nat} (h : 32 ≤ i) : bt x i = false := BitVec.getLsbD_of_ge _ _ h
theorem b_255 (i : Nat) : bt 255 i = decide (i < 8) := by
  rcases Nat.lt_or_ge i 32 with h | h
  · exact (by decide +kernel : ∀ i, i < 32 → bt 255 i = decide (i < 8)) i h
  · rw [b_big h, decide_eq_false (by omega)]
theorem b_65535 (i : Nat) : bt 65535 i = decide (i < 16) := by
  rcases Nat.lt_or_ge i 32 with h | h
  · exact (by decide +kernel : ∀ i, i < 32 → bt 65535 i = decide (i < 16)) i h
  · rw [b_big h, decide_eq_false (by omega)]
theorem b_m1 : ∀ i, i < 32 → bt (-1) i = true := by decide +kernel
theorem b_0 (i : Nat) : bt 0 i = false := BitVec.getLsbD_zero
theorem s_l : ∀ n, n < 32 → ((nI n &&& 31).toBitVec.smod 32).toNat = n := by decide +kernel
theorem s_u : ∀ n, n < 32 → (((nI n).toUInt32 &&& Int32.toUInt32 31).toBitVec % 32).toNat = n := by decide +kernel
theorem b_shl (n : Nat) (hn : n < 32) (x : Int32) {i : Nat} (hi : i < 32) : bt (x <<< (nI n &&& 31)) i = (decide (n ≤ i) && bt x (i - n)) := by
  unfold bt
  rw [Int32.toBitVec_shiftLeft]
  show (x.toBitVec <<< ((nI n &&& 31).toBitVec.smod 32).toNat).getLsbD i = _
  rw [s_l n hn, BitVec.getLsbD_shiftLeft]
  rcases Nat.lt_or_ge i n with h | h
  · simp [h, Nat.not_le.mpr h]
  · simp [hi, h, Nat.not_lt.mpr h]
theorem b_ushr (n : Nat) (hn : n < 32) (x : Int32) (i : Nat) : bt ((x.toUInt32 >>> ((nI n).toUInt32 &&& Int32.toUInt32 31)).toInt32) i = bt x (n + i) := by
  show (x.toUInt32 >>> ((nI n).toUInt32 &&& Int32.toUInt32 31)).toBitVec.getLsbD i = x.toUInt32.toBitVec.getLsbD (n + i)
  rw [UInt32.toBitVec_shiftRight]
  show (x.toUInt32.toBitVec >>> (((nI n).toUInt32 &&& Int32.toUInt32 31).toBitVec % 32).toNat).getLsbD i = _
  rw [s_u n hn, BitVec.getLsbD_ushiftRight]
theorem b_sshr (n : Nat) (hn : n < 32) (x : Int32) {i : Nat} (hi : i < 32) : bt (x >>> (nI n &&& 31)) i = if n + i < 32 then bt x (n + i) else bt x 31 := by
  unfold bt
  rw [Int32.toBitVec_shiftRight]
  show (x.toBitVec.sshiftRight ((nI n &&& 31).toBitVec.smod 32).toNat).getLsbD i = _
  rw [s_l n hn, BitVec.getLsbD_sshiftRight, BitVec.msb_eq_getLsbD_last]
  simp [hi]
theorem b_1 : ∀ i, i < 32 → bt 1 i = decide (i = 0) := by decide +kernel
def bOf (n : Nat) (x : Int32) : Nat → Int32 := fun p => if p < n then (x >>> (nI p &&& 31)) &&& 1 else 0
theorem bOf_at {n p : Nat} {x : Int32} (h : p < n) : bOf n x p = (x >>> (nI p &&& 31)) &&& 1 := if_pos h
theorem b_one {x : Int32} {p : Nat} (hp : p < 32) : ((x >>> (nI p &&& 31)) &&& 1) = if bt x p = true then 1 else 0 := by
  apply b_ext
  intro i hi
  rw [b_and, b_1 i hi, b_sshr p hp x hi]
  by_cases e : i = 0
  · subst e
    rw [if_pos (by omega), Nat.add_zero]
    cases bt x p <;> decide
  · rw [decide_eq_false e, Bool.and_false]
    cases bt x p
    · rw [if_neg (by decide), b_0]
    · rw [if_pos rfl, b_1 i hi, decide_eq_false e]
theorem bOf_b {n p : Nat} {x : Int32} (h : p < n) (hn : n < 32) : bOf n x p = if bt x p = true then 1 else 0 := (bOf_at h).trans (b_one (by omega))
theorem bOf_z {n p : Nat} {x : Int32} : bOf n x p = 0 ∨ bOf n x p = 1 := by
  by_cases h : p < n
  · rcases Nat.lt_or_ge p 32 with q | q
    · rw [bOf_at h, b_one q]
      split
      · exact Or.inr rfl
      · exact Or.inl rfl
    · rw [bOf_at h]
      have : ∀ y : Int32, y &&& 1 = 0 ∨ y &&& 1 = 1 := by
        intro y
        by_cases c : bt y 0 = true
        · right
          apply b_ext
          intro i hi
          rw [b_and, b_1 i hi]
          by_cases e : i = 0
          · subst e; rw [c]; rfl
          · rw [decide_eq_false e, Bool.and_false]
        · left
          apply b_ext
          intro i hi
          rw [b_and, b_1 i hi, b_0]
          by_cases e : i = 0
          · subst e
            cases hb : bt y 0
            · rfl
            · exact absurd hb c
          · rw [decide_eq_false e, Bool.and_false]
      exact this _
  · exact Or.inl (if_neg h)
theorem b_bit (p : Nat) (hp : p < 32) {i : Nat} (hi : i < 32) : bt ((1 : Int32) <<< (nI p &&& 31)) i = decide (i = p) := by
  rw [b_shl p hp 1 hi]
  by_cases e : i = p
  · subst e
    rw [Nat.sub_self, b_1 0 (by omega), decide_eq_true (Nat.le_refl _), decide_eq_true rfl, decide_eq_true rfl]
    rfl
  · rw [decide_eq_false e]
    by_cases l : p ≤ i
    · rw [b_1 (i - p) (by omega), decide_eq_false (show ¬ i - p = 0 by omega), Bool.and_false]
    · rw [decide_eq_false l, Bool.false_and]
theorem bOf_set {n p : Nat} {x : Int32} (h : p < n) (hn : n < 32) : bOf n (x ||| ((1 : Int32) <<< (nI p &&& 31))) = upd (bOf n x) p 1 := by
  funext q
  by_cases hq : q < n
  · rw [bOf_b hq hn, b_or, b_bit p (by omega) (by omega)]
    by_cases e : q = p
    · rw [e, upd_s, decide_eq_true rfl, Bool.or_true, if_pos rfl]
    · rw [upd_o e, decide_eq_false e, Bool.or_false, bOf_b hq hn]
  · rw [upd_o (by omega)]
    show (if q < n then _ else (0 : Int32)) = if q < n then _ else 0
    rw [if_neg hq, if_neg hq]
theorem bOf_clr {n p : Nat} {x : Int32} (h : p < n) (hn : n < 32) : bOf n (x &&& (((1 : Int32) <<< (nI p &&& 31)) ^^^ (-1))) = upd (bOf n x) p 0 := by
  funext q
  by_cases hq : q < n
  · rw [bOf_b hq hn, b_and, b_xor, b_bit p (by omega) (by omega), b_m1 q (by omega)]
    by_cases e : q = p
    · rw [e, upd_s, decide_eq_true rfl]
      rw [show (true ^^ true) = false from rfl, Bool.and_false]
      exact if_neg (by decide)
    · rw [upd_o e, decide_eq_false e]
      rw [show (false ^^ true) = true from rfl, Bool.and_true, bOf_b hq hn]
  · rw [upd_o (by omega)]
    show (if q < n then _ else (0 : Int32)) = if q < n then _ else 0
    rw [if_neg hq, if_neg hq]
theorem nI_ltl {a n : Nat} {N : Int32} (hN : N.toInt = n) (h : a < n) (hn : n < 1000) : nI a < N := by
  rw [i32_lt, nI_toInt (by omega), hN]; omega
/-! the class's works at base b: b the works, b+1 the water, b+2 levels, b+3 counted, b+4 amounts, b+5 ins, b+6 changes, b+7 floods, b+8 flows, b+9, b+10 happened -/
def cPb (b : Nat) (A : Nat → Nat → Int32) : Nat → Nat → Int32 := fun k => if k = 53 then A 2 else if k = 54 then A 3 else if k = 55 then A 4 else if k = 56 then A 5 else if k = 57 then A 6 else if k = 58 then A 7 else if k = 59 then A 8 else if k = 60 then A 9 else if k = 61 then A 10 else A (b + 4)
def cR (b nv : Nat) (P : Nat → Nat → Int32) (W : qW) (I : Nat → Nat → Int32) (G : Nat → Nat → Int64) (A : Nat → Nat → Int32) (B : Nat → Nat → Int64) : Prop := (G (b + 1) 0 = W.1 ∧ G (b + 1) 1 = W.2.1 ∧ G (b + 1) 2 = W.2.2.1 ∧ G (b + 1) 3 = W.2.2.2.1) ∧ B (b + 2) = W.2.2.2.2.1 ∧ bOf 8 (I (b + 1) 6) = W.2.2.2.2.2.1 ∧ bOf 14 (I (b + 1) 5) = W.2.2.2.2.2.2.1 ∧ ∀ v, (v < nv → P 53 v = 4) → A (b + 3) v = W.2.2.2.2.2.2.2 v
def cRS (b nv np : Nat) (P : Nat → Nat → Int32) (W : qW) (I : Nat → Nat → Int32) (G : Nat → Nat → Int64) (A : Nat → Nat → Int32) (B : Nat → Nat → Int64) : Prop := (I 1 0 = nI nv ∧ I 1 1 = nI np) ∧ PE (cPb b A) P ∧ cR b nv P W I G A B
/-- a siphon's own pipe comes from it -/
def qOw (nv np : Nat) (P : Nat → Nat → Int32) : Prop := ∀ v, v < nv → P 53 v = 1 → P 57 v = -1 ∨ ∃ q, q < np ∧ P 57 v = nI q ∧ P 60 q = nI v
theorem mRun_k0 {kind own sip opn : Nat → Int32} {p : Nat} (h : opn p = 0) : ∀ k, mRun kind own sip opn p k = 0
  | 0 => h
  | k + 1 => mRun_0 (mRun_k0 h k)
theorem mRun_ks {kind own sip opn : Nat → Int32} {p f : Nat} (h1 : kind f = 1) (h2 : own f = nI p) (h3 : sip f = 0) : ∀ k, f < k → mRun kind own sip opn p k = 0
  | 0, h => absurd h (by omega)
  | k + 1, h => by
    by_cases e : mRun kind own sip opn p k = 0
    · exact mRun_0 e
    · by_cases z : k = f
      · subst z; exact mRun_a e h1 h2 h3
      · exact absurd (mRun_ks h1 h2 h3 k (by omega)) e
theorem mRun_k1 {kind own sip opn : Nat → Int32} {p : Nat} (h : opn p = 1) : ∀ k, (∀ f, f < k → ¬ (kind f = 1 ∧ own f = nI p ∧ sip f = 0)) → mRun kind own sip opn p k = 1
  | 0, _ => h
  | k + 1, q => by
    have ih := mRun_k1 h k (fun f hf => q f (by omega))
    show (if mRun kind own sip opn p k = 0 then (0 : Int32) else if kind k = 1 ∧ own k = nI p ∧ sip k = 0 then 0 else 1) = 1
    rw [ih, if_neg (by decide), if_neg (q k (by omega))]
section ZWR
variable {nv np p : Nat} {P : Nat → Nat → Int32} {W : qW}
theorem wRun_o (h : W.2.2.2.2.2.2.1 p = 0) : wRun nv P W p = 0 := mRun_k0 h nv
theorem wRun_s {f : Nat} (hf : f < nv) (h1 : P 53 f = 1) (h2 : P 57 f = nI p) (h3 : W.2.2.2.2.2.1 f = 0) : wRun nv P W p = 0 := mRun_ks h1 h2 h3 nv hf
theorem wRun_1 (hq : qOw nv np P) (h14 : np ≤ 14) (hp : p < np) (h : W.2.2.2.2.2.2.1 p = 1) (hf : ∀ f, f < nv → P 60 p = nI f → P 53 f = 1 → P 57 f = nI p → ¬ W.2.2.2.2.2.1 f = 0) : wRun nv P W p = 1 := by
  refine mRun_k1 h nv (fun f hf1 ⟨a, b, c⟩ => ?_)
  rcases hq f hf1 a with e | ⟨q, q1, q2, q3⟩
  · exact nI_nem (a := p) (by omega) (b.symm.trans e)
  · have : q = p := (nI_eq (by omega) (by omega)).mp (q2.symm.trans b)
    subst this
    exact hf f hf1 q3 a b c
end ZWR
set_option maxRecDepth 100000 in
set_option maxHeartbeats 0 in
theorem cx_isOpen_11 (ro : UInt32 → Nat × (Nat → Int32)) (nv np : Nat) (P : Nat → Nat → Int32) (W : qW) (I : Nat → Nat → Int32) (G : Nat → Nat → Int64) (A : Nat → Nat → Int32) (B : Nat → Nat → Int64) (hR : cRS 11 nv np P W I G A B) (hp : MPa nv np P) (hb : wBo W) (p : Nat) (hpp : p < 14) : zWp ro 43 0 [(0, .ref 12), (1, .int (nI p))] [] (hS I G A B) 0 0 (fun r h1 => h1 = hS I G A B ∧ r = some (.int (W.2.2.2.2.2.2.1 p))) := by
  refine zw_aload_n 1 f43_0 rfl rfl ?_
  refine zw_getI (I 12 5) 4 f43_1 rfl g43_38_9 (hb_12 _ _ _ _) rfl rfl ?_
  refine zw_iload_n 5 f43_4 rfl rfl ?_
  refine zw_ishr ((I 12 5) >>> ((nI p) &&& 31)) 6 f43_5 rfl rfl ?_
  refine zw_iconst 1 7 f43_6 rfl (by decide +kernel) ?_
  refine zw_iand (((I 12 5) >>> ((nI p) &&& 31)) &&& 1) 8 f43_7 rfl rfl ?_
  refine zw_if_eq 11 15 f43_8 (by decide +kernel) rfl (fun hc1 => ?_) (fun hc1 => ?_)
  · refine zw_iconst 0 16 f43_15 rfl (by decide +kernel) ?_
    refine zw_zreturn f43_16 r43 u43 (by decide +kernel) ?_
    have ev : (((I 12 5) >>> ((nI p) &&& 31)) &&& 1) = W.2.2.2.2.2.2.1 p := (bOf_at (by omega)).symm.trans (congrFun hR.2.2.2.2.2.1 p)
    exact ⟨rfl, by rw [← ev, hc1]⟩
  · refine zw_iconst 1 12 f43_11 rfl (by decide +kernel) ?_
    refine zw_goto 16 f43_12 (by decide +kernel) ?_
    refine zw_zreturn f43_16 r43 u43 (by decide +kernel) ?_
    have ev : (((I 12 5) >>> ((nI p) &&& 31)) &&& 1) = W.2.2.2.2.2.2.1 p := (bOf_at (by omega)).symm.trans (congrFun hR.2.2.2.2.2.1 p)
    exact ⟨rfl, by rw [(hb.1 p (by omega)).resolve_left (fun q => hc1 (ev.trans q))]⟩
set_option maxRecDepth 100000 in
set_option maxHeartbeats 0 in
theorem cx_isSiphoning_11 (ro : UInt32 → Nat × (Nat → Int32)) (nv np : Nat) (P : Nat → Nat → Int32) (W : qW) (I : Nat → Nat → Int32) (G : Nat → Nat → Int64) (A : Nat → Nat → Int32) (B : Nat → Nat → Int64) (hR : cRS 11 nv np P W I G A B) (hp : MPa nv np P) (hb : wBo W) (p : Nat) (hpp : p < 8) : zWp ro 45 0 [(0, .ref 12), (1, .int (nI p))] [] (hS I G A B) 0 0 (fun r h1 => h1 = hS I G A B ∧ r = some (.int (W.2.2.2.2.2.1 p))) := by
  refine zw_aload_n 1 f45_0 rfl rfl ?_
  refine zw_getI (I 12 6) 4 f45_1 rfl g45_42_9 (hb_12 _ _ _ _) rfl rfl ?_
  refine zw_iload_n 5 f45_4 rfl rfl ?_
  refine zw_ishr ((I 12 6) >>> ((nI p) &&& 31)) 6 f45_5 rfl rfl ?_
  refine zw_iconst 1 7 f45_6 rfl (by decide +kernel) ?_
  refine zw_iand (((I 12 6) >>> ((nI p) &&& 31)) &&& 1) 8 f45_7 rfl rfl ?_
  refine zw_if_eq 11 15 f45_8 (by decide +kernel) rfl (fun hc1 => ?_) (fun hc1 => ?_)
  · refine zw_iconst 0 16 f45_15 rfl (by decide +kernel) ?_
    refine zw_zreturn f45_16 r45 u45 (by decide +kernel) ?_
    have ev : (((I 12 6) >>> ((nI p) &&& 31)) &&& 1) = W.2.2.2.2.2.1 p := (bOf_at (by omega)).symm.trans (congrFun hR.2.2.2.2.1 p)
    exact ⟨rfl, by rw [← ev, hc1]⟩
  · refine zw_iconst 1 12 f45_11 rfl (by decide +kernel) ?_
    refine zw_goto 16 f45_12 (by decide +kernel) ?_
    refine zw_zreturn f45_16 r45 u45 (by decide +kernel) ?_
    have ev : (((I 12 6) >>> ((nI p) &&& 31)) &&& 1) = W.2.2.2.2.2.1 p := (bOf_at (by omega)).symm.trans (congrFun hR.2.2.2.2.1 p)
    exact ⟨rfl, by rw [(hb.2 p (by omega)).resolve_left (fun q => hc1 (ev.trans q))]⟩
set_option maxRecDepth 100000 in
set_option maxHeartbeats 0 in
theorem cx_runs_11 (ro : UInt32 → Nat × (Nat → Int32)) (nv np : Nat) (P : Nat → Nat → Int32) (W : qW) (I : Nat → Nat → Int32) (G : Nat → Nat → Int64) (A : Nat → Nat → Int32) (B : Nat → Nat → Int64) (hR : cRS 11 nv np P W I G A B) (hp : MPa nv np P) (hb : wBo W) (hq : qOw nv np P) (p : Nat) (hpp : p < np) : zWp ro 48 0 [(0, .ref 11), (1, .int (nI p))] [] (hS I G A B) 0 0 (fun r h1 => h1 = hS I G A B ∧ r = some (.int (wRun nv P W p))) := by
  have h8 := hp.1
  have h14 := hp.2.1
  refine zw_aload_n 1 f48_0 rfl rfl ?_
  refine zw_getfield 4 f48_1 rfl g48_37_10 (hb_11 _ _ _ _) rfl ?_
  refine zw_iload_n 5 f48_4 rfl rfl ?_
  refine zw_virtual_i 8 0 0 [.ref 1, .int (nI p)] [(0, .ref 1), (1, .int (nI p))] f48_5 rfl n48_41 k48_41_4 rfl (hb_1 _ _ _ _) (by decide +kernel) (Nat.le_of_ble_eq_true rfl) rfl rfl (by decide +kernel) (by decide +kernel) rfl (Nat.le_of_ble_eq_true rfl) rfl ?_
  refine zw_iload_n 1 f22_0 rfl rfl ?_
  refine zw_if_lt_f 4 10 f22_1 (by decide +kernel) rfl (nI_pos (by omega)) ?_
  refine zw_iload_n 5 f22_4 rfl rfl ?_
  refine zw_bipush 14 7 f22_5 rfl (by decide +kernel) ?_
  refine zw_ic_lt_t 12 f22_7 (by decide +kernel) (nI_ltl (n := 14) (by decide) (by omega) (by omega)) ?_
  refine zw_aload_n 13 f22_12 rfl rfl ?_
  refine zw_getfield 16 f22_13 rfl g22_33_4 (hb_1 _ _ _ _) rfl ?_
  refine zw_iload_n 17 f22_16 rfl rfl ?_
  rcases (hp.2.2.2 p (by omega)).2.2 with t1q | ⟨t1, t1n, t1q, t1t⟩
  · refine zw_iaload p (-1) 18 f22_17 rfl (hb_9 _ _ _ _) (nI_clamp (by omega)) (nI_pos (by omega)) (by omega) ((congrFun (hR.2.1 60 (by omega) (by omega)) p).trans t1q) ?_
    refine zw_istore_n _ 19 f22_18 rfl (by decide +kernel) rfl ?_
    refine zw_iload_n 20 f22_19 rfl zl1_eq ?_
    refine zw_if_lt_t 53 f22_20 (by decide +kernel) (by decide +kernel) ?_
    refine zw_iconst 0 54 f22_53 rfl (by decide +kernel) ?_
    refine zw_istore_n _ 55 f22_54 rfl (by decide +kernel) rfl ?_
    refine zw_iload_n 56 f22_55 rfl zl1_eq ?_
    refine zw_if_eq_t 63 f22_56 (by decide +kernel) (by decide +kernel) ?_
    refine zw_iconst (-1) 64 f22_63 rfl (by decide +kernel) ?_
    refine zw_ireturn f22_64 r22 u22 ⟨_, rfl, ?_⟩
    refine zw_istore_n _ 9 f48_8 rfl (by decide +kernel) rfl ?_
    refine zw_aload_n 10 f48_9 rfl (zl1_ne rfl rfl rfl) ?_
    refine zw_getfield 13 f48_10 rfl g48_12_10 (hb_11 _ _ _ _) rfl ?_
    refine zw_iload_n 14 f48_13 rfl (zl1_ne rfl rfl rfl) ?_
    refine zw_virtual_i 17 0 0 [.ref 12, .int (nI p)] [(0, .ref 12), (1, .int (nI p))] f48_14 rfl n48_47 k48_47_9 rfl (hb_12 _ _ _ _) (by decide +kernel) (Nat.le_of_ble_eq_true rfl) rfl rfl (by decide +kernel) (by decide +kernel) rfl (Nat.le_of_ble_eq_true rfl) rfl ?_
    refine zWp.mono (cx_isOpen_11 ro nv np P W _ _ _ _ hR hp hb p (by omega)) ?_
    rintro r h1 ⟨rfl, rfl⟩
    refine ⟨_, rfl, ?_⟩
    refine zw_if_eq 20 40 f48_17 (by decide +kernel) rfl (fun hc2 => ?_) (fun hc2 => ?_)
    · refine zw_iconst 0 41 f48_40 rfl (by decide +kernel) ?_
      refine zw_zreturn f48_41 r48 u48 (by decide +kernel) ?_
      exact ⟨rfl, by rw [show wRun nv P W p = _ from (wRun_o hc2)]⟩
    · refine zw_iload_n 21 f48_20 rfl zl1_eq ?_
      refine zw_iconst (-1) 22 f48_21 rfl (by decide +kernel) ?_
      refine zw_ic_eq_t 36 f48_22 (by decide +kernel) (by decide +kernel) ?_
      refine zw_iconst 1 37 f48_36 rfl (by decide +kernel) ?_
      refine zw_goto 41 f48_37 (by decide +kernel) ?_
      refine zw_zreturn f48_41 r48 u48 (by decide +kernel) ?_
      exact ⟨rfl, by rw [show wRun nv P W p = _ from (wRun_1 hq h14 hpp ((hb.1 p (by omega)).resolve_left hc2) (fun f _ z => absurd (z.symm.trans t1q) (nI_nem (by omega))))]⟩
  · refine zw_iaload p (nI t1) 18 f22_17 rfl (hb_9 _ _ _ _) (nI_clamp (by omega)) (nI_pos (by omega)) (by omega) ((congrFun (hR.2.1 60 (by omega) (by omega)) p).trans t1q) ?_
    refine zw_istore_n _ 19 f22_18 rfl (by decide +kernel) rfl ?_
    refine zw_iload_n 20 f22_19 rfl zl1_eq ?_
    refine zw_if_lt_f 23 53 f22_20 (by decide +kernel) rfl (nI_pos (by omega)) ?_
    refine zw_iload_n 24 f22_23 rfl zl1_eq ?_
    refine zw_bipush 8 26 f22_24 rfl (by decide +kernel) ?_
    refine zw_ic_ge_f 29 53 f22_26 (by decide +kernel) rfl (fun q => absurd (zn_ge (a := 8) (b := t1) (by omega) (by omega) q) (by omega)) ?_
    refine zw_aload_n 30 f22_29 rfl (zl1_ne rfl rfl rfl) ?_
    refine zw_getfield 33 f22_30 rfl g22_9_4 (hb_1 _ _ _ _) rfl ?_
    refine zw_iload_n 34 f22_33 rfl zl1_eq ?_
    refine zw_iaload t1 (P 53 t1) 35 f22_34 rfl (hb_2 _ _ _ _) (nI_clamp (by omega)) (nI_pos (by omega)) (by omega) (congrFun ((hR.2.1 53 (by omega) (by omega))) t1) ?_
    refine zw_iconst 1 36 f22_35 rfl (by decide +kernel) ?_
    refine zw_ic_ne 39 53 f22_36 (by decide +kernel) rfl (fun hc3 => ?_) (fun hc3 => ?_)
    · refine zw_iconst 0 54 f22_53 rfl (by decide +kernel) ?_
      refine zw_istore_n _ 55 f22_54 rfl (by decide +kernel) rfl ?_
      refine zw_iload_n 56 f22_55 rfl zl1_eq ?_
      refine zw_if_eq_t 63 f22_56 (by decide +kernel) (by decide +kernel) ?_
      refine zw_iconst (-1) 64 f22_63 rfl (by decide +kernel) ?_
      refine zw_ireturn f22_64 r22 u22 ⟨_, rfl, ?_⟩
      refine zw_istore_n _ 9 f48_8 rfl (by decide +kernel) rfl ?_
      refine zw_aload_n 10 f48_9 rfl (zl1_ne rfl rfl rfl) ?_
      refine zw_getfield 13 f48_10 rfl g48_12_10 (hb_11 _ _ _ _) rfl ?_
      refine zw_iload_n 14 f48_13 rfl (zl1_ne rfl rfl rfl) ?_
      refine zw_virtual_i 17 0 0 [.ref 12, .int (nI p)] [(0, .ref 12), (1, .int (nI p))] f48_14 rfl n48_47 k48_47_9 rfl (hb_12 _ _ _ _) (by decide +kernel) (Nat.le_of_ble_eq_true rfl) rfl rfl (by decide +kernel) (by decide +kernel) rfl (Nat.le_of_ble_eq_true rfl) rfl ?_
      refine zWp.mono (cx_isOpen_11 ro nv np P W _ _ _ _ hR hp hb p (by omega)) ?_
      rintro r h1 ⟨rfl, rfl⟩
      refine ⟨_, rfl, ?_⟩
      refine zw_if_eq 20 40 f48_17 (by decide +kernel) rfl (fun hc4 => ?_) (fun hc4 => ?_)
      · refine zw_iconst 0 41 f48_40 rfl (by decide +kernel) ?_
        refine zw_zreturn f48_41 r48 u48 (by decide +kernel) ?_
        exact ⟨rfl, by rw [show wRun nv P W p = _ from (wRun_o hc4)]⟩
      · refine zw_iload_n 21 f48_20 rfl zl1_eq ?_
        refine zw_iconst (-1) 22 f48_21 rfl (by decide +kernel) ?_
        refine zw_ic_eq_t 36 f48_22 (by decide +kernel) (by decide +kernel) ?_
        refine zw_iconst 1 37 f48_36 rfl (by decide +kernel) ?_
        refine zw_goto 41 f48_37 (by decide +kernel) ?_
        refine zw_zreturn f48_41 r48 u48 (by decide +kernel) ?_
        exact ⟨rfl, by rw [show wRun nv P W p = _ from (wRun_1 hq h14 hpp ((hb.1 p (by omega)).resolve_left hc4) (fun f hf z a1 a2 => by have ef : f = t1 := (nI_eq (by omega) (by omega)).mp (z.symm.trans t1q); subst ef; exact absurd a1 hc3))]⟩
    · refine zw_aload_n 40 f22_39 rfl (zl1_ne rfl rfl rfl) ?_
      refine zw_getfield 43 f22_40 rfl g22_24_4 (hb_1 _ _ _ _) rfl ?_
      refine zw_iload_n 44 f22_43 rfl zl1_eq ?_
      refine zw_iaload t1 (P 57 t1) 45 f22_44 rfl (hb_6 _ _ _ _) (nI_clamp (by omega)) (nI_pos (by omega)) (by omega) (congrFun ((hR.2.1 57 (by omega) (by omega))) t1) ?_
      refine zw_iload_n 46 f22_45 rfl (zl1_ne rfl rfl rfl) ?_
      refine zw_ic_ne 49 53 f22_46 (by decide +kernel) rfl (fun hc5 => ?_) (fun hc5 => ?_)
      · refine zw_iconst 0 54 f22_53 rfl (by decide +kernel) ?_
        refine zw_istore_n _ 55 f22_54 rfl (by decide +kernel) rfl ?_
        refine zw_iload_n 56 f22_55 rfl zl1_eq ?_
        refine zw_if_eq_t 63 f22_56 (by decide +kernel) (by decide +kernel) ?_
        refine zw_iconst (-1) 64 f22_63 rfl (by decide +kernel) ?_
        refine zw_ireturn f22_64 r22 u22 ⟨_, rfl, ?_⟩
        refine zw_istore_n _ 9 f48_8 rfl (by decide +kernel) rfl ?_
        refine zw_aload_n 10 f48_9 rfl (zl1_ne rfl rfl rfl) ?_
        refine zw_getfield 13 f48_10 rfl g48_12_10 (hb_11 _ _ _ _) rfl ?_
        refine zw_iload_n 14 f48_13 rfl (zl1_ne rfl rfl rfl) ?_
        refine zw_virtual_i 17 0 0 [.ref 12, .int (nI p)] [(0, .ref 12), (1, .int (nI p))] f48_14 rfl n48_47 k48_47_9 rfl (hb_12 _ _ _ _) (by decide +kernel) (Nat.le_of_ble_eq_true rfl) rfl rfl (by decide +kernel) (by decide +kernel) rfl (Nat.le_of_ble_eq_true rfl) rfl ?_
        refine zWp.mono (cx_isOpen_11 ro nv np P W _ _ _ _ hR hp hb p (by omega)) ?_
        rintro r h1 ⟨rfl, rfl⟩
        refine ⟨_, rfl, ?_⟩
        refine zw_if_eq 20 40 f48_17 (by decide +kernel) rfl (fun hc6 => ?_) (fun hc6 => ?_)
        · refine zw_iconst 0 41 f48_40 rfl (by decide +kernel) ?_
          refine zw_zreturn f48_41 r48 u48 (by decide +kernel) ?_
          exact ⟨rfl, by rw [show wRun nv P W p = _ from (wRun_o hc6)]⟩
        · refine zw_iload_n 21 f48_20 rfl zl1_eq ?_
          refine zw_iconst (-1) 22 f48_21 rfl (by decide +kernel) ?_
          refine zw_ic_eq_t 36 f48_22 (by decide +kernel) (by decide +kernel) ?_
          refine zw_iconst 1 37 f48_36 rfl (by decide +kernel) ?_
          refine zw_goto 41 f48_37 (by decide +kernel) ?_
          refine zw_zreturn f48_41 r48 u48 (by decide +kernel) ?_
          exact ⟨rfl, by rw [show wRun nv P W p = _ from (wRun_1 hq h14 hpp ((hb.1 p (by omega)).resolve_left hc6) (fun f hf z a1 a2 => by have ef : f = t1 := (nI_eq (by omega) (by omega)).mp (z.symm.trans t1q); subst ef; exact absurd a2 hc5))]⟩
      · refine zw_iconst 1 50 f22_49 rfl (by decide +kernel) ?_
        refine zw_goto 54 f22_50 (by decide +kernel) ?_
        refine zw_istore_n _ 55 f22_54 rfl (by decide +kernel) rfl ?_
        refine zw_iload_n 56 f22_55 rfl zl1_eq ?_
        refine zw_if_eq_f 59 63 f22_56 (by decide +kernel) rfl (by decide +kernel) ?_
        refine zw_iload_n 60 f22_59 rfl (zl1_ne rfl rfl zl1_eq) ?_
        refine zw_goto 64 f22_60 (by decide +kernel) ?_
        refine zw_ireturn f22_64 r22 u22 ⟨_, rfl, ?_⟩
        refine zw_istore_n _ 9 f48_8 rfl (by decide +kernel) rfl ?_
        refine zw_aload_n 10 f48_9 rfl (zl1_ne rfl rfl rfl) ?_
        refine zw_getfield 13 f48_10 rfl g48_12_10 (hb_11 _ _ _ _) rfl ?_
        refine zw_iload_n 14 f48_13 rfl (zl1_ne rfl rfl rfl) ?_
        refine zw_virtual_i 17 0 0 [.ref 12, .int (nI p)] [(0, .ref 12), (1, .int (nI p))] f48_14 rfl n48_47 k48_47_9 rfl (hb_12 _ _ _ _) (by decide +kernel) (Nat.le_of_ble_eq_true rfl) rfl rfl (by decide +kernel) (by decide +kernel) rfl (Nat.le_of_ble_eq_true rfl) rfl ?_
        refine zWp.mono (cx_isOpen_11 ro nv np P W _ _ _ _ hR hp hb p (by omega)) ?_
        rintro r h1 ⟨rfl, rfl⟩
        refine ⟨_, rfl, ?_⟩
        refine zw_if_eq 20 40 f48_17 (by decide +kernel) rfl (fun hc7 => ?_) (fun hc7 => ?_)
        · refine zw_iconst 0 41 f48_40 rfl (by decide +kernel) ?_
          refine zw_zreturn f48_41 r48 u48 (by decide +kernel) ?_
          exact ⟨rfl, by rw [show wRun nv P W p = _ from (wRun_o hc7)]⟩
        · refine zw_iload_n 21 f48_20 rfl zl1_eq ?_
          refine zw_iconst (-1) 22 f48_21 rfl (by decide +kernel) ?_
          refine zw_ic_eq_f 25 36 f48_22 (by decide +kernel) rfl (nI_nem (by omega)) ?_
          refine zw_aload_n 26 f48_25 rfl (zl1_ne rfl rfl rfl) ?_
          refine zw_getfield 29 f48_26 rfl g48_12_10 (hb_11 _ _ _ _) rfl ?_
          refine zw_iload_n 30 f48_29 rfl zl1_eq ?_
          refine zw_virtual_i 33 0 0 [.ref 12, .int (nI t1)] [(0, .ref 12), (1, .int (nI t1))] f48_30 rfl n48_51 k48_51_9 rfl (hb_12 _ _ _ _) (by decide +kernel) (Nat.le_of_ble_eq_true rfl) rfl rfl (by decide +kernel) (by decide +kernel) rfl (Nat.le_of_ble_eq_true rfl) rfl ?_
          refine zWp.mono (cx_isSiphoning_11 ro nv np P W _ _ _ _ hR hp hb t1 (by omega)) ?_
          rintro r h1 ⟨rfl, rfl⟩
          refine ⟨_, rfl, ?_⟩
          refine zw_if_eq 36 40 f48_33 (by decide +kernel) rfl (fun hc8 => ?_) (fun hc8 => ?_)
          · refine zw_iconst 0 41 f48_40 rfl (by decide +kernel) ?_
            refine zw_zreturn f48_41 r48 u48 (by decide +kernel) ?_
            exact ⟨rfl, by rw [show wRun nv P W p = _ from (wRun_s (by omega) (Decidable.of_not_not hc3) (Decidable.of_not_not hc5) hc8)]⟩
          · refine zw_iconst 1 37 f48_36 rfl (by decide +kernel) ?_
            refine zw_goto 41 f48_37 (by decide +kernel) ?_
            refine zw_zreturn f48_41 r48 u48 (by decide +kernel) ?_
            exact ⟨rfl, by rw [show wRun nv P W p = _ from (wRun_1 hq h14 hpp ((hb.1 p (by omega)).resolve_left hc7) (fun f hf z a1 a2 => by have ef : f = t1 := (nI_eq (by omega) (by omega)).mp (z.symm.trans t1q); subst ef; exact hc8))]⟩
