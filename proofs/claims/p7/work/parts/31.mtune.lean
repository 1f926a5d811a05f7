/-! ===== tune of the reference ===== -/
def fTu (k j : Nat) : Bool := decide (k = 52 ∧ ((12 ≤ j ∧ j ≤ 15) ∨ j = 20 ∨ j = 22 ∨ j = 27 ∨ (34 ≤ j ∧ j ≤ 39) ∨ (41 ≤ j ∧ j ≤ 47)))
def pTu (k : Nat) : Bool := decide ((62 ≤ k ∧ k ≤ 70) ∨ (72 ≤ k ∧ k ≤ 80))
def wSh (nv np : Nat) (PA : Nat → Nat → Int32) (so : Int32) (u : Int64) (W : qW) : Prop := (wSk nv np PA so u 60 W).1 = true ∧ (wSk nv np PA so u 60 W).2.2.1 = u * (wSk nv np PA so u 60 W).2.1
def PAx (PA : Nat → Nat → Int32) (q : Nat) (x : Int32) : Nat → Nat → Int32 := updA PA 62 (upd (PA 62) q x)
theorem upd_id {f : Nat → Int32} {q : Nat} : upd f q (f q) = f := by
  funext j
  by_cases e : j = q
  · rw [e, upd_s]
  · rw [upd_o e]
theorem upd_2 {f : Nat → Int32} {q : Nat} {x y : Int32} : upd (upd f q x) q y = upd f q y := by
  funext j
  by_cases e : j = q
  · rw [e, upd_s, upd_s]
  · rw [upd_o e, upd_o e, upd_o e]
theorem PAx_i {PA : Nat → Nat → Int32} {q : Nat} : PAx PA q (PA 62 q) = PA := by
  funext k
  unfold PAx updA
  by_cases e : k = 62
  · rw [if_pos e, upd_id, e]
  · rw [if_neg e]
theorem PE.x {A PA : Nat → Nat → Int32} {q : Nat} {x y : Int32} {f : Nat → Int32} (h : PE A (PAx PA q x)) (hf : f = upd (A 62) q y) : PE (updA A 62 f) (PAx PA q y) := by
  intro k h1 h2
  unfold updA
  by_cases e : k = 62
  · subst e
    rw [if_pos rfl, hf, h 62 h1 h2]
    show upd (upd (PA 62) q x) q y = upd (PA 62) q y
    exact upd_2
  · rw [if_neg e, h k h1 h2]
    unfold PAx updA
    rw [if_neg e, if_neg e]
theorem MPa.x {nv np : Nat} {PA : Nat → Nat → Int32} {q : Nat} {x : Int32} (h : MPa nv np PA) (hx : 1 ≤ x.toInt ∧ x.toInt ≤ 20) : MPa nv np (PAx PA q x) := by
  refine ⟨h.1, h.2.1, h.2.2.1, fun p hp => ?_⟩
  obtain ⟨a, b, c⟩ := h.2.2.2 p hp
  refine ⟨a, ?_, c⟩
  show 1 ≤ (upd (PA 62) q x p).toInt ∧ (upd (PA 62) q x p).toInt ≤ 20
  by_cases e : p = q
  · rw [e, upd_s]; exact hx
  · rw [upd_o e]; exact b
theorem ix_le {n m : Nat} {p N : Int32} (hn : n ≤ m) (hN : N.toInt = m) (hm : m < 100) (h0 : ¬ p < 0) (h : ¬ nI n - 1 < p) : ¬ N ≤ p := by
  rw [i32_lt] at h h0
  rw [Int32.le_iff_toInt_le]
  have e1 : (1 : Int32).toInt = 1 := by decide
  have e2 := nI_toInt (n := n) (by omega)
  have e3 : (nI n - 1 : Int32).toInt = n - 1 := by rw [i32_sub, e2, e1] <;> rw [e2, e1] <;> omega
  rw [e3] at h
  rw [i32_0] at h0
  omega
theorem ix_lt {n : Nat} {p : Int32} (hm : n < 100) (h0 : ¬ p < 0) (h : ¬ nI n - 1 < p) : p.toNatClampNeg < n ∧ p = nI p.toNatClampNeg := by
  rw [i32_lt] at h h0
  have e1 : (1 : Int32).toInt = 1 := by decide
  have e2 := nI_toInt (n := n) (by omega)
  have e3 : (nI n - 1 : Int32).toInt = n - 1 := by rw [i32_sub, e2, e1] <;> rw [e2, e1] <;> omega
  rw [e3] at h
  rw [i32_0] at h0
  have e4 : p.toNatClampNeg = p.toInt.toNat := rfl
  refine ⟨by omega, ?_⟩
  apply Int32.toInt_inj.mp
  rw [nI_toInt (by omega)]
  omega
theorem rng20 {lo hi : Int32} (h1 : ¬ lo < 1) (h2 : ¬ hi < lo) (h3 : ¬ 20 < hi) : lo = nI lo.toNatClampNeg ∧ hi = nI hi.toNatClampNeg ∧ 1 ≤ lo.toNatClampNeg ∧ lo.toNatClampNeg ≤ hi.toNatClampNeg ∧ hi.toNatClampNeg ≤ 20 := by
  rw [i32_lt] at h1 h2 h3
  have e1 : (1 : Int32).toInt = 1 := by decide
  have e2 : (20 : Int32).toInt = 20 := by decide
  have e4 : lo.toNatClampNeg = lo.toInt.toNat := rfl
  have e5 : hi.toNatClampNeg = hi.toInt.toNat := rfl
  refine ⟨?_, ?_, by omega, by omega, by omega⟩
  · apply Int32.toInt_inj.mp
    rw [nI_toInt (by omega)]; omega
  · apply Int32.toInt_inj.mp
    rw [nI_toInt (by omega)]; omega
theorem wTu_u {nv : Nat} {T K : Int} {PA : Nat → Nat → Int32} {W : qW} {u : Int32} (hW : wOk nv T K PA W) (h1 : ¬ 10000 < u) (h2 : W.2.1 < Int32.toInt64 u * W.1) : 0 ≤ (Int32.toInt64 u).toInt ∧ (Int32.toInt64 u).toInt ≤ 10000 := wGo_u hW h1 (fun q => by rw [i64_lt] at h2 q; omega)
theorem nI_20 {c : Nat} (h : c ≤ 20) : (nI c).toInt = c := nI_toInt (by omega)
/-- the least amount of those from c on -/
def wTu (nv np : Nat) (PA : Nat → Nat → Int32) (W : qW) (q : Nat) (so : Int32) (u : Int64) : Nat → Nat → Option Nat → Prop
  | 0, _, o => o = none
  | m + 1, c, o => (wSh nv np (PAx PA q (nI c)) so u W ∧ o = some c) ∨ (¬ wSh nv np (PAx PA q (nI c)) so u W ∧ wTu nv np PA W q so u m (c + 1) o)
def wTuX : Option Nat → Int32 × Int32
  | none => (3, -1)
  | some d => (0, nI d)
def wTuG (nv np : Nat) (PA : Nat → Nat → Int32) (W : qW) (p lo hi ve wh : Int32) : Prop := (¬ p < 0 ∧ ¬ nI np - 1 < p) ∧ (¬ lo < 1 ∧ ¬ 20 < lo) ∧ (¬ hi < lo ∧ ¬ 20 < hi) ∧ (¬ ve < 0 ∧ ¬ nI nv - 1 < ve) ∧ (PA 53 ve.toNatClampNeg = 3 ∨ PA 53 ve.toNatClampNeg = 4) ∧ ¬ 10000 < wh ∧ W.2.1 < Int32.toInt64 wh * W.1
/-- status and answer of tune -/
def wTuR (nv np : Nat) (PA : Nat → Nat → Int32) (W : qW) (p lo hi ve wh s a : Int32) : Prop := (¬ wTuG nv np PA W p lo hi ve wh ∧ s = 1 ∧ a = -1) ∨ (wTuG nv np PA W p lo hi ve wh ∧ ∃ o, wTu nv np PA W p.toNatClampNeg ve (Int32.toInt64 wh) (hi.toNatClampNeg + 1 - lo.toNatClampNeg) lo.toNatClampNeg o ∧ (s, a) = wTuX o)
theorem fKp_Tu : ∀ k j, fTu k j = false → fKp k j = false := by
  intro k j h
  simp only [fKp, fTu, decide_eq_false_iff_not] at h ⊢
  omega
theorem fBk_Tu : ∀ k j, fTu k j = false → fBk k j = false := by
  intro k j h
  simp only [fBk, fTu, decide_eq_false_iff_not] at h ⊢
  omega
theorem fSt_Tu : ∀ k j, fTu k j = false → fSt k j = false := by
  intro k j h
  simp only [fSt, fTu, decide_eq_false_iff_not] at h ⊢
  omega
theorem pKp_Tu : ∀ k, pTu k = false → pKp k = false := by
  intro k h
  simp only [pKp, pTu, decide_eq_false_iff_not] at h ⊢
  omega
theorem pBk_Tu : ∀ k, pTu k = false → pBk k = false := by
  intro k h
  simp only [pBk, pTu, decide_eq_false_iff_not] at h ⊢
  omega
theorem pSt_Tu : ∀ k, pTu k = false → pSt k = false := by
  intro k h
  simp only [pSt, pTu, decide_eq_false_iff_not] at h ⊢
  omega
theorem fSt_k : ∀ j, 43 ≤ j → j ≤ 47 → fSt 52 j = false := by
  intro j h1 h2
  simp only [fSt, decide_eq_false_iff_not]
  omega
theorem pSt_k : ∀ k, 77 ≤ k → k ≤ 80 → pSt k = false := by
  intro k h1 h2
  simp only [pSt, decide_eq_false_iff_not]
  omega
theorem qI_lt {a b : Nat} (h : a < b) (hb : b < 1000) : nI a < nI b := by
  rw [i32_lt, nI_toInt (by omega), nI_toInt (by omega)]; omega
theorem qI_nlt {a b : Nat} (h : b ≤ a) (hb : a < 1000) : ¬ nI a < nI b := by
  rw [i32_lt, nI_toInt (by omega), nI_toInt (by omega)]; omega
set_option maxRecDepth 100000 in
set_option maxHeartbeats 0 in
theorem lmm_tune (ro : UInt32 → Nat × (Nat → Int32)) (nv np : Nat) (PA : Nat → Nat → Int32) (W : qW) (L : qLog) (I : Nat → Nat → Int32) (G : Nat → Nat → Int64) (A : Nat → Nat → Int32) (B : Nat → Nat → Int64) (K : Int) (p lo hi ve wh : Int32) (hR : mRS nv np PA W L I G A B) (hp : MPa nv np PA) (hW : wInv nv 10000 K PA W) (hK0 : 0 ≤ K) (hK : K ≤ 198000000) (hn : L.1 < 900000000) (hrec : I 52 22 = 1) (hso : I 52 41 = -1) (b : Nat) (hb : b ≤ 20) (p0 : ¬ p < 0) (p1 : ¬ 14 ≤ p) (cu : 0 ≤ (Int32.toInt64 wh).toInt ∧ (Int32.toInt64 wh).toInt ≤ 10000) : ∀ (m c : Nat) (ls : List (Nat × Value)) (I1 : Nat → Nat → Int32) (G1 : Nat → Nat → Int64) (A1 : Nat → Nat → Int32) (B1 : Nat → Nat → Int64) (x : Int32) (L1 : qLog), KQ fTu pTu I G A B I1 G1 A1 B1 → mRS nv np (PAx PA p.toNatClampNeg x) W L1 I1 G1 A1 B1 → L1.1 = L.1 → qArr L L1 → I1 52 22 = 1 → I1 52 41 = -1 → zld ls 0 = some (.ref 52) → zld ls 1 = some (.int p) → zld ls 3 = some (.int (nI b)) → zld ls 4 = some (.int ve) → zld ls 5 = some (.int wh) → zld ls 7 = some (.int (PA 62 p.toNatClampNeg)) → zld ls 8 = some (.int (-1)) → zld ls 9 = some (.int (nI c)) → 1 ≤ c → c + m = b + 1 → zWp ro 172 102 ls [] (hS I1 G1 A1 B1) 0 0 (fun r h1 => ∃ I2 G2 A2 B2, h1 = hS I2 G2 A2 B2 ∧ KQ fTu pTu I G A B I2 G2 A2 B2 ∧ (∃ L2, mRS nv np PA W L2 I2 G2 A2 B2 ∧ qArr L L2 ∧ L2.1 = L.1) ∧ (I2 52 22 = 1 ∧ I2 52 41 = -1) ∧ ∃ a : Int32, (∃ o, wTu nv np PA W p.toNatClampNeg ve (Int32.toInt64 wh) m c o ∧ (I2 52 27, a) = wTuX o) ∧ r = some (.int a)) := by
  intro m
  induction m with
  | zero =>
    intro c ls I1 G1 A1 B1 x L1 KK R1 h8 ha hr1 hs1 h0 h1 h3 h4 h5 h7 hf h9 hc1 hc
    refine zw_iload 104 f172_102 rfl h9 ?_
    refine zw_iload_n 105 f172_104 rfl h3 ?_
    refine zw_ic_gt_t 164 f172_105 (by decide +kernel) (qI_lt (by omega) (by omega)) ?_
    refine zw_aload_n 165 f172_164 rfl h0 ?_
    refine zw_getfield 168 f172_165 rfl g172_37_12 (hb_52 _ _ _ _) rfl ?_
    refine zw_iload_n 169 f172_168 rfl h1 ?_
    refine zw_iload 171 f172_169 rfl h7 ?_
    refine zw_ast p.toNatClampNeg _ 172 f172_171 rfl (hb_62 _ _ _ _) rfl p0 (zix (by decide) p0 p1) (ha_62 _ _ _ _ _) ?_
    refine zw_iload 174 f172_172 rfl hf ?_
    refine zw_iconst (-1) 175 f172_174 rfl (by decide +kernel) ?_
    refine zw_ic_ne_f 178 186 f172_175 (by decide +kernel) rfl (by decide +kernel) ?_
    refine zw_aload_n 179 f172_178 rfl h0 ?_
    refine zw_iconst 3 180 f172_179 rfl (by decide +kernel) ?_
    refine zw_virtual_i 183 0 0 [.ref 52, .int 3] [(0, .ref 52), (1, .int 3)] f172_180 rfl n172_209 k172_209_12 rfl (hb_52 _ _ _ _) (by decide +kernel) (Nat.le_of_ble_eq_true rfl) rfl rfl (by decide +kernel) (by decide +kernel) rfl (Nat.le_of_ble_eq_true rfl) rfl ?_
    refine zw_aload_n 1 f121_0 rfl rfl ?_
    refine zw_iload_n 2 f121_1 rfl rfl ?_
    refine zw_put _ 5 f121_2 rfl g121_111_12 (hb_52 _ _ _ _) rfl (Nat.le_of_ble_eq_true rfl) (by decide +kernel) (hi_52_27 _ _ _ _ _) ?_
    refine zw_iconst (-1) 6 f121_5 rfl (by decide +kernel) ?_
    refine zw_ireturn f121_6 r121 u121 ⟨_, rfl, ?_⟩
    refine zw_goto 192 f172_183 (by decide +kernel) ?_
    refine zw_ireturn f172_192 r172 u172 ?_
    have Rf : mRS nv np (PAx PA p.toNatClampNeg (PA 62 p.toNatClampNeg)) W L1 (upd2 I1 52 27 3) G1 (updA A1 62 (upd (A1 62) p.toNatClampNeg (PA 62 p.toNatClampNeg))) B1 := ⟨R1.1, PE.x R1.2.1 rfl, R1.2.2.1, R1.2.2.2⟩
    rw [PAx_i] at Rf
    exact ⟨_, _, _, _, rfl, (KQ.i rfl (KQ.a rfl KK)), ⟨_, Rf, ha, h8⟩, ⟨hr1, hs1⟩, _, ⟨none, rfl, rfl⟩, rfl⟩
  | succ m ih =>
    intro c ls I1 G1 A1 B1 x L1 KK R1 h8 ha hr1 hs1 h0 h1 h3 h4 h5 h7 hf h9 hc1 hc
    refine zw_iload 104 f172_102 rfl h9 ?_
    refine zw_iload_n 105 f172_104 rfl h3 ?_
    refine zw_ic_gt_f 108 164 f172_105 (by decide +kernel) rfl (qI_nlt (by omega) (by omega)) ?_
    refine zw_iload 110 f172_108 rfl hf ?_
    refine zw_iconst (-1) 111 f172_110 rfl (by decide +kernel) ?_
    refine zw_ic_ne_f 114 164 f172_111 (by decide +kernel) rfl (by decide +kernel) ?_
    refine zw_aload_n 115 f172_114 rfl h0 ?_
    refine zw_virtual_v 118 0 0 [.ref 52] [(0, .ref 52)] f172_115 rfl n172_278 k172_278_12 rfl (hb_52 _ _ _ _) (by decide +kernel) (Nat.le_of_ble_eq_true rfl) rfl rfl (by decide +kernel) (by decide +kernel) rfl (Nat.le_of_ble_eq_true rfl) rfl ?_
    refine zWp.mono (mm_keep ro nv np (PAx PA p.toNatClampNeg x) W L1 _ _ _ _ R1 hW.2.1) ?_
    rintro r h1 ⟨I_1, G_1, A_1, B_1, rfl, K_1, Q_1, C_1, rfl⟩
    refine ⟨rfl, ?_⟩
    have R_1 := R1.k K_1 fKp_R pKp_R
    refine zw_aload_n 119 f172_118 rfl h0 ?_
    refine zw_iload 121 f172_119 rfl h4 ?_
    refine zw_put _ 124 f172_121 rfl g172_92_12 (hb_52 _ _ _ _) rfl (Nat.le_of_ble_eq_true rfl) (by decide +kernel) (hi_52_41 _ _ _ _ _) ?_
    refine zw_aload_n 125 f172_124 rfl h0 ?_
    refine zw_getfield 128 f172_125 rfl g172_37_12 (hb_52 _ _ _ _) rfl ?_
    refine zw_iload_n 129 f172_128 rfl h1 ?_
    refine zw_iload 131 f172_129 rfl h9 ?_
    refine zw_ast p.toNatClampNeg _ 132 f172_131 rfl (hb_62 _ _ _ _) rfl p0 (zix (by decide) p0 p1) (ha_62 _ _ _ _ _) ?_
    refine zw_aload_n 133 f172_132 rfl h0 ?_
    refine zw_iload 135 f172_133 rfl h5 ?_
    refine zw_virtual_i 138 0 0 [.ref 52, .int wh] [(0, .ref 52), (1, .int wh)] f172_135 rfl n172_288 k172_288_12 rfl (hb_52 _ _ _ _) (by decide +kernel) (Nat.le_of_ble_eq_true rfl) rfl rfl (by decide +kernel) (by decide +kernel) rfl (Nat.le_of_ble_eq_true rfl) rfl ?_
    have Rz : mRS nv np (PAx PA p.toNatClampNeg (nI c)) W L1 (upd2 I_1 52 41 ve) G_1 (updA A_1 62 (upd (A_1 62) p.toNatClampNeg (nI c))) B_1 := ⟨R_1.1, PE.x R_1.2.1 rfl, R_1.2.2.1, R_1.2.2.2⟩
    have Qz : qKept W L1.1 (upd2 I_1 52 41 ve) G_1 (updA A_1 62 (upd (A_1 62) p.toNatClampNeg (nI c))) B_1 := Q_1
    refine zWp.mono (mm_shutsAt ro nv np (PAx PA p.toNatClampNeg (nI c)) W L1 _ _ _ _ K wh Rz (hp.x (by rw [nI_20 (by omega)]; omega)) hW hK0 (by omega) (by omega) cu.1 cu.2 C_1) ?_
    rintro r h1 ⟨I_2, G_2, A_2, B_2, rfl, K_2, ⟨L_2, R_2, a_2, b_2⟩, J_2, rfl⟩
    have Q_2 := Qz.k K_2 fSt_k pSt_k
    rcases Classical.em (wSh nv np (PAx PA p.toNatClampNeg (nI c)) ve (Int32.toInt64 wh) W) with hsh | hsh
    · refine ⟨1, congrArg (fun z => some (Value.int z)) (if_pos hsh), ?_⟩
      refine zw_if_eq_f 141 146 f172_138 (by decide +kernel) rfl (by decide +kernel) ?_
      refine zw_iload 143 f172_141 rfl h9 ?_
      refine zw_goto 147 f172_143 (by decide +kernel) ?_
      refine zw_istore _ 149 f172_147 rfl (by decide +kernel) rfl ?_
      refine zw_aload_n 150 f172_149 rfl (zl1_ne rfl rfl h0) ?_
      refine zw_iconst (-1) 151 f172_150 rfl (by decide +kernel) ?_
      refine zw_put _ 154 f172_151 rfl g172_92_12 (hb_52 _ _ _ _) rfl (Nat.le_of_ble_eq_true rfl) (by decide +kernel) (hi_52_41 _ _ _ _ _) ?_
      refine zw_aload_n 155 f172_154 rfl (zl1_ne rfl rfl h0) ?_
      refine zw_virtual_v 158 0 0 [.ref 52] [(0, .ref 52)] f172_155 rfl n172_285 k172_285_12 rfl (hb_52 _ _ _ _) (by decide +kernel) (Nat.le_of_ble_eq_true rfl) rfl rfl (by decide +kernel) (by decide +kernel) rfl (Nat.le_of_ble_eq_true rfl) rfl ?_
      have Ry : mRS nv np (PAx PA p.toNatClampNeg (nI c)) _ L_2 (upd2 I_2 52 41 (-1)) G_2 A_2 B_2 := R_2.k (pf := fun k j => decide (k = 52 ∧ j = 41)) (pa := fun _ => false) (KQ.i rfl KQ.rf) (by intro j h; simp only [decide_eq_false_iff_not]; omega) (fun _ _ _ => rfl)
      have Qy : qKept W L1.1 (upd2 I_2 52 41 (-1)) G_2 A_2 B_2 := Q_2
      refine zWp.mono (mm_back ro nv np (PAx PA p.toNatClampNeg (nI c)) _ W L_2 L1.1 _ _ _ _ _ _ _ _ Ry J_2 hW hp.1 Qy) ?_
      rintro r h1 ⟨I_3, G_3, A_3, B_3, rfl, K_3, R_3, C_3, rfl⟩
      refine ⟨rfl, ?_⟩
      refine zw_iinc (nI (c + 1)) _ 161 f172_158 rfl (zl1_ne rfl rfl h9) (by decide +kernel) (nI_1 _) rfl ?_
      refine zw_goto 102 f172_161 (by decide +kernel) ?_
      refine zw_iload 104 f172_102 rfl zl1_eq ?_
      refine zw_iload_n 105 f172_104 rfl (zl1_ne rfl rfl (zl1_ne rfl rfl h3)) ?_
      refine zw_ic_gt 108 164 f172_105 (by decide +kernel) rfl (fun hc4 => ?_) (fun hc4 => ?_)
      · have hn_hc4 : b < (c + 1) := zn_lt (by omega) (by omega) (Int32.not_le.mpr hc4)
        refine zw_aload_n 165 f172_164 rfl (zl1_ne rfl rfl (zl1_ne rfl rfl h0)) ?_
        refine zw_getfield 168 f172_165 rfl g172_37_12 (hb_52 _ _ _ _) rfl ?_
        refine zw_iload_n 169 f172_168 rfl (zl1_ne rfl rfl (zl1_ne rfl rfl h1)) ?_
        refine zw_iload 171 f172_169 rfl (zl1_ne rfl rfl (zl1_ne rfl rfl h7)) ?_
        refine zw_ast p.toNatClampNeg _ 172 f172_171 rfl (hb_62 _ _ _ _) rfl p0 (zix (by decide) p0 p1) (ha_62 _ _ _ _ _) ?_
        refine zw_iload 174 f172_172 rfl (zl1_ne rfl rfl zl1_eq) ?_
        refine zw_iconst (-1) 175 f172_174 rfl (by decide +kernel) ?_
        refine zw_ic_ne_t 186 f172_175 (by decide +kernel) (nI_nem (by omega)) ?_
        refine zw_aload_n 187 f172_186 rfl (zl1_ne rfl rfl (zl1_ne rfl rfl h0)) ?_
        refine zw_iload 189 f172_187 rfl (zl1_ne rfl rfl zl1_eq) ?_
        refine zw_virtual_i 192 0 0 [.ref 52, .int (nI c)] [(0, .ref 52), (1, .int (nI c))] f172_189 rfl n172_205 k172_205_12 rfl (hb_52 _ _ _ _) (by decide +kernel) (Nat.le_of_ble_eq_true rfl) rfl rfl (by decide +kernel) (by decide +kernel) rfl (Nat.le_of_ble_eq_true rfl) rfl ?_
        refine zw_aload_n 1 f122_0 rfl rfl ?_
        refine zw_iconst 0 2 f122_1 rfl (by decide +kernel) ?_
        refine zw_put _ 5 f122_2 rfl g122_111_12 (hb_52 _ _ _ _) rfl (Nat.le_of_ble_eq_true rfl) (by decide +kernel) (hi_52_27 _ _ _ _ _) ?_
        refine zw_iload_n 6 f122_5 rfl rfl ?_
        refine zw_ireturn f122_6 r122 u122 ⟨_, rfl, ?_⟩
        refine zw_ireturn f172_192 r172 u172 ?_
        have Rf : mRS nv np (PAx PA p.toNatClampNeg (PA 62 p.toNatClampNeg)) W (L1.1, L_2.2) (upd2 I_3 52 27 0) G_3 (updA A_3 62 (upd (A_3 62) p.toNatClampNeg (PA 62 p.toNatClampNeg))) B_3 := ⟨R_3.1, PE.x R_3.2.1 rfl, R_3.2.2.1, R_3.2.2.2⟩
        rw [PAx_i] at Rf
        exact ⟨_, _, _, _, rfl, (KQ.i rfl (KQ.a rfl (KQ.tr (KQ.i rfl (KQ.tr (KQ.a rfl (KQ.i rfl (KQ.tr KK (KQ.wk K_1 fKp_Tu pKp_Tu)))) (KQ.wk K_2 fSt_Tu pSt_Tu))) (KQ.wk K_3 fBk_Tu pBk_Tu)))), ⟨_, Rf, (ha.tr a_2), h8⟩, ⟨C_3, (K_3.1 52 41 rfl)⟩, _, ⟨(some c), Or.inl ⟨hsh, rfl⟩, rfl⟩, rfl⟩
      · have hn_hc4 : (c + 1) ≤ b := zn_ge (by omega) (by omega) (Int32.not_lt.mp hc4)
        refine zw_iload 110 f172_108 rfl (zl1_ne rfl rfl zl1_eq) ?_
        refine zw_iconst (-1) 111 f172_110 rfl (by decide +kernel) ?_
        refine zw_ic_ne_t 164 f172_111 (by decide +kernel) (nI_nem (by omega)) ?_
        refine zw_aload_n 165 f172_164 rfl (zl1_ne rfl rfl (zl1_ne rfl rfl h0)) ?_
        refine zw_getfield 168 f172_165 rfl g172_37_12 (hb_52 _ _ _ _) rfl ?_
        refine zw_iload_n 169 f172_168 rfl (zl1_ne rfl rfl (zl1_ne rfl rfl h1)) ?_
        refine zw_iload 171 f172_169 rfl (zl1_ne rfl rfl (zl1_ne rfl rfl h7)) ?_
        refine zw_ast p.toNatClampNeg _ 172 f172_171 rfl (hb_62 _ _ _ _) rfl p0 (zix (by decide) p0 p1) (ha_62 _ _ _ _ _) ?_
        refine zw_iload 174 f172_172 rfl (zl1_ne rfl rfl zl1_eq) ?_
        refine zw_iconst (-1) 175 f172_174 rfl (by decide +kernel) ?_
        refine zw_ic_ne_t 186 f172_175 (by decide +kernel) (nI_nem (by omega)) ?_
        refine zw_aload_n 187 f172_186 rfl (zl1_ne rfl rfl (zl1_ne rfl rfl h0)) ?_
        refine zw_iload 189 f172_187 rfl (zl1_ne rfl rfl zl1_eq) ?_
        refine zw_virtual_i 192 0 0 [.ref 52, .int (nI c)] [(0, .ref 52), (1, .int (nI c))] f172_189 rfl n172_205 k172_205_12 rfl (hb_52 _ _ _ _) (by decide +kernel) (Nat.le_of_ble_eq_true rfl) rfl rfl (by decide +kernel) (by decide +kernel) rfl (Nat.le_of_ble_eq_true rfl) rfl ?_
        refine zw_aload_n 1 f122_0 rfl rfl ?_
        refine zw_iconst 0 2 f122_1 rfl (by decide +kernel) ?_
        refine zw_put _ 5 f122_2 rfl g122_111_12 (hb_52 _ _ _ _) rfl (Nat.le_of_ble_eq_true rfl) (by decide +kernel) (hi_52_27 _ _ _ _ _) ?_
        refine zw_iload_n 6 f122_5 rfl rfl ?_
        refine zw_ireturn f122_6 r122 u122 ⟨_, rfl, ?_⟩
        refine zw_ireturn f172_192 r172 u172 ?_
        have Rf : mRS nv np (PAx PA p.toNatClampNeg (PA 62 p.toNatClampNeg)) W (L1.1, L_2.2) (upd2 I_3 52 27 0) G_3 (updA A_3 62 (upd (A_3 62) p.toNatClampNeg (PA 62 p.toNatClampNeg))) B_3 := ⟨R_3.1, PE.x R_3.2.1 rfl, R_3.2.2.1, R_3.2.2.2⟩
        rw [PAx_i] at Rf
        exact ⟨_, _, _, _, rfl, (KQ.i rfl (KQ.a rfl (KQ.tr (KQ.i rfl (KQ.tr (KQ.a rfl (KQ.i rfl (KQ.tr KK (KQ.wk K_1 fKp_Tu pKp_Tu)))) (KQ.wk K_2 fSt_Tu pSt_Tu))) (KQ.wk K_3 fBk_Tu pBk_Tu)))), ⟨_, Rf, (ha.tr a_2), h8⟩, ⟨C_3, (K_3.1 52 41 rfl)⟩, _, ⟨(some c), Or.inl ⟨hsh, rfl⟩, rfl⟩, rfl⟩
    · refine ⟨0, congrArg (fun z => some (Value.int z)) (if_neg hsh), ?_⟩
      refine zw_if_eq_t 146 f172_138 (by decide +kernel) (by decide +kernel) ?_
      refine zw_iconst (-1) 147 f172_146 rfl (by decide +kernel) ?_
      refine zw_istore _ 149 f172_147 rfl (by decide +kernel) rfl ?_
      refine zw_aload_n 150 f172_149 rfl (zl1_ne rfl rfl h0) ?_
      refine zw_iconst (-1) 151 f172_150 rfl (by decide +kernel) ?_
      refine zw_put _ 154 f172_151 rfl g172_92_12 (hb_52 _ _ _ _) rfl (Nat.le_of_ble_eq_true rfl) (by decide +kernel) (hi_52_41 _ _ _ _ _) ?_
      refine zw_aload_n 155 f172_154 rfl (zl1_ne rfl rfl h0) ?_
      refine zw_virtual_v 158 0 0 [.ref 52] [(0, .ref 52)] f172_155 rfl n172_285 k172_285_12 rfl (hb_52 _ _ _ _) (by decide +kernel) (Nat.le_of_ble_eq_true rfl) rfl rfl (by decide +kernel) (by decide +kernel) rfl (Nat.le_of_ble_eq_true rfl) rfl ?_
      have Ry : mRS nv np (PAx PA p.toNatClampNeg (nI c)) _ L_2 (upd2 I_2 52 41 (-1)) G_2 A_2 B_2 := R_2.k (pf := fun k j => decide (k = 52 ∧ j = 41)) (pa := fun _ => false) (KQ.i rfl KQ.rf) (by intro j h; simp only [decide_eq_false_iff_not]; omega) (fun _ _ _ => rfl)
      have Qy : qKept W L1.1 (upd2 I_2 52 41 (-1)) G_2 A_2 B_2 := Q_2
      refine zWp.mono (mm_back ro nv np (PAx PA p.toNatClampNeg (nI c)) _ W L_2 L1.1 _ _ _ _ _ _ _ _ Ry J_2 hW hp.1 Qy) ?_
      rintro r h1 ⟨I_5, G_5, A_5, B_5, rfl, K_5, R_5, C_5, rfl⟩
      refine ⟨rfl, ?_⟩
      refine zw_iinc (nI (c + 1)) _ 161 f172_158 rfl (zl1_ne rfl rfl h9) (by decide +kernel) (nI_1 _) rfl ?_
      refine zw_goto 102 f172_161 (by decide +kernel) ?_
      refine zWp.mono (ih (c + 1) _ _ _ _ _ (nI c) _ (KQ.tr (KQ.i rfl (KQ.tr (KQ.a rfl (KQ.i rfl (KQ.tr KK (KQ.wk K_1 fKp_Tu pKp_Tu)))) (KQ.wk K_2 fSt_Tu pSt_Tu))) (KQ.wk K_5 fBk_Tu pBk_Tu)) R_5 h8 (ha.tr a_2) C_5 (K_5.1 52 41 rfl) (zl1_ne rfl rfl (zl1_ne rfl rfl h0)) (zl1_ne rfl rfl (zl1_ne rfl rfl h1)) (zl1_ne rfl rfl (zl1_ne rfl rfl h3)) (zl1_ne rfl rfl (zl1_ne rfl rfl h4)) (zl1_ne rfl rfl (zl1_ne rfl rfl h5)) (zl1_ne rfl rfl (zl1_ne rfl rfl h7)) (zl1_ne rfl rfl zl1_eq) zl1_eq (by omega) (by omega)) ?_
      rintro r h1 ⟨I2, G2, A2, B2, rfl, K2, x1, x2, a, ⟨o, o1, o2⟩, x3⟩
      exact ⟨I2, G2, A2, B2, rfl, K2, x1, x2, a, ⟨o, Or.inr ⟨hsh, o1⟩, o2⟩, x3⟩
set_option maxRecDepth 100000 in
set_option maxHeartbeats 0 in
theorem mm_tune (ro : UInt32 → Nat × (Nat → Int32)) (nv np : Nat) (PA : Nat → Nat → Int32) (W : qW) (L : qLog) (I : Nat → Nat → Int32) (G : Nat → Nat → Int64) (A : Nat → Nat → Int32) (B : Nat → Nat → Int64) (K : Int) (p lo hi ve wh : Int32) (hR : mRS nv np PA W L I G A B) (hp : MPa nv np PA) (hW : wInv nv 10000 K PA W) (hK0 : 0 ≤ K) (hK : K ≤ 198000000) (hn : L.1 < 900000000) (hrec : I 52 22 = 1) (hso : I 52 41 = -1) : zWp ro 172 0 [(0, .ref 52), (1, .int p), (2, .int lo), (3, .int hi), (4, .int ve), (5, .int wh)] [] (hS I G A B) 0 0 (fun r h1 => ∃ I2 G2 A2 B2, h1 = hS I2 G2 A2 B2 ∧ KQ fTu pTu I G A B I2 G2 A2 B2 ∧ (∃ L2, mRS nv np PA W L2 I2 G2 A2 B2 ∧ qArr L L2 ∧ L2.1 = L.1) ∧ (I2 52 22 = 1 ∧ I2 52 41 = -1) ∧ ∃ a : Int32, wTuR nv np PA W p lo hi ve wh (I2 52 27) a ∧ r = some (.int a)) := by
  refine zw_aload_n 1 f172_0 rfl rfl ?_
  refine zw_iload_n 2 f172_1 rfl rfl ?_
  refine zw_virtual_i 5 0 0 [.ref 52, .int p] [(0, .ref 52), (1, .int p)] f172_2 rfl n172_218 k172_218_12 rfl (hb_52 _ _ _ _) (by decide +kernel) (Nat.le_of_ble_eq_true rfl) rfl rfl (by decide +kernel) (by decide +kernel) rfl (Nat.le_of_ble_eq_true rfl) rfl ?_
  refine zw_iload_n 1 f124_0 rfl rfl ?_
  refine zw_iconst 0 2 f124_1 rfl (by decide +kernel) ?_
  refine zw_aload_n 3 f124_2 rfl rfl ?_
  refine zw_getI (nI np) 6 f124_3 rfl g124_121_12 (hb_52 _ _ _ _) rfl hR.1.2 ?_
  refine zw_iconst 1 7 f124_6 rfl (by decide +kernel) ?_
  refine zw_isub ((nI np) - 1) 8 f124_7 rfl rfl ?_
  refine zw_static_i 11 0 0 [.int p, .int 0, .int ((nI np) - 1)] [] [(0, .int p), (1, .int 0), (2, .int ((nI np) - 1))] f124_8 rfl k124_117_99 rfl (by decide +kernel) (Nat.le_of_ble_eq_true rfl) (Nat.le_of_ble_eq_true rfl) rfl rfl (by decide +kernel) (by decide +kernel) rfl (Nat.le_of_ble_eq_true rfl) rfl ?_
  refine zw_iload_n 1 f120_0 rfl rfl ?_
  refine zw_iload_n 2 f120_1 rfl rfl ?_
  refine zw_ic_lt 5 14 f120_2 (by decide +kernel) rfl (fun hc1 => ?_) (fun hc1 => ?_)
  · refine zw_iconst 0 15 f120_14 rfl (by decide +kernel) ?_
    refine zw_zreturn f120_15 r120 u120 (by decide +kernel) ⟨_, rfl, ?_⟩
    refine zw_zreturn f124_11 r124 u124 (by decide +kernel) ⟨_, rfl, ?_⟩
    refine zw_if_eq_t 50 f172_5 (by decide +kernel) (by decide +kernel) ?_
    refine zw_iconst 0 51 f172_50 rfl (by decide +kernel) ?_
    refine zw_istore _ 53 f172_51 rfl (by decide +kernel) rfl ?_
    refine zw_iload 55 f172_53 rfl zl1_eq ?_
    refine zw_if_eq_t 82 f172_55 (by decide +kernel) (by decide +kernel) ?_
    refine zw_aload_n 83 f172_82 rfl (zl1_ne rfl rfl rfl) ?_
    refine zw_iconst 1 84 f172_83 rfl (by decide +kernel) ?_
    refine zw_virtual_i 87 0 0 [.ref 52, .int 1] [(0, .ref 52), (1, .int 1)] f172_84 rfl n172_209 k172_209_12 rfl (hb_52 _ _ _ _) (by decide +kernel) (Nat.le_of_ble_eq_true rfl) rfl rfl (by decide +kernel) (by decide +kernel) rfl (Nat.le_of_ble_eq_true rfl) rfl ?_
    refine zw_aload_n 1 f121_0 rfl rfl ?_
    refine zw_iload_n 2 f121_1 rfl rfl ?_
    refine zw_put _ 5 f121_2 rfl g121_111_12 (hb_52 _ _ _ _) rfl (Nat.le_of_ble_eq_true rfl) (by decide +kernel) (hi_52_27 _ _ _ _ _) ?_
    refine zw_iconst (-1) 6 f121_5 rfl (by decide +kernel) ?_
    refine zw_ireturn f121_6 r121 u121 ⟨_, rfl, ?_⟩
    refine zw_ireturn f172_87 r172 u172 ?_
    exact ⟨_, _, _, _, rfl, (KQ.i rfl KQ.rf), ⟨L, (hR.k (pf := fun k j => decide (k = 52 ∧ j = 27)) (pa := fun _ => false) (KQ.i rfl KQ.rf) f27_R (fun _ _ _ => rfl)), qArr.rf, rfl⟩, ⟨hrec, hso⟩, _, Or.inl ⟨(fun q => q.1.1 hc1), rfl, rfl⟩, rfl⟩
  · refine zw_iload_n 6 f120_5 rfl rfl ?_
    refine zw_iload_n 7 f120_6 rfl rfl ?_
    refine zw_ic_gt 10 14 f120_7 (by decide +kernel) rfl (fun hc2 => ?_) (fun hc2 => ?_)
    · refine zw_iconst 0 15 f120_14 rfl (by decide +kernel) ?_
      refine zw_zreturn f120_15 r120 u120 (by decide +kernel) ⟨_, rfl, ?_⟩
      refine zw_zreturn f124_11 r124 u124 (by decide +kernel) ⟨_, rfl, ?_⟩
      refine zw_if_eq_t 50 f172_5 (by decide +kernel) (by decide +kernel) ?_
      refine zw_iconst 0 51 f172_50 rfl (by decide +kernel) ?_
      refine zw_istore _ 53 f172_51 rfl (by decide +kernel) rfl ?_
      refine zw_iload 55 f172_53 rfl zl1_eq ?_
      refine zw_if_eq_t 82 f172_55 (by decide +kernel) (by decide +kernel) ?_
      refine zw_aload_n 83 f172_82 rfl (zl1_ne rfl rfl rfl) ?_
      refine zw_iconst 1 84 f172_83 rfl (by decide +kernel) ?_
      refine zw_virtual_i 87 0 0 [.ref 52, .int 1] [(0, .ref 52), (1, .int 1)] f172_84 rfl n172_209 k172_209_12 rfl (hb_52 _ _ _ _) (by decide +kernel) (Nat.le_of_ble_eq_true rfl) rfl rfl (by decide +kernel) (by decide +kernel) rfl (Nat.le_of_ble_eq_true rfl) rfl ?_
      refine zw_aload_n 1 f121_0 rfl rfl ?_
      refine zw_iload_n 2 f121_1 rfl rfl ?_
      refine zw_put _ 5 f121_2 rfl g121_111_12 (hb_52 _ _ _ _) rfl (Nat.le_of_ble_eq_true rfl) (by decide +kernel) (hi_52_27 _ _ _ _ _) ?_
      refine zw_iconst (-1) 6 f121_5 rfl (by decide +kernel) ?_
      refine zw_ireturn f121_6 r121 u121 ⟨_, rfl, ?_⟩
      refine zw_ireturn f172_87 r172 u172 ?_
      exact ⟨_, _, _, _, rfl, (KQ.i rfl KQ.rf), ⟨L, (hR.k (pf := fun k j => decide (k = 52 ∧ j = 27)) (pa := fun _ => false) (KQ.i rfl KQ.rf) f27_R (fun _ _ _ => rfl)), qArr.rf, rfl⟩, ⟨hrec, hso⟩, _, Or.inl ⟨(fun q => q.1.2 hc2), rfl, rfl⟩, rfl⟩
    · refine zw_iconst 1 11 f120_10 rfl (by decide +kernel) ?_
      refine zw_goto 15 f120_11 (by decide +kernel) ?_
      refine zw_zreturn f120_15 r120 u120 (by decide +kernel) ⟨_, rfl, ?_⟩
      refine zw_zreturn f124_11 r124 u124 (by decide +kernel) ⟨_, rfl, ?_⟩
      refine zw_if_eq_f 8 50 f172_5 (by decide +kernel) rfl (by decide +kernel) ?_
      refine zw_iload_n 9 f172_8 rfl rfl ?_
      refine zw_iconst 1 10 f172_9 rfl (by decide +kernel) ?_
      refine zw_bipush 20 12 f172_10 rfl (by decide +kernel) ?_
      refine zw_static_i 15 0 0 [.int lo, .int 1, .int 20] [] [(0, .int lo), (1, .int 1), (2, .int 20)] f172_12 rfl k172_117_99 rfl (by decide +kernel) (Nat.le_of_ble_eq_true rfl) (Nat.le_of_ble_eq_true rfl) rfl rfl (by decide +kernel) (by decide +kernel) rfl (Nat.le_of_ble_eq_true rfl) rfl ?_
      refine zw_iload_n 1 f120_0 rfl rfl ?_
      refine zw_iload_n 2 f120_1 rfl rfl ?_
      refine zw_ic_lt 5 14 f120_2 (by decide +kernel) rfl (fun hc3 => ?_) (fun hc3 => ?_)
      · refine zw_iconst 0 15 f120_14 rfl (by decide +kernel) ?_
        refine zw_zreturn f120_15 r120 u120 (by decide +kernel) ⟨_, rfl, ?_⟩
        refine zw_if_eq_t 50 f172_15 (by decide +kernel) (by decide +kernel) ?_
        refine zw_iconst 0 51 f172_50 rfl (by decide +kernel) ?_
        refine zw_istore _ 53 f172_51 rfl (by decide +kernel) rfl ?_
        refine zw_iload 55 f172_53 rfl zl1_eq ?_
        refine zw_if_eq_t 82 f172_55 (by decide +kernel) (by decide +kernel) ?_
        refine zw_aload_n 83 f172_82 rfl (zl1_ne rfl rfl rfl) ?_
        refine zw_iconst 1 84 f172_83 rfl (by decide +kernel) ?_
        refine zw_virtual_i 87 0 0 [.ref 52, .int 1] [(0, .ref 52), (1, .int 1)] f172_84 rfl n172_209 k172_209_12 rfl (hb_52 _ _ _ _) (by decide +kernel) (Nat.le_of_ble_eq_true rfl) rfl rfl (by decide +kernel) (by decide +kernel) rfl (Nat.le_of_ble_eq_true rfl) rfl ?_
        refine zw_aload_n 1 f121_0 rfl rfl ?_
        refine zw_iload_n 2 f121_1 rfl rfl ?_
        refine zw_put _ 5 f121_2 rfl g121_111_12 (hb_52 _ _ _ _) rfl (Nat.le_of_ble_eq_true rfl) (by decide +kernel) (hi_52_27 _ _ _ _ _) ?_
        refine zw_iconst (-1) 6 f121_5 rfl (by decide +kernel) ?_
        refine zw_ireturn f121_6 r121 u121 ⟨_, rfl, ?_⟩
        refine zw_ireturn f172_87 r172 u172 ?_
        exact ⟨_, _, _, _, rfl, (KQ.i rfl KQ.rf), ⟨L, (hR.k (pf := fun k j => decide (k = 52 ∧ j = 27)) (pa := fun _ => false) (KQ.i rfl KQ.rf) f27_R (fun _ _ _ => rfl)), qArr.rf, rfl⟩, ⟨hrec, hso⟩, _, Or.inl ⟨(fun q => q.2.1.1 hc3), rfl, rfl⟩, rfl⟩
      · refine zw_iload_n 6 f120_5 rfl rfl ?_
        refine zw_iload_n 7 f120_6 rfl rfl ?_
        refine zw_ic_gt 10 14 f120_7 (by decide +kernel) rfl (fun hc4 => ?_) (fun hc4 => ?_)
        · refine zw_iconst 0 15 f120_14 rfl (by decide +kernel) ?_
          refine zw_zreturn f120_15 r120 u120 (by decide +kernel) ⟨_, rfl, ?_⟩
          refine zw_if_eq_t 50 f172_15 (by decide +kernel) (by decide +kernel) ?_
          refine zw_iconst 0 51 f172_50 rfl (by decide +kernel) ?_
          refine zw_istore _ 53 f172_51 rfl (by decide +kernel) rfl ?_
          refine zw_iload 55 f172_53 rfl zl1_eq ?_
          refine zw_if_eq_t 82 f172_55 (by decide +kernel) (by decide +kernel) ?_
          refine zw_aload_n 83 f172_82 rfl (zl1_ne rfl rfl rfl) ?_
          refine zw_iconst 1 84 f172_83 rfl (by decide +kernel) ?_
          refine zw_virtual_i 87 0 0 [.ref 52, .int 1] [(0, .ref 52), (1, .int 1)] f172_84 rfl n172_209 k172_209_12 rfl (hb_52 _ _ _ _) (by decide +kernel) (Nat.le_of_ble_eq_true rfl) rfl rfl (by decide +kernel) (by decide +kernel) rfl (Nat.le_of_ble_eq_true rfl) rfl ?_
          refine zw_aload_n 1 f121_0 rfl rfl ?_
          refine zw_iload_n 2 f121_1 rfl rfl ?_
          refine zw_put _ 5 f121_2 rfl g121_111_12 (hb_52 _ _ _ _) rfl (Nat.le_of_ble_eq_true rfl) (by decide +kernel) (hi_52_27 _ _ _ _ _) ?_
          refine zw_iconst (-1) 6 f121_5 rfl (by decide +kernel) ?_
          refine zw_ireturn f121_6 r121 u121 ⟨_, rfl, ?_⟩
          refine zw_ireturn f172_87 r172 u172 ?_
          exact ⟨_, _, _, _, rfl, (KQ.i rfl KQ.rf), ⟨L, (hR.k (pf := fun k j => decide (k = 52 ∧ j = 27)) (pa := fun _ => false) (KQ.i rfl KQ.rf) f27_R (fun _ _ _ => rfl)), qArr.rf, rfl⟩, ⟨hrec, hso⟩, _, Or.inl ⟨(fun q => q.2.1.2 hc4), rfl, rfl⟩, rfl⟩
        · refine zw_iconst 1 11 f120_10 rfl (by decide +kernel) ?_
          refine zw_goto 15 f120_11 (by decide +kernel) ?_
          refine zw_zreturn f120_15 r120 u120 (by decide +kernel) ⟨_, rfl, ?_⟩
          refine zw_if_eq_f 18 50 f172_15 (by decide +kernel) rfl (by decide +kernel) ?_
          refine zw_iload_n 19 f172_18 rfl rfl ?_
          refine zw_iload_n 20 f172_19 rfl rfl ?_
          refine zw_bipush 20 22 f172_20 rfl (by decide +kernel) ?_
          refine zw_static_i 25 0 0 [.int hi, .int lo, .int 20] [] [(0, .int hi), (1, .int lo), (2, .int 20)] f172_22 rfl k172_117_99 rfl (by decide +kernel) (Nat.le_of_ble_eq_true rfl) (Nat.le_of_ble_eq_true rfl) rfl rfl (by decide +kernel) (by decide +kernel) rfl (Nat.le_of_ble_eq_true rfl) rfl ?_
          refine zw_iload_n 1 f120_0 rfl rfl ?_
          refine zw_iload_n 2 f120_1 rfl rfl ?_
          refine zw_ic_lt 5 14 f120_2 (by decide +kernel) rfl (fun hc5 => ?_) (fun hc5 => ?_)
          · refine zw_iconst 0 15 f120_14 rfl (by decide +kernel) ?_
            refine zw_zreturn f120_15 r120 u120 (by decide +kernel) ⟨_, rfl, ?_⟩
            refine zw_if_eq_t 50 f172_25 (by decide +kernel) (by decide +kernel) ?_
            refine zw_iconst 0 51 f172_50 rfl (by decide +kernel) ?_
            refine zw_istore _ 53 f172_51 rfl (by decide +kernel) rfl ?_
            refine zw_iload 55 f172_53 rfl zl1_eq ?_
            refine zw_if_eq_t 82 f172_55 (by decide +kernel) (by decide +kernel) ?_
            refine zw_aload_n 83 f172_82 rfl (zl1_ne rfl rfl rfl) ?_
            refine zw_iconst 1 84 f172_83 rfl (by decide +kernel) ?_
            refine zw_virtual_i 87 0 0 [.ref 52, .int 1] [(0, .ref 52), (1, .int 1)] f172_84 rfl n172_209 k172_209_12 rfl (hb_52 _ _ _ _) (by decide +kernel) (Nat.le_of_ble_eq_true rfl) rfl rfl (by decide +kernel) (by decide +kernel) rfl (Nat.le_of_ble_eq_true rfl) rfl ?_
            refine zw_aload_n 1 f121_0 rfl rfl ?_
            refine zw_iload_n 2 f121_1 rfl rfl ?_
            refine zw_put _ 5 f121_2 rfl g121_111_12 (hb_52 _ _ _ _) rfl (Nat.le_of_ble_eq_true rfl) (by decide +kernel) (hi_52_27 _ _ _ _ _) ?_
            refine zw_iconst (-1) 6 f121_5 rfl (by decide +kernel) ?_
            refine zw_ireturn f121_6 r121 u121 ⟨_, rfl, ?_⟩
            refine zw_ireturn f172_87 r172 u172 ?_
            exact ⟨_, _, _, _, rfl, (KQ.i rfl KQ.rf), ⟨L, (hR.k (pf := fun k j => decide (k = 52 ∧ j = 27)) (pa := fun _ => false) (KQ.i rfl KQ.rf) f27_R (fun _ _ _ => rfl)), qArr.rf, rfl⟩, ⟨hrec, hso⟩, _, Or.inl ⟨(fun q => q.2.2.1.1 hc5), rfl, rfl⟩, rfl⟩
          · refine zw_iload_n 6 f120_5 rfl rfl ?_
            refine zw_iload_n 7 f120_6 rfl rfl ?_
            refine zw_ic_gt 10 14 f120_7 (by decide +kernel) rfl (fun hc6 => ?_) (fun hc6 => ?_)
            · refine zw_iconst 0 15 f120_14 rfl (by decide +kernel) ?_
              refine zw_zreturn f120_15 r120 u120 (by decide +kernel) ⟨_, rfl, ?_⟩
              refine zw_if_eq_t 50 f172_25 (by decide +kernel) (by decide +kernel) ?_
              refine zw_iconst 0 51 f172_50 rfl (by decide +kernel) ?_
              refine zw_istore _ 53 f172_51 rfl (by decide +kernel) rfl ?_
              refine zw_iload 55 f172_53 rfl zl1_eq ?_
              refine zw_if_eq_t 82 f172_55 (by decide +kernel) (by decide +kernel) ?_
              refine zw_aload_n 83 f172_82 rfl (zl1_ne rfl rfl rfl) ?_
              refine zw_iconst 1 84 f172_83 rfl (by decide +kernel) ?_
              refine zw_virtual_i 87 0 0 [.ref 52, .int 1] [(0, .ref 52), (1, .int 1)] f172_84 rfl n172_209 k172_209_12 rfl (hb_52 _ _ _ _) (by decide +kernel) (Nat.le_of_ble_eq_true rfl) rfl rfl (by decide +kernel) (by decide +kernel) rfl (Nat.le_of_ble_eq_true rfl) rfl ?_
              refine zw_aload_n 1 f121_0 rfl rfl ?_
              refine zw_iload_n 2 f121_1 rfl rfl ?_
              refine zw_put _ 5 f121_2 rfl g121_111_12 (hb_52 _ _ _ _) rfl (Nat.le_of_ble_eq_true rfl) (by decide +kernel) (hi_52_27 _ _ _ _ _) ?_
              refine zw_iconst (-1) 6 f121_5 rfl (by decide +kernel) ?_
              refine zw_ireturn f121_6 r121 u121 ⟨_, rfl, ?_⟩
              refine zw_ireturn f172_87 r172 u172 ?_
              exact ⟨_, _, _, _, rfl, (KQ.i rfl KQ.rf), ⟨L, (hR.k (pf := fun k j => decide (k = 52 ∧ j = 27)) (pa := fun _ => false) (KQ.i rfl KQ.rf) f27_R (fun _ _ _ => rfl)), qArr.rf, rfl⟩, ⟨hrec, hso⟩, _, Or.inl ⟨(fun q => q.2.2.1.2 hc6), rfl, rfl⟩, rfl⟩
            · refine zw_iconst 1 11 f120_10 rfl (by decide +kernel) ?_
              refine zw_goto 15 f120_11 (by decide +kernel) ?_
              refine zw_zreturn f120_15 r120 u120 (by decide +kernel) ⟨_, rfl, ?_⟩
              refine zw_if_eq_f 28 50 f172_25 (by decide +kernel) rfl (by decide +kernel) ?_
              refine zw_aload_n 29 f172_28 rfl rfl ?_
              refine zw_iload 31 f172_29 rfl rfl ?_
              refine zw_virtual_i 34 0 0 [.ref 52, .int ve] [(0, .ref 52), (1, .int ve)] f172_31 rfl n172_215 k172_215_12 rfl (hb_52 _ _ _ _) (by decide +kernel) (Nat.le_of_ble_eq_true rfl) rfl rfl (by decide +kernel) (by decide +kernel) rfl (Nat.le_of_ble_eq_true rfl) rfl ?_
              refine zw_iload_n 1 f123_0 rfl rfl ?_
              refine zw_iconst 0 2 f123_1 rfl (by decide +kernel) ?_
              refine zw_aload_n 3 f123_2 rfl rfl ?_
              refine zw_getI (nI nv) 6 f123_3 rfl g123_114_12 (hb_52 _ _ _ _) rfl hR.1.1 ?_
              refine zw_iconst 1 7 f123_6 rfl (by decide +kernel) ?_
              refine zw_isub ((nI nv) - 1) 8 f123_7 rfl rfl ?_
              refine zw_static_i 11 0 0 [.int ve, .int 0, .int ((nI nv) - 1)] [] [(0, .int ve), (1, .int 0), (2, .int ((nI nv) - 1))] f123_8 rfl k123_117_99 rfl (by decide +kernel) (Nat.le_of_ble_eq_true rfl) (Nat.le_of_ble_eq_true rfl) rfl rfl (by decide +kernel) (by decide +kernel) rfl (Nat.le_of_ble_eq_true rfl) rfl ?_
              refine zw_iload_n 1 f120_0 rfl rfl ?_
              refine zw_iload_n 2 f120_1 rfl rfl ?_
              refine zw_ic_lt 5 14 f120_2 (by decide +kernel) rfl (fun hc7 => ?_) (fun hc7 => ?_)
              · refine zw_iconst 0 15 f120_14 rfl (by decide +kernel) ?_
                refine zw_zreturn f120_15 r120 u120 (by decide +kernel) ⟨_, rfl, ?_⟩
                refine zw_zreturn f123_11 r123 u123 (by decide +kernel) ⟨_, rfl, ?_⟩
                refine zw_if_eq_t 50 f172_34 (by decide +kernel) (by decide +kernel) ?_
                refine zw_iconst 0 51 f172_50 rfl (by decide +kernel) ?_
                refine zw_istore _ 53 f172_51 rfl (by decide +kernel) rfl ?_
                refine zw_iload 55 f172_53 rfl zl1_eq ?_
                refine zw_if_eq_t 82 f172_55 (by decide +kernel) (by decide +kernel) ?_
                refine zw_aload_n 83 f172_82 rfl (zl1_ne rfl rfl rfl) ?_
                refine zw_iconst 1 84 f172_83 rfl (by decide +kernel) ?_
                refine zw_virtual_i 87 0 0 [.ref 52, .int 1] [(0, .ref 52), (1, .int 1)] f172_84 rfl n172_209 k172_209_12 rfl (hb_52 _ _ _ _) (by decide +kernel) (Nat.le_of_ble_eq_true rfl) rfl rfl (by decide +kernel) (by decide +kernel) rfl (Nat.le_of_ble_eq_true rfl) rfl ?_
                refine zw_aload_n 1 f121_0 rfl rfl ?_
                refine zw_iload_n 2 f121_1 rfl rfl ?_
                refine zw_put _ 5 f121_2 rfl g121_111_12 (hb_52 _ _ _ _) rfl (Nat.le_of_ble_eq_true rfl) (by decide +kernel) (hi_52_27 _ _ _ _ _) ?_
                refine zw_iconst (-1) 6 f121_5 rfl (by decide +kernel) ?_
                refine zw_ireturn f121_6 r121 u121 ⟨_, rfl, ?_⟩
                refine zw_ireturn f172_87 r172 u172 ?_
                exact ⟨_, _, _, _, rfl, (KQ.i rfl KQ.rf), ⟨L, (hR.k (pf := fun k j => decide (k = 52 ∧ j = 27)) (pa := fun _ => false) (KQ.i rfl KQ.rf) f27_R (fun _ _ _ => rfl)), qArr.rf, rfl⟩, ⟨hrec, hso⟩, _, Or.inl ⟨(fun q => q.2.2.2.1.1 hc7), rfl, rfl⟩, rfl⟩
              · refine zw_iload_n 6 f120_5 rfl rfl ?_
                refine zw_iload_n 7 f120_6 rfl rfl ?_
                refine zw_ic_gt 10 14 f120_7 (by decide +kernel) rfl (fun hc8 => ?_) (fun hc8 => ?_)
                · refine zw_iconst 0 15 f120_14 rfl (by decide +kernel) ?_
                  refine zw_zreturn f120_15 r120 u120 (by decide +kernel) ⟨_, rfl, ?_⟩
                  refine zw_zreturn f123_11 r123 u123 (by decide +kernel) ⟨_, rfl, ?_⟩
                  refine zw_if_eq_t 50 f172_34 (by decide +kernel) (by decide +kernel) ?_
                  refine zw_iconst 0 51 f172_50 rfl (by decide +kernel) ?_
                  refine zw_istore _ 53 f172_51 rfl (by decide +kernel) rfl ?_
                  refine zw_iload 55 f172_53 rfl zl1_eq ?_
                  refine zw_if_eq_t 82 f172_55 (by decide +kernel) (by decide +kernel) ?_
                  refine zw_aload_n 83 f172_82 rfl (zl1_ne rfl rfl rfl) ?_
                  refine zw_iconst 1 84 f172_83 rfl (by decide +kernel) ?_
                  refine zw_virtual_i 87 0 0 [.ref 52, .int 1] [(0, .ref 52), (1, .int 1)] f172_84 rfl n172_209 k172_209_12 rfl (hb_52 _ _ _ _) (by decide +kernel) (Nat.le_of_ble_eq_true rfl) rfl rfl (by decide +kernel) (by decide +kernel) rfl (Nat.le_of_ble_eq_true rfl) rfl ?_
                  refine zw_aload_n 1 f121_0 rfl rfl ?_
                  refine zw_iload_n 2 f121_1 rfl rfl ?_
                  refine zw_put _ 5 f121_2 rfl g121_111_12 (hb_52 _ _ _ _) rfl (Nat.le_of_ble_eq_true rfl) (by decide +kernel) (hi_52_27 _ _ _ _ _) ?_
                  refine zw_iconst (-1) 6 f121_5 rfl (by decide +kernel) ?_
                  refine zw_ireturn f121_6 r121 u121 ⟨_, rfl, ?_⟩
                  refine zw_ireturn f172_87 r172 u172 ?_
                  exact ⟨_, _, _, _, rfl, (KQ.i rfl KQ.rf), ⟨L, (hR.k (pf := fun k j => decide (k = 52 ∧ j = 27)) (pa := fun _ => false) (KQ.i rfl KQ.rf) f27_R (fun _ _ _ => rfl)), qArr.rf, rfl⟩, ⟨hrec, hso⟩, _, Or.inl ⟨(fun q => q.2.2.2.1.2 hc8), rfl, rfl⟩, rfl⟩
                · refine zw_iconst 1 11 f120_10 rfl (by decide +kernel) ?_
                  refine zw_goto 15 f120_11 (by decide +kernel) ?_
                  refine zw_zreturn f120_15 r120 u120 (by decide +kernel) ⟨_, rfl, ?_⟩
                  refine zw_zreturn f123_11 r123 u123 (by decide +kernel) ⟨_, rfl, ?_⟩
                  refine zw_if_eq_f 37 50 f172_34 (by decide +kernel) rfl (by decide +kernel) ?_
                  refine zw_aload_n 38 f172_37 rfl rfl ?_
                  refine zw_iload 40 f172_38 rfl rfl ?_
                  refine zw_virtual_i 43 0 0 [.ref 52, .int ve] [(0, .ref 52), (1, .int ve)] f172_40 rfl n172_158 k172_158_12 rfl (hb_52 _ _ _ _) (by decide +kernel) (Nat.le_of_ble_eq_true rfl) rfl rfl (by decide +kernel) (by decide +kernel) rfl (Nat.le_of_ble_eq_true rfl) rfl ?_
                  refine zw_aload_n 1 f126_0 rfl rfl ?_
                  refine zw_getfield 4 f126_1 rfl g126_7_12 (hb_52 _ _ _ _) rfl ?_
                  refine zw_iload_n 5 f126_4 rfl rfl ?_
                  refine zw_iaload ve.toNatClampNeg (PA 53 ve.toNatClampNeg) 6 f126_5 rfl (hb_53 _ _ _ _) rfl hc7 (zix (by decide) hc7 (show ¬ 8 ≤ ve from ix_le hp.1 (by decide) (by decide) hc7 hc8)) (congrFun ((hR.2.1 53 (by omega) (by omega))) ve.toNatClampNeg) ?_
                  refine zw_iconst 3 7 f126_6 rfl (by decide +kernel) ?_
                  refine zw_ic_eq 10 20 f126_7 (by decide +kernel) rfl (fun hc9 => ?_) (fun hc9 => ?_)
                  · refine zw_iconst 1 21 f126_20 rfl (by decide +kernel) ?_
                    refine zw_goto 25 f126_21 (by decide +kernel) ?_
                    refine zw_zreturn f126_25 r126 u126 (by decide +kernel) ⟨_, rfl, ?_⟩
                    refine zw_if_eq_f 46 50 f172_43 (by decide +kernel) rfl (by decide +kernel) ?_
                    refine zw_iconst 1 47 f172_46 rfl (by decide +kernel) ?_
                    refine zw_goto 51 f172_47 (by decide +kernel) ?_
                    refine zw_istore _ 53 f172_51 rfl (by decide +kernel) rfl ?_
                    refine zw_iload 55 f172_53 rfl zl1_eq ?_
                    refine zw_if_eq_f 58 82 f172_55 (by decide +kernel) rfl (by decide +kernel) ?_
                    refine zw_iload 60 f172_58 rfl (zl1_ne rfl rfl rfl) ?_
                    refine zw_sipush 10000 63 f172_60 rfl (by decide +kernel) ?_
                    refine zw_ic_gt 66 82 f172_63 (by decide +kernel) rfl (fun hc10 => ?_) (fun hc10 => ?_)
                    · refine zw_aload_n 83 f172_82 rfl (zl1_ne rfl rfl rfl) ?_
                      refine zw_iconst 1 84 f172_83 rfl (by decide +kernel) ?_
                      refine zw_virtual_i 87 0 0 [.ref 52, .int 1] [(0, .ref 52), (1, .int 1)] f172_84 rfl n172_209 k172_209_12 rfl (hb_52 _ _ _ _) (by decide +kernel) (Nat.le_of_ble_eq_true rfl) rfl rfl (by decide +kernel) (by decide +kernel) rfl (Nat.le_of_ble_eq_true rfl) rfl ?_
                      refine zw_aload_n 1 f121_0 rfl rfl ?_
                      refine zw_iload_n 2 f121_1 rfl rfl ?_
                      refine zw_put _ 5 f121_2 rfl g121_111_12 (hb_52 _ _ _ _) rfl (Nat.le_of_ble_eq_true rfl) (by decide +kernel) (hi_52_27 _ _ _ _ _) ?_
                      refine zw_iconst (-1) 6 f121_5 rfl (by decide +kernel) ?_
                      refine zw_ireturn f121_6 r121 u121 ⟨_, rfl, ?_⟩
                      refine zw_ireturn f172_87 r172 u172 ?_
                      exact ⟨_, _, _, _, rfl, (KQ.i rfl KQ.rf), ⟨L, (hR.k (pf := fun k j => decide (k = 52 ∧ j = 27)) (pa := fun _ => false) (KQ.i rfl KQ.rf) f27_R (fun _ _ _ => rfl)), qArr.rf, rfl⟩, ⟨hrec, hso⟩, _, Or.inl ⟨(fun q => q.2.2.2.2.2.1 hc10), rfl, rfl⟩, rfl⟩
                    · refine zw_iload 68 f172_66 rfl (zl1_ne rfl rfl rfl) ?_
                      refine zw_i2l (Int32.toInt64 wh) 69 f172_68 rfl rfl ?_
                      refine zw_aload_n 70 f172_69 rfl (zl1_ne rfl rfl rfl) ?_
                      refine zw_getG W.1 73 f172_70 rfl g172_40_12 (hb_52 _ _ _ _) rfl hR.g ?_
                      refine zw_lmul ((Int32.toInt64 wh) * W.1) 74 f172_73 rfl rfl ?_
                      refine zw_aload_n 75 f172_74 rfl (zl1_ne rfl rfl rfl) ?_
                      refine zw_getG W.2.1 78 f172_75 rfl g172_172_12 (hb_52 _ _ _ _) rfl hR.t ?_
                      refine zw_lcmp (lg_cmp ((Int32.toInt64 wh) * W.1) W.2.1) 79 f172_78 rfl rfl ?_
                      refine zw_if_gt 82 88 f172_79 (by decide +kernel) rfl (fun hc11 => ?_) (fun hc11 => ?_)
                      · refine zw_aload_n 89 f172_88 rfl (zl1_ne rfl rfl rfl) ?_
                        refine zw_getfield 92 f172_89 rfl g172_37_12 (hb_52 _ _ _ _) rfl ?_
                        refine zw_iload_n 93 f172_92 rfl (zl1_ne rfl rfl rfl) ?_
                        refine zw_iaload p.toNatClampNeg (PA 62 p.toNatClampNeg) 94 f172_93 rfl (hb_62 _ _ _ _) rfl hc1 (zix (by decide) hc1 (show ¬ 14 ≤ p from ix_le hp.2.1 (by decide) (by decide) hc1 hc2)) (congrFun ((hR.2.1 62 (by omega) (by omega))) p.toNatClampNeg) ?_
                        refine zw_istore _ 96 f172_94 rfl (by decide +kernel) rfl ?_
                        refine zw_iconst (-1) 97 f172_96 rfl (by decide +kernel) ?_
                        refine zw_istore _ 99 f172_97 rfl (by decide +kernel) rfl ?_
                        refine zw_iload_n 100 f172_99 rfl (zl1_ne rfl rfl (zl1_ne rfl rfl (zl1_ne rfl rfl rfl))) ?_
                        refine zw_istore _ 102 f172_100 rfl (by decide +kernel) rfl ?_
                        have hG : wTuG nv np PA W p lo hi ve wh := ⟨⟨hc1, hc2⟩, ⟨hc3, hc4⟩, ⟨hc5, hc6⟩, ⟨hc7, hc8⟩, (Or.inl hc9), hc10, ((lg_cmp_gt _ _).mp hc11)⟩
                        obtain ⟨el, eh, n1, n2, n3⟩ := rng20 hG.2.1.1 hG.2.2.1.1 hG.2.2.1.2
                        have Rs : mRS nv np (PAx PA p.toNatClampNeg (PA 62 p.toNatClampNeg)) W L I G A B := by rw [PAx_i]; exact hR
                        refine zWp.mono (lmm_tune ro nv np PA W L I G A B K p lo hi ve wh hR hp hW hK0 hK hn hrec hso hi.toNatClampNeg n3 hG.1.1 (ix_le hp.2.1 (by decide) (by decide) hG.1.1 hG.1.2) (wTu_u hW.1 hG.2.2.2.2.2.1 hG.2.2.2.2.2.2) (hi.toNatClampNeg + 1 - lo.toNatClampNeg) lo.toNatClampNeg _ _ _ _ _ _ L KQ.rf Rs rfl qArr.rf hrec hso (zl1_ne rfl rfl (zl1_ne rfl rfl (zl1_ne rfl rfl (zl1_ne rfl rfl rfl)))) (zl1_ne rfl rfl (zl1_ne rfl rfl (zl1_ne rfl rfl (zl1_ne rfl rfl rfl)))) (by rw [← eh]; exact (zl1_ne rfl rfl (zl1_ne rfl rfl (zl1_ne rfl rfl (zl1_ne rfl rfl rfl))))) (zl1_ne rfl rfl (zl1_ne rfl rfl (zl1_ne rfl rfl (zl1_ne rfl rfl rfl)))) (zl1_ne rfl rfl (zl1_ne rfl rfl (zl1_ne rfl rfl (zl1_ne rfl rfl rfl)))) (zl1_ne rfl rfl (zl1_ne rfl rfl zl1_eq)) (zl1_ne rfl rfl zl1_eq) (by rw [← el]; exact zl1_eq) n1 (by omega)) ?_
                        rintro r h1 ⟨I2, G2, A2, B2, rfl, K2, x1, x2, a, ⟨o, o1, o2⟩, x3⟩
                        exact ⟨I2, G2, A2, B2, rfl, K2, x1, x2, a, Or.inr ⟨hG, o, o1, o2⟩, x3⟩
                      · refine zw_aload_n 83 f172_82 rfl (zl1_ne rfl rfl rfl) ?_
                        refine zw_iconst 1 84 f172_83 rfl (by decide +kernel) ?_
                        refine zw_virtual_i 87 0 0 [.ref 52, .int 1] [(0, .ref 52), (1, .int 1)] f172_84 rfl n172_209 k172_209_12 rfl (hb_52 _ _ _ _) (by decide +kernel) (Nat.le_of_ble_eq_true rfl) rfl rfl (by decide +kernel) (by decide +kernel) rfl (Nat.le_of_ble_eq_true rfl) rfl ?_
                        refine zw_aload_n 1 f121_0 rfl rfl ?_
                        refine zw_iload_n 2 f121_1 rfl rfl ?_
                        refine zw_put _ 5 f121_2 rfl g121_111_12 (hb_52 _ _ _ _) rfl (Nat.le_of_ble_eq_true rfl) (by decide +kernel) (hi_52_27 _ _ _ _ _) ?_
                        refine zw_iconst (-1) 6 f121_5 rfl (by decide +kernel) ?_
                        refine zw_ireturn f121_6 r121 u121 ⟨_, rfl, ?_⟩
                        refine zw_ireturn f172_87 r172 u172 ?_
                        exact ⟨_, _, _, _, rfl, (KQ.i rfl KQ.rf), ⟨L, (hR.k (pf := fun k j => decide (k = 52 ∧ j = 27)) (pa := fun _ => false) (KQ.i rfl KQ.rf) f27_R (fun _ _ _ => rfl)), qArr.rf, rfl⟩, ⟨hrec, hso⟩, _, Or.inl ⟨(fun q => absurd q.2.2.2.2.2.2 (Int64.not_lt.mpr (Int64.not_lt.mp (fun q => hc11 ((lg_cmp_gt _ _).mpr q))))), rfl, rfl⟩, rfl⟩
                  · refine zw_aload_n 11 f126_10 rfl rfl ?_
                    refine zw_getfield 14 f126_11 rfl g126_7_12 (hb_52 _ _ _ _) rfl ?_
                    refine zw_iload_n 15 f126_14 rfl rfl ?_
                    refine zw_iaload ve.toNatClampNeg (PA 53 ve.toNatClampNeg) 16 f126_15 rfl (hb_53 _ _ _ _) rfl hc7 (zix (by decide) hc7 (show ¬ 8 ≤ ve from ix_le hp.1 (by decide) (by decide) hc7 hc8)) (congrFun ((hR.2.1 53 (by omega) (by omega))) ve.toNatClampNeg) ?_
                    refine zw_iconst 4 17 f126_16 rfl (by decide +kernel) ?_
                    refine zw_ic_ne 20 24 f126_17 (by decide +kernel) rfl (fun hc12 => ?_) (fun hc12 => ?_)
                    · refine zw_iconst 0 25 f126_24 rfl (by decide +kernel) ?_
                      refine zw_zreturn f126_25 r126 u126 (by decide +kernel) ⟨_, rfl, ?_⟩
                      refine zw_if_eq_t 50 f172_43 (by decide +kernel) (by decide +kernel) ?_
                      refine zw_iconst 0 51 f172_50 rfl (by decide +kernel) ?_
                      refine zw_istore _ 53 f172_51 rfl (by decide +kernel) rfl ?_
                      refine zw_iload 55 f172_53 rfl zl1_eq ?_
                      refine zw_if_eq_t 82 f172_55 (by decide +kernel) (by decide +kernel) ?_
                      refine zw_aload_n 83 f172_82 rfl (zl1_ne rfl rfl rfl) ?_
                      refine zw_iconst 1 84 f172_83 rfl (by decide +kernel) ?_
                      refine zw_virtual_i 87 0 0 [.ref 52, .int 1] [(0, .ref 52), (1, .int 1)] f172_84 rfl n172_209 k172_209_12 rfl (hb_52 _ _ _ _) (by decide +kernel) (Nat.le_of_ble_eq_true rfl) rfl rfl (by decide +kernel) (by decide +kernel) rfl (Nat.le_of_ble_eq_true rfl) rfl ?_
                      refine zw_aload_n 1 f121_0 rfl rfl ?_
                      refine zw_iload_n 2 f121_1 rfl rfl ?_
                      refine zw_put _ 5 f121_2 rfl g121_111_12 (hb_52 _ _ _ _) rfl (Nat.le_of_ble_eq_true rfl) (by decide +kernel) (hi_52_27 _ _ _ _ _) ?_
                      refine zw_iconst (-1) 6 f121_5 rfl (by decide +kernel) ?_
                      refine zw_ireturn f121_6 r121 u121 ⟨_, rfl, ?_⟩
                      refine zw_ireturn f172_87 r172 u172 ?_
                      exact ⟨_, _, _, _, rfl, (KQ.i rfl KQ.rf), ⟨L, (hR.k (pf := fun k j => decide (k = 52 ∧ j = 27)) (pa := fun _ => false) (KQ.i rfl KQ.rf) f27_R (fun _ _ _ => rfl)), qArr.rf, rfl⟩, ⟨hrec, hso⟩, _, Or.inl ⟨(fun q => q.2.2.2.2.1.elim hc9 hc12), rfl, rfl⟩, rfl⟩
                    · refine zw_iconst 1 21 f126_20 rfl (by decide +kernel) ?_
                      refine zw_goto 25 f126_21 (by decide +kernel) ?_
                      refine zw_zreturn f126_25 r126 u126 (by decide +kernel) ⟨_, rfl, ?_⟩
                      refine zw_if_eq_f 46 50 f172_43 (by decide +kernel) rfl (by decide +kernel) ?_
                      refine zw_iconst 1 47 f172_46 rfl (by decide +kernel) ?_
                      refine zw_goto 51 f172_47 (by decide +kernel) ?_
                      refine zw_istore _ 53 f172_51 rfl (by decide +kernel) rfl ?_
                      refine zw_iload 55 f172_53 rfl zl1_eq ?_
                      refine zw_if_eq_f 58 82 f172_55 (by decide +kernel) rfl (by decide +kernel) ?_
                      refine zw_iload 60 f172_58 rfl (zl1_ne rfl rfl rfl) ?_
                      refine zw_sipush 10000 63 f172_60 rfl (by decide +kernel) ?_
                      refine zw_ic_gt 66 82 f172_63 (by decide +kernel) rfl (fun hc13 => ?_) (fun hc13 => ?_)
                      · refine zw_aload_n 83 f172_82 rfl (zl1_ne rfl rfl rfl) ?_
                        refine zw_iconst 1 84 f172_83 rfl (by decide +kernel) ?_
                        refine zw_virtual_i 87 0 0 [.ref 52, .int 1] [(0, .ref 52), (1, .int 1)] f172_84 rfl n172_209 k172_209_12 rfl (hb_52 _ _ _ _) (by decide +kernel) (Nat.le_of_ble_eq_true rfl) rfl rfl (by decide +kernel) (by decide +kernel) rfl (Nat.le_of_ble_eq_true rfl) rfl ?_
                        refine zw_aload_n 1 f121_0 rfl rfl ?_
                        refine zw_iload_n 2 f121_1 rfl rfl ?_
                        refine zw_put _ 5 f121_2 rfl g121_111_12 (hb_52 _ _ _ _) rfl (Nat.le_of_ble_eq_true rfl) (by decide +kernel) (hi_52_27 _ _ _ _ _) ?_
                        refine zw_iconst (-1) 6 f121_5 rfl (by decide +kernel) ?_
                        refine zw_ireturn f121_6 r121 u121 ⟨_, rfl, ?_⟩
                        refine zw_ireturn f172_87 r172 u172 ?_
                        exact ⟨_, _, _, _, rfl, (KQ.i rfl KQ.rf), ⟨L, (hR.k (pf := fun k j => decide (k = 52 ∧ j = 27)) (pa := fun _ => false) (KQ.i rfl KQ.rf) f27_R (fun _ _ _ => rfl)), qArr.rf, rfl⟩, ⟨hrec, hso⟩, _, Or.inl ⟨(fun q => q.2.2.2.2.2.1 hc13), rfl, rfl⟩, rfl⟩
                      · refine zw_iload 68 f172_66 rfl (zl1_ne rfl rfl rfl) ?_
                        refine zw_i2l (Int32.toInt64 wh) 69 f172_68 rfl rfl ?_
                        refine zw_aload_n 70 f172_69 rfl (zl1_ne rfl rfl rfl) ?_
                        refine zw_getG W.1 73 f172_70 rfl g172_40_12 (hb_52 _ _ _ _) rfl hR.g ?_
                        refine zw_lmul ((Int32.toInt64 wh) * W.1) 74 f172_73 rfl rfl ?_
                        refine zw_aload_n 75 f172_74 rfl (zl1_ne rfl rfl rfl) ?_
                        refine zw_getG W.2.1 78 f172_75 rfl g172_172_12 (hb_52 _ _ _ _) rfl hR.t ?_
                        refine zw_lcmp (lg_cmp ((Int32.toInt64 wh) * W.1) W.2.1) 79 f172_78 rfl rfl ?_
                        refine zw_if_gt 82 88 f172_79 (by decide +kernel) rfl (fun hc14 => ?_) (fun hc14 => ?_)
                        · refine zw_aload_n 89 f172_88 rfl (zl1_ne rfl rfl rfl) ?_
                          refine zw_getfield 92 f172_89 rfl g172_37_12 (hb_52 _ _ _ _) rfl ?_
                          refine zw_iload_n 93 f172_92 rfl (zl1_ne rfl rfl rfl) ?_
                          refine zw_iaload p.toNatClampNeg (PA 62 p.toNatClampNeg) 94 f172_93 rfl (hb_62 _ _ _ _) rfl hc1 (zix (by decide) hc1 (show ¬ 14 ≤ p from ix_le hp.2.1 (by decide) (by decide) hc1 hc2)) (congrFun ((hR.2.1 62 (by omega) (by omega))) p.toNatClampNeg) ?_
                          refine zw_istore _ 96 f172_94 rfl (by decide +kernel) rfl ?_
                          refine zw_iconst (-1) 97 f172_96 rfl (by decide +kernel) ?_
                          refine zw_istore _ 99 f172_97 rfl (by decide +kernel) rfl ?_
                          refine zw_iload_n 100 f172_99 rfl (zl1_ne rfl rfl (zl1_ne rfl rfl (zl1_ne rfl rfl rfl))) ?_
                          refine zw_istore _ 102 f172_100 rfl (by decide +kernel) rfl ?_
                          have hG : wTuG nv np PA W p lo hi ve wh := ⟨⟨hc1, hc2⟩, ⟨hc3, hc4⟩, ⟨hc5, hc6⟩, ⟨hc7, hc8⟩, (Or.inr (Decidable.of_not_not hc12)), hc13, ((lg_cmp_gt _ _).mp hc14)⟩
                          obtain ⟨el, eh, n1, n2, n3⟩ := rng20 hG.2.1.1 hG.2.2.1.1 hG.2.2.1.2
                          have Rs : mRS nv np (PAx PA p.toNatClampNeg (PA 62 p.toNatClampNeg)) W L I G A B := by rw [PAx_i]; exact hR
                          refine zWp.mono (lmm_tune ro nv np PA W L I G A B K p lo hi ve wh hR hp hW hK0 hK hn hrec hso hi.toNatClampNeg n3 hG.1.1 (ix_le hp.2.1 (by decide) (by decide) hG.1.1 hG.1.2) (wTu_u hW.1 hG.2.2.2.2.2.1 hG.2.2.2.2.2.2) (hi.toNatClampNeg + 1 - lo.toNatClampNeg) lo.toNatClampNeg _ _ _ _ _ _ L KQ.rf Rs rfl qArr.rf hrec hso (zl1_ne rfl rfl (zl1_ne rfl rfl (zl1_ne rfl rfl (zl1_ne rfl rfl rfl)))) (zl1_ne rfl rfl (zl1_ne rfl rfl (zl1_ne rfl rfl (zl1_ne rfl rfl rfl)))) (by rw [← eh]; exact (zl1_ne rfl rfl (zl1_ne rfl rfl (zl1_ne rfl rfl (zl1_ne rfl rfl rfl))))) (zl1_ne rfl rfl (zl1_ne rfl rfl (zl1_ne rfl rfl (zl1_ne rfl rfl rfl)))) (zl1_ne rfl rfl (zl1_ne rfl rfl (zl1_ne rfl rfl (zl1_ne rfl rfl rfl)))) (zl1_ne rfl rfl (zl1_ne rfl rfl zl1_eq)) (zl1_ne rfl rfl zl1_eq) (by rw [← el]; exact zl1_eq) n1 (by omega)) ?_
                          rintro r h1 ⟨I2, G2, A2, B2, rfl, K2, x1, x2, a, ⟨o, o1, o2⟩, x3⟩
                          exact ⟨I2, G2, A2, B2, rfl, K2, x1, x2, a, Or.inr ⟨hG, o, o1, o2⟩, x3⟩
                        · refine zw_aload_n 83 f172_82 rfl (zl1_ne rfl rfl rfl) ?_
                          refine zw_iconst 1 84 f172_83 rfl (by decide +kernel) ?_
                          refine zw_virtual_i 87 0 0 [.ref 52, .int 1] [(0, .ref 52), (1, .int 1)] f172_84 rfl n172_209 k172_209_12 rfl (hb_52 _ _ _ _) (by decide +kernel) (Nat.le_of_ble_eq_true rfl) rfl rfl (by decide +kernel) (by decide +kernel) rfl (Nat.le_of_ble_eq_true rfl) rfl ?_
                          refine zw_aload_n 1 f121_0 rfl rfl ?_
                          refine zw_iload_n 2 f121_1 rfl rfl ?_
                          refine zw_put _ 5 f121_2 rfl g121_111_12 (hb_52 _ _ _ _) rfl (Nat.le_of_ble_eq_true rfl) (by decide +kernel) (hi_52_27 _ _ _ _ _) ?_
                          refine zw_iconst (-1) 6 f121_5 rfl (by decide +kernel) ?_
                          refine zw_ireturn f121_6 r121 u121 ⟨_, rfl, ?_⟩
                          refine zw_ireturn f172_87 r172 u172 ?_
                          exact ⟨_, _, _, _, rfl, (KQ.i rfl KQ.rf), ⟨L, (hR.k (pf := fun k j => decide (k = 52 ∧ j = 27)) (pa := fun _ => false) (KQ.i rfl KQ.rf) f27_R (fun _ _ _ => rfl)), qArr.rf, rfl⟩, ⟨hrec, hso⟩, _, Or.inl ⟨(fun q => absurd q.2.2.2.2.2.2 (Int64.not_lt.mpr (Int64.not_lt.mp (fun q => hc14 ((lg_cmp_gt _ _).mpr q))))), rfl, rfl⟩, rfl⟩
