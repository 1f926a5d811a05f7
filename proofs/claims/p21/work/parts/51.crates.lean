/-! ===== the class's rates are the reference's ===== -/
def fCr (b k j : Nat) : Bool := decide (k = b ∧ (j = 6 ∨ j = 7))
def pCr (b k : Nat) : Bool := decide (b + 5 ≤ k ∧ k ≤ b + 8)
section ZCR
variable {b nv np : Nat} {P : Nat → Nat → Int32} {W : qW} {I I1 : Nat → Nat → Int32} {G G1 : Nat → Nat → Int64} {A A1 : Nat → Nat → Int32} {B B1 : Nat → Nat → Int64}
theorem cPb_c (h : ∀ k, 2 ≤ k → (k ≤ 10 ∨ k = b + 4) → A1 k = A k) : cPb b A1 = cPb b A := by
  funext k
  unfold cPb
  rw [h 2 (by omega) (by omega), h 3 (by omega) (by omega), h 4 (by omega) (by omega), h 5 (by omega) (by omega), h 6 (by omega) (by omega), h 7 (by omega) (by omega), h 8 (by omega) (by omega), h 9 (by omega) (by omega), h 10 (by omega) (by omega), h (b + 4) (by omega) (by omega)]
theorem cRS.k {pf : Nat → Nat → Bool} {pa : Nat → Bool} (K : KQ pf pa I G A B I1 G1 A1 B1) (h1 : pf 1 0 = false ∧ pf 1 1 = false) (hf : ∀ j, j ≤ 6 → ¬ j = 4 → pf (b + 1) j = false) (hp : ∀ k, 2 ≤ k → (k ≤ 10 ∨ (b + 2 ≤ k ∧ k ≤ b + 4)) → pa k = false) (h : cRS b nv np P W I G A B) : cRS b nv np P W I1 G1 A1 B1 := by
  obtain ⟨⟨a1, a2⟩, c, ⟨d1, d2, d3, d4⟩, e, f, g, i⟩ := h
  refine ⟨⟨(K.1 1 0 h1.1).trans a1, (K.1 1 1 h1.2).trans a2⟩, ?_, ⟨(K.2.1 _ 0 (hf 0 (by omega) (by omega))).trans d1, (K.2.1 _ 1 (hf 1 (by omega) (by omega))).trans d2, (K.2.1 _ 2 (hf 2 (by omega) (by omega))).trans d3, (K.2.1 _ 3 (hf 3 (by omega) (by omega))).trans d4⟩, (K.2.2.2 _ (hp (b + 2) (by omega) (by omega))).trans e, ?_, ?_, fun v hv => ?_⟩
  · rw [cPb_c (fun k k1 k2 => K.2.2.1 k (hp k k1 (by omega)))]; exact c
  · rw [K.1 _ 6 (hf 6 (by omega) (by omega))]; exact f
  · rw [K.1 _ 5 (hf 5 (by omega) (by omega))]; exact g
  · rw [K.2.2.1 _ (hp (b + 3) (by omega) (by omega))]; exact i v hv
end ZCR
def cRel (b : Nat) (I : Nat → Nat → Int32) (A : Nat → Nat → Int32) (s : (Nat → Int32) × Int32 × (Nat → Int32) × (Nat → Int32)) (n : Nat) : Prop := (∀ j, j < 8 → A (b + 5) j = s.1 j) ∧ I b 7 = s.2.1 ∧ (∀ j, j < n → A (b + 6) j = s.2.2.1 j) ∧ ∀ j, j < n → A (b + 7) j = s.2.2.2 j
theorem zld_s0 {ls : List (Nat × Value)} {i : Nat} {x : Int32} (h : zld ls i = some (.int (x - 0))) : zld ls i = some (.int x) := by rw [h, Int32.sub_zero]
theorem mC_0 {c d : Nat → Int32} {t : Nat} (h : ∀ j, j < 8 → c j = d j) : ∀ j, j < 8 → upd c t (c t + 0) j = d j := by
  intro j hj
  by_cases e : j = t
  · rw [e, upd_s, Int32.add_zero]; exact e ▸ h j hj
  · rw [upd_o e]; exact h j hj
theorem mFl_m {lev : Int64} {amt left : Int32} (h : ¬ 0 < lev) (h2 : ¬ left < amt) : mFl lev amt left = amt := by
  unfold mFl
  by_cases c : 0 < lev ∨ amt < left
  · exact if_pos c
  · rw [if_neg c]
    rw [i32_lt] at h2
    have h3 : ¬ amt < left := fun z => c (Or.inr z)
    rw [i32_lt] at h3
    exact Int32.toInt_inj.mp (by omega)
theorem mFl_l {lev : Int64} {amt left : Int32} (h : ¬ 0 < lev) (h2 : left < amt) : mFl lev amt left = left := mFl_c h (fun z => by rw [i32_lt] at h2 z; omega)
section ZMO
variable {nv np v : Nat} {frm too amt run : Nat → Int32} {lev : Int64} {s : (Nat → Int32) × Int32 × (Nat → Int32) × (Nat → Int32)}
/-- what is left is what came less what was let -/
theorem mRO_left (hn : nv ≤ 8) (ht : ∀ p, p < np → frm p = nI v → mTo nv (v + 1) (too p)) : ∀ k, k ≤ np → (mRO frm too amt run lev v (s.1, s.2.1, s.1 v, 0) k).1 v = s.1 v ∧ (mRO frm too amt run lev v (s.1, s.2.1, s.1 v, 0) k).2.2.1 = (mRO frm too amt run lev v (s.1, s.2.1, s.1 v, 0) k).1 v - (mRO frm too amt run lev v (s.1, s.2.1, s.1 v, 0) k).2.2.2
  | 0, _ => ⟨rfl, (Int32.sub_zero _).symm⟩
  | k + 1, hk => by
    have ih := mRO_left hn ht k (by omega)
    by_cases c : frm k = nI v ∧ ¬ run k = 0
    · rw [mRO_y _ _ rfl rfl c.1 c.2]
      have e : mGoC (mRO frm too amt run lev v (s.1, s.2.1, s.1 v, 0) k).1 (too k) (mFl lev (amt k) (mRO frm too amt run lev v (s.1, s.2.1, s.1 v, 0) k).2.2.1) v = (mRO frm too amt run lev v (s.1, s.2.1, s.1 v, 0) k).1 v := mGoC_o (ht k (by omega) c.1) hn (by omega)
      refine ⟨e.trans ih.1, ?_⟩
      show (mRO frm too amt run lev v (s.1, s.2.1, s.1 v, 0) k).2.2.1 - _ = mGoC _ _ _ v - ((mRO frm too amt run lev v (s.1, s.2.1, s.1 v, 0) k).2.2.2 + _)
      rw [e, ih.2, Int32.sub_sub]
    · rw [mRO_n c]; exact ih
end ZMO
theorem mR2_fz {frm too amt run over brim : Nat → Int32} {lev : Nat → Int64} {g : Int64} {np : Nat} : ∀ k j, k ≤ j → (mR2 frm too amt run over brim lev g np k).2.2.2 j = 0
  | 0, _, _ => rfl
  | k + 1, j, h => by
    have ih := mR2_fz (frm := frm) (too := too) (amt := amt) (run := run) (over := over) (brim := brim) (lev := lev) (g := g) (np := np) k j (by omega)
    show (mRateOf frm too amt run over brim lev g np k (mR2 frm too amt run over brim lev g np k)).2.2.2 j = 0
    unfold mRateOf
    split
    · show upd _ k _ j = 0
      rw [upd_o (by omega)]; exact ih
    · exact ih
theorem full_eq {nv v : Nat} {T K : Int} {P : Nat → Nat → Int32} {W : qW} {np : Nat} (hp : MPa nv np P) (hW : wOk nv T K P W) (hv : v < nv) (h : ¬ W.2.2.2.2.1 v < Int32.toInt64 (P 54 v) * W.1) : W.2.2.2.2.1 v = Int32.toInt64 (P 54 v) * W.1 := by
  have hb := (hp.2.2.1 v hv).1
  have m := mBrim (a := P 54 v) (g := W.1) ⟨by omega, hb.2⟩ hW.1.1
  have l : 0 ≤ (W.2.2.2.2.1 v).toInt ∧ (W.2.2.2.2.1 v).toInt ≤ (P 54 v).toInt * W.1.toInt := hW.1.2.1 v hv
  rw [i64_lt, m.1] at h
  apply Int64.toInt_inj.mp
  rw [m.1]; omega
theorem mC_n {c d : Nat → Int32} {v : Nat} {x y : Int32} (h : ∀ j, j < v → c j = d j) (he : x = y) : ∀ j, j < v + 1 → upd c v x j = upd d v y j := by
  intro j hj
  by_cases e : j = v
  · rw [e, upd_s, upd_s]; exact he
  · rw [upd_o e, upd_o e]; exact h j (by omega)
theorem mC_k {c d : Nat → Int32} {v : Nat} {x : Int32} (h : ∀ j, j < v → c j = d j) (he : x = d v) : ∀ j, j < v + 1 → upd c v x j = d j := by
  intro j hj
  by_cases e : j = v
  · rw [e, upd_s]; exact he
  · rw [upd_o e]; exact h j (by omega)
theorem i64_irr {a : Int64} : ¬ a < a := by
  rw [i64_lt]; omega
theorem fCr_w (b : Nat) : ∀ j, j ≤ 6 → ¬ j = 4 → fCr b (b + 1) j = false := by
  intro j h1 h2
  simp only [fCr, decide_eq_false_iff_not]
  omega
theorem pCr_w (b : Nat) (hb : 6 ≤ b) : ∀ k, 2 ≤ k → (k ≤ 10 ∨ (b + 2 ≤ k ∧ k ≤ b + 4)) → pCr b k = false := by
  intro k h1 h2
  simp only [pCr, decide_eq_false_iff_not]
  omega
set_option maxRecDepth 100000 in
set_option maxHeartbeats 0 in
theorem lcx_rv11_1 (ro : UInt32 → Nat × (Nat → Int32)) (nv np : Nat) (P : Nat → Nat → Int32) (W : qW) (T K : Int) (I : Nat → Nat → Int32) (G : Nat → Nat → Int64) (A : Nat → Nat → Int32) (B : Nat → Nat → Int64) (hR : cRS 11 nv np P W I G A B) (hp : MPa nv np P) (hb : wBo W) (hq : qOw nv np P) (hW : wOk nv T K P W) (v : Nat) (hv : v < nv) (s : (Nat → Int32) × Int32 × (Nat → Int32) × (Nat → Int32)) (hs : cRel 11 I A s v) (hz : s.2.2.2 v = 0) (hw : 0 < W.2.2.2.2.1 v) : ∀ (n k : Nat) (ls : List (Nat × Value)) (I1 : Nat → Nat → Int32) (G1 : Nat → Nat → Int64) (A1 : Nat → Nat → Int32) (B1 : Nat → Nat → Int64), KQ (fCr 11) (pCr 11) I G A B I1 G1 A1 B1 → ((∀ j, j < 8 → A1 16 j = (mRO (P 60) (P 61) (P 62) (wRun nv P W) (W.2.2.2.2.1 v) v (s.1, s.2.1, s.1 v, 0) k).1 j) ∧ I1 11 7 = (mRO (P 60) (P 61) (P 62) (wRun nv P W) (W.2.2.2.2.1 v) v (s.1, s.2.1, s.1 v, 0) k).2.1 ∧ A1 17 = A 17 ∧ A1 18 = A 18 ∧ I1 11 6 = I 11 6) → zld ls 0 = some (.ref 11) → zld ls 1 = some (.int (nI v)) → zld ls 2 = some (.int ((mRO (P 60) (P 61) (P 62) (wRun nv P W) (W.2.2.2.2.1 v) v (s.1, s.2.1, s.1 v, 0) k).2.2.1)) → zld ls 3 = some (.int 1) → zld ls 4 = some (.int (nI k)) → k ≤ np → np + 1 ≤ k + n → zWp ro 50 30 ls [] (hS I1 G1 A1 B1) 0 0 (fun r h1 => ∃ I2 G2 A2 B2, h1 = hS I2 G2 A2 B2 ∧ KQ (fCr 11) (pCr 11) I G A B I2 G2 A2 B2 ∧ (cRel 11 I2 A2 (mRateOf (P 60) (P 61) (P 62) (wRun nv P W) (P 59) (P 54) (W.2.2.2.2.1) W.1 np v s) (v + 1) ∧ I2 11 6 = I 11 6) ∧ r = none) := by
  have h8 := hp.1
  have h14 := hp.2.1
  have hto : ∀ p, p < np → P 60 p = nI v → mTo nv (v + 1) (P 61 p) := fun p h1 h2 => (MPa.e hp W (fun _ => 0) 0 0).ht v p hv h1 h2
  intro n
  induction n with
  | zero =>
    intro k ls I1 G1 A1 B1 _ _ _ _ _ _ _ a c
    exact absurd c (by omega)
  | succ n ih =>
    intro k ls I1 G1 A1 B1 K0 hr h0 h1 h2 h3 h4 hk1 hk2
    refine zw_iload 32 f50_30 rfl h4 ?_
    refine zw_aload_n 33 f50_32 rfl h0 ?_
    refine zw_getfield 36 f50_33 rfl g50_37_10 (hb_11 _ _ _ _) rfl ?_
    refine zw_getI (nI np) 39 f50_36 rfl g50_61_4 (hb_1 _ _ _ _) rfl ((K0.1 1 1 rfl).trans hR.1.2) ?_
    refine zw_ic_ge 42 148 f50_39 (by decide +kernel) rfl (fun hc1 => ?_) (fun hc1 => ?_)
    · have hn_hc1 : np ≤ k := zn_ge (by omega) (by omega) hc1
      refine zw_aload_n 149 f50_148 rfl h0 ?_
      refine zw_getfield 152 f50_149 rfl g50_25_10 (hb_11 _ _ _ _) rfl ?_
      refine zw_iload_n 153 f50_152 rfl h1 ?_
      refine zw_aload_n 154 f50_153 rfl h0 ?_
      refine zw_iload_n 155 f50_154 rfl h1 ?_
      refine zw_virtual_i 158 0 0 [.ref 11, .int (nI v)] [(0, .ref 11), (1, .int (nI v))] f50_155 rfl n50_97 k50_97_10 rfl (hb_11 _ _ _ _) (by decide +kernel) (Nat.le_of_ble_eq_true rfl) rfl rfl (by decide +kernel) (by decide +kernel) rfl (Nat.le_of_ble_eq_true rfl) rfl ?_
      refine zw_aload_n 1 f52_0 rfl rfl ?_
      refine zw_getfield 4 f52_1 rfl g52_12_10 (hb_11 _ _ _ _) rfl ?_
      refine zw_getfield 7 f52_4 rfl g52_87_9 (hb_12 _ _ _ _) rfl ?_
      refine zw_iload_n 8 f52_7 rfl rfl ?_
      refine zw_laload v ((W.2.2.2.2.1) v) 9 f52_8 rfl (hb_13 _ _ _ _) (nI_clamp (by omega)) (nI_pos (by omega)) (by omega) (congrFun (((K0.2.2.2 13 rfl).trans hR.2.2.2.1)) v) ?_
      refine zw_aload_n 10 f52_9 rfl rfl ?_
      refine zw_getfield 13 f52_10 rfl g52_37_10 (hb_11 _ _ _ _) rfl ?_
      refine zw_getfield 16 f52_13 rfl g52_106_4 (hb_1 _ _ _ _) rfl ?_
      refine zw_iload_n 17 f52_16 rfl rfl ?_
      refine zw_iaload v (P 54 v) 18 f52_17 rfl (hb_3 _ _ _ _) (nI_clamp (by omega)) (nI_pos (by omega)) (by omega) (congrFun (((K0.2.2.1 3 rfl).trans (hR.2.1 54 (by omega) (by omega)))) v) ?_
      refine zw_i2l (Int32.toInt64 (P 54 v)) 19 f52_18 rfl rfl ?_
      refine zw_aload_n 20 f52_19 rfl rfl ?_
      refine zw_getfield 23 f52_20 rfl g52_12_10 (hb_11 _ _ _ _) rfl ?_
      refine zw_getG W.1 26 f52_23 rfl g52_109_9 (hb_12 _ _ _ _) rfl ((K0.2.1 12 0 rfl).trans hR.2.2.1.1) ?_
      refine zw_lmul ((Int32.toInt64 (P 54 v)) * W.1) 27 f52_26 rfl rfl ?_
      refine zw_lcmp (lg_cmp ((W.2.2.2.2.1) v) ((Int32.toInt64 (P 54 v)) * W.1)) 28 f52_27 rfl rfl ?_
      refine zw_if_lt 31 35 f52_28 (by decide +kernel) rfl (fun hc2 => ?_) (fun hc2 => ?_)
      · refine zw_iconst 0 36 f52_35 rfl (by decide +kernel) ?_
        refine zw_zreturn f52_36 r52 u52 (by decide +kernel) ⟨_, rfl, ?_⟩
        refine zw_if_eq_t 169 f50_158 (by decide +kernel) (by decide +kernel) ?_
        refine zw_iconst 0 170 f50_169 rfl (by decide +kernel) ?_
        refine zw_ast v _ 171 f50_170 rfl (hb_18 _ _ _ _) (nI_clamp (by omega)) (nI_pos (by omega)) (by omega) (ha_18 _ _ _ _ _) ?_
        refine zw_aload_n 172 f50_171 rfl h0 ?_
        refine zw_getfield 175 f50_172 rfl g50_22_10 (hb_11 _ _ _ _) rfl ?_
        refine zw_iload_n 176 f50_175 rfl h1 ?_
        refine zw_iload_n 177 f50_176 rfl h2 ?_
        refine zw_aload_n 178 f50_177 rfl h0 ?_
        refine zw_getfield 181 f50_178 rfl g50_25_10 (hb_11 _ _ _ _) rfl ?_
        refine zw_iload_n 182 f50_181 rfl h1 ?_
        refine zw_iaload v 0 183 f50_182 rfl (hb_18 _ _ _ _) (nI_clamp (by omega)) (nI_pos (by omega)) (by omega) (if_pos rfl) ?_
        refine zw_isub (((mRO (P 60) (P 61) (P 62) (wRun nv P W) (W.2.2.2.2.1 v) v (s.1, s.2.1, s.1 v, 0) k).2.2.1) - 0) 184 f50_183 rfl rfl ?_
        refine zw_ast v _ 185 f50_184 rfl (hb_17 _ _ _ _) (nI_clamp (by omega)) (nI_pos (by omega)) (by omega) (ha_17 _ _ _ _ _) ?_
        refine zw_aload_n 186 f50_185 rfl h0 ?_
        refine zw_aload_n 187 f50_186 rfl h0 ?_
        refine zw_getfield 190 f50_187 rfl g50_37_10 (hb_11 _ _ _ _) rfl ?_
        refine zw_getfield 193 f50_190 rfl g50_100_4 (hb_1 _ _ _ _) rfl ?_
        refine zw_iload_n 194 f50_193 rfl h1 ?_
        rcases (hp.2.2.1 v (by omega)).2.2.2.2.2 with t3q | ⟨t3, t3l, t3n, t3q⟩
        · refine zw_iaload v (-1) 195 f50_194 rfl (hb_8 _ _ _ _) (nI_clamp (by omega)) (nI_pos (by omega)) (by omega) ((congrFun ((K0.2.2.1 8 rfl).trans (hR.2.1 59 (by omega) (by omega))) v).trans t3q) ?_
          refine zw_aload_n 196 f50_195 rfl h0 ?_
          refine zw_getfield 199 f50_196 rfl g50_25_10 (hb_11 _ _ _ _) rfl ?_
          refine zw_iload_n 200 f50_199 rfl h1 ?_
          refine zw_iaload v 0 201 f50_200 rfl (hb_18 _ _ _ _) (nI_clamp (by omega)) (nI_pos (by omega)) (by omega) (if_pos rfl) ?_
          refine zw_virtual_v 204 0 0 [.ref 11, .int (-1), .int 0] [(0, .ref 11), (1, .int (-1)), (2, .int 0)] f50_201 rfl n50_76 k50_76_10 rfl (hb_11 _ _ _ _) (by decide +kernel) (Nat.le_of_ble_eq_true rfl) rfl rfl (by decide +kernel) (by decide +kernel) rfl (Nat.le_of_ble_eq_true rfl) rfl ?_
          refine zw_aload_n 1 f51_0 rfl rfl ?_
          refine zw_getfield 4 f51_1 rfl g51_37_10 (hb_11 _ _ _ _) rfl ?_
          refine zw_iload_n 5 f51_4 rfl rfl ?_
          refine zw_virtual_i 8 0 0 [.ref 1, .int (-1)] [(0, .ref 1), (1, .int (-1))] f51_5 rfl n51_103 k51_103_4 rfl (hb_1 _ _ _ _) (by decide +kernel) (Nat.le_of_ble_eq_true rfl) rfl rfl (by decide +kernel) (by decide +kernel) rfl (Nat.le_of_ble_eq_true rfl) rfl ?_
          refine zw_iload_n 1 f13_0 rfl rfl ?_
          refine zw_if_lt_t 22 f13_1 (by decide +kernel) (by decide +kernel) ?_
          refine zw_iconst 0 23 f13_22 rfl (by decide +kernel) ?_
          refine zw_zreturn f13_23 r13 u13 (by decide +kernel) ⟨_, rfl, ?_⟩
          refine zw_if_eq_t 24 f51_8 (by decide +kernel) (by decide +kernel) ?_
          refine zw_aload_n 25 f51_24 rfl rfl ?_
          refine zw_dup 26 f51_25 rfl rfl ?_
          refine zw_getI (I1 11 7) 29 f51_26 rfl g51_58_10 (hb_11 _ _ _ _) rfl rfl ?_
          refine zw_iload_n 30 f51_29 rfl rfl ?_
          refine zw_iadd ((I1 11 7) + 0) 31 f51_30 rfl rfl ?_
          refine zw_put _ 34 f51_31 rfl g51_58_10 (hb_11 _ _ _ _) rfl (Nat.le_of_ble_eq_true rfl) (by decide +kernel) (hi_11_7 _ _ _ _ _) ?_
          refine zw_vreturn f51_34 r51 u51 ⟨rfl, ?_⟩
          refine zw_vreturn f50_204 r50 u50 ?_
          have hk : k = np := by omega
          have hE : (mRO (P 60) (P 61) (P 62) (wRun nv P W) (W.2.2.2.2.1 v) v (s.1, s.2.1, s.1 v, 0) np) = (mRO (P 60) (P 61) (P 62) (wRun nv P W) (W.2.2.2.2.1 v) v (s.1, s.2.1, s.1 v, 0) k) := by rw [hk]
          have EL := (mRO_left (nv := nv) (np := np) (frm := P 60) (too := P 61) (amt := P 62) (run := (wRun nv P W)) (lev := W.2.2.2.2.1 v) (v := v) (s := s) h8 (fun p hpp z => hto p hpp z) k (by omega)).2
          have E := mRateOf_n (over := P 59) (brim := P 54) (g := W.1) (lev := W.2.2.2.2.1) (s := s) hE (fun q => absurd ((lg_cmp_lt _ _).mp hc2) (by rw [show W.2.2.2.2.1 v = _ from q.2]; exact i64_irr))
          rw [← EL] at E
          refine ⟨_, _, _, _, rfl, (KQ.i rfl (KQ.a rfl (KQ.a rfl K0))), ⟨?_, hr.2.2.2.2⟩, rfl⟩
          rw [E]
          exact ⟨hr.1, (Int32.add_zero _).trans hr.2.1, mC_n (fun j hj => (congrFun hr.2.2.1 j).trans (hs.2.2.1 j hj)) (Int32.sub_zero _), mC_k (fun j hj => (congrFun hr.2.2.2.1 j).trans (hs.2.2.2 j hj)) hz.symm⟩
        · refine zw_iaload v (nI t3) 195 f50_194 rfl (hb_8 _ _ _ _) (nI_clamp (by omega)) (nI_pos (by omega)) (by omega) ((congrFun ((K0.2.2.1 8 rfl).trans (hR.2.1 59 (by omega) (by omega))) v).trans t3q) ?_
          refine zw_aload_n 196 f50_195 rfl h0 ?_
          refine zw_getfield 199 f50_196 rfl g50_25_10 (hb_11 _ _ _ _) rfl ?_
          refine zw_iload_n 200 f50_199 rfl h1 ?_
          refine zw_iaload v 0 201 f50_200 rfl (hb_18 _ _ _ _) (nI_clamp (by omega)) (nI_pos (by omega)) (by omega) (if_pos rfl) ?_
          refine zw_virtual_v 204 0 0 [.ref 11, .int (nI t3), .int 0] [(0, .ref 11), (1, .int (nI t3)), (2, .int 0)] f50_201 rfl n50_76 k50_76_10 rfl (hb_11 _ _ _ _) (by decide +kernel) (Nat.le_of_ble_eq_true rfl) rfl rfl (by decide +kernel) (by decide +kernel) rfl (Nat.le_of_ble_eq_true rfl) rfl ?_
          refine zw_aload_n 1 f51_0 rfl rfl ?_
          refine zw_getfield 4 f51_1 rfl g51_37_10 (hb_11 _ _ _ _) rfl ?_
          refine zw_iload_n 5 f51_4 rfl rfl ?_
          refine zw_virtual_i 8 0 0 [.ref 1, .int (nI t3)] [(0, .ref 1), (1, .int (nI t3))] f51_5 rfl n51_103 k51_103_4 rfl (hb_1 _ _ _ _) (by decide +kernel) (Nat.le_of_ble_eq_true rfl) rfl rfl (by decide +kernel) (by decide +kernel) rfl (Nat.le_of_ble_eq_true rfl) rfl ?_
          refine zw_iload_n 1 f13_0 rfl rfl ?_
          refine zw_if_lt_f 4 22 f13_1 (by decide +kernel) rfl (nI_pos (by omega)) ?_
          refine zw_iload_n 5 f13_4 rfl rfl ?_
          refine zw_aload_n 6 f13_5 rfl rfl ?_
          refine zw_getI (nI nv) 9 f13_6 rfl g13_39_4 (hb_1 _ _ _ _) rfl ((K0.1 1 0 rfl).trans hR.1.1) ?_
          refine zw_ic_ge_f 12 22 f13_9 (by decide +kernel) rfl (fun q => absurd (zn_ge (a := nv) (b := t3) (by omega) (by omega) q) (by omega)) ?_
          refine zw_iload_n 13 f13_12 rfl rfl ?_
          refine zw_bipush 8 15 f13_13 rfl (by decide +kernel) ?_
          refine zw_ic_ge_f 18 22 f13_15 (by decide +kernel) rfl (fun q => absurd (zn_ge (a := 8) (b := t3) (by omega) (by omega) q) (by omega)) ?_
          refine zw_iconst 1 19 f13_18 rfl (by decide +kernel) ?_
          refine zw_goto 23 f13_19 (by decide +kernel) ?_
          refine zw_zreturn f13_23 r13 u13 (by decide +kernel) ⟨_, rfl, ?_⟩
          refine zw_if_eq_f 11 24 f51_8 (by decide +kernel) rfl (by decide +kernel) ?_
          refine zw_aload_n 12 f51_11 rfl rfl ?_
          refine zw_getfield 15 f51_12 rfl g51_18_10 (hb_11 _ _ _ _) rfl ?_
          refine zw_iload_n 16 f51_15 rfl rfl ?_
          refine zw_dup2 17 f51_16 rfl rfl rfl ?_
          refine zw_iaload t3 (A1 16 t3) 18 f51_17 rfl (hb_16 _ _ _ _) (nI_clamp (by omega)) (nI_pos (by omega)) (by omega) rfl ?_
          refine zw_iload_n 19 f51_18 rfl rfl ?_
          refine zw_iadd ((A1 16 t3) + 0) 20 f51_19 rfl rfl ?_
          refine zw_ast t3 _ 21 f51_20 rfl (hb_16 _ _ _ _) (nI_clamp (by omega)) (nI_pos (by omega)) (by omega) (ha_16 _ _ _ _ _) ?_
          refine zw_goto 34 f51_21 (by decide +kernel) ?_
          refine zw_vreturn f51_34 r51 u51 ⟨rfl, ?_⟩
          refine zw_vreturn f50_204 r50 u50 ?_
          have hk : k = np := by omega
          have hE : (mRO (P 60) (P 61) (P 62) (wRun nv P W) (W.2.2.2.2.1 v) v (s.1, s.2.1, s.1 v, 0) np) = (mRO (P 60) (P 61) (P 62) (wRun nv P W) (W.2.2.2.2.1 v) v (s.1, s.2.1, s.1 v, 0) k) := by rw [hk]
          have EL := (mRO_left (nv := nv) (np := np) (frm := P 60) (too := P 61) (amt := P 62) (run := (wRun nv P W)) (lev := W.2.2.2.2.1 v) (v := v) (s := s) h8 (fun p hpp z => hto p hpp z) k (by omega)).2
          have E := mRateOf_n (over := P 59) (brim := P 54) (g := W.1) (lev := W.2.2.2.2.1) (s := s) hE (fun q => absurd ((lg_cmp_lt _ _).mp hc2) (by rw [show W.2.2.2.2.1 v = _ from q.2]; exact i64_irr))
          rw [← EL] at E
          refine ⟨_, _, _, _, rfl, (KQ.a rfl (KQ.a rfl (KQ.a rfl K0))), ⟨?_, hr.2.2.2.2⟩, rfl⟩
          rw [E]
          exact ⟨mC_0 hr.1, hr.2.1, mC_n (fun j hj => (congrFun hr.2.2.1 j).trans (hs.2.2.1 j hj)) (Int32.sub_zero _), mC_k (fun j hj => (congrFun hr.2.2.2.1 j).trans (hs.2.2.2 j hj)) hz.symm⟩
      · refine zw_iconst 1 32 f52_31 rfl (by decide +kernel) ?_
        refine zw_goto 36 f52_32 (by decide +kernel) ?_
        refine zw_zreturn f52_36 r52 u52 (by decide +kernel) ⟨_, rfl, ?_⟩
        refine zw_if_eq_f 161 169 f50_158 (by decide +kernel) rfl (by decide +kernel) ?_
        refine zw_iload_n 162 f50_161 rfl h2 ?_
        refine zw_if_le 165 169 f50_162 (by decide +kernel) rfl (fun hc4 => ?_) (fun hc4 => ?_)
        · refine zw_iconst 0 170 f50_169 rfl (by decide +kernel) ?_
          refine zw_ast v _ 171 f50_170 rfl (hb_18 _ _ _ _) (nI_clamp (by omega)) (nI_pos (by omega)) (by omega) (ha_18 _ _ _ _ _) ?_
          refine zw_aload_n 172 f50_171 rfl h0 ?_
          refine zw_getfield 175 f50_172 rfl g50_22_10 (hb_11 _ _ _ _) rfl ?_
          refine zw_iload_n 176 f50_175 rfl h1 ?_
          refine zw_iload_n 177 f50_176 rfl h2 ?_
          refine zw_aload_n 178 f50_177 rfl h0 ?_
          refine zw_getfield 181 f50_178 rfl g50_25_10 (hb_11 _ _ _ _) rfl ?_
          refine zw_iload_n 182 f50_181 rfl h1 ?_
          refine zw_iaload v 0 183 f50_182 rfl (hb_18 _ _ _ _) (nI_clamp (by omega)) (nI_pos (by omega)) (by omega) (if_pos rfl) ?_
          refine zw_isub (((mRO (P 60) (P 61) (P 62) (wRun nv P W) (W.2.2.2.2.1 v) v (s.1, s.2.1, s.1 v, 0) k).2.2.1) - 0) 184 f50_183 rfl rfl ?_
          refine zw_ast v _ 185 f50_184 rfl (hb_17 _ _ _ _) (nI_clamp (by omega)) (nI_pos (by omega)) (by omega) (ha_17 _ _ _ _ _) ?_
          refine zw_aload_n 186 f50_185 rfl h0 ?_
          refine zw_aload_n 187 f50_186 rfl h0 ?_
          refine zw_getfield 190 f50_187 rfl g50_37_10 (hb_11 _ _ _ _) rfl ?_
          refine zw_getfield 193 f50_190 rfl g50_100_4 (hb_1 _ _ _ _) rfl ?_
          refine zw_iload_n 194 f50_193 rfl h1 ?_
          rcases (hp.2.2.1 v (by omega)).2.2.2.2.2 with t5q | ⟨t5, t5l, t5n, t5q⟩
          · refine zw_iaload v (-1) 195 f50_194 rfl (hb_8 _ _ _ _) (nI_clamp (by omega)) (nI_pos (by omega)) (by omega) ((congrFun ((K0.2.2.1 8 rfl).trans (hR.2.1 59 (by omega) (by omega))) v).trans t5q) ?_
            refine zw_aload_n 196 f50_195 rfl h0 ?_
            refine zw_getfield 199 f50_196 rfl g50_25_10 (hb_11 _ _ _ _) rfl ?_
            refine zw_iload_n 200 f50_199 rfl h1 ?_
            refine zw_iaload v 0 201 f50_200 rfl (hb_18 _ _ _ _) (nI_clamp (by omega)) (nI_pos (by omega)) (by omega) (if_pos rfl) ?_
            refine zw_virtual_v 204 0 0 [.ref 11, .int (-1), .int 0] [(0, .ref 11), (1, .int (-1)), (2, .int 0)] f50_201 rfl n50_76 k50_76_10 rfl (hb_11 _ _ _ _) (by decide +kernel) (Nat.le_of_ble_eq_true rfl) rfl rfl (by decide +kernel) (by decide +kernel) rfl (Nat.le_of_ble_eq_true rfl) rfl ?_
            refine zw_aload_n 1 f51_0 rfl rfl ?_
            refine zw_getfield 4 f51_1 rfl g51_37_10 (hb_11 _ _ _ _) rfl ?_
            refine zw_iload_n 5 f51_4 rfl rfl ?_
            refine zw_virtual_i 8 0 0 [.ref 1, .int (-1)] [(0, .ref 1), (1, .int (-1))] f51_5 rfl n51_103 k51_103_4 rfl (hb_1 _ _ _ _) (by decide +kernel) (Nat.le_of_ble_eq_true rfl) rfl rfl (by decide +kernel) (by decide +kernel) rfl (Nat.le_of_ble_eq_true rfl) rfl ?_
            refine zw_iload_n 1 f13_0 rfl rfl ?_
            refine zw_if_lt_t 22 f13_1 (by decide +kernel) (by decide +kernel) ?_
            refine zw_iconst 0 23 f13_22 rfl (by decide +kernel) ?_
            refine zw_zreturn f13_23 r13 u13 (by decide +kernel) ⟨_, rfl, ?_⟩
            refine zw_if_eq_t 24 f51_8 (by decide +kernel) (by decide +kernel) ?_
            refine zw_aload_n 25 f51_24 rfl rfl ?_
            refine zw_dup 26 f51_25 rfl rfl ?_
            refine zw_getI (I1 11 7) 29 f51_26 rfl g51_58_10 (hb_11 _ _ _ _) rfl rfl ?_
            refine zw_iload_n 30 f51_29 rfl rfl ?_
            refine zw_iadd ((I1 11 7) + 0) 31 f51_30 rfl rfl ?_
            refine zw_put _ 34 f51_31 rfl g51_58_10 (hb_11 _ _ _ _) rfl (Nat.le_of_ble_eq_true rfl) (by decide +kernel) (hi_11_7 _ _ _ _ _) ?_
            refine zw_vreturn f51_34 r51 u51 ⟨rfl, ?_⟩
            refine zw_vreturn f50_204 r50 u50 ?_
            have hk : k = np := by omega
            have hE : (mRO (P 60) (P 61) (P 62) (wRun nv P W) (W.2.2.2.2.1 v) v (s.1, s.2.1, s.1 v, 0) np) = (mRO (P 60) (P 61) (P 62) (wRun nv P W) (W.2.2.2.2.1 v) v (s.1, s.2.1, s.1 v, 0) k) := by rw [hk]
            have EL := (mRO_left (nv := nv) (np := np) (frm := P 60) (too := P 61) (amt := P 62) (run := (wRun nv P W)) (lev := W.2.2.2.2.1 v) (v := v) (s := s) h8 (fun p hpp z => hto p hpp z) k (by omega)).2
            have E := mRateOf_n (over := P 59) (brim := P 54) (g := W.1) (lev := W.2.2.2.2.1) (s := s) hE (fun q => absurd q.1 (by rw [← EL]; exact Int32.not_lt.mpr hc4))
            rw [← EL] at E
            refine ⟨_, _, _, _, rfl, (KQ.i rfl (KQ.a rfl (KQ.a rfl K0))), ⟨?_, hr.2.2.2.2⟩, rfl⟩
            rw [E]
            exact ⟨hr.1, (Int32.add_zero _).trans hr.2.1, mC_n (fun j hj => (congrFun hr.2.2.1 j).trans (hs.2.2.1 j hj)) (Int32.sub_zero _), mC_k (fun j hj => (congrFun hr.2.2.2.1 j).trans (hs.2.2.2 j hj)) hz.symm⟩
          · refine zw_iaload v (nI t5) 195 f50_194 rfl (hb_8 _ _ _ _) (nI_clamp (by omega)) (nI_pos (by omega)) (by omega) ((congrFun ((K0.2.2.1 8 rfl).trans (hR.2.1 59 (by omega) (by omega))) v).trans t5q) ?_
            refine zw_aload_n 196 f50_195 rfl h0 ?_
            refine zw_getfield 199 f50_196 rfl g50_25_10 (hb_11 _ _ _ _) rfl ?_
            refine zw_iload_n 200 f50_199 rfl h1 ?_
            refine zw_iaload v 0 201 f50_200 rfl (hb_18 _ _ _ _) (nI_clamp (by omega)) (nI_pos (by omega)) (by omega) (if_pos rfl) ?_
            refine zw_virtual_v 204 0 0 [.ref 11, .int (nI t5), .int 0] [(0, .ref 11), (1, .int (nI t5)), (2, .int 0)] f50_201 rfl n50_76 k50_76_10 rfl (hb_11 _ _ _ _) (by decide +kernel) (Nat.le_of_ble_eq_true rfl) rfl rfl (by decide +kernel) (by decide +kernel) rfl (Nat.le_of_ble_eq_true rfl) rfl ?_
            refine zw_aload_n 1 f51_0 rfl rfl ?_
            refine zw_getfield 4 f51_1 rfl g51_37_10 (hb_11 _ _ _ _) rfl ?_
            refine zw_iload_n 5 f51_4 rfl rfl ?_
            refine zw_virtual_i 8 0 0 [.ref 1, .int (nI t5)] [(0, .ref 1), (1, .int (nI t5))] f51_5 rfl n51_103 k51_103_4 rfl (hb_1 _ _ _ _) (by decide +kernel) (Nat.le_of_ble_eq_true rfl) rfl rfl (by decide +kernel) (by decide +kernel) rfl (Nat.le_of_ble_eq_true rfl) rfl ?_
            refine zw_iload_n 1 f13_0 rfl rfl ?_
            refine zw_if_lt_f 4 22 f13_1 (by decide +kernel) rfl (nI_pos (by omega)) ?_
            refine zw_iload_n 5 f13_4 rfl rfl ?_
            refine zw_aload_n 6 f13_5 rfl rfl ?_
            refine zw_getI (nI nv) 9 f13_6 rfl g13_39_4 (hb_1 _ _ _ _) rfl ((K0.1 1 0 rfl).trans hR.1.1) ?_
            refine zw_ic_ge_f 12 22 f13_9 (by decide +kernel) rfl (fun q => absurd (zn_ge (a := nv) (b := t5) (by omega) (by omega) q) (by omega)) ?_
            refine zw_iload_n 13 f13_12 rfl rfl ?_
            refine zw_bipush 8 15 f13_13 rfl (by decide +kernel) ?_
            refine zw_ic_ge_f 18 22 f13_15 (by decide +kernel) rfl (fun q => absurd (zn_ge (a := 8) (b := t5) (by omega) (by omega) q) (by omega)) ?_
            refine zw_iconst 1 19 f13_18 rfl (by decide +kernel) ?_
            refine zw_goto 23 f13_19 (by decide +kernel) ?_
            refine zw_zreturn f13_23 r13 u13 (by decide +kernel) ⟨_, rfl, ?_⟩
            refine zw_if_eq_f 11 24 f51_8 (by decide +kernel) rfl (by decide +kernel) ?_
            refine zw_aload_n 12 f51_11 rfl rfl ?_
            refine zw_getfield 15 f51_12 rfl g51_18_10 (hb_11 _ _ _ _) rfl ?_
            refine zw_iload_n 16 f51_15 rfl rfl ?_
            refine zw_dup2 17 f51_16 rfl rfl rfl ?_
            refine zw_iaload t5 (A1 16 t5) 18 f51_17 rfl (hb_16 _ _ _ _) (nI_clamp (by omega)) (nI_pos (by omega)) (by omega) rfl ?_
            refine zw_iload_n 19 f51_18 rfl rfl ?_
            refine zw_iadd ((A1 16 t5) + 0) 20 f51_19 rfl rfl ?_
            refine zw_ast t5 _ 21 f51_20 rfl (hb_16 _ _ _ _) (nI_clamp (by omega)) (nI_pos (by omega)) (by omega) (ha_16 _ _ _ _ _) ?_
            refine zw_goto 34 f51_21 (by decide +kernel) ?_
            refine zw_vreturn f51_34 r51 u51 ⟨rfl, ?_⟩
            refine zw_vreturn f50_204 r50 u50 ?_
            have hk : k = np := by omega
            have hE : (mRO (P 60) (P 61) (P 62) (wRun nv P W) (W.2.2.2.2.1 v) v (s.1, s.2.1, s.1 v, 0) np) = (mRO (P 60) (P 61) (P 62) (wRun nv P W) (W.2.2.2.2.1 v) v (s.1, s.2.1, s.1 v, 0) k) := by rw [hk]
            have EL := (mRO_left (nv := nv) (np := np) (frm := P 60) (too := P 61) (amt := P 62) (run := (wRun nv P W)) (lev := W.2.2.2.2.1 v) (v := v) (s := s) h8 (fun p hpp z => hto p hpp z) k (by omega)).2
            have E := mRateOf_n (over := P 59) (brim := P 54) (g := W.1) (lev := W.2.2.2.2.1) (s := s) hE (fun q => absurd q.1 (by rw [← EL]; exact Int32.not_lt.mpr hc4))
            rw [← EL] at E
            refine ⟨_, _, _, _, rfl, (KQ.a rfl (KQ.a rfl (KQ.a rfl K0))), ⟨?_, hr.2.2.2.2⟩, rfl⟩
            rw [E]
            exact ⟨mC_0 hr.1, hr.2.1, mC_n (fun j hj => (congrFun hr.2.2.1 j).trans (hs.2.2.1 j hj)) (Int32.sub_zero _), mC_k (fun j hj => (congrFun hr.2.2.2.1 j).trans (hs.2.2.2 j hj)) hz.symm⟩
        · refine zw_iload_n 166 f50_165 rfl h2 ?_
          refine zw_goto 170 f50_166 (by decide +kernel) ?_
          refine zw_ast v _ 171 f50_170 rfl (hb_18 _ _ _ _) (nI_clamp (by omega)) (nI_pos (by omega)) (by omega) (ha_18 _ _ _ _ _) ?_
          refine zw_aload_n 172 f50_171 rfl h0 ?_
          refine zw_getfield 175 f50_172 rfl g50_22_10 (hb_11 _ _ _ _) rfl ?_
          refine zw_iload_n 176 f50_175 rfl h1 ?_
          refine zw_iload_n 177 f50_176 rfl h2 ?_
          refine zw_aload_n 178 f50_177 rfl h0 ?_
          refine zw_getfield 181 f50_178 rfl g50_25_10 (hb_11 _ _ _ _) rfl ?_
          refine zw_iload_n 182 f50_181 rfl h1 ?_
          refine zw_iaload v ((mRO (P 60) (P 61) (P 62) (wRun nv P W) (W.2.2.2.2.1 v) v (s.1, s.2.1, s.1 v, 0) k).2.2.1) 183 f50_182 rfl (hb_18 _ _ _ _) (nI_clamp (by omega)) (nI_pos (by omega)) (by omega) (if_pos rfl) ?_
          refine zw_isub (((mRO (P 60) (P 61) (P 62) (wRun nv P W) (W.2.2.2.2.1 v) v (s.1, s.2.1, s.1 v, 0) k).2.2.1) - ((mRO (P 60) (P 61) (P 62) (wRun nv P W) (W.2.2.2.2.1 v) v (s.1, s.2.1, s.1 v, 0) k).2.2.1)) 184 f50_183 rfl rfl ?_
          refine zw_ast v _ 185 f50_184 rfl (hb_17 _ _ _ _) (nI_clamp (by omega)) (nI_pos (by omega)) (by omega) (ha_17 _ _ _ _ _) ?_
          refine zw_aload_n 186 f50_185 rfl h0 ?_
          refine zw_aload_n 187 f50_186 rfl h0 ?_
          refine zw_getfield 190 f50_187 rfl g50_37_10 (hb_11 _ _ _ _) rfl ?_
          refine zw_getfield 193 f50_190 rfl g50_100_4 (hb_1 _ _ _ _) rfl ?_
          refine zw_iload_n 194 f50_193 rfl h1 ?_
          rcases (hp.2.2.1 v (by omega)).2.2.2.2.2 with t6q | ⟨t6, t6l, t6n, t6q⟩
          · refine zw_iaload v (-1) 195 f50_194 rfl (hb_8 _ _ _ _) (nI_clamp (by omega)) (nI_pos (by omega)) (by omega) ((congrFun ((K0.2.2.1 8 rfl).trans (hR.2.1 59 (by omega) (by omega))) v).trans t6q) ?_
            refine zw_aload_n 196 f50_195 rfl h0 ?_
            refine zw_getfield 199 f50_196 rfl g50_25_10 (hb_11 _ _ _ _) rfl ?_
            refine zw_iload_n 200 f50_199 rfl h1 ?_
            refine zw_iaload v ((mRO (P 60) (P 61) (P 62) (wRun nv P W) (W.2.2.2.2.1 v) v (s.1, s.2.1, s.1 v, 0) k).2.2.1) 201 f50_200 rfl (hb_18 _ _ _ _) (nI_clamp (by omega)) (nI_pos (by omega)) (by omega) (if_pos rfl) ?_
            refine zw_virtual_v 204 0 0 [.ref 11, .int (-1), .int ((mRO (P 60) (P 61) (P 62) (wRun nv P W) (W.2.2.2.2.1 v) v (s.1, s.2.1, s.1 v, 0) k).2.2.1)] [(0, .ref 11), (1, .int (-1)), (2, .int ((mRO (P 60) (P 61) (P 62) (wRun nv P W) (W.2.2.2.2.1 v) v (s.1, s.2.1, s.1 v, 0) k).2.2.1))] f50_201 rfl n50_76 k50_76_10 rfl (hb_11 _ _ _ _) (by decide +kernel) (Nat.le_of_ble_eq_true rfl) rfl rfl (by decide +kernel) (by decide +kernel) rfl (Nat.le_of_ble_eq_true rfl) rfl ?_
            refine zw_aload_n 1 f51_0 rfl rfl ?_
            refine zw_getfield 4 f51_1 rfl g51_37_10 (hb_11 _ _ _ _) rfl ?_
            refine zw_iload_n 5 f51_4 rfl rfl ?_
            refine zw_virtual_i 8 0 0 [.ref 1, .int (-1)] [(0, .ref 1), (1, .int (-1))] f51_5 rfl n51_103 k51_103_4 rfl (hb_1 _ _ _ _) (by decide +kernel) (Nat.le_of_ble_eq_true rfl) rfl rfl (by decide +kernel) (by decide +kernel) rfl (Nat.le_of_ble_eq_true rfl) rfl ?_
            refine zw_iload_n 1 f13_0 rfl rfl ?_
            refine zw_if_lt_t 22 f13_1 (by decide +kernel) (by decide +kernel) ?_
            refine zw_iconst 0 23 f13_22 rfl (by decide +kernel) ?_
            refine zw_zreturn f13_23 r13 u13 (by decide +kernel) ⟨_, rfl, ?_⟩
            refine zw_if_eq_t 24 f51_8 (by decide +kernel) (by decide +kernel) ?_
            refine zw_aload_n 25 f51_24 rfl rfl ?_
            refine zw_dup 26 f51_25 rfl rfl ?_
            refine zw_getI (I1 11 7) 29 f51_26 rfl g51_58_10 (hb_11 _ _ _ _) rfl rfl ?_
            refine zw_iload_n 30 f51_29 rfl rfl ?_
            refine zw_iadd ((I1 11 7) + ((mRO (P 60) (P 61) (P 62) (wRun nv P W) (W.2.2.2.2.1 v) v (s.1, s.2.1, s.1 v, 0) k).2.2.1)) 31 f51_30 rfl rfl ?_
            refine zw_put _ 34 f51_31 rfl g51_58_10 (hb_11 _ _ _ _) rfl (Nat.le_of_ble_eq_true rfl) (by decide +kernel) (hi_11_7 _ _ _ _ _) ?_
            refine zw_vreturn f51_34 r51 u51 ⟨rfl, ?_⟩
            refine zw_vreturn f50_204 r50 u50 ?_
            have hk : k = np := by omega
            have hE : (mRO (P 60) (P 61) (P 62) (wRun nv P W) (W.2.2.2.2.1 v) v (s.1, s.2.1, s.1 v, 0) np) = (mRO (P 60) (P 61) (P 62) (wRun nv P W) (W.2.2.2.2.1 v) v (s.1, s.2.1, s.1 v, 0) k) := by rw [hk]
            have EL := (mRO_left (nv := nv) (np := np) (frm := P 60) (too := P 61) (amt := P 62) (run := (wRun nv P W)) (lev := W.2.2.2.2.1 v) (v := v) (s := s) h8 (fun p hpp z => hto p hpp z) k (by omega)).2
            have hx : 0 < ((mRO (P 60) (P 61) (P 62) (wRun nv P W) (W.2.2.2.2.1 v) v (s.1, s.2.1, s.1 v, 0) k).1 v - (mRO (P 60) (P 61) (P 62) (wRun nv P W) (W.2.2.2.2.1 v) v (s.1, s.2.1, s.1 v, 0) k).2.2.2) := by rw [← EL]; exact Int32.not_le.mp hc4
            have E := mRateOf_y (over := P 59) (brim := P 54) (g := W.1) (lev := W.2.2.2.2.1) (s := s) (-1) t6q hE hx (full_eq hp hW hv (Int64.not_lt.mpr (Int64.not_lt.mp (fun q => hc2 ((lg_cmp_lt _ _).mpr q)))))
            rw [← EL] at E
            rw [mGoC_m, mGoD_m] at E
            refine ⟨_, _, _, _, rfl, (KQ.i rfl (KQ.a rfl (KQ.a rfl K0))), ⟨?_, hr.2.2.2.2⟩, rfl⟩
            rw [E]
            exact ⟨hr.1, congrArg (fun z => z + ((mRO (P 60) (P 61) (P 62) (wRun nv P W) (W.2.2.2.2.1 v) v (s.1, s.2.1, s.1 v, 0) k).2.2.1)) hr.2.1, mC_n (fun j hj => (congrFun hr.2.2.1 j).trans (hs.2.2.1 j hj)) (Int32.sub_self _), mC_n (fun j hj => (congrFun hr.2.2.2.1 j).trans (hs.2.2.2 j hj)) rfl⟩
          · refine zw_iaload v (nI t6) 195 f50_194 rfl (hb_8 _ _ _ _) (nI_clamp (by omega)) (nI_pos (by omega)) (by omega) ((congrFun ((K0.2.2.1 8 rfl).trans (hR.2.1 59 (by omega) (by omega))) v).trans t6q) ?_
            refine zw_aload_n 196 f50_195 rfl h0 ?_
            refine zw_getfield 199 f50_196 rfl g50_25_10 (hb_11 _ _ _ _) rfl ?_
            refine zw_iload_n 200 f50_199 rfl h1 ?_
            refine zw_iaload v ((mRO (P 60) (P 61) (P 62) (wRun nv P W) (W.2.2.2.2.1 v) v (s.1, s.2.1, s.1 v, 0) k).2.2.1) 201 f50_200 rfl (hb_18 _ _ _ _) (nI_clamp (by omega)) (nI_pos (by omega)) (by omega) (if_pos rfl) ?_
            refine zw_virtual_v 204 0 0 [.ref 11, .int (nI t6), .int ((mRO (P 60) (P 61) (P 62) (wRun nv P W) (W.2.2.2.2.1 v) v (s.1, s.2.1, s.1 v, 0) k).2.2.1)] [(0, .ref 11), (1, .int (nI t6)), (2, .int ((mRO (P 60) (P 61) (P 62) (wRun nv P W) (W.2.2.2.2.1 v) v (s.1, s.2.1, s.1 v, 0) k).2.2.1))] f50_201 rfl n50_76 k50_76_10 rfl (hb_11 _ _ _ _) (by decide +kernel) (Nat.le_of_ble_eq_true rfl) rfl rfl (by decide +kernel) (by decide +kernel) rfl (Nat.le_of_ble_eq_true rfl) rfl ?_
            refine zw_aload_n 1 f51_0 rfl rfl ?_
            refine zw_getfield 4 f51_1 rfl g51_37_10 (hb_11 _ _ _ _) rfl ?_
            refine zw_iload_n 5 f51_4 rfl rfl ?_
            refine zw_virtual_i 8 0 0 [.ref 1, .int (nI t6)] [(0, .ref 1), (1, .int (nI t6))] f51_5 rfl n51_103 k51_103_4 rfl (hb_1 _ _ _ _) (by decide +kernel) (Nat.le_of_ble_eq_true rfl) rfl rfl (by decide +kernel) (by decide +kernel) rfl (Nat.le_of_ble_eq_true rfl) rfl ?_
            refine zw_iload_n 1 f13_0 rfl rfl ?_
            refine zw_if_lt_f 4 22 f13_1 (by decide +kernel) rfl (nI_pos (by omega)) ?_
            refine zw_iload_n 5 f13_4 rfl rfl ?_
            refine zw_aload_n 6 f13_5 rfl rfl ?_
            refine zw_getI (nI nv) 9 f13_6 rfl g13_39_4 (hb_1 _ _ _ _) rfl ((K0.1 1 0 rfl).trans hR.1.1) ?_
            refine zw_ic_ge_f 12 22 f13_9 (by decide +kernel) rfl (fun q => absurd (zn_ge (a := nv) (b := t6) (by omega) (by omega) q) (by omega)) ?_
            refine zw_iload_n 13 f13_12 rfl rfl ?_
            refine zw_bipush 8 15 f13_13 rfl (by decide +kernel) ?_
            refine zw_ic_ge_f 18 22 f13_15 (by decide +kernel) rfl (fun q => absurd (zn_ge (a := 8) (b := t6) (by omega) (by omega) q) (by omega)) ?_
            refine zw_iconst 1 19 f13_18 rfl (by decide +kernel) ?_
            refine zw_goto 23 f13_19 (by decide +kernel) ?_
            refine zw_zreturn f13_23 r13 u13 (by decide +kernel) ⟨_, rfl, ?_⟩
            refine zw_if_eq_f 11 24 f51_8 (by decide +kernel) rfl (by decide +kernel) ?_
            refine zw_aload_n 12 f51_11 rfl rfl ?_
            refine zw_getfield 15 f51_12 rfl g51_18_10 (hb_11 _ _ _ _) rfl ?_
            refine zw_iload_n 16 f51_15 rfl rfl ?_
            refine zw_dup2 17 f51_16 rfl rfl rfl ?_
            refine zw_iaload t6 (A1 16 t6) 18 f51_17 rfl (hb_16 _ _ _ _) (nI_clamp (by omega)) (nI_pos (by omega)) (by omega) rfl ?_
            refine zw_iload_n 19 f51_18 rfl rfl ?_
            refine zw_iadd ((A1 16 t6) + ((mRO (P 60) (P 61) (P 62) (wRun nv P W) (W.2.2.2.2.1 v) v (s.1, s.2.1, s.1 v, 0) k).2.2.1)) 20 f51_19 rfl rfl ?_
            refine zw_ast t6 _ 21 f51_20 rfl (hb_16 _ _ _ _) (nI_clamp (by omega)) (nI_pos (by omega)) (by omega) (ha_16 _ _ _ _ _) ?_
            refine zw_goto 34 f51_21 (by decide +kernel) ?_
            refine zw_vreturn f51_34 r51 u51 ⟨rfl, ?_⟩
            refine zw_vreturn f50_204 r50 u50 ?_
            have hk : k = np := by omega
            have hE : (mRO (P 60) (P 61) (P 62) (wRun nv P W) (W.2.2.2.2.1 v) v (s.1, s.2.1, s.1 v, 0) np) = (mRO (P 60) (P 61) (P 62) (wRun nv P W) (W.2.2.2.2.1 v) v (s.1, s.2.1, s.1 v, 0) k) := by rw [hk]
            have EL := (mRO_left (nv := nv) (np := np) (frm := P 60) (too := P 61) (amt := P 62) (run := (wRun nv P W)) (lev := W.2.2.2.2.1 v) (v := v) (s := s) h8 (fun p hpp z => hto p hpp z) k (by omega)).2
            have hx : 0 < ((mRO (P 60) (P 61) (P 62) (wRun nv P W) (W.2.2.2.2.1 v) v (s.1, s.2.1, s.1 v, 0) k).1 v - (mRO (P 60) (P 61) (P 62) (wRun nv P W) (W.2.2.2.2.1 v) v (s.1, s.2.1, s.1 v, 0) k).2.2.2) := by rw [← EL]; exact Int32.not_le.mp hc4
            have E := mRateOf_y (over := P 59) (brim := P 54) (g := W.1) (lev := W.2.2.2.2.1) (s := s) (nI t6) t6q hE hx (full_eq hp hW hv (Int64.not_lt.mpr (Int64.not_lt.mp (fun q => hc2 ((lg_cmp_lt _ _).mpr q)))))
            rw [← EL] at E
            rw [mGoC_t (by omega), mGoD_t (by omega)] at E
            refine ⟨_, _, _, _, rfl, (KQ.a rfl (KQ.a rfl (KQ.a rfl K0))), ⟨?_, hr.2.2.2.2⟩, rfl⟩
            rw [E]
            exact ⟨mC_t hr.1 (by omega), hr.2.1, mC_n (fun j hj => (congrFun hr.2.2.1 j).trans (hs.2.2.1 j hj)) (Int32.sub_self _), mC_n (fun j hj => (congrFun hr.2.2.2.1 j).trans (hs.2.2.2 j hj)) rfl⟩
    · have hn_hc1 : k < np := zn_lt (by omega) (by omega) hc1
      refine zw_aload_n 43 f50_42 rfl h0 ?_
      refine zw_getfield 46 f50_43 rfl g50_37_10 (hb_11 _ _ _ _) rfl ?_
      refine zw_getfield 49 f50_46 rfl g50_64_4 (hb_1 _ _ _ _) rfl ?_
      refine zw_iload 51 f50_49 rfl h4 ?_
      refine zw_iaload k (P 60 k) 52 f50_51 rfl (hb_9 _ _ _ _) (nI_clamp (by omega)) (nI_pos (by omega)) (by omega) (congrFun (((K0.2.2.1 9 rfl).trans (hR.2.1 60 (by omega) (by omega)))) k) ?_
      refine zw_iload_n 53 f50_52 rfl h1 ?_
      refine zw_ic_ne 56 142 f50_53 (by decide +kernel) rfl (fun hc7 => ?_) (fun hc7 => ?_)
      · refine zw_iinc (nI (k + 1)) _ 145 f50_142 rfl h4 (by decide +kernel) (nI_1 _) rfl ?_
        refine zw_goto 30 f50_145 (by decide +kernel) ?_
        have E := mRO_n (frm := P 60) (too := P 61) (amt := P 62) (run := (wRun nv P W)) (lev := W.2.2.2.2.1 v) (v := v) (s := (s.1, s.2.1, s.1 v, 0)) (k := k) (fun q => hc7 q.1)
        exact ih (k + 1) _ _ _ _ _ K0 (by rw [E]; exact hr) (zl1_ne rfl rfl h0) (zl1_ne rfl rfl h1) (by rw [E]; exact (zl1_ne rfl rfl h2)) (zl1_ne rfl rfl h3) zl1_eq (by omega) (by omega)
      · refine zw_iload_n 57 f50_56 rfl h3 ?_
        refine zw_if_eq_f 60 73 f50_57 (by decide +kernel) rfl (by decide +kernel) ?_
        refine zw_aload_n 61 f50_60 rfl h0 ?_
        refine zw_getfield 64 f50_61 rfl g50_12_10 (hb_11 _ _ _ _) rfl ?_
        refine zw_getfield 67 f50_64 rfl g50_70_9 (hb_12 _ _ _ _) rfl ?_
        refine zw_iload 69 f50_67 rfl h4 ?_
        refine zw_iaload k (P 62 k) 70 f50_69 rfl (hb_15 _ _ _ _) (nI_clamp (by omega)) (nI_pos (by omega)) (by omega) (congrFun (((K0.2.2.1 15 rfl).trans (hR.2.1 62 (by omega) (by omega)))) k) ?_
        refine zw_goto 87 f50_70 (by decide +kernel) ?_
        refine zw_istore _ 89 f50_87 rfl (by decide +kernel) rfl ?_
        refine zw_aload_n 90 f50_89 rfl (zl1_ne rfl rfl h0) ?_
        refine zw_getfield 93 f50_90 rfl g50_28_10 (hb_11 _ _ _ _) rfl ?_
        refine zw_iload 95 f50_93 rfl (zl1_ne rfl rfl h4) ?_
        refine zw_aload_n 96 f50_95 rfl (zl1_ne rfl rfl h0) ?_
        refine zw_iload 98 f50_96 rfl (zl1_ne rfl rfl h4) ?_
        refine zw_virtual_i 101 0 0 [.ref 11, .int (nI k)] [(0, .ref 11), (1, .int (nI k))] f50_98 rfl n50_67 k50_67_10 rfl (hb_11 _ _ _ _) (by decide +kernel) (Nat.le_of_ble_eq_true rfl) rfl rfl (by decide +kernel) (by decide +kernel) rfl (Nat.le_of_ble_eq_true rfl) rfl ?_
        refine zWp.mono (cx_runs_11 ro nv np P W _ _ _ _ (hR.k K0 ⟨rfl, rfl⟩ (fCr_w 11) (pCr_w 11 (by omega))) hp hb hq k (by omega)) ?_
        rintro r h1 ⟨rfl, rfl⟩
        refine ⟨_, rfl, ?_⟩
        refine zw_if_eq 104 109 f50_101 (by decide +kernel) rfl (fun hc8 => ?_) (fun hc8 => ?_)
        · refine zw_iconst 0 110 f50_109 rfl (by decide +kernel) ?_
          refine zw_ast k _ 111 f50_110 rfl (hb_19 _ _ _ _) (nI_clamp (by omega)) (nI_pos (by omega)) (by omega) (ha_19 _ _ _ _ _) ?_
          refine zw_iload_n 112 f50_111 rfl (zl1_ne rfl rfl h2) ?_
          refine zw_aload_n 113 f50_112 rfl (zl1_ne rfl rfl h0) ?_
          refine zw_getfield 116 f50_113 rfl g50_28_10 (hb_11 _ _ _ _) rfl ?_
          refine zw_iload 118 f50_116 rfl (zl1_ne rfl rfl h4) ?_
          refine zw_iaload k 0 119 f50_118 rfl (hb_19 _ _ _ _) (nI_clamp (by omega)) (nI_pos (by omega)) (by omega) (if_pos rfl) ?_
          refine zw_isub (((mRO (P 60) (P 61) (P 62) (wRun nv P W) (W.2.2.2.2.1 v) v (s.1, s.2.1, s.1 v, 0) k).2.2.1) - 0) 120 f50_119 rfl rfl ?_
          refine zw_istore_n _ 121 f50_120 rfl (by decide +kernel) rfl ?_
          refine zw_aload_n 122 f50_121 rfl (zl1_ne rfl rfl (zl1_ne rfl rfl h0)) ?_
          refine zw_aload_n 123 f50_122 rfl (zl1_ne rfl rfl (zl1_ne rfl rfl h0)) ?_
          refine zw_getfield 126 f50_123 rfl g50_37_10 (hb_11 _ _ _ _) rfl ?_
          refine zw_getfield 129 f50_126 rfl g50_73_4 (hb_1 _ _ _ _) rfl ?_
          refine zw_iload 131 f50_129 rfl (zl1_ne rfl rfl (zl1_ne rfl rfl h4)) ?_
          rcases (hp.2.2.2 k (by omega)).1 with t9q | ⟨t9, t9l, t9n, t9q⟩
          · refine zw_iaload k (-1) 132 f50_131 rfl (hb_10 _ _ _ _) (nI_clamp (by omega)) (nI_pos (by omega)) (by omega) ((congrFun ((K0.2.2.1 10 rfl).trans (hR.2.1 61 (by omega) (by omega))) k).trans t9q) ?_
            refine zw_aload_n 133 f50_132 rfl (zl1_ne rfl rfl (zl1_ne rfl rfl h0)) ?_
            refine zw_getfield 136 f50_133 rfl g50_28_10 (hb_11 _ _ _ _) rfl ?_
            refine zw_iload 138 f50_136 rfl (zl1_ne rfl rfl (zl1_ne rfl rfl h4)) ?_
            refine zw_iaload k 0 139 f50_138 rfl (hb_19 _ _ _ _) (nI_clamp (by omega)) (nI_pos (by omega)) (by omega) (if_pos rfl) ?_
            refine zw_virtual_v 142 0 0 [.ref 11, .int (-1), .int 0] [(0, .ref 11), (1, .int (-1)), (2, .int 0)] f50_139 rfl n50_76 k50_76_10 rfl (hb_11 _ _ _ _) (by decide +kernel) (Nat.le_of_ble_eq_true rfl) rfl rfl (by decide +kernel) (by decide +kernel) rfl (Nat.le_of_ble_eq_true rfl) rfl ?_
            refine zw_aload_n 1 f51_0 rfl rfl ?_
            refine zw_getfield 4 f51_1 rfl g51_37_10 (hb_11 _ _ _ _) rfl ?_
            refine zw_iload_n 5 f51_4 rfl rfl ?_
            refine zw_virtual_i 8 0 0 [.ref 1, .int (-1)] [(0, .ref 1), (1, .int (-1))] f51_5 rfl n51_103 k51_103_4 rfl (hb_1 _ _ _ _) (by decide +kernel) (Nat.le_of_ble_eq_true rfl) rfl rfl (by decide +kernel) (by decide +kernel) rfl (Nat.le_of_ble_eq_true rfl) rfl ?_
            refine zw_iload_n 1 f13_0 rfl rfl ?_
            refine zw_if_lt_t 22 f13_1 (by decide +kernel) (by decide +kernel) ?_
            refine zw_iconst 0 23 f13_22 rfl (by decide +kernel) ?_
            refine zw_zreturn f13_23 r13 u13 (by decide +kernel) ⟨_, rfl, ?_⟩
            refine zw_if_eq_t 24 f51_8 (by decide +kernel) (by decide +kernel) ?_
            refine zw_aload_n 25 f51_24 rfl rfl ?_
            refine zw_dup 26 f51_25 rfl rfl ?_
            refine zw_getI (I1 11 7) 29 f51_26 rfl g51_58_10 (hb_11 _ _ _ _) rfl rfl ?_
            refine zw_iload_n 30 f51_29 rfl rfl ?_
            refine zw_iadd ((I1 11 7) + 0) 31 f51_30 rfl rfl ?_
            refine zw_put _ 34 f51_31 rfl g51_58_10 (hb_11 _ _ _ _) rfl (Nat.le_of_ble_eq_true rfl) (by decide +kernel) (hi_11_7 _ _ _ _ _) ?_
            refine zw_vreturn f51_34 r51 u51 ⟨rfl, ?_⟩
            refine zw_iinc (nI (k + 1)) _ 145 f50_142 rfl (zl1_ne rfl rfl (zl1_ne rfl rfl h4)) (by decide +kernel) (nI_1 _) rfl ?_
            refine zw_goto 30 f50_145 (by decide +kernel) ?_
            have E := mRO_n (frm := P 60) (too := P 61) (amt := P 62) (run := (wRun nv P W)) (lev := W.2.2.2.2.1 v) (v := v) (s := (s.1, s.2.1, s.1 v, 0)) (k := k) (fun q => q.2 hc8)
            exact ih (k + 1) _ _ _ _ _ (KQ.i rfl (KQ.a rfl K0)) (by rw [E]; exact ⟨hr.1, (Int32.add_zero _).trans hr.2.1, hr.2.2⟩) (zl1_ne rfl rfl (zl1_ne rfl rfl (zl1_ne rfl rfl h0))) (zl1_ne rfl rfl (zl1_ne rfl rfl (zl1_ne rfl rfl h1))) (by rw [E]; exact (zld_s0 (zl1_ne rfl rfl zl1_eq))) (zl1_ne rfl rfl (zl1_ne rfl rfl (zl1_ne rfl rfl h3))) zl1_eq (by omega) (by omega)
          · refine zw_iaload k (nI t9) 132 f50_131 rfl (hb_10 _ _ _ _) (nI_clamp (by omega)) (nI_pos (by omega)) (by omega) ((congrFun ((K0.2.2.1 10 rfl).trans (hR.2.1 61 (by omega) (by omega))) k).trans t9q) ?_
            refine zw_aload_n 133 f50_132 rfl (zl1_ne rfl rfl (zl1_ne rfl rfl h0)) ?_
            refine zw_getfield 136 f50_133 rfl g50_28_10 (hb_11 _ _ _ _) rfl ?_
            refine zw_iload 138 f50_136 rfl (zl1_ne rfl rfl (zl1_ne rfl rfl h4)) ?_
            refine zw_iaload k 0 139 f50_138 rfl (hb_19 _ _ _ _) (nI_clamp (by omega)) (nI_pos (by omega)) (by omega) (if_pos rfl) ?_
            refine zw_virtual_v 142 0 0 [.ref 11, .int (nI t9), .int 0] [(0, .ref 11), (1, .int (nI t9)), (2, .int 0)] f50_139 rfl n50_76 k50_76_10 rfl (hb_11 _ _ _ _) (by decide +kernel) (Nat.le_of_ble_eq_true rfl) rfl rfl (by decide +kernel) (by decide +kernel) rfl (Nat.le_of_ble_eq_true rfl) rfl ?_
            refine zw_aload_n 1 f51_0 rfl rfl ?_
            refine zw_getfield 4 f51_1 rfl g51_37_10 (hb_11 _ _ _ _) rfl ?_
            refine zw_iload_n 5 f51_4 rfl rfl ?_
            refine zw_virtual_i 8 0 0 [.ref 1, .int (nI t9)] [(0, .ref 1), (1, .int (nI t9))] f51_5 rfl n51_103 k51_103_4 rfl (hb_1 _ _ _ _) (by decide +kernel) (Nat.le_of_ble_eq_true rfl) rfl rfl (by decide +kernel) (by decide +kernel) rfl (Nat.le_of_ble_eq_true rfl) rfl ?_
            refine zw_iload_n 1 f13_0 rfl rfl ?_
            refine zw_if_lt_f 4 22 f13_1 (by decide +kernel) rfl (nI_pos (by omega)) ?_
            refine zw_iload_n 5 f13_4 rfl rfl ?_
            refine zw_aload_n 6 f13_5 rfl rfl ?_
            refine zw_getI (nI nv) 9 f13_6 rfl g13_39_4 (hb_1 _ _ _ _) rfl ((K0.1 1 0 rfl).trans hR.1.1) ?_
            refine zw_ic_ge_f 12 22 f13_9 (by decide +kernel) rfl (fun q => absurd (zn_ge (a := nv) (b := t9) (by omega) (by omega) q) (by omega)) ?_
            refine zw_iload_n 13 f13_12 rfl rfl ?_
            refine zw_bipush 8 15 f13_13 rfl (by decide +kernel) ?_
            refine zw_ic_ge_f 18 22 f13_15 (by decide +kernel) rfl (fun q => absurd (zn_ge (a := 8) (b := t9) (by omega) (by omega) q) (by omega)) ?_
            refine zw_iconst 1 19 f13_18 rfl (by decide +kernel) ?_
            refine zw_goto 23 f13_19 (by decide +kernel) ?_
            refine zw_zreturn f13_23 r13 u13 (by decide +kernel) ⟨_, rfl, ?_⟩
            refine zw_if_eq_f 11 24 f51_8 (by decide +kernel) rfl (by decide +kernel) ?_
            refine zw_aload_n 12 f51_11 rfl rfl ?_
            refine zw_getfield 15 f51_12 rfl g51_18_10 (hb_11 _ _ _ _) rfl ?_
            refine zw_iload_n 16 f51_15 rfl rfl ?_
            refine zw_dup2 17 f51_16 rfl rfl rfl ?_
            refine zw_iaload t9 (A1 16 t9) 18 f51_17 rfl (hb_16 _ _ _ _) (nI_clamp (by omega)) (nI_pos (by omega)) (by omega) rfl ?_
            refine zw_iload_n 19 f51_18 rfl rfl ?_
            refine zw_iadd ((A1 16 t9) + 0) 20 f51_19 rfl rfl ?_
            refine zw_ast t9 _ 21 f51_20 rfl (hb_16 _ _ _ _) (nI_clamp (by omega)) (nI_pos (by omega)) (by omega) (ha_16 _ _ _ _ _) ?_
            refine zw_goto 34 f51_21 (by decide +kernel) ?_
            refine zw_vreturn f51_34 r51 u51 ⟨rfl, ?_⟩
            refine zw_iinc (nI (k + 1)) _ 145 f50_142 rfl (zl1_ne rfl rfl (zl1_ne rfl rfl h4)) (by decide +kernel) (nI_1 _) rfl ?_
            refine zw_goto 30 f50_145 (by decide +kernel) ?_
            have E := mRO_n (frm := P 60) (too := P 61) (amt := P 62) (run := (wRun nv P W)) (lev := W.2.2.2.2.1 v) (v := v) (s := (s.1, s.2.1, s.1 v, 0)) (k := k) (fun q => q.2 hc8)
            exact ih (k + 1) _ _ _ _ _ (KQ.a rfl (KQ.a rfl K0)) (by rw [E]; exact ⟨mC_0 hr.1, hr.2⟩) (zl1_ne rfl rfl (zl1_ne rfl rfl (zl1_ne rfl rfl h0))) (zl1_ne rfl rfl (zl1_ne rfl rfl (zl1_ne rfl rfl h1))) (by rw [E]; exact (zld_s0 (zl1_ne rfl rfl zl1_eq))) (zl1_ne rfl rfl (zl1_ne rfl rfl (zl1_ne rfl rfl h3))) zl1_eq (by omega) (by omega)
        · refine zw_iload 106 f50_104 rfl zl1_eq ?_
          refine zw_goto 110 f50_106 (by decide +kernel) ?_
          refine zw_ast k _ 111 f50_110 rfl (hb_19 _ _ _ _) (nI_clamp (by omega)) (nI_pos (by omega)) (by omega) (ha_19 _ _ _ _ _) ?_
          refine zw_iload_n 112 f50_111 rfl (zl1_ne rfl rfl h2) ?_
          refine zw_aload_n 113 f50_112 rfl (zl1_ne rfl rfl h0) ?_
          refine zw_getfield 116 f50_113 rfl g50_28_10 (hb_11 _ _ _ _) rfl ?_
          refine zw_iload 118 f50_116 rfl (zl1_ne rfl rfl h4) ?_
          refine zw_iaload k (P 62 k) 119 f50_118 rfl (hb_19 _ _ _ _) (nI_clamp (by omega)) (nI_pos (by omega)) (by omega) (if_pos rfl) ?_
          refine zw_isub (((mRO (P 60) (P 61) (P 62) (wRun nv P W) (W.2.2.2.2.1 v) v (s.1, s.2.1, s.1 v, 0) k).2.2.1) - (P 62 k)) 120 f50_119 rfl rfl ?_
          refine zw_istore_n _ 121 f50_120 rfl (by decide +kernel) rfl ?_
          refine zw_aload_n 122 f50_121 rfl (zl1_ne rfl rfl (zl1_ne rfl rfl h0)) ?_
          refine zw_aload_n 123 f50_122 rfl (zl1_ne rfl rfl (zl1_ne rfl rfl h0)) ?_
          refine zw_getfield 126 f50_123 rfl g50_37_10 (hb_11 _ _ _ _) rfl ?_
          refine zw_getfield 129 f50_126 rfl g50_73_4 (hb_1 _ _ _ _) rfl ?_
          refine zw_iload 131 f50_129 rfl (zl1_ne rfl rfl (zl1_ne rfl rfl h4)) ?_
          rcases (hp.2.2.2 k (by omega)).1 with t10q | ⟨t10, t10l, t10n, t10q⟩
          · refine zw_iaload k (-1) 132 f50_131 rfl (hb_10 _ _ _ _) (nI_clamp (by omega)) (nI_pos (by omega)) (by omega) ((congrFun ((K0.2.2.1 10 rfl).trans (hR.2.1 61 (by omega) (by omega))) k).trans t10q) ?_
            refine zw_aload_n 133 f50_132 rfl (zl1_ne rfl rfl (zl1_ne rfl rfl h0)) ?_
            refine zw_getfield 136 f50_133 rfl g50_28_10 (hb_11 _ _ _ _) rfl ?_
            refine zw_iload 138 f50_136 rfl (zl1_ne rfl rfl (zl1_ne rfl rfl h4)) ?_
            refine zw_iaload k (P 62 k) 139 f50_138 rfl (hb_19 _ _ _ _) (nI_clamp (by omega)) (nI_pos (by omega)) (by omega) (if_pos rfl) ?_
            refine zw_virtual_v 142 0 0 [.ref 11, .int (-1), .int (P 62 k)] [(0, .ref 11), (1, .int (-1)), (2, .int (P 62 k))] f50_139 rfl n50_76 k50_76_10 rfl (hb_11 _ _ _ _) (by decide +kernel) (Nat.le_of_ble_eq_true rfl) rfl rfl (by decide +kernel) (by decide +kernel) rfl (Nat.le_of_ble_eq_true rfl) rfl ?_
            refine zw_aload_n 1 f51_0 rfl rfl ?_
            refine zw_getfield 4 f51_1 rfl g51_37_10 (hb_11 _ _ _ _) rfl ?_
            refine zw_iload_n 5 f51_4 rfl rfl ?_
            refine zw_virtual_i 8 0 0 [.ref 1, .int (-1)] [(0, .ref 1), (1, .int (-1))] f51_5 rfl n51_103 k51_103_4 rfl (hb_1 _ _ _ _) (by decide +kernel) (Nat.le_of_ble_eq_true rfl) rfl rfl (by decide +kernel) (by decide +kernel) rfl (Nat.le_of_ble_eq_true rfl) rfl ?_
            refine zw_iload_n 1 f13_0 rfl rfl ?_
            refine zw_if_lt_t 22 f13_1 (by decide +kernel) (by decide +kernel) ?_
            refine zw_iconst 0 23 f13_22 rfl (by decide +kernel) ?_
            refine zw_zreturn f13_23 r13 u13 (by decide +kernel) ⟨_, rfl, ?_⟩
            refine zw_if_eq_t 24 f51_8 (by decide +kernel) (by decide +kernel) ?_
            refine zw_aload_n 25 f51_24 rfl rfl ?_
            refine zw_dup 26 f51_25 rfl rfl ?_
            refine zw_getI (I1 11 7) 29 f51_26 rfl g51_58_10 (hb_11 _ _ _ _) rfl rfl ?_
            refine zw_iload_n 30 f51_29 rfl rfl ?_
            refine zw_iadd ((I1 11 7) + (P 62 k)) 31 f51_30 rfl rfl ?_
            refine zw_put _ 34 f51_31 rfl g51_58_10 (hb_11 _ _ _ _) rfl (Nat.le_of_ble_eq_true rfl) (by decide +kernel) (hi_11_7 _ _ _ _ _) ?_
            refine zw_vreturn f51_34 r51 u51 ⟨rfl, ?_⟩
            refine zw_iinc (nI (k + 1)) _ 145 f50_142 rfl (zl1_ne rfl rfl (zl1_ne rfl rfl h4)) (by decide +kernel) (nI_1 _) rfl ?_
            refine zw_goto 30 f50_145 (by decide +kernel) ?_
            have E := mRO_y (frm := P 60) (too := P 61) (amt := P 62) (run := (wRun nv P W)) (lev := W.2.2.2.2.1 v) (v := v) (s := (s.1, s.2.1, s.1 v, 0)) (k := k) (P 62 k) (-1) t10q (mFl_a hw) (Decidable.of_not_not hc7) hc8
            rw [mGoC_m, mGoD_m] at E
            exact ih (k + 1) _ _ _ _ _ (KQ.i rfl (KQ.a rfl K0)) (by rw [E]; exact ⟨hr.1, congrArg (fun z => z + (P 62 k)) hr.2.1, hr.2.2⟩) (zl1_ne rfl rfl (zl1_ne rfl rfl (zl1_ne rfl rfl h0))) (zl1_ne rfl rfl (zl1_ne rfl rfl (zl1_ne rfl rfl h1))) (by rw [E]; exact (zl1_ne rfl rfl zl1_eq)) (zl1_ne rfl rfl (zl1_ne rfl rfl (zl1_ne rfl rfl h3))) zl1_eq (by omega) (by omega)
          · refine zw_iaload k (nI t10) 132 f50_131 rfl (hb_10 _ _ _ _) (nI_clamp (by omega)) (nI_pos (by omega)) (by omega) ((congrFun ((K0.2.2.1 10 rfl).trans (hR.2.1 61 (by omega) (by omega))) k).trans t10q) ?_
            refine zw_aload_n 133 f50_132 rfl (zl1_ne rfl rfl (zl1_ne rfl rfl h0)) ?_
            refine zw_getfield 136 f50_133 rfl g50_28_10 (hb_11 _ _ _ _) rfl ?_
            refine zw_iload 138 f50_136 rfl (zl1_ne rfl rfl (zl1_ne rfl rfl h4)) ?_
            refine zw_iaload k (P 62 k) 139 f50_138 rfl (hb_19 _ _ _ _) (nI_clamp (by omega)) (nI_pos (by omega)) (by omega) (if_pos rfl) ?_
            refine zw_virtual_v 142 0 0 [.ref 11, .int (nI t10), .int (P 62 k)] [(0, .ref 11), (1, .int (nI t10)), (2, .int (P 62 k))] f50_139 rfl n50_76 k50_76_10 rfl (hb_11 _ _ _ _) (by decide +kernel) (Nat.le_of_ble_eq_true rfl) rfl rfl (by decide +kernel) (by decide +kernel) rfl (Nat.le_of_ble_eq_true rfl) rfl ?_
            refine zw_aload_n 1 f51_0 rfl rfl ?_
            refine zw_getfield 4 f51_1 rfl g51_37_10 (hb_11 _ _ _ _) rfl ?_
            refine zw_iload_n 5 f51_4 rfl rfl ?_
            refine zw_virtual_i 8 0 0 [.ref 1, .int (nI t10)] [(0, .ref 1), (1, .int (nI t10))] f51_5 rfl n51_103 k51_103_4 rfl (hb_1 _ _ _ _) (by decide +kernel) (Nat.le_of_ble_eq_true rfl) rfl rfl (by decide +kernel) (by decide +kernel) rfl (Nat.le_of_ble_eq_true rfl) rfl ?_
            refine zw_iload_n 1 f13_0 rfl rfl ?_
            refine zw_if_lt_f 4 22 f13_1 (by decide +kernel) rfl (nI_pos (by omega)) ?_
            refine zw_iload_n 5 f13_4 rfl rfl ?_
            refine zw_aload_n 6 f13_5 rfl rfl ?_
            refine zw_getI (nI nv) 9 f13_6 rfl g13_39_4 (hb_1 _ _ _ _) rfl ((K0.1 1 0 rfl).trans hR.1.1) ?_
            refine zw_ic_ge_f 12 22 f13_9 (by decide +kernel) rfl (fun q => absurd (zn_ge (a := nv) (b := t10) (by omega) (by omega) q) (by omega)) ?_
            refine zw_iload_n 13 f13_12 rfl rfl ?_
            refine zw_bipush 8 15 f13_13 rfl (by decide +kernel) ?_
            refine zw_ic_ge_f 18 22 f13_15 (by decide +kernel) rfl (fun q => absurd (zn_ge (a := 8) (b := t10) (by omega) (by omega) q) (by omega)) ?_
            refine zw_iconst 1 19 f13_18 rfl (by decide +kernel) ?_
            refine zw_goto 23 f13_19 (by decide +kernel) ?_
            refine zw_zreturn f13_23 r13 u13 (by decide +kernel) ⟨_, rfl, ?_⟩
            refine zw_if_eq_f 11 24 f51_8 (by decide +kernel) rfl (by decide +kernel) ?_
            refine zw_aload_n 12 f51_11 rfl rfl ?_
            refine zw_getfield 15 f51_12 rfl g51_18_10 (hb_11 _ _ _ _) rfl ?_
            refine zw_iload_n 16 f51_15 rfl rfl ?_
            refine zw_dup2 17 f51_16 rfl rfl rfl ?_
            refine zw_iaload t10 (A1 16 t10) 18 f51_17 rfl (hb_16 _ _ _ _) (nI_clamp (by omega)) (nI_pos (by omega)) (by omega) rfl ?_
            refine zw_iload_n 19 f51_18 rfl rfl ?_
            refine zw_iadd ((A1 16 t10) + (P 62 k)) 20 f51_19 rfl rfl ?_
            refine zw_ast t10 _ 21 f51_20 rfl (hb_16 _ _ _ _) (nI_clamp (by omega)) (nI_pos (by omega)) (by omega) (ha_16 _ _ _ _ _) ?_
            refine zw_goto 34 f51_21 (by decide +kernel) ?_
            refine zw_vreturn f51_34 r51 u51 ⟨rfl, ?_⟩
            refine zw_iinc (nI (k + 1)) _ 145 f50_142 rfl (zl1_ne rfl rfl (zl1_ne rfl rfl h4)) (by decide +kernel) (nI_1 _) rfl ?_
            refine zw_goto 30 f50_145 (by decide +kernel) ?_
            have E := mRO_y (frm := P 60) (too := P 61) (amt := P 62) (run := (wRun nv P W)) (lev := W.2.2.2.2.1 v) (v := v) (s := (s.1, s.2.1, s.1 v, 0)) (k := k) (P 62 k) (nI t10) t10q (mFl_a hw) (Decidable.of_not_not hc7) hc8
            rw [mGoC_t (by omega), mGoD_t (by omega)] at E
            exact ih (k + 1) _ _ _ _ _ (KQ.a rfl (KQ.a rfl K0)) (by rw [E]; exact ⟨mC_t hr.1 (by omega), hr.2⟩) (zl1_ne rfl rfl (zl1_ne rfl rfl (zl1_ne rfl rfl h0))) (zl1_ne rfl rfl (zl1_ne rfl rfl (zl1_ne rfl rfl h1))) (by rw [E]; exact (zl1_ne rfl rfl zl1_eq)) (zl1_ne rfl rfl (zl1_ne rfl rfl (zl1_ne rfl rfl h3))) zl1_eq (by omega) (by omega)
set_option maxRecDepth 100000 in
set_option maxHeartbeats 0 in
theorem lcx_rv11_0 (ro : UInt32 → Nat × (Nat → Int32)) (nv np : Nat) (P : Nat → Nat → Int32) (W : qW) (T K : Int) (I : Nat → Nat → Int32) (G : Nat → Nat → Int64) (A : Nat → Nat → Int32) (B : Nat → Nat → Int64) (hR : cRS 11 nv np P W I G A B) (hp : MPa nv np P) (hb : wBo W) (hq : qOw nv np P) (hW : wOk nv T K P W) (v : Nat) (hv : v < nv) (s : (Nat → Int32) × Int32 × (Nat → Int32) × (Nat → Int32)) (hs : cRel 11 I A s v) (hz : s.2.2.2 v = 0) (hw : ¬ 0 < W.2.2.2.2.1 v) : ∀ (n k : Nat) (ls : List (Nat × Value)) (I1 : Nat → Nat → Int32) (G1 : Nat → Nat → Int64) (A1 : Nat → Nat → Int32) (B1 : Nat → Nat → Int64), KQ (fCr 11) (pCr 11) I G A B I1 G1 A1 B1 → ((∀ j, j < 8 → A1 16 j = (mRO (P 60) (P 61) (P 62) (wRun nv P W) (W.2.2.2.2.1 v) v (s.1, s.2.1, s.1 v, 0) k).1 j) ∧ I1 11 7 = (mRO (P 60) (P 61) (P 62) (wRun nv P W) (W.2.2.2.2.1 v) v (s.1, s.2.1, s.1 v, 0) k).2.1 ∧ A1 17 = A 17 ∧ A1 18 = A 18 ∧ I1 11 6 = I 11 6) → zld ls 0 = some (.ref 11) → zld ls 1 = some (.int (nI v)) → zld ls 2 = some (.int ((mRO (P 60) (P 61) (P 62) (wRun nv P W) (W.2.2.2.2.1 v) v (s.1, s.2.1, s.1 v, 0) k).2.2.1)) → zld ls 3 = some (.int 0) → zld ls 4 = some (.int (nI k)) → k ≤ np → np + 1 ≤ k + n → zWp ro 50 30 ls [] (hS I1 G1 A1 B1) 0 0 (fun r h1 => ∃ I2 G2 A2 B2, h1 = hS I2 G2 A2 B2 ∧ KQ (fCr 11) (pCr 11) I G A B I2 G2 A2 B2 ∧ (cRel 11 I2 A2 (mRateOf (P 60) (P 61) (P 62) (wRun nv P W) (P 59) (P 54) (W.2.2.2.2.1) W.1 np v s) (v + 1) ∧ I2 11 6 = I 11 6) ∧ r = none) := by
  have h8 := hp.1
  have h14 := hp.2.1
  have hto : ∀ p, p < np → P 60 p = nI v → mTo nv (v + 1) (P 61 p) := fun p h1 h2 => (MPa.e hp W (fun _ => 0) 0 0).ht v p hv h1 h2
  intro n
  induction n with
  | zero =>
    intro k ls I1 G1 A1 B1 _ _ _ _ _ _ _ a c
    exact absurd c (by omega)
  | succ n ih =>
    intro k ls I1 G1 A1 B1 K0 hr h0 h1 h2 h3 h4 hk1 hk2
    refine zw_iload 32 f50_30 rfl h4 ?_
    refine zw_aload_n 33 f50_32 rfl h0 ?_
    refine zw_getfield 36 f50_33 rfl g50_37_10 (hb_11 _ _ _ _) rfl ?_
    refine zw_getI (nI np) 39 f50_36 rfl g50_61_4 (hb_1 _ _ _ _) rfl ((K0.1 1 1 rfl).trans hR.1.2) ?_
    refine zw_ic_ge 42 148 f50_39 (by decide +kernel) rfl (fun hc1 => ?_) (fun hc1 => ?_)
    · have hn_hc1 : np ≤ k := zn_ge (by omega) (by omega) hc1
      refine zw_aload_n 149 f50_148 rfl h0 ?_
      refine zw_getfield 152 f50_149 rfl g50_25_10 (hb_11 _ _ _ _) rfl ?_
      refine zw_iload_n 153 f50_152 rfl h1 ?_
      refine zw_aload_n 154 f50_153 rfl h0 ?_
      refine zw_iload_n 155 f50_154 rfl h1 ?_
      refine zw_virtual_i 158 0 0 [.ref 11, .int (nI v)] [(0, .ref 11), (1, .int (nI v))] f50_155 rfl n50_97 k50_97_10 rfl (hb_11 _ _ _ _) (by decide +kernel) (Nat.le_of_ble_eq_true rfl) rfl rfl (by decide +kernel) (by decide +kernel) rfl (Nat.le_of_ble_eq_true rfl) rfl ?_
      refine zw_aload_n 1 f52_0 rfl rfl ?_
      refine zw_getfield 4 f52_1 rfl g52_12_10 (hb_11 _ _ _ _) rfl ?_
      refine zw_getfield 7 f52_4 rfl g52_87_9 (hb_12 _ _ _ _) rfl ?_
      refine zw_iload_n 8 f52_7 rfl rfl ?_
      refine zw_laload v ((W.2.2.2.2.1) v) 9 f52_8 rfl (hb_13 _ _ _ _) (nI_clamp (by omega)) (nI_pos (by omega)) (by omega) (congrFun (((K0.2.2.2 13 rfl).trans hR.2.2.2.1)) v) ?_
      refine zw_aload_n 10 f52_9 rfl rfl ?_
      refine zw_getfield 13 f52_10 rfl g52_37_10 (hb_11 _ _ _ _) rfl ?_
      refine zw_getfield 16 f52_13 rfl g52_106_4 (hb_1 _ _ _ _) rfl ?_
      refine zw_iload_n 17 f52_16 rfl rfl ?_
      refine zw_iaload v (P 54 v) 18 f52_17 rfl (hb_3 _ _ _ _) (nI_clamp (by omega)) (nI_pos (by omega)) (by omega) (congrFun (((K0.2.2.1 3 rfl).trans (hR.2.1 54 (by omega) (by omega)))) v) ?_
      refine zw_i2l (Int32.toInt64 (P 54 v)) 19 f52_18 rfl rfl ?_
      refine zw_aload_n 20 f52_19 rfl rfl ?_
      refine zw_getfield 23 f52_20 rfl g52_12_10 (hb_11 _ _ _ _) rfl ?_
      refine zw_getG W.1 26 f52_23 rfl g52_109_9 (hb_12 _ _ _ _) rfl ((K0.2.1 12 0 rfl).trans hR.2.2.1.1) ?_
      refine zw_lmul ((Int32.toInt64 (P 54 v)) * W.1) 27 f52_26 rfl rfl ?_
      refine zw_lcmp (lg_cmp ((W.2.2.2.2.1) v) ((Int32.toInt64 (P 54 v)) * W.1)) 28 f52_27 rfl rfl ?_
      refine zw_if_lt 31 35 f52_28 (by decide +kernel) rfl (fun hc2 => ?_) (fun hc2 => ?_)
      · refine zw_iconst 0 36 f52_35 rfl (by decide +kernel) ?_
        refine zw_zreturn f52_36 r52 u52 (by decide +kernel) ⟨_, rfl, ?_⟩
        refine zw_if_eq_t 169 f50_158 (by decide +kernel) (by decide +kernel) ?_
        refine zw_iconst 0 170 f50_169 rfl (by decide +kernel) ?_
        refine zw_ast v _ 171 f50_170 rfl (hb_18 _ _ _ _) (nI_clamp (by omega)) (nI_pos (by omega)) (by omega) (ha_18 _ _ _ _ _) ?_
        refine zw_aload_n 172 f50_171 rfl h0 ?_
        refine zw_getfield 175 f50_172 rfl g50_22_10 (hb_11 _ _ _ _) rfl ?_
        refine zw_iload_n 176 f50_175 rfl h1 ?_
        refine zw_iload_n 177 f50_176 rfl h2 ?_
        refine zw_aload_n 178 f50_177 rfl h0 ?_
        refine zw_getfield 181 f50_178 rfl g50_25_10 (hb_11 _ _ _ _) rfl ?_
        refine zw_iload_n 182 f50_181 rfl h1 ?_
        refine zw_iaload v 0 183 f50_182 rfl (hb_18 _ _ _ _) (nI_clamp (by omega)) (nI_pos (by omega)) (by omega) (if_pos rfl) ?_
        refine zw_isub (((mRO (P 60) (P 61) (P 62) (wRun nv P W) (W.2.2.2.2.1 v) v (s.1, s.2.1, s.1 v, 0) k).2.2.1) - 0) 184 f50_183 rfl rfl ?_
        refine zw_ast v _ 185 f50_184 rfl (hb_17 _ _ _ _) (nI_clamp (by omega)) (nI_pos (by omega)) (by omega) (ha_17 _ _ _ _ _) ?_
        refine zw_aload_n 186 f50_185 rfl h0 ?_
        refine zw_aload_n 187 f50_186 rfl h0 ?_
        refine zw_getfield 190 f50_187 rfl g50_37_10 (hb_11 _ _ _ _) rfl ?_
        refine zw_getfield 193 f50_190 rfl g50_100_4 (hb_1 _ _ _ _) rfl ?_
        refine zw_iload_n 194 f50_193 rfl h1 ?_
        rcases (hp.2.2.1 v (by omega)).2.2.2.2.2 with t3q | ⟨t3, t3l, t3n, t3q⟩
        · refine zw_iaload v (-1) 195 f50_194 rfl (hb_8 _ _ _ _) (nI_clamp (by omega)) (nI_pos (by omega)) (by omega) ((congrFun ((K0.2.2.1 8 rfl).trans (hR.2.1 59 (by omega) (by omega))) v).trans t3q) ?_
          refine zw_aload_n 196 f50_195 rfl h0 ?_
          refine zw_getfield 199 f50_196 rfl g50_25_10 (hb_11 _ _ _ _) rfl ?_
          refine zw_iload_n 200 f50_199 rfl h1 ?_
          refine zw_iaload v 0 201 f50_200 rfl (hb_18 _ _ _ _) (nI_clamp (by omega)) (nI_pos (by omega)) (by omega) (if_pos rfl) ?_
          refine zw_virtual_v 204 0 0 [.ref 11, .int (-1), .int 0] [(0, .ref 11), (1, .int (-1)), (2, .int 0)] f50_201 rfl n50_76 k50_76_10 rfl (hb_11 _ _ _ _) (by decide +kernel) (Nat.le_of_ble_eq_true rfl) rfl rfl (by decide +kernel) (by decide +kernel) rfl (Nat.le_of_ble_eq_true rfl) rfl ?_
          refine zw_aload_n 1 f51_0 rfl rfl ?_
          refine zw_getfield 4 f51_1 rfl g51_37_10 (hb_11 _ _ _ _) rfl ?_
          refine zw_iload_n 5 f51_4 rfl rfl ?_
          refine zw_virtual_i 8 0 0 [.ref 1, .int (-1)] [(0, .ref 1), (1, .int (-1))] f51_5 rfl n51_103 k51_103_4 rfl (hb_1 _ _ _ _) (by decide +kernel) (Nat.le_of_ble_eq_true rfl) rfl rfl (by decide +kernel) (by decide +kernel) rfl (Nat.le_of_ble_eq_true rfl) rfl ?_
          refine zw_iload_n 1 f13_0 rfl rfl ?_
          refine zw_if_lt_t 22 f13_1 (by decide +kernel) (by decide +kernel) ?_
          refine zw_iconst 0 23 f13_22 rfl (by decide +kernel) ?_
          refine zw_zreturn f13_23 r13 u13 (by decide +kernel) ⟨_, rfl, ?_⟩
          refine zw_if_eq_t 24 f51_8 (by decide +kernel) (by decide +kernel) ?_
          refine zw_aload_n 25 f51_24 rfl rfl ?_
          refine zw_dup 26 f51_25 rfl rfl ?_
          refine zw_getI (I1 11 7) 29 f51_26 rfl g51_58_10 (hb_11 _ _ _ _) rfl rfl ?_
          refine zw_iload_n 30 f51_29 rfl rfl ?_
          refine zw_iadd ((I1 11 7) + 0) 31 f51_30 rfl rfl ?_
          refine zw_put _ 34 f51_31 rfl g51_58_10 (hb_11 _ _ _ _) rfl (Nat.le_of_ble_eq_true rfl) (by decide +kernel) (hi_11_7 _ _ _ _ _) ?_
          refine zw_vreturn f51_34 r51 u51 ⟨rfl, ?_⟩
          refine zw_vreturn f50_204 r50 u50 ?_
          have hk : k = np := by omega
          have hE : (mRO (P 60) (P 61) (P 62) (wRun nv P W) (W.2.2.2.2.1 v) v (s.1, s.2.1, s.1 v, 0) np) = (mRO (P 60) (P 61) (P 62) (wRun nv P W) (W.2.2.2.2.1 v) v (s.1, s.2.1, s.1 v, 0) k) := by rw [hk]
          have EL := (mRO_left (nv := nv) (np := np) (frm := P 60) (too := P 61) (amt := P 62) (run := (wRun nv P W)) (lev := W.2.2.2.2.1 v) (v := v) (s := s) h8 (fun p hpp z => hto p hpp z) k (by omega)).2
          have E := mRateOf_n (over := P 59) (brim := P 54) (g := W.1) (lev := W.2.2.2.2.1) (s := s) hE (fun q => absurd ((lg_cmp_lt _ _).mp hc2) (by rw [show W.2.2.2.2.1 v = _ from q.2]; exact i64_irr))
          rw [← EL] at E
          refine ⟨_, _, _, _, rfl, (KQ.i rfl (KQ.a rfl (KQ.a rfl K0))), ⟨?_, hr.2.2.2.2⟩, rfl⟩
          rw [E]
          exact ⟨hr.1, (Int32.add_zero _).trans hr.2.1, mC_n (fun j hj => (congrFun hr.2.2.1 j).trans (hs.2.2.1 j hj)) (Int32.sub_zero _), mC_k (fun j hj => (congrFun hr.2.2.2.1 j).trans (hs.2.2.2 j hj)) hz.symm⟩
        · refine zw_iaload v (nI t3) 195 f50_194 rfl (hb_8 _ _ _ _) (nI_clamp (by omega)) (nI_pos (by omega)) (by omega) ((congrFun ((K0.2.2.1 8 rfl).trans (hR.2.1 59 (by omega) (by omega))) v).trans t3q) ?_
          refine zw_aload_n 196 f50_195 rfl h0 ?_
          refine zw_getfield 199 f50_196 rfl g50_25_10 (hb_11 _ _ _ _) rfl ?_
          refine zw_iload_n 200 f50_199 rfl h1 ?_
          refine zw_iaload v 0 201 f50_200 rfl (hb_18 _ _ _ _) (nI_clamp (by omega)) (nI_pos (by omega)) (by omega) (if_pos rfl) ?_
          refine zw_virtual_v 204 0 0 [.ref 11, .int (nI t3), .int 0] [(0, .ref 11), (1, .int (nI t3)), (2, .int 0)] f50_201 rfl n50_76 k50_76_10 rfl (hb_11 _ _ _ _) (by decide +kernel) (Nat.le_of_ble_eq_true rfl) rfl rfl (by decide +kernel) (by decide +kernel) rfl (Nat.le_of_ble_eq_true rfl) rfl ?_
          refine zw_aload_n 1 f51_0 rfl rfl ?_
          refine zw_getfield 4 f51_1 rfl g51_37_10 (hb_11 _ _ _ _) rfl ?_
          refine zw_iload_n 5 f51_4 rfl rfl ?_
          refine zw_virtual_i 8 0 0 [.ref 1, .int (nI t3)] [(0, .ref 1), (1, .int (nI t3))] f51_5 rfl n51_103 k51_103_4 rfl (hb_1 _ _ _ _) (by decide +kernel) (Nat.le_of_ble_eq_true rfl) rfl rfl (by decide +kernel) (by decide +kernel) rfl (Nat.le_of_ble_eq_true rfl) rfl ?_
          refine zw_iload_n 1 f13_0 rfl rfl ?_
          refine zw_if_lt_f 4 22 f13_1 (by decide +kernel) rfl (nI_pos (by omega)) ?_
          refine zw_iload_n 5 f13_4 rfl rfl ?_
          refine zw_aload_n 6 f13_5 rfl rfl ?_
          refine zw_getI (nI nv) 9 f13_6 rfl g13_39_4 (hb_1 _ _ _ _) rfl ((K0.1 1 0 rfl).trans hR.1.1) ?_
          refine zw_ic_ge_f 12 22 f13_9 (by decide +kernel) rfl (fun q => absurd (zn_ge (a := nv) (b := t3) (by omega) (by omega) q) (by omega)) ?_
          refine zw_iload_n 13 f13_12 rfl rfl ?_
          refine zw_bipush 8 15 f13_13 rfl (by decide +kernel) ?_
          refine zw_ic_ge_f 18 22 f13_15 (by decide +kernel) rfl (fun q => absurd (zn_ge (a := 8) (b := t3) (by omega) (by omega) q) (by omega)) ?_
          refine zw_iconst 1 19 f13_18 rfl (by decide +kernel) ?_
          refine zw_goto 23 f13_19 (by decide +kernel) ?_
          refine zw_zreturn f13_23 r13 u13 (by decide +kernel) ⟨_, rfl, ?_⟩
          refine zw_if_eq_f 11 24 f51_8 (by decide +kernel) rfl (by decide +kernel) ?_
          refine zw_aload_n 12 f51_11 rfl rfl ?_
          refine zw_getfield 15 f51_12 rfl g51_18_10 (hb_11 _ _ _ _) rfl ?_
          refine zw_iload_n 16 f51_15 rfl rfl ?_
          refine zw_dup2 17 f51_16 rfl rfl rfl ?_
          refine zw_iaload t3 (A1 16 t3) 18 f51_17 rfl (hb_16 _ _ _ _) (nI_clamp (by omega)) (nI_pos (by omega)) (by omega) rfl ?_
          refine zw_iload_n 19 f51_18 rfl rfl ?_
          refine zw_iadd ((A1 16 t3) + 0) 20 f51_19 rfl rfl ?_
          refine zw_ast t3 _ 21 f51_20 rfl (hb_16 _ _ _ _) (nI_clamp (by omega)) (nI_pos (by omega)) (by omega) (ha_16 _ _ _ _ _) ?_
          refine zw_goto 34 f51_21 (by decide +kernel) ?_
          refine zw_vreturn f51_34 r51 u51 ⟨rfl, ?_⟩
          refine zw_vreturn f50_204 r50 u50 ?_
          have hk : k = np := by omega
          have hE : (mRO (P 60) (P 61) (P 62) (wRun nv P W) (W.2.2.2.2.1 v) v (s.1, s.2.1, s.1 v, 0) np) = (mRO (P 60) (P 61) (P 62) (wRun nv P W) (W.2.2.2.2.1 v) v (s.1, s.2.1, s.1 v, 0) k) := by rw [hk]
          have EL := (mRO_left (nv := nv) (np := np) (frm := P 60) (too := P 61) (amt := P 62) (run := (wRun nv P W)) (lev := W.2.2.2.2.1 v) (v := v) (s := s) h8 (fun p hpp z => hto p hpp z) k (by omega)).2
          have E := mRateOf_n (over := P 59) (brim := P 54) (g := W.1) (lev := W.2.2.2.2.1) (s := s) hE (fun q => absurd ((lg_cmp_lt _ _).mp hc2) (by rw [show W.2.2.2.2.1 v = _ from q.2]; exact i64_irr))
          rw [← EL] at E
          refine ⟨_, _, _, _, rfl, (KQ.a rfl (KQ.a rfl (KQ.a rfl K0))), ⟨?_, hr.2.2.2.2⟩, rfl⟩
          rw [E]
          exact ⟨mC_0 hr.1, hr.2.1, mC_n (fun j hj => (congrFun hr.2.2.1 j).trans (hs.2.2.1 j hj)) (Int32.sub_zero _), mC_k (fun j hj => (congrFun hr.2.2.2.1 j).trans (hs.2.2.2 j hj)) hz.symm⟩
      · refine zw_iconst 1 32 f52_31 rfl (by decide +kernel) ?_
        refine zw_goto 36 f52_32 (by decide +kernel) ?_
        refine zw_zreturn f52_36 r52 u52 (by decide +kernel) ⟨_, rfl, ?_⟩
        refine zw_if_eq_f 161 169 f50_158 (by decide +kernel) rfl (by decide +kernel) ?_
        refine zw_iload_n 162 f50_161 rfl h2 ?_
        refine zw_if_le 165 169 f50_162 (by decide +kernel) rfl (fun hc4 => ?_) (fun hc4 => ?_)
        · refine zw_iconst 0 170 f50_169 rfl (by decide +kernel) ?_
          refine zw_ast v _ 171 f50_170 rfl (hb_18 _ _ _ _) (nI_clamp (by omega)) (nI_pos (by omega)) (by omega) (ha_18 _ _ _ _ _) ?_
          refine zw_aload_n 172 f50_171 rfl h0 ?_
          refine zw_getfield 175 f50_172 rfl g50_22_10 (hb_11 _ _ _ _) rfl ?_
          refine zw_iload_n 176 f50_175 rfl h1 ?_
          refine zw_iload_n 177 f50_176 rfl h2 ?_
          refine zw_aload_n 178 f50_177 rfl h0 ?_
          refine zw_getfield 181 f50_178 rfl g50_25_10 (hb_11 _ _ _ _) rfl ?_
          refine zw_iload_n 182 f50_181 rfl h1 ?_
          refine zw_iaload v 0 183 f50_182 rfl (hb_18 _ _ _ _) (nI_clamp (by omega)) (nI_pos (by omega)) (by omega) (if_pos rfl) ?_
          refine zw_isub (((mRO (P 60) (P 61) (P 62) (wRun nv P W) (W.2.2.2.2.1 v) v (s.1, s.2.1, s.1 v, 0) k).2.2.1) - 0) 184 f50_183 rfl rfl ?_
          refine zw_ast v _ 185 f50_184 rfl (hb_17 _ _ _ _) (nI_clamp (by omega)) (nI_pos (by omega)) (by omega) (ha_17 _ _ _ _ _) ?_
          refine zw_aload_n 186 f50_185 rfl h0 ?_
          refine zw_aload_n 187 f50_186 rfl h0 ?_
          refine zw_getfield 190 f50_187 rfl g50_37_10 (hb_11 _ _ _ _) rfl ?_
          refine zw_getfield 193 f50_190 rfl g50_100_4 (hb_1 _ _ _ _) rfl ?_
          refine zw_iload_n 194 f50_193 rfl h1 ?_
          rcases (hp.2.2.1 v (by omega)).2.2.2.2.2 with t5q | ⟨t5, t5l, t5n, t5q⟩
          · refine zw_iaload v (-1) 195 f50_194 rfl (hb_8 _ _ _ _) (nI_clamp (by omega)) (nI_pos (by omega)) (by omega) ((congrFun ((K0.2.2.1 8 rfl).trans (hR.2.1 59 (by omega) (by omega))) v).trans t5q) ?_
            refine zw_aload_n 196 f50_195 rfl h0 ?_
            refine zw_getfield 199 f50_196 rfl g50_25_10 (hb_11 _ _ _ _) rfl ?_
            refine zw_iload_n 200 f50_199 rfl h1 ?_
            refine zw_iaload v 0 201 f50_200 rfl (hb_18 _ _ _ _) (nI_clamp (by omega)) (nI_pos (by omega)) (by omega) (if_pos rfl) ?_
            refine zw_virtual_v 204 0 0 [.ref 11, .int (-1), .int 0] [(0, .ref 11), (1, .int (-1)), (2, .int 0)] f50_201 rfl n50_76 k50_76_10 rfl (hb_11 _ _ _ _) (by decide +kernel) (Nat.le_of_ble_eq_true rfl) rfl rfl (by decide +kernel) (by decide +kernel) rfl (Nat.le_of_ble_eq_true rfl) rfl ?_
            refine zw_aload_n 1 f51_0 rfl rfl ?_
            refine zw_getfield 4 f51_1 rfl g51_37_10 (hb_11 _ _ _ _) rfl ?_
            refine zw_iload_n 5 f51_4 rfl rfl ?_
            refine zw_virtual_i 8 0 0 [.ref 1, .int (-1)] [(0, .ref 1), (1, .int (-1))] f51_5 rfl n51_103 k51_103_4 rfl (hb_1 _ _ _ _) (by decide +kernel) (Nat.le_of_ble_eq_true rfl) rfl rfl (by decide +kernel) (by decide +kernel) rfl (Nat.le_of_ble_eq_true rfl) rfl ?_
            refine zw_iload_n 1 f13_0 rfl rfl ?_
            refine zw_if_lt_t 22 f13_1 (by decide +kernel) (by decide +kernel) ?_
            refine zw_iconst 0 23 f13_22 rfl (by decide +kernel) ?_
            refine zw_zreturn f13_23 r13 u13 (by decide +kernel) ⟨_, rfl, ?_⟩
            refine zw_if_eq_t 24 f51_8 (by decide +kernel) (by decide +kernel) ?_
            refine zw_aload_n 25 f51_24 rfl rfl ?_
            refine zw_dup 26 f51_25 rfl rfl ?_
            refine zw_getI (I1 11 7) 29 f51_26 rfl g51_58_10 (hb_11 _ _ _ _) rfl rfl ?_
            refine zw_iload_n 30 f51_29 rfl rfl ?_
            refine zw_iadd ((I1 11 7) + 0) 31 f51_30 rfl rfl ?_
            refine zw_put _ 34 f51_31 rfl g51_58_10 (hb_11 _ _ _ _) rfl (Nat.le_of_ble_eq_true rfl) (by decide +kernel) (hi_11_7 _ _ _ _ _) ?_
            refine zw_vreturn f51_34 r51 u51 ⟨rfl, ?_⟩
            refine zw_vreturn f50_204 r50 u50 ?_
            have hk : k = np := by omega
            have hE : (mRO (P 60) (P 61) (P 62) (wRun nv P W) (W.2.2.2.2.1 v) v (s.1, s.2.1, s.1 v, 0) np) = (mRO (P 60) (P 61) (P 62) (wRun nv P W) (W.2.2.2.2.1 v) v (s.1, s.2.1, s.1 v, 0) k) := by rw [hk]
            have EL := (mRO_left (nv := nv) (np := np) (frm := P 60) (too := P 61) (amt := P 62) (run := (wRun nv P W)) (lev := W.2.2.2.2.1 v) (v := v) (s := s) h8 (fun p hpp z => hto p hpp z) k (by omega)).2
            have E := mRateOf_n (over := P 59) (brim := P 54) (g := W.1) (lev := W.2.2.2.2.1) (s := s) hE (fun q => absurd q.1 (by rw [← EL]; exact Int32.not_lt.mpr hc4))
            rw [← EL] at E
            refine ⟨_, _, _, _, rfl, (KQ.i rfl (KQ.a rfl (KQ.a rfl K0))), ⟨?_, hr.2.2.2.2⟩, rfl⟩
            rw [E]
            exact ⟨hr.1, (Int32.add_zero _).trans hr.2.1, mC_n (fun j hj => (congrFun hr.2.2.1 j).trans (hs.2.2.1 j hj)) (Int32.sub_zero _), mC_k (fun j hj => (congrFun hr.2.2.2.1 j).trans (hs.2.2.2 j hj)) hz.symm⟩
          · refine zw_iaload v (nI t5) 195 f50_194 rfl (hb_8 _ _ _ _) (nI_clamp (by omega)) (nI_pos (by omega)) (by omega) ((congrFun ((K0.2.2.1 8 rfl).trans (hR.2.1 59 (by omega) (by omega))) v).trans t5q) ?_
            refine zw_aload_n 196 f50_195 rfl h0 ?_
            refine zw_getfield 199 f50_196 rfl g50_25_10 (hb_11 _ _ _ _) rfl ?_
            refine zw_iload_n 200 f50_199 rfl h1 ?_
            refine zw_iaload v 0 201 f50_200 rfl (hb_18 _ _ _ _) (nI_clamp (by omega)) (nI_pos (by omega)) (by omega) (if_pos rfl) ?_
            refine zw_virtual_v 204 0 0 [.ref 11, .int (nI t5), .int 0] [(0, .ref 11), (1, .int (nI t5)), (2, .int 0)] f50_201 rfl n50_76 k50_76_10 rfl (hb_11 _ _ _ _) (by decide +kernel) (Nat.le_of_ble_eq_true rfl) rfl rfl (by decide +kernel) (by decide +kernel) rfl (Nat.le_of_ble_eq_true rfl) rfl ?_
            refine zw_aload_n 1 f51_0 rfl rfl ?_
            refine zw_getfield 4 f51_1 rfl g51_37_10 (hb_11 _ _ _ _) rfl ?_
            refine zw_iload_n 5 f51_4 rfl rfl ?_
            refine zw_virtual_i 8 0 0 [.ref 1, .int (nI t5)] [(0, .ref 1), (1, .int (nI t5))] f51_5 rfl n51_103 k51_103_4 rfl (hb_1 _ _ _ _) (by decide +kernel) (Nat.le_of_ble_eq_true rfl) rfl rfl (by decide +kernel) (by decide +kernel) rfl (Nat.le_of_ble_eq_true rfl) rfl ?_
            refine zw_iload_n 1 f13_0 rfl rfl ?_
            refine zw_if_lt_f 4 22 f13_1 (by decide +kernel) rfl (nI_pos (by omega)) ?_
            refine zw_iload_n 5 f13_4 rfl rfl ?_
            refine zw_aload_n 6 f13_5 rfl rfl ?_
            refine zw_getI (nI nv) 9 f13_6 rfl g13_39_4 (hb_1 _ _ _ _) rfl ((K0.1 1 0 rfl).trans hR.1.1) ?_
            refine zw_ic_ge_f 12 22 f13_9 (by decide +kernel) rfl (fun q => absurd (zn_ge (a := nv) (b := t5) (by omega) (by omega) q) (by omega)) ?_
            refine zw_iload_n 13 f13_12 rfl rfl ?_
            refine zw_bipush 8 15 f13_13 rfl (by decide +kernel) ?_
            refine zw_ic_ge_f 18 22 f13_15 (by decide +kernel) rfl (fun q => absurd (zn_ge (a := 8) (b := t5) (by omega) (by omega) q) (by omega)) ?_
            refine zw_iconst 1 19 f13_18 rfl (by decide +kernel) ?_
            refine zw_goto 23 f13_19 (by decide +kernel) ?_
            refine zw_zreturn f13_23 r13 u13 (by decide +kernel) ⟨_, rfl, ?_⟩
            refine zw_if_eq_f 11 24 f51_8 (by decide +kernel) rfl (by decide +kernel) ?_
            refine zw_aload_n 12 f51_11 rfl rfl ?_
            refine zw_getfield 15 f51_12 rfl g51_18_10 (hb_11 _ _ _ _) rfl ?_
            refine zw_iload_n 16 f51_15 rfl rfl ?_
            refine zw_dup2 17 f51_16 rfl rfl rfl ?_
            refine zw_iaload t5 (A1 16 t5) 18 f51_17 rfl (hb_16 _ _ _ _) (nI_clamp (by omega)) (nI_pos (by omega)) (by omega) rfl ?_
            refine zw_iload_n 19 f51_18 rfl rfl ?_
            refine zw_iadd ((A1 16 t5) + 0) 20 f51_19 rfl rfl ?_
            refine zw_ast t5 _ 21 f51_20 rfl (hb_16 _ _ _ _) (nI_clamp (by omega)) (nI_pos (by omega)) (by omega) (ha_16 _ _ _ _ _) ?_
            refine zw_goto 34 f51_21 (by decide +kernel) ?_
            refine zw_vreturn f51_34 r51 u51 ⟨rfl, ?_⟩
            refine zw_vreturn f50_204 r50 u50 ?_
            have hk : k = np := by omega
            have hE : (mRO (P 60) (P 61) (P 62) (wRun nv P W) (W.2.2.2.2.1 v) v (s.1, s.2.1, s.1 v, 0) np) = (mRO (P 60) (P 61) (P 62) (wRun nv P W) (W.2.2.2.2.1 v) v (s.1, s.2.1, s.1 v, 0) k) := by rw [hk]
            have EL := (mRO_left (nv := nv) (np := np) (frm := P 60) (too := P 61) (amt := P 62) (run := (wRun nv P W)) (lev := W.2.2.2.2.1 v) (v := v) (s := s) h8 (fun p hpp z => hto p hpp z) k (by omega)).2
            have E := mRateOf_n (over := P 59) (brim := P 54) (g := W.1) (lev := W.2.2.2.2.1) (s := s) hE (fun q => absurd q.1 (by rw [← EL]; exact Int32.not_lt.mpr hc4))
            rw [← EL] at E
            refine ⟨_, _, _, _, rfl, (KQ.a rfl (KQ.a rfl (KQ.a rfl K0))), ⟨?_, hr.2.2.2.2⟩, rfl⟩
            rw [E]
            exact ⟨mC_0 hr.1, hr.2.1, mC_n (fun j hj => (congrFun hr.2.2.1 j).trans (hs.2.2.1 j hj)) (Int32.sub_zero _), mC_k (fun j hj => (congrFun hr.2.2.2.1 j).trans (hs.2.2.2 j hj)) hz.symm⟩
        · refine zw_iload_n 166 f50_165 rfl h2 ?_
          refine zw_goto 170 f50_166 (by decide +kernel) ?_
          refine zw_ast v _ 171 f50_170 rfl (hb_18 _ _ _ _) (nI_clamp (by omega)) (nI_pos (by omega)) (by omega) (ha_18 _ _ _ _ _) ?_
          refine zw_aload_n 172 f50_171 rfl h0 ?_
          refine zw_getfield 175 f50_172 rfl g50_22_10 (hb_11 _ _ _ _) rfl ?_
          refine zw_iload_n 176 f50_175 rfl h1 ?_
          refine zw_iload_n 177 f50_176 rfl h2 ?_
          refine zw_aload_n 178 f50_177 rfl h0 ?_
          refine zw_getfield 181 f50_178 rfl g50_25_10 (hb_11 _ _ _ _) rfl ?_
          refine zw_iload_n 182 f50_181 rfl h1 ?_
          refine zw_iaload v ((mRO (P 60) (P 61) (P 62) (wRun nv P W) (W.2.2.2.2.1 v) v (s.1, s.2.1, s.1 v, 0) k).2.2.1) 183 f50_182 rfl (hb_18 _ _ _ _) (nI_clamp (by omega)) (nI_pos (by omega)) (by omega) (if_pos rfl) ?_
          refine zw_isub (((mRO (P 60) (P 61) (P 62) (wRun nv P W) (W.2.2.2.2.1 v) v (s.1, s.2.1, s.1 v, 0) k).2.2.1) - ((mRO (P 60) (P 61) (P 62) (wRun nv P W) (W.2.2.2.2.1 v) v (s.1, s.2.1, s.1 v, 0) k).2.2.1)) 184 f50_183 rfl rfl ?_
          refine zw_ast v _ 185 f50_184 rfl (hb_17 _ _ _ _) (nI_clamp (by omega)) (nI_pos (by omega)) (by omega) (ha_17 _ _ _ _ _) ?_
          refine zw_aload_n 186 f50_185 rfl h0 ?_
          refine zw_aload_n 187 f50_186 rfl h0 ?_
          refine zw_getfield 190 f50_187 rfl g50_37_10 (hb_11 _ _ _ _) rfl ?_
          refine zw_getfield 193 f50_190 rfl g50_100_4 (hb_1 _ _ _ _) rfl ?_
          refine zw_iload_n 194 f50_193 rfl h1 ?_
          rcases (hp.2.2.1 v (by omega)).2.2.2.2.2 with t6q | ⟨t6, t6l, t6n, t6q⟩
          · refine zw_iaload v (-1) 195 f50_194 rfl (hb_8 _ _ _ _) (nI_clamp (by omega)) (nI_pos (by omega)) (by omega) ((congrFun ((K0.2.2.1 8 rfl).trans (hR.2.1 59 (by omega) (by omega))) v).trans t6q) ?_
            refine zw_aload_n 196 f50_195 rfl h0 ?_
            refine zw_getfield 199 f50_196 rfl g50_25_10 (hb_11 _ _ _ _) rfl ?_
            refine zw_iload_n 200 f50_199 rfl h1 ?_
            refine zw_iaload v ((mRO (P 60) (P 61) (P 62) (wRun nv P W) (W.2.2.2.2.1 v) v (s.1, s.2.1, s.1 v, 0) k).2.2.1) 201 f50_200 rfl (hb_18 _ _ _ _) (nI_clamp (by omega)) (nI_pos (by omega)) (by omega) (if_pos rfl) ?_
            refine zw_virtual_v 204 0 0 [.ref 11, .int (-1), .int ((mRO (P 60) (P 61) (P 62) (wRun nv P W) (W.2.2.2.2.1 v) v (s.1, s.2.1, s.1 v, 0) k).2.2.1)] [(0, .ref 11), (1, .int (-1)), (2, .int ((mRO (P 60) (P 61) (P 62) (wRun nv P W) (W.2.2.2.2.1 v) v (s.1, s.2.1, s.1 v, 0) k).2.2.1))] f50_201 rfl n50_76 k50_76_10 rfl (hb_11 _ _ _ _) (by decide +kernel) (Nat.le_of_ble_eq_true rfl) rfl rfl (by decide +kernel) (by decide +kernel) rfl (Nat.le_of_ble_eq_true rfl) rfl ?_
            refine zw_aload_n 1 f51_0 rfl rfl ?_
            refine zw_getfield 4 f51_1 rfl g51_37_10 (hb_11 _ _ _ _) rfl ?_
            refine zw_iload_n 5 f51_4 rfl rfl ?_
            refine zw_virtual_i 8 0 0 [.ref 1, .int (-1)] [(0, .ref 1), (1, .int (-1))] f51_5 rfl n51_103 k51_103_4 rfl (hb_1 _ _ _ _) (by decide +kernel) (Nat.le_of_ble_eq_true rfl) rfl rfl (by decide +kernel) (by decide +kernel) rfl (Nat.le_of_ble_eq_true rfl) rfl ?_
            refine zw_iload_n 1 f13_0 rfl rfl ?_
            refine zw_if_lt_t 22 f13_1 (by decide +kernel) (by decide +kernel) ?_
            refine zw_iconst 0 23 f13_22 rfl (by decide +kernel) ?_
            refine zw_zreturn f13_23 r13 u13 (by decide +kernel) ⟨_, rfl, ?_⟩
            refine zw_if_eq_t 24 f51_8 (by decide +kernel) (by decide +kernel) ?_
            refine zw_aload_n 25 f51_24 rfl rfl ?_
            refine zw_dup 26 f51_25 rfl rfl ?_
            refine zw_getI (I1 11 7) 29 f51_26 rfl g51_58_10 (hb_11 _ _ _ _) rfl rfl ?_
            refine zw_iload_n 30 f51_29 rfl rfl ?_
            refine zw_iadd ((I1 11 7) + ((mRO (P 60) (P 61) (P 62) (wRun nv P W) (W.2.2.2.2.1 v) v (s.1, s.2.1, s.1 v, 0) k).2.2.1)) 31 f51_30 rfl rfl ?_
            refine zw_put _ 34 f51_31 rfl g51_58_10 (hb_11 _ _ _ _) rfl (Nat.le_of_ble_eq_true rfl) (by decide +kernel) (hi_11_7 _ _ _ _ _) ?_
            refine zw_vreturn f51_34 r51 u51 ⟨rfl, ?_⟩
            refine zw_vreturn f50_204 r50 u50 ?_
            have hk : k = np := by omega
            have hE : (mRO (P 60) (P 61) (P 62) (wRun nv P W) (W.2.2.2.2.1 v) v (s.1, s.2.1, s.1 v, 0) np) = (mRO (P 60) (P 61) (P 62) (wRun nv P W) (W.2.2.2.2.1 v) v (s.1, s.2.1, s.1 v, 0) k) := by rw [hk]
            have EL := (mRO_left (nv := nv) (np := np) (frm := P 60) (too := P 61) (amt := P 62) (run := (wRun nv P W)) (lev := W.2.2.2.2.1 v) (v := v) (s := s) h8 (fun p hpp z => hto p hpp z) k (by omega)).2
            have hx : 0 < ((mRO (P 60) (P 61) (P 62) (wRun nv P W) (W.2.2.2.2.1 v) v (s.1, s.2.1, s.1 v, 0) k).1 v - (mRO (P 60) (P 61) (P 62) (wRun nv P W) (W.2.2.2.2.1 v) v (s.1, s.2.1, s.1 v, 0) k).2.2.2) := by rw [← EL]; exact Int32.not_le.mp hc4
            have E := mRateOf_y (over := P 59) (brim := P 54) (g := W.1) (lev := W.2.2.2.2.1) (s := s) (-1) t6q hE hx (full_eq hp hW hv (Int64.not_lt.mpr (Int64.not_lt.mp (fun q => hc2 ((lg_cmp_lt _ _).mpr q)))))
            rw [← EL] at E
            rw [mGoC_m, mGoD_m] at E
            refine ⟨_, _, _, _, rfl, (KQ.i rfl (KQ.a rfl (KQ.a rfl K0))), ⟨?_, hr.2.2.2.2⟩, rfl⟩
            rw [E]
            exact ⟨hr.1, congrArg (fun z => z + ((mRO (P 60) (P 61) (P 62) (wRun nv P W) (W.2.2.2.2.1 v) v (s.1, s.2.1, s.1 v, 0) k).2.2.1)) hr.2.1, mC_n (fun j hj => (congrFun hr.2.2.1 j).trans (hs.2.2.1 j hj)) (Int32.sub_self _), mC_n (fun j hj => (congrFun hr.2.2.2.1 j).trans (hs.2.2.2 j hj)) rfl⟩
          · refine zw_iaload v (nI t6) 195 f50_194 rfl (hb_8 _ _ _ _) (nI_clamp (by omega)) (nI_pos (by omega)) (by omega) ((congrFun ((K0.2.2.1 8 rfl).trans (hR.2.1 59 (by omega) (by omega))) v).trans t6q) ?_
            refine zw_aload_n 196 f50_195 rfl h0 ?_
            refine zw_getfield 199 f50_196 rfl g50_25_10 (hb_11 _ _ _ _) rfl ?_
            refine zw_iload_n 200 f50_199 rfl h1 ?_
            refine zw_iaload v ((mRO (P 60) (P 61) (P 62) (wRun nv P W) (W.2.2.2.2.1 v) v (s.1, s.2.1, s.1 v, 0) k).2.2.1) 201 f50_200 rfl (hb_18 _ _ _ _) (nI_clamp (by omega)) (nI_pos (by omega)) (by omega) (if_pos rfl) ?_
            refine zw_virtual_v 204 0 0 [.ref 11, .int (nI t6), .int ((mRO (P 60) (P 61) (P 62) (wRun nv P W) (W.2.2.2.2.1 v) v (s.1, s.2.1, s.1 v, 0) k).2.2.1)] [(0, .ref 11), (1, .int (nI t6)), (2, .int ((mRO (P 60) (P 61) (P 62) (wRun nv P W) (W.2.2.2.2.1 v) v (s.1, s.2.1, s.1 v, 0) k).2.2.1))] f50_201 rfl n50_76 k50_76_10 rfl (hb_11 _ _ _ _) (by decide +kernel) (Nat.le_of_ble_eq_true rfl) rfl rfl (by decide +kernel) (by decide +kernel) rfl (Nat.le_of_ble_eq_true rfl) rfl ?_
            refine zw_aload_n 1 f51_0 rfl rfl ?_
            refine zw_getfield 4 f51_1 rfl g51_37_10 (hb_11 _ _ _ _) rfl ?_
            refine zw_iload_n 5 f51_4 rfl rfl ?_
            refine zw_virtual_i 8 0 0 [.ref 1, .int (nI t6)] [(0, .ref 1), (1, .int (nI t6))] f51_5 rfl n51_103 k51_103_4 rfl (hb_1 _ _ _ _) (by decide +kernel) (Nat.le_of_ble_eq_true rfl) rfl rfl (by decide +kernel) (by decide +kernel) rfl (Nat.le_of_ble_eq_true rfl) rfl ?_
            refine zw_iload_n 1 f13_0 rfl rfl ?_
            refine zw_if_lt_f 4 22 f13_1 (by decide +kernel) rfl (nI_pos (by omega)) ?_
            refine zw_iload_n 5 f13_4 rfl rfl ?_
            refine zw_aload_n 6 f13_5 rfl rfl ?_
            refine zw_getI (nI nv) 9 f13_6 rfl g13_39_4 (hb_1 _ _ _ _) rfl ((K0.1 1 0 rfl).trans hR.1.1) ?_
            refine zw_ic_ge_f 12 22 f13_9 (by decide +kernel) rfl (fun q => absurd (zn_ge (a := nv) (b := t6) (by omega) (by omega) q) (by omega)) ?_
            refine zw_iload_n 13 f13_12 rfl rfl ?_
            refine zw_bipush 8 15 f13_13 rfl (by decide +kernel) ?_
            refine zw_ic_ge_f 18 22 f13_15 (by decide +kernel) rfl (fun q => absurd (zn_ge (a := 8) (b := t6) (by omega) (by omega) q) (by omega)) ?_
            refine zw_iconst 1 19 f13_18 rfl (by decide +kernel) ?_
            refine zw_goto 23 f13_19 (by decide +kernel) ?_
            refine zw_zreturn f13_23 r13 u13 (by decide +kernel) ⟨_, rfl, ?_⟩
            refine zw_if_eq_f 11 24 f51_8 (by decide +kernel) rfl (by decide +kernel) ?_
            refine zw_aload_n 12 f51_11 rfl rfl ?_
            refine zw_getfield 15 f51_12 rfl g51_18_10 (hb_11 _ _ _ _) rfl ?_
            refine zw_iload_n 16 f51_15 rfl rfl ?_
            refine zw_dup2 17 f51_16 rfl rfl rfl ?_
            refine zw_iaload t6 (A1 16 t6) 18 f51_17 rfl (hb_16 _ _ _ _) (nI_clamp (by omega)) (nI_pos (by omega)) (by omega) rfl ?_
            refine zw_iload_n 19 f51_18 rfl rfl ?_
            refine zw_iadd ((A1 16 t6) + ((mRO (P 60) (P 61) (P 62) (wRun nv P W) (W.2.2.2.2.1 v) v (s.1, s.2.1, s.1 v, 0) k).2.2.1)) 20 f51_19 rfl rfl ?_
            refine zw_ast t6 _ 21 f51_20 rfl (hb_16 _ _ _ _) (nI_clamp (by omega)) (nI_pos (by omega)) (by omega) (ha_16 _ _ _ _ _) ?_
            refine zw_goto 34 f51_21 (by decide +kernel) ?_
            refine zw_vreturn f51_34 r51 u51 ⟨rfl, ?_⟩
            refine zw_vreturn f50_204 r50 u50 ?_
            have hk : k = np := by omega
            have hE : (mRO (P 60) (P 61) (P 62) (wRun nv P W) (W.2.2.2.2.1 v) v (s.1, s.2.1, s.1 v, 0) np) = (mRO (P 60) (P 61) (P 62) (wRun nv P W) (W.2.2.2.2.1 v) v (s.1, s.2.1, s.1 v, 0) k) := by rw [hk]
            have EL := (mRO_left (nv := nv) (np := np) (frm := P 60) (too := P 61) (amt := P 62) (run := (wRun nv P W)) (lev := W.2.2.2.2.1 v) (v := v) (s := s) h8 (fun p hpp z => hto p hpp z) k (by omega)).2
            have hx : 0 < ((mRO (P 60) (P 61) (P 62) (wRun nv P W) (W.2.2.2.2.1 v) v (s.1, s.2.1, s.1 v, 0) k).1 v - (mRO (P 60) (P 61) (P 62) (wRun nv P W) (W.2.2.2.2.1 v) v (s.1, s.2.1, s.1 v, 0) k).2.2.2) := by rw [← EL]; exact Int32.not_le.mp hc4
            have E := mRateOf_y (over := P 59) (brim := P 54) (g := W.1) (lev := W.2.2.2.2.1) (s := s) (nI t6) t6q hE hx (full_eq hp hW hv (Int64.not_lt.mpr (Int64.not_lt.mp (fun q => hc2 ((lg_cmp_lt _ _).mpr q)))))
            rw [← EL] at E
            rw [mGoC_t (by omega), mGoD_t (by omega)] at E
            refine ⟨_, _, _, _, rfl, (KQ.a rfl (KQ.a rfl (KQ.a rfl K0))), ⟨?_, hr.2.2.2.2⟩, rfl⟩
            rw [E]
            exact ⟨mC_t hr.1 (by omega), hr.2.1, mC_n (fun j hj => (congrFun hr.2.2.1 j).trans (hs.2.2.1 j hj)) (Int32.sub_self _), mC_n (fun j hj => (congrFun hr.2.2.2.1 j).trans (hs.2.2.2 j hj)) rfl⟩
    · have hn_hc1 : k < np := zn_lt (by omega) (by omega) hc1
      refine zw_aload_n 43 f50_42 rfl h0 ?_
      refine zw_getfield 46 f50_43 rfl g50_37_10 (hb_11 _ _ _ _) rfl ?_
      refine zw_getfield 49 f50_46 rfl g50_64_4 (hb_1 _ _ _ _) rfl ?_
      refine zw_iload 51 f50_49 rfl h4 ?_
      refine zw_iaload k (P 60 k) 52 f50_51 rfl (hb_9 _ _ _ _) (nI_clamp (by omega)) (nI_pos (by omega)) (by omega) (congrFun (((K0.2.2.1 9 rfl).trans (hR.2.1 60 (by omega) (by omega)))) k) ?_
      refine zw_iload_n 53 f50_52 rfl h1 ?_
      refine zw_ic_ne 56 142 f50_53 (by decide +kernel) rfl (fun hc7 => ?_) (fun hc7 => ?_)
      · refine zw_iinc (nI (k + 1)) _ 145 f50_142 rfl h4 (by decide +kernel) (nI_1 _) rfl ?_
        refine zw_goto 30 f50_145 (by decide +kernel) ?_
        have E := mRO_n (frm := P 60) (too := P 61) (amt := P 62) (run := (wRun nv P W)) (lev := W.2.2.2.2.1 v) (v := v) (s := (s.1, s.2.1, s.1 v, 0)) (k := k) (fun q => hc7 q.1)
        exact ih (k + 1) _ _ _ _ _ K0 (by rw [E]; exact hr) (zl1_ne rfl rfl h0) (zl1_ne rfl rfl h1) (by rw [E]; exact (zl1_ne rfl rfl h2)) (zl1_ne rfl rfl h3) zl1_eq (by omega) (by omega)
      · refine zw_iload_n 57 f50_56 rfl h3 ?_
        refine zw_if_eq_t 73 f50_57 (by decide +kernel) (by decide +kernel) ?_
        refine zw_aload_n 74 f50_73 rfl h0 ?_
        refine zw_getfield 77 f50_74 rfl g50_12_10 (hb_11 _ _ _ _) rfl ?_
        refine zw_getfield 80 f50_77 rfl g50_70_9 (hb_12 _ _ _ _) rfl ?_
        refine zw_iload 82 f50_80 rfl h4 ?_
        refine zw_iaload k (P 62 k) 83 f50_82 rfl (hb_15 _ _ _ _) (nI_clamp (by omega)) (nI_pos (by omega)) (by omega) (congrFun (((K0.2.2.1 15 rfl).trans (hR.2.1 62 (by omega) (by omega)))) k) ?_
        refine zw_iload_n 84 f50_83 rfl h2 ?_
        refine zw_static_i 87 0 0 [.int (P 62 k), .int ((mRO (P 60) (P 61) (P 62) (wRun nv P W) (W.2.2.2.2.1 v) v (s.1, s.2.1, s.1 v, 0) k).2.2.1)] [] [(0, .int (P 62 k)), (1, .int ((mRO (P 60) (P 61) (P 62) (wRun nv P W) (W.2.2.2.2.1 v) v (s.1, s.2.1, s.1 v, 0) k).2.2.1))] f50_84 rfl k50_91_99 rfl (by decide +kernel) (Nat.le_of_ble_eq_true rfl) (Nat.le_of_ble_eq_true rfl) rfl rfl (by decide +kernel) (by decide +kernel) rfl (Nat.le_of_ble_eq_true rfl) rfl ?_
        refine zw_iload_n 1 f187_0 rfl rfl ?_
        refine zw_iload_n 2 f187_1 rfl rfl ?_
        refine zw_ic_gt 5 9 f187_2 (by decide +kernel) rfl (fun hc8 => ?_) (fun hc8 => ?_)
        · refine zw_iload_n 10 f187_9 rfl rfl ?_
          refine zw_ireturn f187_10 r187 u187 ⟨_, rfl, ?_⟩
          refine zw_istore _ 89 f50_87 rfl (by decide +kernel) rfl ?_
          refine zw_aload_n 90 f50_89 rfl (zl1_ne rfl rfl h0) ?_
          refine zw_getfield 93 f50_90 rfl g50_28_10 (hb_11 _ _ _ _) rfl ?_
          refine zw_iload 95 f50_93 rfl (zl1_ne rfl rfl h4) ?_
          refine zw_aload_n 96 f50_95 rfl (zl1_ne rfl rfl h0) ?_
          refine zw_iload 98 f50_96 rfl (zl1_ne rfl rfl h4) ?_
          refine zw_virtual_i 101 0 0 [.ref 11, .int (nI k)] [(0, .ref 11), (1, .int (nI k))] f50_98 rfl n50_67 k50_67_10 rfl (hb_11 _ _ _ _) (by decide +kernel) (Nat.le_of_ble_eq_true rfl) rfl rfl (by decide +kernel) (by decide +kernel) rfl (Nat.le_of_ble_eq_true rfl) rfl ?_
          refine zWp.mono (cx_runs_11 ro nv np P W _ _ _ _ (hR.k K0 ⟨rfl, rfl⟩ (fCr_w 11) (pCr_w 11 (by omega))) hp hb hq k (by omega)) ?_
          rintro r h1 ⟨rfl, rfl⟩
          refine ⟨_, rfl, ?_⟩
          refine zw_if_eq 104 109 f50_101 (by decide +kernel) rfl (fun hc9 => ?_) (fun hc9 => ?_)
          · refine zw_iconst 0 110 f50_109 rfl (by decide +kernel) ?_
            refine zw_ast k _ 111 f50_110 rfl (hb_19 _ _ _ _) (nI_clamp (by omega)) (nI_pos (by omega)) (by omega) (ha_19 _ _ _ _ _) ?_
            refine zw_iload_n 112 f50_111 rfl (zl1_ne rfl rfl h2) ?_
            refine zw_aload_n 113 f50_112 rfl (zl1_ne rfl rfl h0) ?_
            refine zw_getfield 116 f50_113 rfl g50_28_10 (hb_11 _ _ _ _) rfl ?_
            refine zw_iload 118 f50_116 rfl (zl1_ne rfl rfl h4) ?_
            refine zw_iaload k 0 119 f50_118 rfl (hb_19 _ _ _ _) (nI_clamp (by omega)) (nI_pos (by omega)) (by omega) (if_pos rfl) ?_
            refine zw_isub (((mRO (P 60) (P 61) (P 62) (wRun nv P W) (W.2.2.2.2.1 v) v (s.1, s.2.1, s.1 v, 0) k).2.2.1) - 0) 120 f50_119 rfl rfl ?_
            refine zw_istore_n _ 121 f50_120 rfl (by decide +kernel) rfl ?_
            refine zw_aload_n 122 f50_121 rfl (zl1_ne rfl rfl (zl1_ne rfl rfl h0)) ?_
            refine zw_aload_n 123 f50_122 rfl (zl1_ne rfl rfl (zl1_ne rfl rfl h0)) ?_
            refine zw_getfield 126 f50_123 rfl g50_37_10 (hb_11 _ _ _ _) rfl ?_
            refine zw_getfield 129 f50_126 rfl g50_73_4 (hb_1 _ _ _ _) rfl ?_
            refine zw_iload 131 f50_129 rfl (zl1_ne rfl rfl (zl1_ne rfl rfl h4)) ?_
            rcases (hp.2.2.2 k (by omega)).1 with t10q | ⟨t10, t10l, t10n, t10q⟩
            · refine zw_iaload k (-1) 132 f50_131 rfl (hb_10 _ _ _ _) (nI_clamp (by omega)) (nI_pos (by omega)) (by omega) ((congrFun ((K0.2.2.1 10 rfl).trans (hR.2.1 61 (by omega) (by omega))) k).trans t10q) ?_
              refine zw_aload_n 133 f50_132 rfl (zl1_ne rfl rfl (zl1_ne rfl rfl h0)) ?_
              refine zw_getfield 136 f50_133 rfl g50_28_10 (hb_11 _ _ _ _) rfl ?_
              refine zw_iload 138 f50_136 rfl (zl1_ne rfl rfl (zl1_ne rfl rfl h4)) ?_
              refine zw_iaload k 0 139 f50_138 rfl (hb_19 _ _ _ _) (nI_clamp (by omega)) (nI_pos (by omega)) (by omega) (if_pos rfl) ?_
              refine zw_virtual_v 142 0 0 [.ref 11, .int (-1), .int 0] [(0, .ref 11), (1, .int (-1)), (2, .int 0)] f50_139 rfl n50_76 k50_76_10 rfl (hb_11 _ _ _ _) (by decide +kernel) (Nat.le_of_ble_eq_true rfl) rfl rfl (by decide +kernel) (by decide +kernel) rfl (Nat.le_of_ble_eq_true rfl) rfl ?_
              refine zw_aload_n 1 f51_0 rfl rfl ?_
              refine zw_getfield 4 f51_1 rfl g51_37_10 (hb_11 _ _ _ _) rfl ?_
              refine zw_iload_n 5 f51_4 rfl rfl ?_
              refine zw_virtual_i 8 0 0 [.ref 1, .int (-1)] [(0, .ref 1), (1, .int (-1))] f51_5 rfl n51_103 k51_103_4 rfl (hb_1 _ _ _ _) (by decide +kernel) (Nat.le_of_ble_eq_true rfl) rfl rfl (by decide +kernel) (by decide +kernel) rfl (Nat.le_of_ble_eq_true rfl) rfl ?_
              refine zw_iload_n 1 f13_0 rfl rfl ?_
              refine zw_if_lt_t 22 f13_1 (by decide +kernel) (by decide +kernel) ?_
              refine zw_iconst 0 23 f13_22 rfl (by decide +kernel) ?_
              refine zw_zreturn f13_23 r13 u13 (by decide +kernel) ⟨_, rfl, ?_⟩
              refine zw_if_eq_t 24 f51_8 (by decide +kernel) (by decide +kernel) ?_
              refine zw_aload_n 25 f51_24 rfl rfl ?_
              refine zw_dup 26 f51_25 rfl rfl ?_
              refine zw_getI (I1 11 7) 29 f51_26 rfl g51_58_10 (hb_11 _ _ _ _) rfl rfl ?_
              refine zw_iload_n 30 f51_29 rfl rfl ?_
              refine zw_iadd ((I1 11 7) + 0) 31 f51_30 rfl rfl ?_
              refine zw_put _ 34 f51_31 rfl g51_58_10 (hb_11 _ _ _ _) rfl (Nat.le_of_ble_eq_true rfl) (by decide +kernel) (hi_11_7 _ _ _ _ _) ?_
              refine zw_vreturn f51_34 r51 u51 ⟨rfl, ?_⟩
              refine zw_iinc (nI (k + 1)) _ 145 f50_142 rfl (zl1_ne rfl rfl (zl1_ne rfl rfl h4)) (by decide +kernel) (nI_1 _) rfl ?_
              refine zw_goto 30 f50_145 (by decide +kernel) ?_
              have E := mRO_n (frm := P 60) (too := P 61) (amt := P 62) (run := (wRun nv P W)) (lev := W.2.2.2.2.1 v) (v := v) (s := (s.1, s.2.1, s.1 v, 0)) (k := k) (fun q => q.2 hc9)
              exact ih (k + 1) _ _ _ _ _ (KQ.i rfl (KQ.a rfl K0)) (by rw [E]; exact ⟨hr.1, (Int32.add_zero _).trans hr.2.1, hr.2.2⟩) (zl1_ne rfl rfl (zl1_ne rfl rfl (zl1_ne rfl rfl h0))) (zl1_ne rfl rfl (zl1_ne rfl rfl (zl1_ne rfl rfl h1))) (by rw [E]; exact (zld_s0 (zl1_ne rfl rfl zl1_eq))) (zl1_ne rfl rfl (zl1_ne rfl rfl (zl1_ne rfl rfl h3))) zl1_eq (by omega) (by omega)
            · refine zw_iaload k (nI t10) 132 f50_131 rfl (hb_10 _ _ _ _) (nI_clamp (by omega)) (nI_pos (by omega)) (by omega) ((congrFun ((K0.2.2.1 10 rfl).trans (hR.2.1 61 (by omega) (by omega))) k).trans t10q) ?_
              refine zw_aload_n 133 f50_132 rfl (zl1_ne rfl rfl (zl1_ne rfl rfl h0)) ?_
              refine zw_getfield 136 f50_133 rfl g50_28_10 (hb_11 _ _ _ _) rfl ?_
              refine zw_iload 138 f50_136 rfl (zl1_ne rfl rfl (zl1_ne rfl rfl h4)) ?_
              refine zw_iaload k 0 139 f50_138 rfl (hb_19 _ _ _ _) (nI_clamp (by omega)) (nI_pos (by omega)) (by omega) (if_pos rfl) ?_
              refine zw_virtual_v 142 0 0 [.ref 11, .int (nI t10), .int 0] [(0, .ref 11), (1, .int (nI t10)), (2, .int 0)] f50_139 rfl n50_76 k50_76_10 rfl (hb_11 _ _ _ _) (by decide +kernel) (Nat.le_of_ble_eq_true rfl) rfl rfl (by decide +kernel) (by decide +kernel) rfl (Nat.le_of_ble_eq_true rfl) rfl ?_
              refine zw_aload_n 1 f51_0 rfl rfl ?_
              refine zw_getfield 4 f51_1 rfl g51_37_10 (hb_11 _ _ _ _) rfl ?_
              refine zw_iload_n 5 f51_4 rfl rfl ?_
              refine zw_virtual_i 8 0 0 [.ref 1, .int (nI t10)] [(0, .ref 1), (1, .int (nI t10))] f51_5 rfl n51_103 k51_103_4 rfl (hb_1 _ _ _ _) (by decide +kernel) (Nat.le_of_ble_eq_true rfl) rfl rfl (by decide +kernel) (by decide +kernel) rfl (Nat.le_of_ble_eq_true rfl) rfl ?_
              refine zw_iload_n 1 f13_0 rfl rfl ?_
              refine zw_if_lt_f 4 22 f13_1 (by decide +kernel) rfl (nI_pos (by omega)) ?_
              refine zw_iload_n 5 f13_4 rfl rfl ?_
              refine zw_aload_n 6 f13_5 rfl rfl ?_
              refine zw_getI (nI nv) 9 f13_6 rfl g13_39_4 (hb_1 _ _ _ _) rfl ((K0.1 1 0 rfl).trans hR.1.1) ?_
              refine zw_ic_ge_f 12 22 f13_9 (by decide +kernel) rfl (fun q => absurd (zn_ge (a := nv) (b := t10) (by omega) (by omega) q) (by omega)) ?_
              refine zw_iload_n 13 f13_12 rfl rfl ?_
              refine zw_bipush 8 15 f13_13 rfl (by decide +kernel) ?_
              refine zw_ic_ge_f 18 22 f13_15 (by decide +kernel) rfl (fun q => absurd (zn_ge (a := 8) (b := t10) (by omega) (by omega) q) (by omega)) ?_
              refine zw_iconst 1 19 f13_18 rfl (by decide +kernel) ?_
              refine zw_goto 23 f13_19 (by decide +kernel) ?_
              refine zw_zreturn f13_23 r13 u13 (by decide +kernel) ⟨_, rfl, ?_⟩
              refine zw_if_eq_f 11 24 f51_8 (by decide +kernel) rfl (by decide +kernel) ?_
              refine zw_aload_n 12 f51_11 rfl rfl ?_
              refine zw_getfield 15 f51_12 rfl g51_18_10 (hb_11 _ _ _ _) rfl ?_
              refine zw_iload_n 16 f51_15 rfl rfl ?_
              refine zw_dup2 17 f51_16 rfl rfl rfl ?_
              refine zw_iaload t10 (A1 16 t10) 18 f51_17 rfl (hb_16 _ _ _ _) (nI_clamp (by omega)) (nI_pos (by omega)) (by omega) rfl ?_
              refine zw_iload_n 19 f51_18 rfl rfl ?_
              refine zw_iadd ((A1 16 t10) + 0) 20 f51_19 rfl rfl ?_
              refine zw_ast t10 _ 21 f51_20 rfl (hb_16 _ _ _ _) (nI_clamp (by omega)) (nI_pos (by omega)) (by omega) (ha_16 _ _ _ _ _) ?_
              refine zw_goto 34 f51_21 (by decide +kernel) ?_
              refine zw_vreturn f51_34 r51 u51 ⟨rfl, ?_⟩
              refine zw_iinc (nI (k + 1)) _ 145 f50_142 rfl (zl1_ne rfl rfl (zl1_ne rfl rfl h4)) (by decide +kernel) (nI_1 _) rfl ?_
              refine zw_goto 30 f50_145 (by decide +kernel) ?_
              have E := mRO_n (frm := P 60) (too := P 61) (amt := P 62) (run := (wRun nv P W)) (lev := W.2.2.2.2.1 v) (v := v) (s := (s.1, s.2.1, s.1 v, 0)) (k := k) (fun q => q.2 hc9)
              exact ih (k + 1) _ _ _ _ _ (KQ.a rfl (KQ.a rfl K0)) (by rw [E]; exact ⟨mC_0 hr.1, hr.2⟩) (zl1_ne rfl rfl (zl1_ne rfl rfl (zl1_ne rfl rfl h0))) (zl1_ne rfl rfl (zl1_ne rfl rfl (zl1_ne rfl rfl h1))) (by rw [E]; exact (zld_s0 (zl1_ne rfl rfl zl1_eq))) (zl1_ne rfl rfl (zl1_ne rfl rfl (zl1_ne rfl rfl h3))) zl1_eq (by omega) (by omega)
          · refine zw_iload 106 f50_104 rfl zl1_eq ?_
            refine zw_goto 110 f50_106 (by decide +kernel) ?_
            refine zw_ast k _ 111 f50_110 rfl (hb_19 _ _ _ _) (nI_clamp (by omega)) (nI_pos (by omega)) (by omega) (ha_19 _ _ _ _ _) ?_
            refine zw_iload_n 112 f50_111 rfl (zl1_ne rfl rfl h2) ?_
            refine zw_aload_n 113 f50_112 rfl (zl1_ne rfl rfl h0) ?_
            refine zw_getfield 116 f50_113 rfl g50_28_10 (hb_11 _ _ _ _) rfl ?_
            refine zw_iload 118 f50_116 rfl (zl1_ne rfl rfl h4) ?_
            refine zw_iaload k ((mRO (P 60) (P 61) (P 62) (wRun nv P W) (W.2.2.2.2.1 v) v (s.1, s.2.1, s.1 v, 0) k).2.2.1) 119 f50_118 rfl (hb_19 _ _ _ _) (nI_clamp (by omega)) (nI_pos (by omega)) (by omega) (if_pos rfl) ?_
            refine zw_isub (((mRO (P 60) (P 61) (P 62) (wRun nv P W) (W.2.2.2.2.1 v) v (s.1, s.2.1, s.1 v, 0) k).2.2.1) - ((mRO (P 60) (P 61) (P 62) (wRun nv P W) (W.2.2.2.2.1 v) v (s.1, s.2.1, s.1 v, 0) k).2.2.1)) 120 f50_119 rfl rfl ?_
            refine zw_istore_n _ 121 f50_120 rfl (by decide +kernel) rfl ?_
            refine zw_aload_n 122 f50_121 rfl (zl1_ne rfl rfl (zl1_ne rfl rfl h0)) ?_
            refine zw_aload_n 123 f50_122 rfl (zl1_ne rfl rfl (zl1_ne rfl rfl h0)) ?_
            refine zw_getfield 126 f50_123 rfl g50_37_10 (hb_11 _ _ _ _) rfl ?_
            refine zw_getfield 129 f50_126 rfl g50_73_4 (hb_1 _ _ _ _) rfl ?_
            refine zw_iload 131 f50_129 rfl (zl1_ne rfl rfl (zl1_ne rfl rfl h4)) ?_
            rcases (hp.2.2.2 k (by omega)).1 with t11q | ⟨t11, t11l, t11n, t11q⟩
            · refine zw_iaload k (-1) 132 f50_131 rfl (hb_10 _ _ _ _) (nI_clamp (by omega)) (nI_pos (by omega)) (by omega) ((congrFun ((K0.2.2.1 10 rfl).trans (hR.2.1 61 (by omega) (by omega))) k).trans t11q) ?_
              refine zw_aload_n 133 f50_132 rfl (zl1_ne rfl rfl (zl1_ne rfl rfl h0)) ?_
              refine zw_getfield 136 f50_133 rfl g50_28_10 (hb_11 _ _ _ _) rfl ?_
              refine zw_iload 138 f50_136 rfl (zl1_ne rfl rfl (zl1_ne rfl rfl h4)) ?_
              refine zw_iaload k ((mRO (P 60) (P 61) (P 62) (wRun nv P W) (W.2.2.2.2.1 v) v (s.1, s.2.1, s.1 v, 0) k).2.2.1) 139 f50_138 rfl (hb_19 _ _ _ _) (nI_clamp (by omega)) (nI_pos (by omega)) (by omega) (if_pos rfl) ?_
              refine zw_virtual_v 142 0 0 [.ref 11, .int (-1), .int ((mRO (P 60) (P 61) (P 62) (wRun nv P W) (W.2.2.2.2.1 v) v (s.1, s.2.1, s.1 v, 0) k).2.2.1)] [(0, .ref 11), (1, .int (-1)), (2, .int ((mRO (P 60) (P 61) (P 62) (wRun nv P W) (W.2.2.2.2.1 v) v (s.1, s.2.1, s.1 v, 0) k).2.2.1))] f50_139 rfl n50_76 k50_76_10 rfl (hb_11 _ _ _ _) (by decide +kernel) (Nat.le_of_ble_eq_true rfl) rfl rfl (by decide +kernel) (by decide +kernel) rfl (Nat.le_of_ble_eq_true rfl) rfl ?_
              refine zw_aload_n 1 f51_0 rfl rfl ?_
              refine zw_getfield 4 f51_1 rfl g51_37_10 (hb_11 _ _ _ _) rfl ?_
              refine zw_iload_n 5 f51_4 rfl rfl ?_
              refine zw_virtual_i 8 0 0 [.ref 1, .int (-1)] [(0, .ref 1), (1, .int (-1))] f51_5 rfl n51_103 k51_103_4 rfl (hb_1 _ _ _ _) (by decide +kernel) (Nat.le_of_ble_eq_true rfl) rfl rfl (by decide +kernel) (by decide +kernel) rfl (Nat.le_of_ble_eq_true rfl) rfl ?_
              refine zw_iload_n 1 f13_0 rfl rfl ?_
              refine zw_if_lt_t 22 f13_1 (by decide +kernel) (by decide +kernel) ?_
              refine zw_iconst 0 23 f13_22 rfl (by decide +kernel) ?_
              refine zw_zreturn f13_23 r13 u13 (by decide +kernel) ⟨_, rfl, ?_⟩
              refine zw_if_eq_t 24 f51_8 (by decide +kernel) (by decide +kernel) ?_
              refine zw_aload_n 25 f51_24 rfl rfl ?_
              refine zw_dup 26 f51_25 rfl rfl ?_
              refine zw_getI (I1 11 7) 29 f51_26 rfl g51_58_10 (hb_11 _ _ _ _) rfl rfl ?_
              refine zw_iload_n 30 f51_29 rfl rfl ?_
              refine zw_iadd ((I1 11 7) + ((mRO (P 60) (P 61) (P 62) (wRun nv P W) (W.2.2.2.2.1 v) v (s.1, s.2.1, s.1 v, 0) k).2.2.1)) 31 f51_30 rfl rfl ?_
              refine zw_put _ 34 f51_31 rfl g51_58_10 (hb_11 _ _ _ _) rfl (Nat.le_of_ble_eq_true rfl) (by decide +kernel) (hi_11_7 _ _ _ _ _) ?_
              refine zw_vreturn f51_34 r51 u51 ⟨rfl, ?_⟩
              refine zw_iinc (nI (k + 1)) _ 145 f50_142 rfl (zl1_ne rfl rfl (zl1_ne rfl rfl h4)) (by decide +kernel) (nI_1 _) rfl ?_
              refine zw_goto 30 f50_145 (by decide +kernel) ?_
              have E := mRO_y (frm := P 60) (too := P 61) (amt := P 62) (run := (wRun nv P W)) (lev := W.2.2.2.2.1 v) (v := v) (s := (s.1, s.2.1, s.1 v, 0)) (k := k) ((mRO (P 60) (P 61) (P 62) (wRun nv P W) (W.2.2.2.2.1 v) v (s.1, s.2.1, s.1 v, 0) k).2.2.1) (-1) t11q (mFl_l hw hc8) (Decidable.of_not_not hc7) hc9
              rw [mGoC_m, mGoD_m] at E
              exact ih (k + 1) _ _ _ _ _ (KQ.i rfl (KQ.a rfl K0)) (by rw [E]; exact ⟨hr.1, congrArg (fun z => z + ((mRO (P 60) (P 61) (P 62) (wRun nv P W) (W.2.2.2.2.1 v) v (s.1, s.2.1, s.1 v, 0) k).2.2.1)) hr.2.1, hr.2.2⟩) (zl1_ne rfl rfl (zl1_ne rfl rfl (zl1_ne rfl rfl h0))) (zl1_ne rfl rfl (zl1_ne rfl rfl (zl1_ne rfl rfl h1))) (by rw [E]; exact (zl1_ne rfl rfl zl1_eq)) (zl1_ne rfl rfl (zl1_ne rfl rfl (zl1_ne rfl rfl h3))) zl1_eq (by omega) (by omega)
            · refine zw_iaload k (nI t11) 132 f50_131 rfl (hb_10 _ _ _ _) (nI_clamp (by omega)) (nI_pos (by omega)) (by omega) ((congrFun ((K0.2.2.1 10 rfl).trans (hR.2.1 61 (by omega) (by omega))) k).trans t11q) ?_
              refine zw_aload_n 133 f50_132 rfl (zl1_ne rfl rfl (zl1_ne rfl rfl h0)) ?_
              refine zw_getfield 136 f50_133 rfl g50_28_10 (hb_11 _ _ _ _) rfl ?_
              refine zw_iload 138 f50_136 rfl (zl1_ne rfl rfl (zl1_ne rfl rfl h4)) ?_
              refine zw_iaload k ((mRO (P 60) (P 61) (P 62) (wRun nv P W) (W.2.2.2.2.1 v) v (s.1, s.2.1, s.1 v, 0) k).2.2.1) 139 f50_138 rfl (hb_19 _ _ _ _) (nI_clamp (by omega)) (nI_pos (by omega)) (by omega) (if_pos rfl) ?_
              refine zw_virtual_v 142 0 0 [.ref 11, .int (nI t11), .int ((mRO (P 60) (P 61) (P 62) (wRun nv P W) (W.2.2.2.2.1 v) v (s.1, s.2.1, s.1 v, 0) k).2.2.1)] [(0, .ref 11), (1, .int (nI t11)), (2, .int ((mRO (P 60) (P 61) (P 62) (wRun nv P W) (W.2.2.2.2.1 v) v (s.1, s.2.1, s.1 v, 0) k).2.2.1))] f50_139 rfl n50_76 k50_76_10 rfl (hb_11 _ _ _ _) (by decide +kernel) (Nat.le_of_ble_eq_true rfl) rfl rfl (by decide +kernel) (by decide +kernel) rfl (Nat.le_of_ble_eq_true rfl) rfl ?_
              refine zw_aload_n 1 f51_0 rfl rfl ?_
              refine zw_getfield 4 f51_1 rfl g51_37_10 (hb_11 _ _ _ _) rfl ?_
              refine zw_iload_n 5 f51_4 rfl rfl ?_
              refine zw_virtual_i 8 0 0 [.ref 1, .int (nI t11)] [(0, .ref 1), (1, .int (nI t11))] f51_5 rfl n51_103 k51_103_4 rfl (hb_1 _ _ _ _) (by decide +kernel) (Nat.le_of_ble_eq_true rfl) rfl rfl (by decide +kernel) (by decide +kernel) rfl (Nat.le_of_ble_eq_true rfl) rfl ?_
              refine zw_iload_n 1 f13_0 rfl rfl ?_
              refine zw_if_lt_f 4 22 f13_1 (by decide +kernel) rfl (nI_pos (by omega)) ?_
              refine zw_iload_n 5 f13_4 rfl rfl ?_
              refine zw_aload_n 6 f13_5 rfl rfl ?_
              refine zw_getI (nI nv) 9 f13_6 rfl g13_39_4 (hb_1 _ _ _ _) rfl ((K0.1 1 0 rfl).trans hR.1.1) ?_
              refine zw_ic_ge_f 12 22 f13_9 (by decide +kernel) rfl (fun q => absurd (zn_ge (a := nv) (b := t11) (by omega) (by omega) q) (by omega)) ?_
              refine zw_iload_n 13 f13_12 rfl rfl ?_
              refine zw_bipush 8 15 f13_13 rfl (by decide +kernel) ?_
              refine zw_ic_ge_f 18 22 f13_15 (by decide +kernel) rfl (fun q => absurd (zn_ge (a := 8) (b := t11) (by omega) (by omega) q) (by omega)) ?_
              refine zw_iconst 1 19 f13_18 rfl (by decide +kernel) ?_
              refine zw_goto 23 f13_19 (by decide +kernel) ?_
              refine zw_zreturn f13_23 r13 u13 (by decide +kernel) ⟨_, rfl, ?_⟩
              refine zw_if_eq_f 11 24 f51_8 (by decide +kernel) rfl (by decide +kernel) ?_
              refine zw_aload_n 12 f51_11 rfl rfl ?_
              refine zw_getfield 15 f51_12 rfl g51_18_10 (hb_11 _ _ _ _) rfl ?_
              refine zw_iload_n 16 f51_15 rfl rfl ?_
              refine zw_dup2 17 f51_16 rfl rfl rfl ?_
              refine zw_iaload t11 (A1 16 t11) 18 f51_17 rfl (hb_16 _ _ _ _) (nI_clamp (by omega)) (nI_pos (by omega)) (by omega) rfl ?_
              refine zw_iload_n 19 f51_18 rfl rfl ?_
              refine zw_iadd ((A1 16 t11) + ((mRO (P 60) (P 61) (P 62) (wRun nv P W) (W.2.2.2.2.1 v) v (s.1, s.2.1, s.1 v, 0) k).2.2.1)) 20 f51_19 rfl rfl ?_
              refine zw_ast t11 _ 21 f51_20 rfl (hb_16 _ _ _ _) (nI_clamp (by omega)) (nI_pos (by omega)) (by omega) (ha_16 _ _ _ _ _) ?_
              refine zw_goto 34 f51_21 (by decide +kernel) ?_
              refine zw_vreturn f51_34 r51 u51 ⟨rfl, ?_⟩
              refine zw_iinc (nI (k + 1)) _ 145 f50_142 rfl (zl1_ne rfl rfl (zl1_ne rfl rfl h4)) (by decide +kernel) (nI_1 _) rfl ?_
              refine zw_goto 30 f50_145 (by decide +kernel) ?_
              have E := mRO_y (frm := P 60) (too := P 61) (amt := P 62) (run := (wRun nv P W)) (lev := W.2.2.2.2.1 v) (v := v) (s := (s.1, s.2.1, s.1 v, 0)) (k := k) ((mRO (P 60) (P 61) (P 62) (wRun nv P W) (W.2.2.2.2.1 v) v (s.1, s.2.1, s.1 v, 0) k).2.2.1) (nI t11) t11q (mFl_l hw hc8) (Decidable.of_not_not hc7) hc9
              rw [mGoC_t (by omega), mGoD_t (by omega)] at E
              exact ih (k + 1) _ _ _ _ _ (KQ.a rfl (KQ.a rfl K0)) (by rw [E]; exact ⟨mC_t hr.1 (by omega), hr.2⟩) (zl1_ne rfl rfl (zl1_ne rfl rfl (zl1_ne rfl rfl h0))) (zl1_ne rfl rfl (zl1_ne rfl rfl (zl1_ne rfl rfl h1))) (by rw [E]; exact (zl1_ne rfl rfl zl1_eq)) (zl1_ne rfl rfl (zl1_ne rfl rfl (zl1_ne rfl rfl h3))) zl1_eq (by omega) (by omega)
        · refine zw_iload_n 6 f187_5 rfl rfl ?_
          refine zw_goto 10 f187_6 (by decide +kernel) ?_
          refine zw_ireturn f187_10 r187 u187 ⟨_, rfl, ?_⟩
          refine zw_istore _ 89 f50_87 rfl (by decide +kernel) rfl ?_
          refine zw_aload_n 90 f50_89 rfl (zl1_ne rfl rfl h0) ?_
          refine zw_getfield 93 f50_90 rfl g50_28_10 (hb_11 _ _ _ _) rfl ?_
          refine zw_iload 95 f50_93 rfl (zl1_ne rfl rfl h4) ?_
          refine zw_aload_n 96 f50_95 rfl (zl1_ne rfl rfl h0) ?_
          refine zw_iload 98 f50_96 rfl (zl1_ne rfl rfl h4) ?_
          refine zw_virtual_i 101 0 0 [.ref 11, .int (nI k)] [(0, .ref 11), (1, .int (nI k))] f50_98 rfl n50_67 k50_67_10 rfl (hb_11 _ _ _ _) (by decide +kernel) (Nat.le_of_ble_eq_true rfl) rfl rfl (by decide +kernel) (by decide +kernel) rfl (Nat.le_of_ble_eq_true rfl) rfl ?_
          refine zWp.mono (cx_runs_11 ro nv np P W _ _ _ _ (hR.k K0 ⟨rfl, rfl⟩ (fCr_w 11) (pCr_w 11 (by omega))) hp hb hq k (by omega)) ?_
          rintro r h1 ⟨rfl, rfl⟩
          refine ⟨_, rfl, ?_⟩
          refine zw_if_eq 104 109 f50_101 (by decide +kernel) rfl (fun hc12 => ?_) (fun hc12 => ?_)
          · refine zw_iconst 0 110 f50_109 rfl (by decide +kernel) ?_
            refine zw_ast k _ 111 f50_110 rfl (hb_19 _ _ _ _) (nI_clamp (by omega)) (nI_pos (by omega)) (by omega) (ha_19 _ _ _ _ _) ?_
            refine zw_iload_n 112 f50_111 rfl (zl1_ne rfl rfl h2) ?_
            refine zw_aload_n 113 f50_112 rfl (zl1_ne rfl rfl h0) ?_
            refine zw_getfield 116 f50_113 rfl g50_28_10 (hb_11 _ _ _ _) rfl ?_
            refine zw_iload 118 f50_116 rfl (zl1_ne rfl rfl h4) ?_
            refine zw_iaload k 0 119 f50_118 rfl (hb_19 _ _ _ _) (nI_clamp (by omega)) (nI_pos (by omega)) (by omega) (if_pos rfl) ?_
            refine zw_isub (((mRO (P 60) (P 61) (P 62) (wRun nv P W) (W.2.2.2.2.1 v) v (s.1, s.2.1, s.1 v, 0) k).2.2.1) - 0) 120 f50_119 rfl rfl ?_
            refine zw_istore_n _ 121 f50_120 rfl (by decide +kernel) rfl ?_
            refine zw_aload_n 122 f50_121 rfl (zl1_ne rfl rfl (zl1_ne rfl rfl h0)) ?_
            refine zw_aload_n 123 f50_122 rfl (zl1_ne rfl rfl (zl1_ne rfl rfl h0)) ?_
            refine zw_getfield 126 f50_123 rfl g50_37_10 (hb_11 _ _ _ _) rfl ?_
            refine zw_getfield 129 f50_126 rfl g50_73_4 (hb_1 _ _ _ _) rfl ?_
            refine zw_iload 131 f50_129 rfl (zl1_ne rfl rfl (zl1_ne rfl rfl h4)) ?_
            rcases (hp.2.2.2 k (by omega)).1 with t13q | ⟨t13, t13l, t13n, t13q⟩
            · refine zw_iaload k (-1) 132 f50_131 rfl (hb_10 _ _ _ _) (nI_clamp (by omega)) (nI_pos (by omega)) (by omega) ((congrFun ((K0.2.2.1 10 rfl).trans (hR.2.1 61 (by omega) (by omega))) k).trans t13q) ?_
              refine zw_aload_n 133 f50_132 rfl (zl1_ne rfl rfl (zl1_ne rfl rfl h0)) ?_
              refine zw_getfield 136 f50_133 rfl g50_28_10 (hb_11 _ _ _ _) rfl ?_
              refine zw_iload 138 f50_136 rfl (zl1_ne rfl rfl (zl1_ne rfl rfl h4)) ?_
              refine zw_iaload k 0 139 f50_138 rfl (hb_19 _ _ _ _) (nI_clamp (by omega)) (nI_pos (by omega)) (by omega) (if_pos rfl) ?_
              refine zw_virtual_v 142 0 0 [.ref 11, .int (-1), .int 0] [(0, .ref 11), (1, .int (-1)), (2, .int 0)] f50_139 rfl n50_76 k50_76_10 rfl (hb_11 _ _ _ _) (by decide +kernel) (Nat.le_of_ble_eq_true rfl) rfl rfl (by decide +kernel) (by decide +kernel) rfl (Nat.le_of_ble_eq_true rfl) rfl ?_
              refine zw_aload_n 1 f51_0 rfl rfl ?_
              refine zw_getfield 4 f51_1 rfl g51_37_10 (hb_11 _ _ _ _) rfl ?_
              refine zw_iload_n 5 f51_4 rfl rfl ?_
              refine zw_virtual_i 8 0 0 [.ref 1, .int (-1)] [(0, .ref 1), (1, .int (-1))] f51_5 rfl n51_103 k51_103_4 rfl (hb_1 _ _ _ _) (by decide +kernel) (Nat.le_of_ble_eq_true rfl) rfl rfl (by decide +kernel) (by decide +kernel) rfl (Nat.le_of_ble_eq_true rfl) rfl ?_
              refine zw_iload_n 1 f13_0 rfl rfl ?_
              refine zw_if_lt_t 22 f13_1 (by decide +kernel) (by decide +kernel) ?_
              refine zw_iconst 0 23 f13_22 rfl (by decide +kernel) ?_
              refine zw_zreturn f13_23 r13 u13 (by decide +kernel) ⟨_, rfl, ?_⟩
              refine zw_if_eq_t 24 f51_8 (by decide +kernel) (by decide +kernel) ?_
              refine zw_aload_n 25 f51_24 rfl rfl ?_
              refine zw_dup 26 f51_25 rfl rfl ?_
              refine zw_getI (I1 11 7) 29 f51_26 rfl g51_58_10 (hb_11 _ _ _ _) rfl rfl ?_
              refine zw_iload_n 30 f51_29 rfl rfl ?_
              refine zw_iadd ((I1 11 7) + 0) 31 f51_30 rfl rfl ?_
              refine zw_put _ 34 f51_31 rfl g51_58_10 (hb_11 _ _ _ _) rfl (Nat.le_of_ble_eq_true rfl) (by decide +kernel) (hi_11_7 _ _ _ _ _) ?_
              refine zw_vreturn f51_34 r51 u51 ⟨rfl, ?_⟩
              refine zw_iinc (nI (k + 1)) _ 145 f50_142 rfl (zl1_ne rfl rfl (zl1_ne rfl rfl h4)) (by decide +kernel) (nI_1 _) rfl ?_
              refine zw_goto 30 f50_145 (by decide +kernel) ?_
              have E := mRO_n (frm := P 60) (too := P 61) (amt := P 62) (run := (wRun nv P W)) (lev := W.2.2.2.2.1 v) (v := v) (s := (s.1, s.2.1, s.1 v, 0)) (k := k) (fun q => q.2 hc12)
              exact ih (k + 1) _ _ _ _ _ (KQ.i rfl (KQ.a rfl K0)) (by rw [E]; exact ⟨hr.1, (Int32.add_zero _).trans hr.2.1, hr.2.2⟩) (zl1_ne rfl rfl (zl1_ne rfl rfl (zl1_ne rfl rfl h0))) (zl1_ne rfl rfl (zl1_ne rfl rfl (zl1_ne rfl rfl h1))) (by rw [E]; exact (zld_s0 (zl1_ne rfl rfl zl1_eq))) (zl1_ne rfl rfl (zl1_ne rfl rfl (zl1_ne rfl rfl h3))) zl1_eq (by omega) (by omega)
            · refine zw_iaload k (nI t13) 132 f50_131 rfl (hb_10 _ _ _ _) (nI_clamp (by omega)) (nI_pos (by omega)) (by omega) ((congrFun ((K0.2.2.1 10 rfl).trans (hR.2.1 61 (by omega) (by omega))) k).trans t13q) ?_
              refine zw_aload_n 133 f50_132 rfl (zl1_ne rfl rfl (zl1_ne rfl rfl h0)) ?_
              refine zw_getfield 136 f50_133 rfl g50_28_10 (hb_11 _ _ _ _) rfl ?_
              refine zw_iload 138 f50_136 rfl (zl1_ne rfl rfl (zl1_ne rfl rfl h4)) ?_
              refine zw_iaload k 0 139 f50_138 rfl (hb_19 _ _ _ _) (nI_clamp (by omega)) (nI_pos (by omega)) (by omega) (if_pos rfl) ?_
              refine zw_virtual_v 142 0 0 [.ref 11, .int (nI t13), .int 0] [(0, .ref 11), (1, .int (nI t13)), (2, .int 0)] f50_139 rfl n50_76 k50_76_10 rfl (hb_11 _ _ _ _) (by decide +kernel) (Nat.le_of_ble_eq_true rfl) rfl rfl (by decide +kernel) (by decide +kernel) rfl (Nat.le_of_ble_eq_true rfl) rfl ?_
              refine zw_aload_n 1 f51_0 rfl rfl ?_
              refine zw_getfield 4 f51_1 rfl g51_37_10 (hb_11 _ _ _ _) rfl ?_
              refine zw_iload_n 5 f51_4 rfl rfl ?_
              refine zw_virtual_i 8 0 0 [.ref 1, .int (nI t13)] [(0, .ref 1), (1, .int (nI t13))] f51_5 rfl n51_103 k51_103_4 rfl (hb_1 _ _ _ _) (by decide +kernel) (Nat.le_of_ble_eq_true rfl) rfl rfl (by decide +kernel) (by decide +kernel) rfl (Nat.le_of_ble_eq_true rfl) rfl ?_
              refine zw_iload_n 1 f13_0 rfl rfl ?_
              refine zw_if_lt_f 4 22 f13_1 (by decide +kernel) rfl (nI_pos (by omega)) ?_
              refine zw_iload_n 5 f13_4 rfl rfl ?_
              refine zw_aload_n 6 f13_5 rfl rfl ?_
              refine zw_getI (nI nv) 9 f13_6 rfl g13_39_4 (hb_1 _ _ _ _) rfl ((K0.1 1 0 rfl).trans hR.1.1) ?_
              refine zw_ic_ge_f 12 22 f13_9 (by decide +kernel) rfl (fun q => absurd (zn_ge (a := nv) (b := t13) (by omega) (by omega) q) (by omega)) ?_
              refine zw_iload_n 13 f13_12 rfl rfl ?_
              refine zw_bipush 8 15 f13_13 rfl (by decide +kernel) ?_
              refine zw_ic_ge_f 18 22 f13_15 (by decide +kernel) rfl (fun q => absurd (zn_ge (a := 8) (b := t13) (by omega) (by omega) q) (by omega)) ?_
              refine zw_iconst 1 19 f13_18 rfl (by decide +kernel) ?_
              refine zw_goto 23 f13_19 (by decide +kernel) ?_
              refine zw_zreturn f13_23 r13 u13 (by decide +kernel) ⟨_, rfl, ?_⟩
              refine zw_if_eq_f 11 24 f51_8 (by decide +kernel) rfl (by decide +kernel) ?_
              refine zw_aload_n 12 f51_11 rfl rfl ?_
              refine zw_getfield 15 f51_12 rfl g51_18_10 (hb_11 _ _ _ _) rfl ?_
              refine zw_iload_n 16 f51_15 rfl rfl ?_
              refine zw_dup2 17 f51_16 rfl rfl rfl ?_
              refine zw_iaload t13 (A1 16 t13) 18 f51_17 rfl (hb_16 _ _ _ _) (nI_clamp (by omega)) (nI_pos (by omega)) (by omega) rfl ?_
              refine zw_iload_n 19 f51_18 rfl rfl ?_
              refine zw_iadd ((A1 16 t13) + 0) 20 f51_19 rfl rfl ?_
              refine zw_ast t13 _ 21 f51_20 rfl (hb_16 _ _ _ _) (nI_clamp (by omega)) (nI_pos (by omega)) (by omega) (ha_16 _ _ _ _ _) ?_
              refine zw_goto 34 f51_21 (by decide +kernel) ?_
              refine zw_vreturn f51_34 r51 u51 ⟨rfl, ?_⟩
              refine zw_iinc (nI (k + 1)) _ 145 f50_142 rfl (zl1_ne rfl rfl (zl1_ne rfl rfl h4)) (by decide +kernel) (nI_1 _) rfl ?_
              refine zw_goto 30 f50_145 (by decide +kernel) ?_
              have E := mRO_n (frm := P 60) (too := P 61) (amt := P 62) (run := (wRun nv P W)) (lev := W.2.2.2.2.1 v) (v := v) (s := (s.1, s.2.1, s.1 v, 0)) (k := k) (fun q => q.2 hc12)
              exact ih (k + 1) _ _ _ _ _ (KQ.a rfl (KQ.a rfl K0)) (by rw [E]; exact ⟨mC_0 hr.1, hr.2⟩) (zl1_ne rfl rfl (zl1_ne rfl rfl (zl1_ne rfl rfl h0))) (zl1_ne rfl rfl (zl1_ne rfl rfl (zl1_ne rfl rfl h1))) (by rw [E]; exact (zld_s0 (zl1_ne rfl rfl zl1_eq))) (zl1_ne rfl rfl (zl1_ne rfl rfl (zl1_ne rfl rfl h3))) zl1_eq (by omega) (by omega)
          · refine zw_iload 106 f50_104 rfl zl1_eq ?_
            refine zw_goto 110 f50_106 (by decide +kernel) ?_
            refine zw_ast k _ 111 f50_110 rfl (hb_19 _ _ _ _) (nI_clamp (by omega)) (nI_pos (by omega)) (by omega) (ha_19 _ _ _ _ _) ?_
            refine zw_iload_n 112 f50_111 rfl (zl1_ne rfl rfl h2) ?_
            refine zw_aload_n 113 f50_112 rfl (zl1_ne rfl rfl h0) ?_
            refine zw_getfield 116 f50_113 rfl g50_28_10 (hb_11 _ _ _ _) rfl ?_
            refine zw_iload 118 f50_116 rfl (zl1_ne rfl rfl h4) ?_
            refine zw_iaload k (P 62 k) 119 f50_118 rfl (hb_19 _ _ _ _) (nI_clamp (by omega)) (nI_pos (by omega)) (by omega) (if_pos rfl) ?_
            refine zw_isub (((mRO (P 60) (P 61) (P 62) (wRun nv P W) (W.2.2.2.2.1 v) v (s.1, s.2.1, s.1 v, 0) k).2.2.1) - (P 62 k)) 120 f50_119 rfl rfl ?_
            refine zw_istore_n _ 121 f50_120 rfl (by decide +kernel) rfl ?_
            refine zw_aload_n 122 f50_121 rfl (zl1_ne rfl rfl (zl1_ne rfl rfl h0)) ?_
            refine zw_aload_n 123 f50_122 rfl (zl1_ne rfl rfl (zl1_ne rfl rfl h0)) ?_
            refine zw_getfield 126 f50_123 rfl g50_37_10 (hb_11 _ _ _ _) rfl ?_
            refine zw_getfield 129 f50_126 rfl g50_73_4 (hb_1 _ _ _ _) rfl ?_
            refine zw_iload 131 f50_129 rfl (zl1_ne rfl rfl (zl1_ne rfl rfl h4)) ?_
            rcases (hp.2.2.2 k (by omega)).1 with t14q | ⟨t14, t14l, t14n, t14q⟩
            · refine zw_iaload k (-1) 132 f50_131 rfl (hb_10 _ _ _ _) (nI_clamp (by omega)) (nI_pos (by omega)) (by omega) ((congrFun ((K0.2.2.1 10 rfl).trans (hR.2.1 61 (by omega) (by omega))) k).trans t14q) ?_
              refine zw_aload_n 133 f50_132 rfl (zl1_ne rfl rfl (zl1_ne rfl rfl h0)) ?_
              refine zw_getfield 136 f50_133 rfl g50_28_10 (hb_11 _ _ _ _) rfl ?_
              refine zw_iload 138 f50_136 rfl (zl1_ne rfl rfl (zl1_ne rfl rfl h4)) ?_
              refine zw_iaload k (P 62 k) 139 f50_138 rfl (hb_19 _ _ _ _) (nI_clamp (by omega)) (nI_pos (by omega)) (by omega) (if_pos rfl) ?_
              refine zw_virtual_v 142 0 0 [.ref 11, .int (-1), .int (P 62 k)] [(0, .ref 11), (1, .int (-1)), (2, .int (P 62 k))] f50_139 rfl n50_76 k50_76_10 rfl (hb_11 _ _ _ _) (by decide +kernel) (Nat.le_of_ble_eq_true rfl) rfl rfl (by decide +kernel) (by decide +kernel) rfl (Nat.le_of_ble_eq_true rfl) rfl ?_
              refine zw_aload_n 1 f51_0 rfl rfl ?_
              refine zw_getfield 4 f51_1 rfl g51_37_10 (hb_11 _ _ _ _) rfl ?_
              refine zw_iload_n 5 f51_4 rfl rfl ?_
              refine zw_virtual_i 8 0 0 [.ref 1, .int (-1)] [(0, .ref 1), (1, .int (-1))] f51_5 rfl n51_103 k51_103_4 rfl (hb_1 _ _ _ _) (by decide +kernel) (Nat.le_of_ble_eq_true rfl) rfl rfl (by decide +kernel) (by decide +kernel) rfl (Nat.le_of_ble_eq_true rfl) rfl ?_
              refine zw_iload_n 1 f13_0 rfl rfl ?_
              refine zw_if_lt_t 22 f13_1 (by decide +kernel) (by decide +kernel) ?_
              refine zw_iconst 0 23 f13_22 rfl (by decide +kernel) ?_
              refine zw_zreturn f13_23 r13 u13 (by decide +kernel) ⟨_, rfl, ?_⟩
              refine zw_if_eq_t 24 f51_8 (by decide +kernel) (by decide +kernel) ?_
              refine zw_aload_n 25 f51_24 rfl rfl ?_
              refine zw_dup 26 f51_25 rfl rfl ?_
              refine zw_getI (I1 11 7) 29 f51_26 rfl g51_58_10 (hb_11 _ _ _ _) rfl rfl ?_
              refine zw_iload_n 30 f51_29 rfl rfl ?_
              refine zw_iadd ((I1 11 7) + (P 62 k)) 31 f51_30 rfl rfl ?_
              refine zw_put _ 34 f51_31 rfl g51_58_10 (hb_11 _ _ _ _) rfl (Nat.le_of_ble_eq_true rfl) (by decide +kernel) (hi_11_7 _ _ _ _ _) ?_
              refine zw_vreturn f51_34 r51 u51 ⟨rfl, ?_⟩
              refine zw_iinc (nI (k + 1)) _ 145 f50_142 rfl (zl1_ne rfl rfl (zl1_ne rfl rfl h4)) (by decide +kernel) (nI_1 _) rfl ?_
              refine zw_goto 30 f50_145 (by decide +kernel) ?_
              have E := mRO_y (frm := P 60) (too := P 61) (amt := P 62) (run := (wRun nv P W)) (lev := W.2.2.2.2.1 v) (v := v) (s := (s.1, s.2.1, s.1 v, 0)) (k := k) (P 62 k) (-1) t14q (mFl_m hw hc8) (Decidable.of_not_not hc7) hc12
              rw [mGoC_m, mGoD_m] at E
              exact ih (k + 1) _ _ _ _ _ (KQ.i rfl (KQ.a rfl K0)) (by rw [E]; exact ⟨hr.1, congrArg (fun z => z + (P 62 k)) hr.2.1, hr.2.2⟩) (zl1_ne rfl rfl (zl1_ne rfl rfl (zl1_ne rfl rfl h0))) (zl1_ne rfl rfl (zl1_ne rfl rfl (zl1_ne rfl rfl h1))) (by rw [E]; exact (zl1_ne rfl rfl zl1_eq)) (zl1_ne rfl rfl (zl1_ne rfl rfl (zl1_ne rfl rfl h3))) zl1_eq (by omega) (by omega)
            · refine zw_iaload k (nI t14) 132 f50_131 rfl (hb_10 _ _ _ _) (nI_clamp (by omega)) (nI_pos (by omega)) (by omega) ((congrFun ((K0.2.2.1 10 rfl).trans (hR.2.1 61 (by omega) (by omega))) k).trans t14q) ?_
              refine zw_aload_n 133 f50_132 rfl (zl1_ne rfl rfl (zl1_ne rfl rfl h0)) ?_
              refine zw_getfield 136 f50_133 rfl g50_28_10 (hb_11 _ _ _ _) rfl ?_
              refine zw_iload 138 f50_136 rfl (zl1_ne rfl rfl (zl1_ne rfl rfl h4)) ?_
              refine zw_iaload k (P 62 k) 139 f50_138 rfl (hb_19 _ _ _ _) (nI_clamp (by omega)) (nI_pos (by omega)) (by omega) (if_pos rfl) ?_
              refine zw_virtual_v 142 0 0 [.ref 11, .int (nI t14), .int (P 62 k)] [(0, .ref 11), (1, .int (nI t14)), (2, .int (P 62 k))] f50_139 rfl n50_76 k50_76_10 rfl (hb_11 _ _ _ _) (by decide +kernel) (Nat.le_of_ble_eq_true rfl) rfl rfl (by decide +kernel) (by decide +kernel) rfl (Nat.le_of_ble_eq_true rfl) rfl ?_
              refine zw_aload_n 1 f51_0 rfl rfl ?_
              refine zw_getfield 4 f51_1 rfl g51_37_10 (hb_11 _ _ _ _) rfl ?_
              refine zw_iload_n 5 f51_4 rfl rfl ?_
              refine zw_virtual_i 8 0 0 [.ref 1, .int (nI t14)] [(0, .ref 1), (1, .int (nI t14))] f51_5 rfl n51_103 k51_103_4 rfl (hb_1 _ _ _ _) (by decide +kernel) (Nat.le_of_ble_eq_true rfl) rfl rfl (by decide +kernel) (by decide +kernel) rfl (Nat.le_of_ble_eq_true rfl) rfl ?_
              refine zw_iload_n 1 f13_0 rfl rfl ?_
              refine zw_if_lt_f 4 22 f13_1 (by decide +kernel) rfl (nI_pos (by omega)) ?_
              refine zw_iload_n 5 f13_4 rfl rfl ?_
              refine zw_aload_n 6 f13_5 rfl rfl ?_
              refine zw_getI (nI nv) 9 f13_6 rfl g13_39_4 (hb_1 _ _ _ _) rfl ((K0.1 1 0 rfl).trans hR.1.1) ?_
              refine zw_ic_ge_f 12 22 f13_9 (by decide +kernel) rfl (fun q => absurd (zn_ge (a := nv) (b := t14) (by omega) (by omega) q) (by omega)) ?_
              refine zw_iload_n 13 f13_12 rfl rfl ?_
              refine zw_bipush 8 15 f13_13 rfl (by decide +kernel) ?_
              refine zw_ic_ge_f 18 22 f13_15 (by decide +kernel) rfl (fun q => absurd (zn_ge (a := 8) (b := t14) (by omega) (by omega) q) (by omega)) ?_
              refine zw_iconst 1 19 f13_18 rfl (by decide +kernel) ?_
              refine zw_goto 23 f13_19 (by decide +kernel) ?_
              refine zw_zreturn f13_23 r13 u13 (by decide +kernel) ⟨_, rfl, ?_⟩
              refine zw_if_eq_f 11 24 f51_8 (by decide +kernel) rfl (by decide +kernel) ?_
              refine zw_aload_n 12 f51_11 rfl rfl ?_
              refine zw_getfield 15 f51_12 rfl g51_18_10 (hb_11 _ _ _ _) rfl ?_
              refine zw_iload_n 16 f51_15 rfl rfl ?_
              refine zw_dup2 17 f51_16 rfl rfl rfl ?_
              refine zw_iaload t14 (A1 16 t14) 18 f51_17 rfl (hb_16 _ _ _ _) (nI_clamp (by omega)) (nI_pos (by omega)) (by omega) rfl ?_
              refine zw_iload_n 19 f51_18 rfl rfl ?_
              refine zw_iadd ((A1 16 t14) + (P 62 k)) 20 f51_19 rfl rfl ?_
              refine zw_ast t14 _ 21 f51_20 rfl (hb_16 _ _ _ _) (nI_clamp (by omega)) (nI_pos (by omega)) (by omega) (ha_16 _ _ _ _ _) ?_
              refine zw_goto 34 f51_21 (by decide +kernel) ?_
              refine zw_vreturn f51_34 r51 u51 ⟨rfl, ?_⟩
              refine zw_iinc (nI (k + 1)) _ 145 f50_142 rfl (zl1_ne rfl rfl (zl1_ne rfl rfl h4)) (by decide +kernel) (nI_1 _) rfl ?_
              refine zw_goto 30 f50_145 (by decide +kernel) ?_
              have E := mRO_y (frm := P 60) (too := P 61) (amt := P 62) (run := (wRun nv P W)) (lev := W.2.2.2.2.1 v) (v := v) (s := (s.1, s.2.1, s.1 v, 0)) (k := k) (P 62 k) (nI t14) t14q (mFl_m hw hc8) (Decidable.of_not_not hc7) hc12
              rw [mGoC_t (by omega), mGoD_t (by omega)] at E
              exact ih (k + 1) _ _ _ _ _ (KQ.a rfl (KQ.a rfl K0)) (by rw [E]; exact ⟨mC_t hr.1 (by omega), hr.2⟩) (zl1_ne rfl rfl (zl1_ne rfl rfl (zl1_ne rfl rfl h0))) (zl1_ne rfl rfl (zl1_ne rfl rfl (zl1_ne rfl rfl h1))) (by rw [E]; exact (zl1_ne rfl rfl zl1_eq)) (zl1_ne rfl rfl (zl1_ne rfl rfl (zl1_ne rfl rfl h3))) zl1_eq (by omega) (by omega)
set_option maxRecDepth 100000 in
set_option maxHeartbeats 0 in
theorem cx_rv_11 (ro : UInt32 → Nat × (Nat → Int32)) (nv np : Nat) (P : Nat → Nat → Int32) (W : qW) (T K : Int) (I : Nat → Nat → Int32) (G : Nat → Nat → Int64) (A : Nat → Nat → Int32) (B : Nat → Nat → Int64) (hR : cRS 11 nv np P W I G A B) (hp : MPa nv np P) (hb : wBo W) (hq : qOw nv np P) (hW : wOk nv T K P W) (v : Nat) (hv : v < nv) (s : (Nat → Int32) × Int32 × (Nat → Int32) × (Nat → Int32)) (hs : cRel 11 I A s v) (hz : s.2.2.2 v = 0) : zWp ro 50 0 [(0, .ref 11), (1, .int (nI v))] [] (hS I G A B) 0 0 (fun r h1 => ∃ I2 G2 A2 B2, h1 = hS I2 G2 A2 B2 ∧ KQ (fCr 11) (pCr 11) I G A B I2 G2 A2 B2 ∧ (cRel 11 I2 A2 (mRateOf (P 60) (P 61) (P 62) (wRun nv P W) (P 59) (P 54) (W.2.2.2.2.1) W.1 np v s) (v + 1) ∧ I2 11 6 = I 11 6) ∧ r = none) := by
  have h8 := hp.1
  have h14 := hp.2.1
  have hto : ∀ p, p < np → P 60 p = nI v → mTo nv (v + 1) (P 61 p) := fun p h1 h2 => (MPa.e hp W (fun _ => 0) 0 0).ht v p hv h1 h2
  refine zw_aload_n 1 f50_0 rfl rfl ?_
  refine zw_getfield 4 f50_1 rfl g50_18_10 (hb_11 _ _ _ _) rfl ?_
  refine zw_iload_n 5 f50_4 rfl rfl ?_
  refine zw_iaload v (s.1 v) 6 f50_5 rfl (hb_16 _ _ _ _) (nI_clamp (by omega)) (nI_pos (by omega)) (by omega) (hs.1 v (by omega)) ?_
  refine zw_istore_n _ 7 f50_6 rfl (by decide +kernel) rfl ?_
  refine zw_aload_n 8 f50_7 rfl (zl1_ne rfl rfl rfl) ?_
  refine zw_getfield 11 f50_8 rfl g50_12_10 (hb_11 _ _ _ _) rfl ?_
  refine zw_getfield 14 f50_11 rfl g50_87_9 (hb_12 _ _ _ _) rfl ?_
  refine zw_iload_n 15 f50_14 rfl (zl1_ne rfl rfl rfl) ?_
  refine zw_laload v ((W.2.2.2.2.1) v) 16 f50_15 rfl (hb_13 _ _ _ _) (nI_clamp (by omega)) (nI_pos (by omega)) (by omega) (congrFun (hR.2.2.2.1) v) ?_
  refine zw_lconst 0 17 f50_16 rfl (by decide +kernel) ?_
  refine zw_lcmp (lg_cmp ((W.2.2.2.2.1) v) 0) 18 f50_17 rfl rfl ?_
  refine zw_if_le 21 25 f50_18 (by decide +kernel) rfl (fun hc1 => ?_) (fun hc1 => ?_)
  · refine zw_iconst 0 26 f50_25 rfl (by decide +kernel) ?_
    refine zw_istore_n _ 27 f50_26 rfl (by decide +kernel) rfl ?_
    refine zw_iconst 0 28 f50_27 rfl (by decide +kernel) ?_
    refine zw_istore _ 30 f50_28 rfl (by decide +kernel) rfl ?_
    exact lcx_rv11_0 ro nv np P W T K I G A B hR hp hb hq hW v hv s hs hz (Int64.not_lt.mpr ((lg_cmp_le _ _).mp hc1)) (np + 1) 0 _ _ _ _ _ KQ.rf ⟨hs.1, hs.2.1, rfl, rfl, rfl⟩ (zl1_ne rfl rfl (zl1_ne rfl rfl (zl1_ne rfl rfl rfl))) (zl1_ne rfl rfl (zl1_ne rfl rfl (zl1_ne rfl rfl rfl))) (zl1_ne rfl rfl (zl1_ne rfl rfl zl1_eq)) (zl1_ne rfl rfl zl1_eq) zl1_eq (by omega) (by omega)
  · refine zw_iconst 1 22 f50_21 rfl (by decide +kernel) ?_
    refine zw_goto 26 f50_22 (by decide +kernel) ?_
    refine zw_istore_n _ 27 f50_26 rfl (by decide +kernel) rfl ?_
    refine zw_iconst 0 28 f50_27 rfl (by decide +kernel) ?_
    refine zw_istore _ 30 f50_28 rfl (by decide +kernel) rfl ?_
    exact lcx_rv11_1 ro nv np P W T K I G A B hR hp hb hq hW v hv s hs hz (Int64.not_le.mp (fun q => hc1 ((lg_cmp_le _ _).mpr q))) (np + 1) 0 _ _ _ _ _ KQ.rf ⟨hs.1, hs.2.1, rfl, rfl, rfl⟩ (zl1_ne rfl rfl (zl1_ne rfl rfl (zl1_ne rfl rfl rfl))) (zl1_ne rfl rfl (zl1_ne rfl rfl (zl1_ne rfl rfl rfl))) (zl1_ne rfl rfl (zl1_ne rfl rfl zl1_eq)) (zl1_ne rfl rfl zl1_eq) zl1_eq (by omega) (by omega)
set_option maxRecDepth 100000 in
set_option maxHeartbeats 0 in
theorem lcx_rr11_126 (ro : UInt32 → Nat × (Nat → Int32)) (nv np : Nat) (P : Nat → Nat → Int32) (W : qW) (T K : Int) (I : Nat → Nat → Int32) (G : Nat → Nat → Int64) (A : Nat → Nat → Int32) (B : Nat → Nat → Int64) (hR : cRS 11 nv np P W I G A B) (hp : MPa nv np P) (hb : wBo W) (hq : qOw nv np P) (hW : wOk nv T K P W) : ∀ (n k : Nat) (ls : List (Nat × Value)) (I1 : Nat → Nat → Int32) (G1 : Nat → Nat → Int64) (A1 : Nat → Nat → Int32) (B1 : Nat → Nat → Int64), KQ (fCr 11) (pCr 11) I G A B I1 G1 A1 B1 → (cRel 11 I1 A1 (mR2 (P 60) (P 61) (P 62) (wRun nv P W) (P 59) (P 54) (W.2.2.2.2.1) W.1 np k) k ∧ I1 11 6 = wSr nv np P W) → zld ls 0 = some (.ref 11) → zld ls 1 = some (.int (nI k)) → k ≤ nv → nv + 1 ≤ k + n → zWp ro 49 126 ls [] (hS I1 G1 A1 B1) 0 0 (fun r h1 => ∃ I2 G2 A2 B2, h1 = hS I2 G2 A2 B2 ∧ KQ (fCr 11) (pCr 11) I G A B I2 G2 A2 B2 ∧ (cRel 11 I2 A2 (wR2 nv np P W) nv ∧ I2 11 6 = wSr nv np P W) ∧ r = none) := by
  have h8 := hp.1
  have h14 := hp.2.1
  intro n
  induction n with
  | zero =>
    intro k ls I1 G1 A1 B1 _ _ _ _ a c
    exact absurd c (by omega)
  | succ n ih =>
    intro k ls I1 G1 A1 B1 K0 hr h0 h1 hk1 hk2
    refine zw_iload_n 127 f49_126 rfl h1 ?_
    refine zw_aload_n 128 f49_127 rfl h0 ?_
    refine zw_getfield 131 f49_128 rfl g49_37_10 (hb_11 _ _ _ _) rfl ?_
    refine zw_getI (nI nv) 134 f49_131 rfl g49_80_4 (hb_1 _ _ _ _) rfl ((K0.1 1 0 rfl).trans hR.1.1) ?_
    refine zw_ic_ge 137 148 f49_134 (by decide +kernel) rfl (fun hc1 => ?_) (fun hc1 => ?_)
    · have hn_hc1 : nv ≤ k := zn_ge (by omega) (by omega) hc1
      refine zw_vreturn f49_148 r49 u49 ?_
      have hk : k = nv := by omega
      subst hk
      exact ⟨_, _, _, _, rfl, K0, hr, rfl⟩
    · have hn_hc1 : k < nv := zn_lt (by omega) (by omega) hc1
      refine zw_aload_n 138 f49_137 rfl h0 ?_
      refine zw_iload_n 139 f49_138 rfl h1 ?_
      refine zw_virtual_v 142 0 0 [.ref 11, .int (nI k)] [(0, .ref 11), (1, .int (nI k))] f49_139 rfl n49_83 k49_83_10 rfl (hb_11 _ _ _ _) (by decide +kernel) (Nat.le_of_ble_eq_true rfl) rfl rfl (by decide +kernel) (by decide +kernel) rfl (Nat.le_of_ble_eq_true rfl) rfl ?_
      refine zWp.mono (cx_rv_11 ro nv np P W T K _ _ _ _ (hR.k K0 ⟨rfl, rfl⟩ (fCr_w 11) (pCr_w 11 (by omega))) hp hb hq hW k (by omega) _ hr.1 (mR2_fz k k (Nat.le_refl _))) ?_
      rintro r h1 ⟨I2, G2, A2, B2, rfl, K2, ⟨hr2, e6⟩, rfl⟩
      refine ⟨rfl, ?_⟩
      refine zw_iinc (nI (k + 1)) _ 145 f49_142 rfl h1 (by decide +kernel) (nI_1 _) rfl ?_
      refine zw_goto 126 f49_145 (by decide +kernel) ?_
      exact ih (k + 1) _ _ _ _ _ (KQ.tr K0 K2) ⟨hr2, e6.trans hr.2⟩ (zl1_ne rfl rfl h0) zl1_eq (by omega) (by omega)
set_option maxRecDepth 100000 in
set_option maxHeartbeats 0 in
theorem lcx_rr11_33 (ro : UInt32 → Nat × (Nat → Int32)) (nv np : Nat) (P : Nat → Nat → Int32) (W : qW) (T K : Int) (I : Nat → Nat → Int32) (G : Nat → Nat → Int64) (A : Nat → Nat → Int32) (B : Nat → Nat → Int64) (hR : cRS 11 nv np P W I G A B) (hp : MPa nv np P) (hb : wBo W) (hq : qOw nv np P) (hW : wOk nv T K P W) : ∀ (n k : Nat) (ls : List (Nat × Value)) (I1 : Nat → Nat → Int32) (G1 : Nat → Nat → Int64) (A1 : Nat → Nat → Int32) (B1 : Nat → Nat → Int64), KQ (fCr 11) (pCr 11) I G A B I1 G1 A1 B1 → ((∀ j, j < 8 → A1 16 j = (mR1 (P 60) (P 61) (P 62) (wRun nv P W) k).1 j) ∧ I1 11 7 = (mR1 (P 60) (P 61) (P 62) (wRun nv P W) k).2.1 ∧ I1 11 6 = (mR1 (P 60) (P 61) (P 62) (wRun nv P W) k).2.2) → zld ls 0 = some (.ref 11) → zld ls 1 = some (.int (nI k)) → k ≤ np → np + 1 ≤ k + n → zWp ro 49 33 ls [] (hS I1 G1 A1 B1) 0 0 (fun r h1 => ∃ I2 G2 A2 B2, h1 = hS I2 G2 A2 B2 ∧ KQ (fCr 11) (pCr 11) I G A B I2 G2 A2 B2 ∧ (cRel 11 I2 A2 (wR2 nv np P W) nv ∧ I2 11 6 = wSr nv np P W) ∧ r = none) := by
  have h8 := hp.1
  have h14 := hp.2.1
  intro n
  induction n with
  | zero =>
    intro k ls I1 G1 A1 B1 _ _ _ _ a c
    exact absurd c (by omega)
  | succ n ih =>
    intro k ls I1 G1 A1 B1 K0 hr h0 h1 hk1 hk2
    refine zw_iload_n 34 f49_33 rfl h1 ?_
    refine zw_aload_n 35 f49_34 rfl h0 ?_
    refine zw_getfield 38 f49_35 rfl g49_37_10 (hb_11 _ _ _ _) rfl ?_
    refine zw_getI (nI np) 41 f49_38 rfl g49_61_4 (hb_1 _ _ _ _) rfl ((K0.1 1 1 rfl).trans hR.1.2) ?_
    refine zw_ic_ge 44 124 f49_41 (by decide +kernel) rfl (fun hc1 => ?_) (fun hc1 => ?_)
    · have hn_hc1 : np ≤ k := zn_ge (by omega) (by omega) hc1
      refine zw_iconst 0 125 f49_124 rfl (by decide +kernel) ?_
      refine zw_istore_n _ 126 f49_125 rfl (by decide +kernel) rfl ?_
      have hk : k = np := by omega
      rw [hk] at hr
      exact lcx_rr11_126 ro nv np P W T K I G A B hR hp hb hq hW (nv + 1) 0 _ _ _ _ _ K0 ⟨⟨hr.1, hr.2.1, fun j hj => absurd hj (by omega), fun j hj => absurd hj (by omega)⟩, hr.2.2⟩ (zl1_ne rfl rfl h0) zl1_eq (by omega) (by omega)
    · have hn_hc1 : k < np := zn_lt (by omega) (by omega) hc1
      refine zw_aload_n 45 f49_44 rfl h0 ?_
      refine zw_getfield 48 f49_45 rfl g49_37_10 (hb_11 _ _ _ _) rfl ?_
      refine zw_getfield 51 f49_48 rfl g49_64_4 (hb_1 _ _ _ _) rfl ?_
      refine zw_iload_n 52 f49_51 rfl h1 ?_
      refine zw_iaload k (P 60 k) 53 f49_52 rfl (hb_9 _ _ _ _) (nI_clamp (by omega)) (nI_pos (by omega)) (by omega) (congrFun (((K0.2.2.1 9 rfl).trans (hR.2.1 60 (by omega) (by omega)))) k) ?_
      refine zw_iconst (-1) 54 f49_53 rfl (by decide +kernel) ?_
      refine zw_ic_ne 57 118 f49_54 (by decide +kernel) rfl (fun hc2 => ?_) (fun hc2 => ?_)
      · refine zw_iinc (nI (k + 1)) _ 121 f49_118 rfl h1 (by decide +kernel) (nI_1 _) rfl ?_
        refine zw_goto 33 f49_121 (by decide +kernel) ?_
        have E := mR1_n (frm := P 60) (too := P 61) (amt := P 62) (run := (wRun nv P W)) (k := k) 0 (if_neg (fun q => hc2 q.1)) (by decide)
        exact ih (k + 1) _ _ _ _ _ K0 (by rw [E]; exact ⟨hr.1, hr.2.1, hr.2.2.trans (Int32.add_zero _).symm⟩) (zl1_ne rfl rfl h0) zl1_eq (by omega) (by omega)
      · refine zw_aload_n 58 f49_57 rfl h0 ?_
        refine zw_getfield 61 f49_58 rfl g49_28_10 (hb_11 _ _ _ _) rfl ?_
        refine zw_iload_n 62 f49_61 rfl h1 ?_
        refine zw_aload_n 63 f49_62 rfl h0 ?_
        refine zw_iload_n 64 f49_63 rfl h1 ?_
        refine zw_virtual_i 67 0 0 [.ref 11, .int (nI k)] [(0, .ref 11), (1, .int (nI k))] f49_64 rfl n49_67 k49_67_10 rfl (hb_11 _ _ _ _) (by decide +kernel) (Nat.le_of_ble_eq_true rfl) rfl rfl (by decide +kernel) (by decide +kernel) rfl (Nat.le_of_ble_eq_true rfl) rfl ?_
        refine zWp.mono (cx_runs_11 ro nv np P W _ _ _ _ (hR.k K0 ⟨rfl, rfl⟩ (fCr_w 11) (pCr_w 11 (by omega))) hp hb hq k (by omega)) ?_
        rintro r h1 ⟨rfl, rfl⟩
        refine ⟨_, rfl, ?_⟩
        refine zw_if_eq 70 82 f49_67 (by decide +kernel) rfl (fun hc3 => ?_) (fun hc3 => ?_)
        · refine zw_iconst 0 83 f49_82 rfl (by decide +kernel) ?_
          refine zw_ast k _ 84 f49_83 rfl (hb_19 _ _ _ _) (nI_clamp (by omega)) (nI_pos (by omega)) (by omega) (ha_19 _ _ _ _ _) ?_
          refine zw_aload_n 85 f49_84 rfl h0 ?_
          refine zw_dup 86 f49_85 rfl rfl ?_
          refine zw_getI (I1 11 6) 89 f49_86 rfl g49_54_10 (hb_11 _ _ _ _) rfl rfl ?_
          refine zw_aload_n 90 f49_89 rfl h0 ?_
          refine zw_getfield 93 f49_90 rfl g49_28_10 (hb_11 _ _ _ _) rfl ?_
          refine zw_iload_n 94 f49_93 rfl h1 ?_
          refine zw_iaload k 0 95 f49_94 rfl (hb_19 _ _ _ _) (nI_clamp (by omega)) (nI_pos (by omega)) (by omega) (if_pos rfl) ?_
          refine zw_iadd ((I1 11 6) + 0) 96 f49_95 rfl rfl ?_
          refine zw_put _ 99 f49_96 rfl g49_54_10 (hb_11 _ _ _ _) rfl (Nat.le_of_ble_eq_true rfl) (by decide +kernel) (hi_11_6 _ _ _ _ _) ?_
          refine zw_aload_n 100 f49_99 rfl h0 ?_
          refine zw_aload_n 101 f49_100 rfl h0 ?_
          refine zw_getfield 104 f49_101 rfl g49_37_10 (hb_11 _ _ _ _) rfl ?_
          refine zw_getfield 107 f49_104 rfl g49_73_4 (hb_1 _ _ _ _) rfl ?_
          refine zw_iload_n 108 f49_107 rfl h1 ?_
          rcases (hp.2.2.2 k (by omega)).1 with t4q | ⟨t4, t4l, t4n, t4q⟩
          · refine zw_iaload k (-1) 109 f49_108 rfl (hb_10 _ _ _ _) (nI_clamp (by omega)) (nI_pos (by omega)) (by omega) ((congrFun ((K0.2.2.1 10 rfl).trans (hR.2.1 61 (by omega) (by omega))) k).trans t4q) ?_
            refine zw_aload_n 110 f49_109 rfl h0 ?_
            refine zw_getfield 113 f49_110 rfl g49_28_10 (hb_11 _ _ _ _) rfl ?_
            refine zw_iload_n 114 f49_113 rfl h1 ?_
            refine zw_iaload k 0 115 f49_114 rfl (hb_19 _ _ _ _) (nI_clamp (by omega)) (nI_pos (by omega)) (by omega) (if_pos rfl) ?_
            refine zw_virtual_v 118 0 0 [.ref 11, .int (-1), .int 0] [(0, .ref 11), (1, .int (-1)), (2, .int 0)] f49_115 rfl n49_76 k49_76_10 rfl (hb_11 _ _ _ _) (by decide +kernel) (Nat.le_of_ble_eq_true rfl) rfl rfl (by decide +kernel) (by decide +kernel) rfl (Nat.le_of_ble_eq_true rfl) rfl ?_
            refine zw_aload_n 1 f51_0 rfl rfl ?_
            refine zw_getfield 4 f51_1 rfl g51_37_10 (hb_11 _ _ _ _) rfl ?_
            refine zw_iload_n 5 f51_4 rfl rfl ?_
            refine zw_virtual_i 8 0 0 [.ref 1, .int (-1)] [(0, .ref 1), (1, .int (-1))] f51_5 rfl n51_103 k51_103_4 rfl (hb_1 _ _ _ _) (by decide +kernel) (Nat.le_of_ble_eq_true rfl) rfl rfl (by decide +kernel) (by decide +kernel) rfl (Nat.le_of_ble_eq_true rfl) rfl ?_
            refine zw_iload_n 1 f13_0 rfl rfl ?_
            refine zw_if_lt_t 22 f13_1 (by decide +kernel) (by decide +kernel) ?_
            refine zw_iconst 0 23 f13_22 rfl (by decide +kernel) ?_
            refine zw_zreturn f13_23 r13 u13 (by decide +kernel) ⟨_, rfl, ?_⟩
            refine zw_if_eq_t 24 f51_8 (by decide +kernel) (by decide +kernel) ?_
            refine zw_aload_n 25 f51_24 rfl rfl ?_
            refine zw_dup 26 f51_25 rfl rfl ?_
            refine zw_getI (I1 11 7) 29 f51_26 rfl g51_58_10 (hb_11 _ _ _ _) rfl rfl ?_
            refine zw_iload_n 30 f51_29 rfl rfl ?_
            refine zw_iadd ((I1 11 7) + 0) 31 f51_30 rfl rfl ?_
            refine zw_put _ 34 f51_31 rfl g51_58_10 (hb_11 _ _ _ _) rfl (Nat.le_of_ble_eq_true rfl) (by decide +kernel) (hi_11_7 _ _ _ _ _) ?_
            refine zw_vreturn f51_34 r51 u51 ⟨rfl, ?_⟩
            refine zw_iinc (nI (k + 1)) _ 121 f49_118 rfl h1 (by decide +kernel) (nI_1 _) rfl ?_
            refine zw_goto 33 f49_121 (by decide +kernel) ?_
            have E := mR1_n (frm := P 60) (too := P 61) (amt := P 62) (run := (wRun nv P W)) (k := k) 0 (if_neg (fun q => q.2 hc3)) (by decide)
            exact ih (k + 1) _ _ _ _ _ (KQ.i rfl (KQ.i rfl (KQ.a rfl K0))) (by rw [E]; exact ⟨hr.1, (Int32.add_zero _).trans hr.2.1, congrArg (fun z => z + 0) hr.2.2⟩) (zl1_ne rfl rfl h0) zl1_eq (by omega) (by omega)
          · refine zw_iaload k (nI t4) 109 f49_108 rfl (hb_10 _ _ _ _) (nI_clamp (by omega)) (nI_pos (by omega)) (by omega) ((congrFun ((K0.2.2.1 10 rfl).trans (hR.2.1 61 (by omega) (by omega))) k).trans t4q) ?_
            refine zw_aload_n 110 f49_109 rfl h0 ?_
            refine zw_getfield 113 f49_110 rfl g49_28_10 (hb_11 _ _ _ _) rfl ?_
            refine zw_iload_n 114 f49_113 rfl h1 ?_
            refine zw_iaload k 0 115 f49_114 rfl (hb_19 _ _ _ _) (nI_clamp (by omega)) (nI_pos (by omega)) (by omega) (if_pos rfl) ?_
            refine zw_virtual_v 118 0 0 [.ref 11, .int (nI t4), .int 0] [(0, .ref 11), (1, .int (nI t4)), (2, .int 0)] f49_115 rfl n49_76 k49_76_10 rfl (hb_11 _ _ _ _) (by decide +kernel) (Nat.le_of_ble_eq_true rfl) rfl rfl (by decide +kernel) (by decide +kernel) rfl (Nat.le_of_ble_eq_true rfl) rfl ?_
            refine zw_aload_n 1 f51_0 rfl rfl ?_
            refine zw_getfield 4 f51_1 rfl g51_37_10 (hb_11 _ _ _ _) rfl ?_
            refine zw_iload_n 5 f51_4 rfl rfl ?_
            refine zw_virtual_i 8 0 0 [.ref 1, .int (nI t4)] [(0, .ref 1), (1, .int (nI t4))] f51_5 rfl n51_103 k51_103_4 rfl (hb_1 _ _ _ _) (by decide +kernel) (Nat.le_of_ble_eq_true rfl) rfl rfl (by decide +kernel) (by decide +kernel) rfl (Nat.le_of_ble_eq_true rfl) rfl ?_
            refine zw_iload_n 1 f13_0 rfl rfl ?_
            refine zw_if_lt_f 4 22 f13_1 (by decide +kernel) rfl (nI_pos (by omega)) ?_
            refine zw_iload_n 5 f13_4 rfl rfl ?_
            refine zw_aload_n 6 f13_5 rfl rfl ?_
            refine zw_getI (nI nv) 9 f13_6 rfl g13_39_4 (hb_1 _ _ _ _) rfl ((K0.1 1 0 rfl).trans hR.1.1) ?_
            refine zw_ic_ge_f 12 22 f13_9 (by decide +kernel) rfl (fun q => absurd (zn_ge (a := nv) (b := t4) (by omega) (by omega) q) (by omega)) ?_
            refine zw_iload_n 13 f13_12 rfl rfl ?_
            refine zw_bipush 8 15 f13_13 rfl (by decide +kernel) ?_
            refine zw_ic_ge_f 18 22 f13_15 (by decide +kernel) rfl (fun q => absurd (zn_ge (a := 8) (b := t4) (by omega) (by omega) q) (by omega)) ?_
            refine zw_iconst 1 19 f13_18 rfl (by decide +kernel) ?_
            refine zw_goto 23 f13_19 (by decide +kernel) ?_
            refine zw_zreturn f13_23 r13 u13 (by decide +kernel) ⟨_, rfl, ?_⟩
            refine zw_if_eq_f 11 24 f51_8 (by decide +kernel) rfl (by decide +kernel) ?_
            refine zw_aload_n 12 f51_11 rfl rfl ?_
            refine zw_getfield 15 f51_12 rfl g51_18_10 (hb_11 _ _ _ _) rfl ?_
            refine zw_iload_n 16 f51_15 rfl rfl ?_
            refine zw_dup2 17 f51_16 rfl rfl rfl ?_
            refine zw_iaload t4 (A1 16 t4) 18 f51_17 rfl (hb_16 _ _ _ _) (nI_clamp (by omega)) (nI_pos (by omega)) (by omega) rfl ?_
            refine zw_iload_n 19 f51_18 rfl rfl ?_
            refine zw_iadd ((A1 16 t4) + 0) 20 f51_19 rfl rfl ?_
            refine zw_ast t4 _ 21 f51_20 rfl (hb_16 _ _ _ _) (nI_clamp (by omega)) (nI_pos (by omega)) (by omega) (ha_16 _ _ _ _ _) ?_
            refine zw_goto 34 f51_21 (by decide +kernel) ?_
            refine zw_vreturn f51_34 r51 u51 ⟨rfl, ?_⟩
            refine zw_iinc (nI (k + 1)) _ 121 f49_118 rfl h1 (by decide +kernel) (nI_1 _) rfl ?_
            refine zw_goto 33 f49_121 (by decide +kernel) ?_
            have E := mR1_n (frm := P 60) (too := P 61) (amt := P 62) (run := (wRun nv P W)) (k := k) 0 (if_neg (fun q => q.2 hc3)) (by decide)
            exact ih (k + 1) _ _ _ _ _ (KQ.a rfl (KQ.i rfl (KQ.a rfl K0))) (by rw [E]; exact ⟨mC_0 hr.1, hr.2.1, congrArg (fun z => z + 0) hr.2.2⟩) (zl1_ne rfl rfl h0) zl1_eq (by omega) (by omega)
        · refine zw_aload_n 71 f49_70 rfl h0 ?_
          refine zw_getfield 74 f49_71 rfl g49_12_10 (hb_11 _ _ _ _) rfl ?_
          refine zw_getfield 77 f49_74 rfl g49_70_9 (hb_12 _ _ _ _) rfl ?_
          refine zw_iload_n 78 f49_77 rfl h1 ?_
          refine zw_iaload k (P 62 k) 79 f49_78 rfl (hb_15 _ _ _ _) (nI_clamp (by omega)) (nI_pos (by omega)) (by omega) (congrFun (((K0.2.2.1 15 rfl).trans (hR.2.1 62 (by omega) (by omega)))) k) ?_
          refine zw_goto 83 f49_79 (by decide +kernel) ?_
          refine zw_ast k _ 84 f49_83 rfl (hb_19 _ _ _ _) (nI_clamp (by omega)) (nI_pos (by omega)) (by omega) (ha_19 _ _ _ _ _) ?_
          refine zw_aload_n 85 f49_84 rfl h0 ?_
          refine zw_dup 86 f49_85 rfl rfl ?_
          refine zw_getI (I1 11 6) 89 f49_86 rfl g49_54_10 (hb_11 _ _ _ _) rfl rfl ?_
          refine zw_aload_n 90 f49_89 rfl h0 ?_
          refine zw_getfield 93 f49_90 rfl g49_28_10 (hb_11 _ _ _ _) rfl ?_
          refine zw_iload_n 94 f49_93 rfl h1 ?_
          refine zw_iaload k (P 62 k) 95 f49_94 rfl (hb_19 _ _ _ _) (nI_clamp (by omega)) (nI_pos (by omega)) (by omega) (if_pos rfl) ?_
          refine zw_iadd ((I1 11 6) + (P 62 k)) 96 f49_95 rfl rfl ?_
          refine zw_put _ 99 f49_96 rfl g49_54_10 (hb_11 _ _ _ _) rfl (Nat.le_of_ble_eq_true rfl) (by decide +kernel) (hi_11_6 _ _ _ _ _) ?_
          refine zw_aload_n 100 f49_99 rfl h0 ?_
          refine zw_aload_n 101 f49_100 rfl h0 ?_
          refine zw_getfield 104 f49_101 rfl g49_37_10 (hb_11 _ _ _ _) rfl ?_
          refine zw_getfield 107 f49_104 rfl g49_73_4 (hb_1 _ _ _ _) rfl ?_
          refine zw_iload_n 108 f49_107 rfl h1 ?_
          rcases (hp.2.2.2 k (by omega)).1 with t5q | ⟨t5, t5l, t5n, t5q⟩
          · refine zw_iaload k (-1) 109 f49_108 rfl (hb_10 _ _ _ _) (nI_clamp (by omega)) (nI_pos (by omega)) (by omega) ((congrFun ((K0.2.2.1 10 rfl).trans (hR.2.1 61 (by omega) (by omega))) k).trans t5q) ?_
            refine zw_aload_n 110 f49_109 rfl h0 ?_
            refine zw_getfield 113 f49_110 rfl g49_28_10 (hb_11 _ _ _ _) rfl ?_
            refine zw_iload_n 114 f49_113 rfl h1 ?_
            refine zw_iaload k (P 62 k) 115 f49_114 rfl (hb_19 _ _ _ _) (nI_clamp (by omega)) (nI_pos (by omega)) (by omega) (if_pos rfl) ?_
            refine zw_virtual_v 118 0 0 [.ref 11, .int (-1), .int (P 62 k)] [(0, .ref 11), (1, .int (-1)), (2, .int (P 62 k))] f49_115 rfl n49_76 k49_76_10 rfl (hb_11 _ _ _ _) (by decide +kernel) (Nat.le_of_ble_eq_true rfl) rfl rfl (by decide +kernel) (by decide +kernel) rfl (Nat.le_of_ble_eq_true rfl) rfl ?_
            refine zw_aload_n 1 f51_0 rfl rfl ?_
            refine zw_getfield 4 f51_1 rfl g51_37_10 (hb_11 _ _ _ _) rfl ?_
            refine zw_iload_n 5 f51_4 rfl rfl ?_
            refine zw_virtual_i 8 0 0 [.ref 1, .int (-1)] [(0, .ref 1), (1, .int (-1))] f51_5 rfl n51_103 k51_103_4 rfl (hb_1 _ _ _ _) (by decide +kernel) (Nat.le_of_ble_eq_true rfl) rfl rfl (by decide +kernel) (by decide +kernel) rfl (Nat.le_of_ble_eq_true rfl) rfl ?_
            refine zw_iload_n 1 f13_0 rfl rfl ?_
            refine zw_if_lt_t 22 f13_1 (by decide +kernel) (by decide +kernel) ?_
            refine zw_iconst 0 23 f13_22 rfl (by decide +kernel) ?_
            refine zw_zreturn f13_23 r13 u13 (by decide +kernel) ⟨_, rfl, ?_⟩
            refine zw_if_eq_t 24 f51_8 (by decide +kernel) (by decide +kernel) ?_
            refine zw_aload_n 25 f51_24 rfl rfl ?_
            refine zw_dup 26 f51_25 rfl rfl ?_
            refine zw_getI (I1 11 7) 29 f51_26 rfl g51_58_10 (hb_11 _ _ _ _) rfl rfl ?_
            refine zw_iload_n 30 f51_29 rfl rfl ?_
            refine zw_iadd ((I1 11 7) + (P 62 k)) 31 f51_30 rfl rfl ?_
            refine zw_put _ 34 f51_31 rfl g51_58_10 (hb_11 _ _ _ _) rfl (Nat.le_of_ble_eq_true rfl) (by decide +kernel) (hi_11_7 _ _ _ _ _) ?_
            refine zw_vreturn f51_34 r51 u51 ⟨rfl, ?_⟩
            refine zw_iinc (nI (k + 1)) _ 121 f49_118 rfl h1 (by decide +kernel) (nI_1 _) rfl ?_
            refine zw_goto 33 f49_121 (by decide +kernel) ?_
            have ha := (hp.2.2.2 k (by omega)).2.1
            have h0a : 0 < P 62 k := by rw [i32_lt, i32_0]; omega
            have E := mR1_y (frm := P 60) (too := P 61) (amt := P 62) (run := (wRun nv P W)) (k := k) (P 62 k) (-1) t5q (if_pos ⟨(Decidable.of_not_not hc2), hc3⟩) h0a
            rw [mGoC_m, mGoD_m] at E
            exact ih (k + 1) _ _ _ _ _ (KQ.i rfl (KQ.i rfl (KQ.a rfl K0))) (by rw [E]; exact ⟨hr.1, congrArg (fun z => z + P 62 k) hr.2.1, congrArg (fun z => z + P 62 k) hr.2.2⟩) (zl1_ne rfl rfl h0) zl1_eq (by omega) (by omega)
          · refine zw_iaload k (nI t5) 109 f49_108 rfl (hb_10 _ _ _ _) (nI_clamp (by omega)) (nI_pos (by omega)) (by omega) ((congrFun ((K0.2.2.1 10 rfl).trans (hR.2.1 61 (by omega) (by omega))) k).trans t5q) ?_
            refine zw_aload_n 110 f49_109 rfl h0 ?_
            refine zw_getfield 113 f49_110 rfl g49_28_10 (hb_11 _ _ _ _) rfl ?_
            refine zw_iload_n 114 f49_113 rfl h1 ?_
            refine zw_iaload k (P 62 k) 115 f49_114 rfl (hb_19 _ _ _ _) (nI_clamp (by omega)) (nI_pos (by omega)) (by omega) (if_pos rfl) ?_
            refine zw_virtual_v 118 0 0 [.ref 11, .int (nI t5), .int (P 62 k)] [(0, .ref 11), (1, .int (nI t5)), (2, .int (P 62 k))] f49_115 rfl n49_76 k49_76_10 rfl (hb_11 _ _ _ _) (by decide +kernel) (Nat.le_of_ble_eq_true rfl) rfl rfl (by decide +kernel) (by decide +kernel) rfl (Nat.le_of_ble_eq_true rfl) rfl ?_
            refine zw_aload_n 1 f51_0 rfl rfl ?_
            refine zw_getfield 4 f51_1 rfl g51_37_10 (hb_11 _ _ _ _) rfl ?_
            refine zw_iload_n 5 f51_4 rfl rfl ?_
            refine zw_virtual_i 8 0 0 [.ref 1, .int (nI t5)] [(0, .ref 1), (1, .int (nI t5))] f51_5 rfl n51_103 k51_103_4 rfl (hb_1 _ _ _ _) (by decide +kernel) (Nat.le_of_ble_eq_true rfl) rfl rfl (by decide +kernel) (by decide +kernel) rfl (Nat.le_of_ble_eq_true rfl) rfl ?_
            refine zw_iload_n 1 f13_0 rfl rfl ?_
            refine zw_if_lt_f 4 22 f13_1 (by decide +kernel) rfl (nI_pos (by omega)) ?_
            refine zw_iload_n 5 f13_4 rfl rfl ?_
            refine zw_aload_n 6 f13_5 rfl rfl ?_
            refine zw_getI (nI nv) 9 f13_6 rfl g13_39_4 (hb_1 _ _ _ _) rfl ((K0.1 1 0 rfl).trans hR.1.1) ?_
            refine zw_ic_ge_f 12 22 f13_9 (by decide +kernel) rfl (fun q => absurd (zn_ge (a := nv) (b := t5) (by omega) (by omega) q) (by omega)) ?_
            refine zw_iload_n 13 f13_12 rfl rfl ?_
            refine zw_bipush 8 15 f13_13 rfl (by decide +kernel) ?_
            refine zw_ic_ge_f 18 22 f13_15 (by decide +kernel) rfl (fun q => absurd (zn_ge (a := 8) (b := t5) (by omega) (by omega) q) (by omega)) ?_
            refine zw_iconst 1 19 f13_18 rfl (by decide +kernel) ?_
            refine zw_goto 23 f13_19 (by decide +kernel) ?_
            refine zw_zreturn f13_23 r13 u13 (by decide +kernel) ⟨_, rfl, ?_⟩
            refine zw_if_eq_f 11 24 f51_8 (by decide +kernel) rfl (by decide +kernel) ?_
            refine zw_aload_n 12 f51_11 rfl rfl ?_
            refine zw_getfield 15 f51_12 rfl g51_18_10 (hb_11 _ _ _ _) rfl ?_
            refine zw_iload_n 16 f51_15 rfl rfl ?_
            refine zw_dup2 17 f51_16 rfl rfl rfl ?_
            refine zw_iaload t5 (A1 16 t5) 18 f51_17 rfl (hb_16 _ _ _ _) (nI_clamp (by omega)) (nI_pos (by omega)) (by omega) rfl ?_
            refine zw_iload_n 19 f51_18 rfl rfl ?_
            refine zw_iadd ((A1 16 t5) + (P 62 k)) 20 f51_19 rfl rfl ?_
            refine zw_ast t5 _ 21 f51_20 rfl (hb_16 _ _ _ _) (nI_clamp (by omega)) (nI_pos (by omega)) (by omega) (ha_16 _ _ _ _ _) ?_
            refine zw_goto 34 f51_21 (by decide +kernel) ?_
            refine zw_vreturn f51_34 r51 u51 ⟨rfl, ?_⟩
            refine zw_iinc (nI (k + 1)) _ 121 f49_118 rfl h1 (by decide +kernel) (nI_1 _) rfl ?_
            refine zw_goto 33 f49_121 (by decide +kernel) ?_
            have ha := (hp.2.2.2 k (by omega)).2.1
            have h0a : 0 < P 62 k := by rw [i32_lt, i32_0]; omega
            have E := mR1_y (frm := P 60) (too := P 61) (amt := P 62) (run := (wRun nv P W)) (k := k) (P 62 k) (nI t5) t5q (if_pos ⟨(Decidable.of_not_not hc2), hc3⟩) h0a
            rw [mGoC_t (by omega), mGoD_t (by omega)] at E
            exact ih (k + 1) _ _ _ _ _ (KQ.a rfl (KQ.i rfl (KQ.a rfl K0))) (by rw [E]; exact ⟨mC_t hr.1 (by omega), hr.2.1, congrArg (fun z => z + P 62 k) hr.2.2⟩) (zl1_ne rfl rfl h0) zl1_eq (by omega) (by omega)
set_option maxRecDepth 100000 in
set_option maxHeartbeats 0 in
theorem lcx_rr11_12 (ro : UInt32 → Nat × (Nat → Int32)) (nv np : Nat) (P : Nat → Nat → Int32) (W : qW) (T K : Int) (I : Nat → Nat → Int32) (G : Nat → Nat → Int64) (A : Nat → Nat → Int32) (B : Nat → Nat → Int64) (hR : cRS 11 nv np P W I G A B) (hp : MPa nv np P) (hb : wBo W) (hq : qOw nv np P) (hW : wOk nv T K P W) : ∀ (n k : Nat) (ls : List (Nat × Value)) (I1 : Nat → Nat → Int32) (G1 : Nat → Nat → Int64) (A1 : Nat → Nat → Int32) (B1 : Nat → Nat → Int64), KQ (fCr 11) (pCr 11) I G A B I1 G1 A1 B1 → ((∀ j, j < k → A1 16 j = 0) ∧ I1 11 6 = 0 ∧ I1 11 7 = 0) → zld ls 0 = some (.ref 11) → zld ls 1 = some (.int (nI k)) → k ≤ 8 → 8 + 1 ≤ k + n → zWp ro 49 12 ls [] (hS I1 G1 A1 B1) 0 0 (fun r h1 => ∃ I2 G2 A2 B2, h1 = hS I2 G2 A2 B2 ∧ KQ (fCr 11) (pCr 11) I G A B I2 G2 A2 B2 ∧ (cRel 11 I2 A2 (wR2 nv np P W) nv ∧ I2 11 6 = wSr nv np P W) ∧ r = none) := by
  have h8 := hp.1
  have h14 := hp.2.1
  intro n
  induction n with
  | zero =>
    intro k ls I1 G1 A1 B1 _ _ _ _ a c
    exact absurd c (by omega)
  | succ n ih =>
    intro k ls I1 G1 A1 B1 K0 hr h0 h1 hk1 hk2
    refine zw_iload_n 13 f49_12 rfl h1 ?_
    refine zw_bipush 8 15 f49_13 rfl (by decide +kernel) ?_
    refine zw_ic_ge 18 31 f49_15 (by decide +kernel) rfl (fun hc1 => ?_) (fun hc1 => ?_)
    · have hn_hc1 : 8 ≤ k := zn_ge (by omega) (by omega) hc1
      refine zw_iconst 0 32 f49_31 rfl (by decide +kernel) ?_
      refine zw_istore_n _ 33 f49_32 rfl (by decide +kernel) rfl ?_
      have hk : k = 8 := by omega
      subst hk
      exact lcx_rr11_33 ro nv np P W T K I G A B hR hp hb hq hW (np + 1) 0 _ _ _ _ _ K0 ⟨hr.1, hr.2.2, hr.2.1⟩ (zl1_ne rfl rfl h0) zl1_eq (by omega) (by omega)
    · have hn_hc1 : k < 8 := zn_lt (by omega) (by omega) hc1
      refine zw_aload_n 19 f49_18 rfl h0 ?_
      refine zw_getfield 22 f49_19 rfl g49_18_10 (hb_11 _ _ _ _) rfl ?_
      refine zw_iload_n 23 f49_22 rfl h1 ?_
      refine zw_iconst 0 24 f49_23 rfl (by decide +kernel) ?_
      refine zw_ast k _ 25 f49_24 rfl (hb_16 _ _ _ _) (nI_clamp (by omega)) (nI_pos (by omega)) (by omega) (ha_16 _ _ _ _ _) ?_
      refine zw_iinc (nI (k + 1)) _ 28 f49_25 rfl h1 (by decide +kernel) (nI_1 _) rfl ?_
      refine zw_goto 12 f49_28 (by decide +kernel) ?_
      exact ih (k + 1) _ _ _ _ _ (KQ.a rfl K0) ⟨mI_u (T := fun _ => 0) hr.1 rfl, hr.2⟩ (zl1_ne rfl rfl h0) zl1_eq (by omega) (by omega)
set_option maxRecDepth 100000 in
set_option maxHeartbeats 0 in
theorem cx_rates_11 (ro : UInt32 → Nat × (Nat → Int32)) (nv np : Nat) (P : Nat → Nat → Int32) (W : qW) (T K : Int) (I : Nat → Nat → Int32) (G : Nat → Nat → Int64) (A : Nat → Nat → Int32) (B : Nat → Nat → Int64) (hR : cRS 11 nv np P W I G A B) (hp : MPa nv np P) (hb : wBo W) (hq : qOw nv np P) (hW : wOk nv T K P W) : zWp ro 49 0 [(0, .ref 11)] [] (hS I G A B) 0 0 (fun r h1 => ∃ I2 G2 A2 B2, h1 = hS I2 G2 A2 B2 ∧ KQ (fCr 11) (pCr 11) I G A B I2 G2 A2 B2 ∧ (cRel 11 I2 A2 (wR2 nv np P W) nv ∧ I2 11 6 = wSr nv np P W) ∧ r = none) := by
  have h8 := hp.1
  have h14 := hp.2.1
  refine zw_aload_n 1 f49_0 rfl rfl ?_
  refine zw_iconst 0 2 f49_1 rfl (by decide +kernel) ?_
  refine zw_put _ 5 f49_2 rfl g49_54_10 (hb_11 _ _ _ _) rfl (Nat.le_of_ble_eq_true rfl) (by decide +kernel) (hi_11_6 _ _ _ _ _) ?_
  refine zw_aload_n 6 f49_5 rfl rfl ?_
  refine zw_iconst 0 7 f49_6 rfl (by decide +kernel) ?_
  refine zw_put _ 10 f49_7 rfl g49_58_10 (hb_11 _ _ _ _) rfl (Nat.le_of_ble_eq_true rfl) (by decide +kernel) (hi_11_7 _ _ _ _ _) ?_
  refine zw_iconst 0 11 f49_10 rfl (by decide +kernel) ?_
  refine zw_istore_n _ 12 f49_11 rfl (by decide +kernel) rfl ?_
  exact lcx_rr11_12 ro nv np P W T K I G A B hR hp hb hq hW 9 0 _ _ _ _ _ (KQ.i rfl (KQ.i rfl KQ.rf)) ⟨fun j hj => absurd hj (by omega), rfl, rfl⟩ (zl1_ne rfl rfl rfl) zl1_eq (by omega) (by omega)
