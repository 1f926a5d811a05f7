/-! ===== what flows through each pipe ===== -/
noncomputable def mFs (frm too amt run : Nat → Int32) (lev : Nat → Int64) (v : Nat) (s : (Nat → Int32) × Int32 × (Nat → Int32) × (Nat → Int32)) (p : Nat) : Int32 := cI (run p = 0) 0 (mFl (lev v) (amt p) (mRO frm too amt run (lev v) v (s.1, s.2.1, s.1 v, 0) p).2.2.1)
noncomputable def mFv (frm too amt run over brim : Nat → Int32) (lev : Nat → Int64) (g : Int64) (np v p : Nat) : Int32 := mFs frm too amt run lev v (mR2 frm too amt run over brim lev g np v) p
noncomputable def mFw (frm too amt run over brim : Nat → Int32) (lev : Nat → Int64) (g : Int64) (np p : Nat) : Int32 := cI (frm p = -1) (cI (run p = 0) 0 (amt p)) (mFv frm too amt run over brim lev g np (frm p).toNatClampNeg p)
noncomputable def mFk (frm too amt run over brim : Nat → Int32) (lev : Nat → Int64) (g : Int64) (np v p : Nat) : Int32 := cI (frm p = -1) (cI (run p = 0) 0 (amt p)) (cI ((frm p).toNatClampNeg < v) (mFv frm too amt run over brim lev g np (frm p).toNatClampNeg p) 0)
section ZFW
variable {frm too amt run over brim : Nat → Int32} {lev : Nat → Int64} {g : Int64} {np v k : Nat}
theorem mFk_0n (h : ¬ frm k = -1) : mFk frm too amt run over brim lev g np 0 k = 0 := (cI_n h).trans (cI_n (Nat.not_lt_zero _))
theorem mFk_0z (h : frm k = -1) (r : run k = 0) : mFk frm too amt run over brim lev g np 0 k = 0 := (cI_y h).trans (cI_y r)
theorem mFk_0y (h : frm k = -1) (r : ¬ run k = 0) : mFk frm too amt run over brim lev g np 0 k = amt k := (cI_y h).trans (cI_n r)
theorem mFk_s {p : Nat} (hv : v < 8) (hf : frm p = -1 ∨ ∃ w, w < 8 ∧ frm p = nI w) : cI (frm p = nI v ∧ ¬ run p = 0) (mFl (lev v) (amt p) (mRO frm too amt run (lev v) v ((mR2 frm too amt run over brim lev g np v).1, (mR2 frm too amt run over brim lev g np v).2.1, (mR2 frm too amt run over brim lev g np v).1 v, 0) p).2.2.1) (mFk frm too amt run over brim lev g np v p) = mFk frm too amt run over brim lev g np (v + 1) p := by
  rcases hf with h | ⟨w, hw, h⟩
  · have n : ¬ (frm p = nI v ∧ ¬ run p = 0) := fun q => nI_nem (a := v) (by omega) (q.1.symm.trans h)
    rw [cI_n n]
    unfold mFk
    rw [cI_y h, cI_y h]
  · have m : ¬ frm p = -1 := fun q => nI_nem (a := w) (by omega) (h.symm.trans q)
    have c : (frm p).toNatClampNeg = w := by rw [h]; exact nI_clamp (by omega)
    by_cases e : w = v
    · subst e
      by_cases r : run p = 0
      · rw [cI_n (fun q => q.2 r)]
        unfold mFk
        rw [cI_n m, cI_n m, c, cI_n (Nat.lt_irrefl _), cI_y (Nat.lt_succ_self _)]
        unfold mFv mFs
        rw [cI_y r]
      · rw [cI_y ⟨h, r⟩]
        unfold mFk
        rw [cI_n m, c, cI_y (Nat.lt_succ_self _)]
        unfold mFv mFs
        rw [cI_n r]
    · have n : ¬ (frm p = nI v ∧ ¬ run p = 0) := fun q => e ((nI_eq (by omega) (by omega)).mp (h.symm.trans q.1))
      rw [cI_n n]
      unfold mFk
      rw [cI_n m, cI_n m, c]
      by_cases l : w < v
      · rw [cI_y l, cI_y (show w < v + 1 by omega)]
      · rw [cI_n l, cI_n (show ¬ w < v + 1 by omega)]
theorem mFk_w {nv p : Nat} (h8 : nv ≤ 8) (hf : frm p = -1 ∨ ∃ w, w < nv ∧ frm p = nI w) : mFk frm too amt run over brim lev g np nv p = mFw frm too amt run over brim lev g np p := by
  rcases hf with h | ⟨w, hw, h⟩
  · unfold mFk mFw
    rw [cI_y h, cI_y h]
  · have m : ¬ frm p = -1 := fun q => nI_nem (a := w) (by omega) (h.symm.trans q)
    have c : (frm p).toNatClampNeg = w := by rw [h]; exact nI_clamp (by omega)
    unfold mFk mFw
    rw [cI_n m, cI_n m, c, cI_y hw]
theorem mFw_v {p : Nat} (hv : v < 8) (h : frm p = nI v) : mFw frm too amt run over brim lev g np p = mFs frm too amt run lev v (mR2 frm too amt run over brim lev g np v) p := by
  have m : ¬ frm p = -1 := fun q => nI_nem (a := v) (by omega) (h.symm.trans q)
  unfold mFw mFv
  rw [cI_n m, h, nI_clamp (by omega)]
end ZFW
theorem fl_n {r F f : Nat → Int32} {c : Nat → Prop} {np k : Nat} (h : ∀ p, p < np → r p = cI (p < k ∧ c p) (F p) (f p)) (hc : ¬ c k) : ∀ p, p < np → r p = cI (p < k + 1 ∧ c p) (F p) (f p) := by
  intro p hp
  rw [h p hp]
  by_cases q : p < k ∧ c p
  · rw [cI_y q, cI_y ⟨by have := q.1; omega, q.2⟩]
  · rw [cI_n q, cI_n (fun z => ?_)]
    by_cases e : p = k
    · exact hc (e ▸ z.2)
    · exact q ⟨by have := z.1; omega, z.2⟩
theorem fl_y {r r2 F f : Nat → Int32} {c : Nat → Prop} {np k : Nat} {x : Int32} (h : ∀ p, p < np → r p = cI (p < k ∧ c p) (F p) (f p)) (hc : c k) (hr : r2 = upd r k x) (hx : x = F k) : ∀ p, p < np → r2 p = cI (p < k + 1 ∧ c p) (F p) (f p) := by
  intro p hp
  rw [hr]
  by_cases e : p = k
  · rw [e, upd_s, cI_y ⟨Nat.lt_succ_self _, hc⟩]; exact hx
  · rw [upd_o e, h p hp]
    by_cases q : p < k ∧ c p
    · rw [cI_y q, cI_y ⟨by have := q.1; omega, q.2⟩]
    · rw [cI_n q, cI_n (fun z => q ⟨by have := z.1; omega, z.2⟩)]
theorem fc_n {r r0 F : Nat → Int32} {c : Nat → Prop} {k : Nat} (h : (∀ p, p < k → c p → r p = F p) ∧ ∀ p, ¬ c p → r p = r0 p) (hc : ¬ c k) : (∀ p, p < k + 1 → c p → r p = F p) ∧ ∀ p, ¬ c p → r p = r0 p := by
  refine ⟨fun p hp q => ?_, h.2⟩
  by_cases e : p = k
  · exact absurd (e ▸ q) hc
  · exact h.1 p (by omega) q
theorem fc_y {r r2 r0 F : Nat → Int32} {c : Nat → Prop} {k : Nat} {x : Int32} (h : (∀ p, p < k → c p → r p = F p) ∧ ∀ p, ¬ c p → r p = r0 p) (hc : c k) (hr : r2 = upd r k x) (hx : x = F k) : (∀ p, p < k + 1 → c p → r2 p = F p) ∧ ∀ p, ¬ c p → r2 p = r0 p := by
  rw [hr]
  refine ⟨fun p hp q => ?_, fun p q => ?_⟩
  · by_cases e : p = k
    · rw [e, upd_s]; exact hx
    · rw [upd_o e]; exact h.1 p (by omega) q
  · rw [upd_o (show ¬ p = k from fun e => q (by rw [e]; exact hc))]; exact h.2 p q
set_option maxRecDepth 100000 in
set_option maxHeartbeats 0 in
theorem lmf_rateOf (ro : UInt32 → Nat × (Nat → Int32)) (nv np v : Nat) (I : Nat → Nat → Int32) (G : Nat → Nat → Int64) (A : Nat → Nat → Int32) (B : Nat → Nat → Int64) (hP : MP nv np I A) (hB : MB A) (hv : v < nv) (s : (Nat → Int32) × Int32 × (Nat → Int32) × (Nat → Int32)) (hs : mRel I A s) (f : Nat → Int32) (h75 : ∀ p, p < np → A 75 p = f p) : ∀ (n k : Nat) (ls : List (Nat × Value)) (I1 : Nat → Nat → Int32) (G1 : Nat → Nat → Int64) (A1 : Nat → Nat → Int32) (B1 : Nat → Nat → Int64), KQ fD pR I G A B I1 G1 A1 B1 → ((∀ j, j < 8 → A1 72 j = (mRO (A 60) (A 61) (A 62) (mRn nv A) (B 63 v) v (s.1, s.2.1, s.1 v, 0) k).1 j) ∧ I1 52 35 = (mRO (A 60) (A 61) (A 62) (mRn nv A) (B 63 v) v (s.1, s.2.1, s.1 v, 0) k).2.1 ∧ A1 73 = A 73 ∧ A1 74 = A 74) → (∀ p, p < np → A1 75 p = cI (p < k ∧ A 60 p = nI v ∧ ¬ mRn nv A p = 0) (mFl (B 63 v) (A 62 p) (mRO (A 60) (A 61) (A 62) (mRn nv A) (B 63 v) v (s.1, s.2.1, s.1 v, 0) p).2.2.1) (f p)) → zld ls 0 = some (.ref 52) → zld ls 1 = some (.int (nI v)) → zld ls 2 = some (.int ((mRO (A 60) (A 61) (A 62) (mRn nv A) (B 63 v) v (s.1, s.2.1, s.1 v, 0) k).2.2.1)) → zld ls 3 = some (.int ((mRO (A 60) (A 61) (A 62) (mRn nv A) (B 63 v) v (s.1, s.2.1, s.1 v, 0) k).2.2.2)) → zld ls 4 = some (.int (nI k)) → k ≤ np → np + 1 ≤ k + n → zWp ro 130 12 ls [] (hS I1 G1 A1 B1) 0 0 (fun r h1 => ∃ I2 G2 A2 B2, h1 = hS I2 G2 A2 B2 ∧ KQ fD pR I G A B I2 G2 A2 B2 ∧ (mRel I2 A2 (mRateOf (A 60) (A 61) (A 62) (mRn nv A) (A 59) (A 54) (B 63) (G 52 12) np v s) ∧ ∀ p, p < np → A2 75 p = cI (A 60 p = nI v ∧ ¬ mRn nv A p = 0) (mFl (B 63 v) (A 62 p) (mRO (A 60) (A 61) (A 62) (mRn nv A) (B 63 v) v (s.1, s.2.1, s.1 v, 0) p).2.2.1) (f p)) ∧ r = none) := by
  have hnv := hP.1.2
  have hnp := hP.2.1.2
  intro n
  induction n with
  | zero =>
    intro k ls I1 G1 A1 B1 _ _ _ _ _ _ _ _ a b
    exact absurd b (by omega)
  | succ n ih =>
    intro k ls I1 G1 A1 B1 K hr hf h0 h1 h2 h3 h4 hk1 hk2
    refine zw_iload 14 f130_12 rfl h4 ?_
    refine zw_aload_n 15 f130_14 rfl h0 ?_
    refine zw_getI (nI np) 18 f130_15 rfl g130_121_12 (hb_52 _ _ _ _) rfl ((K.1 52 8 rfl).trans hP.2.1.1) ?_
    refine zw_ic_ge 21 125 f130_18 (by decide +kernel) rfl (fun hc1 => ?_) (fun hc1 => ?_)
    · have hn_hc1 : np ≤ k := zn_ge (by omega) (by omega) hc1
      refine zw_aload_n 126 f130_125 rfl h0 ?_
      refine zw_getfield 129 f130_126 rfl g130_80_12 (hb_52 _ _ _ _) rfl ?_
      refine zw_iload_n 130 f130_129 rfl h1 ?_
      refine zw_aload_n 131 f130_130 rfl h0 ?_
      refine zw_getfield 134 f130_131 rfl g130_77_12 (hb_52 _ _ _ _) rfl ?_
      refine zw_iload_n 135 f130_134 rfl h1 ?_
      refine zw_iaload v ((mRO (A 60) (A 61) (A 62) (mRn nv A) (B 63 v) v (s.1, s.2.1, s.1 v, 0) k).1 v) 136 f130_135 rfl (hb_72 _ _ _ _) (nI_clamp (by omega)) (nI_pos (by omega)) (by omega) (hr.1 v (by omega)) ?_
      refine zw_iload_n 137 f130_136 rfl h3 ?_
      refine zw_isub (((mRO (A 60) (A 61) (A 62) (mRn nv A) (B 63 v) v (s.1, s.2.1, s.1 v, 0) k).1 v) - ((mRO (A 60) (A 61) (A 62) (mRn nv A) (B 63 v) v (s.1, s.2.1, s.1 v, 0) k).2.2.2)) 138 f130_137 rfl rfl ?_
      refine zw_ast v _ 139 f130_138 rfl (hb_73 _ _ _ _) (nI_clamp (by omega)) (nI_pos (by omega)) (by omega) (ha_73 _ _ _ _ _) ?_
      refine zw_aload_n 140 f130_139 rfl h0 ?_
      refine zw_getfield 143 f130_140 rfl g130_80_12 (hb_52 _ _ _ _) rfl ?_
      refine zw_iload_n 144 f130_143 rfl h1 ?_
      refine zw_iaload v (((mRO (A 60) (A 61) (A 62) (mRn nv A) (B 63 v) v (s.1, s.2.1, s.1 v, 0) k).1 v) - ((mRO (A 60) (A 61) (A 62) (mRn nv A) (B 63 v) v (s.1, s.2.1, s.1 v, 0) k).2.2.2)) 145 f130_144 rfl (hb_73 _ _ _ _) (nI_clamp (by omega)) (nI_pos (by omega)) (by omega) (if_pos rfl) ?_
      refine zw_if_le 148 205 f130_145 (by decide +kernel) rfl (fun hc2 => ?_) (fun hc2 => ?_)
      · refine zw_vreturn f130_205 r130 u130 ?_
        have hk : k = np := by omega
        have hf9 : ∀ p, p < np → A1 75 p = cI (A 60 p = nI v ∧ ¬ mRn nv A p = 0) (mFl (B 63 v) (A 62 p) (mRO (A 60) (A 61) (A 62) (mRn nv A) (B 63 v) v (s.1, s.2.1, s.1 v, 0) p).2.2.1) (f p) := by
          intro p hpp
          rw [hf p hpp]
          by_cases q : A 60 p = nI v ∧ ¬ mRn nv A p = 0
          · rw [cI_y q, cI_y ⟨by omega, q⟩]
          · rw [cI_n q, cI_n (fun z => q z.2)]
        have hE : (mRO (A 60) (A 61) (A 62) (mRn nv A) (B 63 v) v (s.1, s.2.1, s.1 v, 0) np) = (mRO (A 60) (A 61) (A 62) (mRn nv A) (B 63 v) v (s.1, s.2.1, s.1 v, 0) k) := by rw [hk]
        have E := mRateOf_n (over := A 59) (brim := A 54) (g := G 52 12) (s := s) hE (fun q => (Int32.not_lt.mpr hc2) q.1)
        refine ⟨_, _, _, _, rfl, (KQ.a rfl K), ⟨?_, hf9⟩, rfl⟩
        rw [E]
        exact ⟨hr.1, hr.2.1, mC_u (fun j hj => (congrFun hr.2.2.1 j).trans (hs.2.2.1 j hj)) rfl, (fun j hj => (congrFun hr.2.2.2 j).trans (hs.2.2.2 j hj))⟩
      · refine zw_aload_n 149 f130_148 rfl h0 ?_
        refine zw_getfield 152 f130_149 rfl g130_44_12 (hb_52 _ _ _ _) rfl ?_
        refine zw_iload_n 153 f130_152 rfl h1 ?_
        refine zw_laload v (B 63 v) 154 f130_153 rfl (hb_63 _ _ _ _) (nI_clamp (by omega)) (nI_pos (by omega)) (by omega) (congrFun ((K.2.2.2 63 rfl)) v) ?_
        refine zw_aload_n 155 f130_154 rfl h0 ?_
        refine zw_getfield 158 f130_155 rfl g130_13_12 (hb_52 _ _ _ _) rfl ?_
        refine zw_iload_n 159 f130_158 rfl h1 ?_
        refine zw_iaload v (A 54 v) 160 f130_159 rfl (hb_54 _ _ _ _) (nI_clamp (by omega)) (nI_pos (by omega)) (by omega) (congrFun ((K.2.2.1 54 rfl)) v) ?_
        refine zw_i2l (Int32.toInt64 (A 54 v)) 161 f130_160 rfl rfl ?_
        refine zw_aload_n 162 f130_161 rfl h0 ?_
        refine zw_getG (G 52 12) 165 f130_162 rfl g130_40_12 (hb_52 _ _ _ _) rfl (K.2.1 52 12 rfl) ?_
        refine zw_lmul ((Int32.toInt64 (A 54 v)) * (G 52 12)) 166 f130_165 rfl rfl ?_
        refine zw_lcmp (lg_cmp (B 63 v) ((Int32.toInt64 (A 54 v)) * (G 52 12))) 167 f130_166 rfl rfl ?_
        refine zw_if_ne 170 205 f130_167 (by decide +kernel) rfl (fun hc3 => ?_) (fun hc3 => ?_)
        · refine zw_vreturn f130_205 r130 u130 ?_
          have hk : k = np := by omega
          have hf9 : ∀ p, p < np → A1 75 p = cI (A 60 p = nI v ∧ ¬ mRn nv A p = 0) (mFl (B 63 v) (A 62 p) (mRO (A 60) (A 61) (A 62) (mRn nv A) (B 63 v) v (s.1, s.2.1, s.1 v, 0) p).2.2.1) (f p) := by
            intro p hpp
            rw [hf p hpp]
            by_cases q : A 60 p = nI v ∧ ¬ mRn nv A p = 0
            · rw [cI_y q, cI_y ⟨by omega, q⟩]
            · rw [cI_n q, cI_n (fun z => q z.2)]
          have hE : (mRO (A 60) (A 61) (A 62) (mRn nv A) (B 63 v) v (s.1, s.2.1, s.1 v, 0) np) = (mRO (A 60) (A 61) (A 62) (mRn nv A) (B 63 v) v (s.1, s.2.1, s.1 v, 0) k) := by rw [hk]
          have E := mRateOf_n (over := A 59) (brim := A 54) (g := G 52 12) (s := s) hE (fun q => (fun q => hc3 ((lg_cmp_eq _ _).mpr q)) q.2)
          refine ⟨_, _, _, _, rfl, (KQ.a rfl K), ⟨?_, hf9⟩, rfl⟩
          rw [E]
          exact ⟨hr.1, hr.2.1, mC_u (fun j hj => (congrFun hr.2.2.1 j).trans (hs.2.2.1 j hj)) rfl, (fun j hj => (congrFun hr.2.2.2 j).trans (hs.2.2.2 j hj))⟩
        · refine zw_aload_n 171 f130_170 rfl h0 ?_
          refine zw_getfield 174 f130_171 rfl g130_83_12 (hb_52 _ _ _ _) rfl ?_
          refine zw_iload_n 175 f130_174 rfl h1 ?_
          refine zw_aload_n 176 f130_175 rfl h0 ?_
          refine zw_getfield 179 f130_176 rfl g130_80_12 (hb_52 _ _ _ _) rfl ?_
          refine zw_iload_n 180 f130_179 rfl h1 ?_
          refine zw_iaload v (((mRO (A 60) (A 61) (A 62) (mRn nv A) (B 63 v) v (s.1, s.2.1, s.1 v, 0) k).1 v) - ((mRO (A 60) (A 61) (A 62) (mRn nv A) (B 63 v) v (s.1, s.2.1, s.1 v, 0) k).2.2.2)) 181 f130_180 rfl (hb_73 _ _ _ _) (nI_clamp (by omega)) (nI_pos (by omega)) (by omega) (if_pos rfl) ?_
          refine zw_ast v _ 182 f130_181 rfl (hb_74 _ _ _ _) (nI_clamp (by omega)) (nI_pos (by omega)) (by omega) (ha_74 _ _ _ _ _) ?_
          refine zw_aload_n 183 f130_182 rfl h0 ?_
          refine zw_getfield 186 f130_183 rfl g130_80_12 (hb_52 _ _ _ _) rfl ?_
          refine zw_iload_n 187 f130_186 rfl h1 ?_
          refine zw_iconst 0 188 f130_187 rfl (by decide +kernel) ?_
          refine zw_ast v _ 189 f130_188 rfl (hb_73 _ _ _ _) (nI_clamp (by omega)) (nI_pos (by omega)) (by omega) (ha_73 _ _ _ _ _) ?_
          refine zw_aload_n 190 f130_189 rfl h0 ?_
          refine zw_aload_n 191 f130_190 rfl h0 ?_
          refine zw_getfield 194 f130_191 rfl g130_28_12 (hb_52 _ _ _ _) rfl ?_
          refine zw_iload_n 195 f130_194 rfl h1 ?_
          rcases (hP.2.2.1 v (by omega)).2.2.2.2.2 with t4q | ⟨t4, t4l, t4n, t4q⟩
          · refine zw_iaload v (-1) 196 f130_195 rfl (hb_59 _ _ _ _) (nI_clamp (by omega)) (nI_pos (by omega)) (by omega) ((congrFun (K.2.2.1 59 rfl) v).trans t4q) ?_
            refine zw_aload_n 197 f130_196 rfl h0 ?_
            refine zw_getfield 200 f130_197 rfl g130_83_12 (hb_52 _ _ _ _) rfl ?_
            refine zw_iload_n 201 f130_200 rfl h1 ?_
            refine zw_iaload v (((mRO (A 60) (A 61) (A 62) (mRn nv A) (B 63 v) v (s.1, s.2.1, s.1 v, 0) k).1 v) - ((mRO (A 60) (A 61) (A 62) (mRn nv A) (B 63 v) v (s.1, s.2.1, s.1 v, 0) k).2.2.2)) 202 f130_201 rfl (hb_74 _ _ _ _) (nI_clamp (by omega)) (nI_pos (by omega)) (by omega) (if_pos rfl) ?_
            refine zw_virtual_v 205 0 0 [.ref 52, .int (-1), .int (((mRO (A 60) (A 61) (A 62) (mRn nv A) (B 63 v) v (s.1, s.2.1, s.1 v, 0) k).1 v) - ((mRO (A 60) (A 61) (A 62) (mRn nv A) (B 63 v) v (s.1, s.2.1, s.1 v, 0) k).2.2.2))] [(0, .ref 52), (1, .int (-1)), (2, .int (((mRO (A 60) (A 61) (A 62) (mRn nv A) (B 63 v) v (s.1, s.2.1, s.1 v, 0) k).1 v) - ((mRO (A 60) (A 61) (A 62) (mRn nv A) (B 63 v) v (s.1, s.2.1, s.1 v, 0) k).2.2.2)))] f130_202 rfl n130_134 k130_134_12 rfl (hb_52 _ _ _ _) (by decide +kernel) (Nat.le_of_ble_eq_true rfl) rfl rfl (by decide +kernel) (by decide +kernel) rfl (Nat.le_of_ble_eq_true rfl) rfl ?_
            refine zw_iload_n 1 f128_0 rfl rfl ?_
            refine zw_iconst (-1) 2 f128_1 rfl (by decide +kernel) ?_
            refine zw_ic_ne_f 5 18 f128_2 (by decide +kernel) rfl (by decide +kernel) ?_
            refine zw_aload_n 6 f128_5 rfl rfl ?_
            refine zw_dup 7 f128_6 rfl rfl ?_
            refine zw_getI (I1 52 35) 10 f128_7 rfl g128_124_12 (hb_52 _ _ _ _) rfl rfl ?_
            refine zw_iload_n 11 f128_10 rfl rfl ?_
            refine zw_iadd ((I1 52 35) + (((mRO (A 60) (A 61) (A 62) (mRn nv A) (B 63 v) v (s.1, s.2.1, s.1 v, 0) k).1 v) - ((mRO (A 60) (A 61) (A 62) (mRn nv A) (B 63 v) v (s.1, s.2.1, s.1 v, 0) k).2.2.2))) 12 f128_11 rfl rfl ?_
            refine zw_put _ 15 f128_12 rfl g128_124_12 (hb_52 _ _ _ _) rfl (Nat.le_of_ble_eq_true rfl) (by decide +kernel) (hi_52_35 _ _ _ _ _) ?_
            refine zw_goto 28 f128_15 (by decide +kernel) ?_
            refine zw_vreturn f128_28 r128 u128 ⟨rfl, ?_⟩
            refine zw_vreturn f130_205 r130 u130 ?_
            have hk : k = np := by omega
            have hf9 : ∀ p, p < np → A1 75 p = cI (A 60 p = nI v ∧ ¬ mRn nv A p = 0) (mFl (B 63 v) (A 62 p) (mRO (A 60) (A 61) (A 62) (mRn nv A) (B 63 v) v (s.1, s.2.1, s.1 v, 0) p).2.2.1) (f p) := by
              intro p hpp
              rw [hf p hpp]
              by_cases q : A 60 p = nI v ∧ ¬ mRn nv A p = 0
              · rw [cI_y q, cI_y ⟨by omega, q⟩]
              · rw [cI_n q, cI_n (fun z => q z.2)]
            have hE : (mRO (A 60) (A 61) (A 62) (mRn nv A) (B 63 v) v (s.1, s.2.1, s.1 v, 0) np) = (mRO (A 60) (A 61) (A 62) (mRn nv A) (B 63 v) v (s.1, s.2.1, s.1 v, 0) k) := by rw [hk]
            have E := mRateOf_y (over := A 59) (brim := A 54) (g := G 52 12) (s := s) (-1) t4q hE (Int32.not_le.mp hc2) ((lg_cmp_eq _ _).mp (Decidable.of_not_not hc3))
            rw [mGoC_m, mGoD_m] at E
            refine ⟨_, _, _, _, rfl, (KQ.i rfl (KQ.a rfl (KQ.a rfl (KQ.a rfl K)))), ⟨?_, hf9⟩, rfl⟩
            rw [E]
            exact ⟨hr.1, congrArg (fun z => z + (((mRO (A 60) (A 61) (A 62) (mRn nv A) (B 63 v) v (s.1, s.2.1, s.1 v, 0) k).1 v) - ((mRO (A 60) (A 61) (A 62) (mRn nv A) (B 63 v) v (s.1, s.2.1, s.1 v, 0) k).2.2.2))) hr.2.1, mC_uu (fun j hj => (congrFun hr.2.2.1 j).trans (hs.2.2.1 j hj)) rfl, mC_u (fun j hj => (congrFun hr.2.2.2 j).trans (hs.2.2.2 j hj)) rfl⟩
          · refine zw_iaload v (nI t4) 196 f130_195 rfl (hb_59 _ _ _ _) (nI_clamp (by omega)) (nI_pos (by omega)) (by omega) ((congrFun (K.2.2.1 59 rfl) v).trans t4q) ?_
            refine zw_aload_n 197 f130_196 rfl h0 ?_
            refine zw_getfield 200 f130_197 rfl g130_83_12 (hb_52 _ _ _ _) rfl ?_
            refine zw_iload_n 201 f130_200 rfl h1 ?_
            refine zw_iaload v (((mRO (A 60) (A 61) (A 62) (mRn nv A) (B 63 v) v (s.1, s.2.1, s.1 v, 0) k).1 v) - ((mRO (A 60) (A 61) (A 62) (mRn nv A) (B 63 v) v (s.1, s.2.1, s.1 v, 0) k).2.2.2)) 202 f130_201 rfl (hb_74 _ _ _ _) (nI_clamp (by omega)) (nI_pos (by omega)) (by omega) (if_pos rfl) ?_
            refine zw_virtual_v 205 0 0 [.ref 52, .int (nI t4), .int (((mRO (A 60) (A 61) (A 62) (mRn nv A) (B 63 v) v (s.1, s.2.1, s.1 v, 0) k).1 v) - ((mRO (A 60) (A 61) (A 62) (mRn nv A) (B 63 v) v (s.1, s.2.1, s.1 v, 0) k).2.2.2))] [(0, .ref 52), (1, .int (nI t4)), (2, .int (((mRO (A 60) (A 61) (A 62) (mRn nv A) (B 63 v) v (s.1, s.2.1, s.1 v, 0) k).1 v) - ((mRO (A 60) (A 61) (A 62) (mRn nv A) (B 63 v) v (s.1, s.2.1, s.1 v, 0) k).2.2.2)))] f130_202 rfl n130_134 k130_134_12 rfl (hb_52 _ _ _ _) (by decide +kernel) (Nat.le_of_ble_eq_true rfl) rfl rfl (by decide +kernel) (by decide +kernel) rfl (Nat.le_of_ble_eq_true rfl) rfl ?_
            refine zw_iload_n 1 f128_0 rfl rfl ?_
            refine zw_iconst (-1) 2 f128_1 rfl (by decide +kernel) ?_
            refine zw_ic_ne_t 18 f128_2 (by decide +kernel) (nI_nem (by omega)) ?_
            refine zw_aload_n 19 f128_18 rfl rfl ?_
            refine zw_getfield 22 f128_19 rfl g128_77_12 (hb_52 _ _ _ _) rfl ?_
            refine zw_iload_n 23 f128_22 rfl rfl ?_
            refine zw_dup2 24 f128_23 rfl rfl rfl ?_
            refine zw_iaload t4 (A1 72 t4) 25 f128_24 rfl (hb_72 _ _ _ _) (nI_clamp (by omega)) (nI_pos (by omega)) (by omega) rfl ?_
            refine zw_iload_n 26 f128_25 rfl rfl ?_
            refine zw_iadd ((A1 72 t4) + (((mRO (A 60) (A 61) (A 62) (mRn nv A) (B 63 v) v (s.1, s.2.1, s.1 v, 0) k).1 v) - ((mRO (A 60) (A 61) (A 62) (mRn nv A) (B 63 v) v (s.1, s.2.1, s.1 v, 0) k).2.2.2))) 27 f128_26 rfl rfl ?_
            refine zw_ast t4 _ 28 f128_27 rfl (hb_72 _ _ _ _) (nI_clamp (by omega)) (nI_pos (by omega)) (by omega) (ha_72 _ _ _ _ _) ?_
            refine zw_vreturn f128_28 r128 u128 ⟨rfl, ?_⟩
            refine zw_vreturn f130_205 r130 u130 ?_
            have hk : k = np := by omega
            have hf9 : ∀ p, p < np → A1 75 p = cI (A 60 p = nI v ∧ ¬ mRn nv A p = 0) (mFl (B 63 v) (A 62 p) (mRO (A 60) (A 61) (A 62) (mRn nv A) (B 63 v) v (s.1, s.2.1, s.1 v, 0) p).2.2.1) (f p) := by
              intro p hpp
              rw [hf p hpp]
              by_cases q : A 60 p = nI v ∧ ¬ mRn nv A p = 0
              · rw [cI_y q, cI_y ⟨by omega, q⟩]
              · rw [cI_n q, cI_n (fun z => q z.2)]
            have hE : (mRO (A 60) (A 61) (A 62) (mRn nv A) (B 63 v) v (s.1, s.2.1, s.1 v, 0) np) = (mRO (A 60) (A 61) (A 62) (mRn nv A) (B 63 v) v (s.1, s.2.1, s.1 v, 0) k) := by rw [hk]
            have E := mRateOf_y (over := A 59) (brim := A 54) (g := G 52 12) (s := s) (nI t4) t4q hE (Int32.not_le.mp hc2) ((lg_cmp_eq _ _).mp (Decidable.of_not_not hc3))
            rw [mGoC_t (by omega), mGoD_t (by omega)] at E
            refine ⟨_, _, _, _, rfl, (KQ.a rfl (KQ.a rfl (KQ.a rfl (KQ.a rfl K)))), ⟨?_, hf9⟩, rfl⟩
            rw [E]
            exact ⟨mC_t hr.1 (by omega), hr.2.1, mC_uu (fun j hj => (congrFun hr.2.2.1 j).trans (hs.2.2.1 j hj)) rfl, mC_u (fun j hj => (congrFun hr.2.2.2 j).trans (hs.2.2.2 j hj)) rfl⟩
    · have hn_hc1 : k < np := zn_lt (by omega) (by omega) hc1
      refine zw_aload_n 22 f130_21 rfl h0 ?_
      refine zw_getfield 25 f130_22 rfl g130_31_12 (hb_52 _ _ _ _) rfl ?_
      refine zw_iload 27 f130_25 rfl h4 ?_
      refine zw_iaload k (A 60 k) 28 f130_27 rfl (hb_60 _ _ _ _) (nI_clamp (by omega)) (nI_pos (by omega)) (by omega) (congrFun ((K.2.2.1 60 rfl)) k) ?_
      refine zw_iload_n 29 f130_28 rfl h1 ?_
      refine zw_ic_ne 32 119 f130_29 (by decide +kernel) rfl (fun hc5 => ?_) (fun hc5 => ?_)
      · refine zw_iinc (nI (k + 1)) _ 122 f130_119 rfl h4 (by decide +kernel) (nI_1 _) rfl ?_
        refine zw_goto 12 f130_122 (by decide +kernel) ?_
        have E := mRO_n (frm := A 60) (too := A 61) (amt := A 62) (run := mRn nv A) (lev := B 63 v) (v := v) (s := (s.1, s.2.1, s.1 v, 0)) (k := k) (fun q => hc5 q.1)
        exact ih (k + 1) _ _ _ _ _ K (by rw [E]; exact hr) (fl_n (r := A1 75) (F := fun p => (mFl (B 63 v) (A 62 p) (mRO (A 60) (A 61) (A 62) (mRn nv A) (B 63 v) v (s.1, s.2.1, s.1 v, 0) p).2.2.1)) (f := f) (c := fun p => A 60 p = nI v ∧ ¬ mRn nv A p = 0) (np := np) (k := k) hf (fun q => hc5 q.1)) (zl1_ne rfl rfl h0) (zl1_ne rfl rfl h1) (by rw [E]; exact (zl1_ne rfl rfl h2)) (by rw [E]; exact (zl1_ne rfl rfl h3)) zl1_eq (by omega) (by omega)
      · refine zw_aload_n 33 f130_32 rfl h0 ?_
        refine zw_iload 35 f130_33 rfl h4 ?_
        refine zw_virtual_i 38 0 0 [.ref 52, .int (nI k)] [(0, .ref 52), (1, .int (nI k))] f130_35 rfl n130_130 k130_130_12 rfl (hb_52 _ _ _ _) (by decide +kernel) (Nat.le_of_ble_eq_true rfl) rfl rfl (by decide +kernel) (by decide +kernel) rfl (Nat.le_of_ble_eq_true rfl) rfl ?_
        refine zWp.mono (mm_runs_y ro nv k _ _ _ _ (mRn nv A k) ((K.1 52 0 rfl).trans hP.1.1) (by omega) (by omega) (by rw [(K.2.2.1 64 rfl)]; exact (hB.1 k (by omega))) (mRn_c (K.2.2.1 53 rfl) (K.2.2.1 57 rfl) (K.2.2.1 65 rfl) (K.2.2.1 64 rfl))) ?_
        rintro r h1 ⟨rfl, rfl⟩
        refine ⟨_, rfl, ?_⟩
        refine zw_if_eq 41 119 f130_38 (by decide +kernel) rfl (fun hc6 => ?_) (fun hc6 => ?_)
        · refine zw_iinc (nI (k + 1)) _ 122 f130_119 rfl h4 (by decide +kernel) (nI_1 _) rfl ?_
          refine zw_goto 12 f130_122 (by decide +kernel) ?_
          have E := mRO_n (frm := A 60) (too := A 61) (amt := A 62) (run := mRn nv A) (lev := B 63 v) (v := v) (s := (s.1, s.2.1, s.1 v, 0)) (k := k) (fun q => q.2 hc6)
          exact ih (k + 1) _ _ _ _ _ K (by rw [E]; exact hr) (fl_n (r := A1 75) (F := fun p => (mFl (B 63 v) (A 62 p) (mRO (A 60) (A 61) (A 62) (mRn nv A) (B 63 v) v (s.1, s.2.1, s.1 v, 0) p).2.2.1)) (f := f) (c := fun p => A 60 p = nI v ∧ ¬ mRn nv A p = 0) (np := np) (k := k) hf (fun q => q.2 hc6)) (zl1_ne rfl rfl h0) (zl1_ne rfl rfl h1) (by rw [E]; exact (zl1_ne rfl rfl h2)) (by rw [E]; exact (zl1_ne rfl rfl h3)) zl1_eq (by omega) (by omega)
        · refine zw_aload_n 42 f130_41 rfl h0 ?_
          refine zw_getfield 45 f130_42 rfl g130_86_12 (hb_52 _ _ _ _) rfl ?_
          refine zw_iload 47 f130_45 rfl h4 ?_
          refine zw_aload_n 48 f130_47 rfl h0 ?_
          refine zw_getfield 51 f130_48 rfl g130_44_12 (hb_52 _ _ _ _) rfl ?_
          refine zw_iload_n 52 f130_51 rfl h1 ?_
          refine zw_laload v (B 63 v) 53 f130_52 rfl (hb_63 _ _ _ _) (nI_clamp (by omega)) (nI_pos (by omega)) (by omega) (congrFun ((K.2.2.2 63 rfl)) v) ?_
          refine zw_lconst 0 54 f130_53 rfl (by decide +kernel) ?_
          refine zw_lcmp (lg_cmp (B 63 v) 0) 55 f130_54 rfl rfl ?_
          refine zw_if_gt 58 69 f130_55 (by decide +kernel) rfl (fun hc7 => ?_) (fun hc7 => ?_)
          · refine zw_aload_n 70 f130_69 rfl h0 ?_
            refine zw_getfield 73 f130_70 rfl g130_37_12 (hb_52 _ _ _ _) rfl ?_
            refine zw_iload 75 f130_73 rfl h4 ?_
            refine zw_iaload k (A 62 k) 76 f130_75 rfl (hb_62 _ _ _ _) (nI_clamp (by omega)) (nI_pos (by omega)) (by omega) (congrFun ((K.2.2.1 62 rfl)) k) ?_
            refine zw_goto 80 f130_76 (by decide +kernel) ?_
            refine zw_ast k _ 81 f130_80 rfl (hb_75 _ _ _ _) (nI_clamp (by omega)) (nI_pos (by omega)) (by omega) (ha_75 _ _ _ _ _) ?_
            refine zw_iload_n 82 f130_81 rfl h2 ?_
            refine zw_aload_n 83 f130_82 rfl h0 ?_
            refine zw_getfield 86 f130_83 rfl g130_86_12 (hb_52 _ _ _ _) rfl ?_
            refine zw_iload 88 f130_86 rfl h4 ?_
            refine zw_iaload k (A 62 k) 89 f130_88 rfl (hb_75 _ _ _ _) (nI_clamp (by omega)) (nI_pos (by omega)) (by omega) (if_pos rfl) ?_
            refine zw_isub (((mRO (A 60) (A 61) (A 62) (mRn nv A) (B 63 v) v (s.1, s.2.1, s.1 v, 0) k).2.2.1) - (A 62 k)) 90 f130_89 rfl rfl ?_
            refine zw_istore_n _ 91 f130_90 rfl (by decide +kernel) rfl ?_
            refine zw_iload_n 92 f130_91 rfl (zl1_ne rfl rfl h3) ?_
            refine zw_aload_n 93 f130_92 rfl (zl1_ne rfl rfl h0) ?_
            refine zw_getfield 96 f130_93 rfl g130_86_12 (hb_52 _ _ _ _) rfl ?_
            refine zw_iload 98 f130_96 rfl (zl1_ne rfl rfl h4) ?_
            refine zw_iaload k (A 62 k) 99 f130_98 rfl (hb_75 _ _ _ _) (nI_clamp (by omega)) (nI_pos (by omega)) (by omega) (if_pos rfl) ?_
            refine zw_iadd (((mRO (A 60) (A 61) (A 62) (mRn nv A) (B 63 v) v (s.1, s.2.1, s.1 v, 0) k).2.2.2) + (A 62 k)) 100 f130_99 rfl rfl ?_
            refine zw_istore_n _ 101 f130_100 rfl (by decide +kernel) rfl ?_
            refine zw_aload_n 102 f130_101 rfl (zl1_ne rfl rfl (zl1_ne rfl rfl h0)) ?_
            refine zw_aload_n 103 f130_102 rfl (zl1_ne rfl rfl (zl1_ne rfl rfl h0)) ?_
            refine zw_getfield 106 f130_103 rfl g130_34_12 (hb_52 _ _ _ _) rfl ?_
            refine zw_iload 108 f130_106 rfl (zl1_ne rfl rfl (zl1_ne rfl rfl h4)) ?_
            rcases (hP.2.2.2 k (by omega)).1 with t8q | ⟨t8, t8l, t8n, t8q⟩
            · refine zw_iaload k (-1) 109 f130_108 rfl (hb_61 _ _ _ _) (nI_clamp (by omega)) (nI_pos (by omega)) (by omega) ((congrFun (K.2.2.1 61 rfl) k).trans t8q) ?_
              refine zw_aload_n 110 f130_109 rfl (zl1_ne rfl rfl (zl1_ne rfl rfl h0)) ?_
              refine zw_getfield 113 f130_110 rfl g130_86_12 (hb_52 _ _ _ _) rfl ?_
              refine zw_iload 115 f130_113 rfl (zl1_ne rfl rfl (zl1_ne rfl rfl h4)) ?_
              refine zw_iaload k (A 62 k) 116 f130_115 rfl (hb_75 _ _ _ _) (nI_clamp (by omega)) (nI_pos (by omega)) (by omega) (if_pos rfl) ?_
              refine zw_virtual_v 119 0 0 [.ref 52, .int (-1), .int (A 62 k)] [(0, .ref 52), (1, .int (-1)), (2, .int (A 62 k))] f130_116 rfl n130_134 k130_134_12 rfl (hb_52 _ _ _ _) (by decide +kernel) (Nat.le_of_ble_eq_true rfl) rfl rfl (by decide +kernel) (by decide +kernel) rfl (Nat.le_of_ble_eq_true rfl) rfl ?_
              refine zw_iload_n 1 f128_0 rfl rfl ?_
              refine zw_iconst (-1) 2 f128_1 rfl (by decide +kernel) ?_
              refine zw_ic_ne_f 5 18 f128_2 (by decide +kernel) rfl (by decide +kernel) ?_
              refine zw_aload_n 6 f128_5 rfl rfl ?_
              refine zw_dup 7 f128_6 rfl rfl ?_
              refine zw_getI (I1 52 35) 10 f128_7 rfl g128_124_12 (hb_52 _ _ _ _) rfl rfl ?_
              refine zw_iload_n 11 f128_10 rfl rfl ?_
              refine zw_iadd ((I1 52 35) + (A 62 k)) 12 f128_11 rfl rfl ?_
              refine zw_put _ 15 f128_12 rfl g128_124_12 (hb_52 _ _ _ _) rfl (Nat.le_of_ble_eq_true rfl) (by decide +kernel) (hi_52_35 _ _ _ _ _) ?_
              refine zw_goto 28 f128_15 (by decide +kernel) ?_
              refine zw_vreturn f128_28 r128 u128 ⟨rfl, ?_⟩
              refine zw_iinc (nI (k + 1)) _ 122 f130_119 rfl (zl1_ne rfl rfl (zl1_ne rfl rfl h4)) (by decide +kernel) (nI_1 _) rfl ?_
              refine zw_goto 12 f130_122 (by decide +kernel) ?_
              have E := mRO_y (frm := A 60) (too := A 61) (amt := A 62) (run := mRn nv A) (lev := B 63 v) (v := v) (s := (s.1, s.2.1, s.1 v, 0)) (k := k) (A 62 k) (-1) t8q (mFl_a ((lg_cmp_gt _ _).mp hc7)) (Decidable.of_not_not hc5) hc6
              rw [mGoC_m, mGoD_m] at E
              have hfl : mFl (B 63 v) (A 62 k) (mRO (A 60) (A 61) (A 62) (mRn nv A) (B 63 v) v (s.1, s.2.1, s.1 v, 0) k).2.2.1 = (A 62 k) := (mFl_a ((lg_cmp_gt _ _).mp hc7))
              exact ih (k + 1) _ _ _ _ _ (KQ.i rfl (KQ.a rfl K)) (by rw [E]; exact ⟨hr.1, congrArg (fun z => z + (A 62 k)) hr.2.1, hr.2.2⟩) (fl_y (r := A1 75) (F := fun p => (mFl (B 63 v) (A 62 p) (mRO (A 60) (A 61) (A 62) (mRn nv A) (B 63 v) v (s.1, s.2.1, s.1 v, 0) p).2.2.1)) (f := f) (c := fun p => A 60 p = nI v ∧ ¬ mRn nv A p = 0) (np := np) (k := k) hf ⟨(Decidable.of_not_not hc5), hc6⟩ rfl hfl.symm) (zl1_ne rfl rfl (zl1_ne rfl rfl (zl1_ne rfl rfl h0))) (zl1_ne rfl rfl (zl1_ne rfl rfl (zl1_ne rfl rfl h1))) (by rw [E]; exact (zl1_ne rfl rfl (zl1_ne rfl rfl zl1_eq))) (by rw [E]; exact (zl1_ne rfl rfl zl1_eq)) zl1_eq (by omega) (by omega)
            · refine zw_iaload k (nI t8) 109 f130_108 rfl (hb_61 _ _ _ _) (nI_clamp (by omega)) (nI_pos (by omega)) (by omega) ((congrFun (K.2.2.1 61 rfl) k).trans t8q) ?_
              refine zw_aload_n 110 f130_109 rfl (zl1_ne rfl rfl (zl1_ne rfl rfl h0)) ?_
              refine zw_getfield 113 f130_110 rfl g130_86_12 (hb_52 _ _ _ _) rfl ?_
              refine zw_iload 115 f130_113 rfl (zl1_ne rfl rfl (zl1_ne rfl rfl h4)) ?_
              refine zw_iaload k (A 62 k) 116 f130_115 rfl (hb_75 _ _ _ _) (nI_clamp (by omega)) (nI_pos (by omega)) (by omega) (if_pos rfl) ?_
              refine zw_virtual_v 119 0 0 [.ref 52, .int (nI t8), .int (A 62 k)] [(0, .ref 52), (1, .int (nI t8)), (2, .int (A 62 k))] f130_116 rfl n130_134 k130_134_12 rfl (hb_52 _ _ _ _) (by decide +kernel) (Nat.le_of_ble_eq_true rfl) rfl rfl (by decide +kernel) (by decide +kernel) rfl (Nat.le_of_ble_eq_true rfl) rfl ?_
              refine zw_iload_n 1 f128_0 rfl rfl ?_
              refine zw_iconst (-1) 2 f128_1 rfl (by decide +kernel) ?_
              refine zw_ic_ne_t 18 f128_2 (by decide +kernel) (nI_nem (by omega)) ?_
              refine zw_aload_n 19 f128_18 rfl rfl ?_
              refine zw_getfield 22 f128_19 rfl g128_77_12 (hb_52 _ _ _ _) rfl ?_
              refine zw_iload_n 23 f128_22 rfl rfl ?_
              refine zw_dup2 24 f128_23 rfl rfl rfl ?_
              refine zw_iaload t8 (A1 72 t8) 25 f128_24 rfl (hb_72 _ _ _ _) (nI_clamp (by omega)) (nI_pos (by omega)) (by omega) rfl ?_
              refine zw_iload_n 26 f128_25 rfl rfl ?_
              refine zw_iadd ((A1 72 t8) + (A 62 k)) 27 f128_26 rfl rfl ?_
              refine zw_ast t8 _ 28 f128_27 rfl (hb_72 _ _ _ _) (nI_clamp (by omega)) (nI_pos (by omega)) (by omega) (ha_72 _ _ _ _ _) ?_
              refine zw_vreturn f128_28 r128 u128 ⟨rfl, ?_⟩
              refine zw_iinc (nI (k + 1)) _ 122 f130_119 rfl (zl1_ne rfl rfl (zl1_ne rfl rfl h4)) (by decide +kernel) (nI_1 _) rfl ?_
              refine zw_goto 12 f130_122 (by decide +kernel) ?_
              have E := mRO_y (frm := A 60) (too := A 61) (amt := A 62) (run := mRn nv A) (lev := B 63 v) (v := v) (s := (s.1, s.2.1, s.1 v, 0)) (k := k) (A 62 k) (nI t8) t8q (mFl_a ((lg_cmp_gt _ _).mp hc7)) (Decidable.of_not_not hc5) hc6
              rw [mGoC_t (by omega), mGoD_t (by omega)] at E
              have hfl : mFl (B 63 v) (A 62 k) (mRO (A 60) (A 61) (A 62) (mRn nv A) (B 63 v) v (s.1, s.2.1, s.1 v, 0) k).2.2.1 = (A 62 k) := (mFl_a ((lg_cmp_gt _ _).mp hc7))
              exact ih (k + 1) _ _ _ _ _ (KQ.a rfl (KQ.a rfl K)) (by rw [E]; exact ⟨mC_t hr.1 (by omega), hr.2⟩) (fl_y (r := A1 75) (F := fun p => (mFl (B 63 v) (A 62 p) (mRO (A 60) (A 61) (A 62) (mRn nv A) (B 63 v) v (s.1, s.2.1, s.1 v, 0) p).2.2.1)) (f := f) (c := fun p => A 60 p = nI v ∧ ¬ mRn nv A p = 0) (np := np) (k := k) hf ⟨(Decidable.of_not_not hc5), hc6⟩ rfl hfl.symm) (zl1_ne rfl rfl (zl1_ne rfl rfl (zl1_ne rfl rfl h0))) (zl1_ne rfl rfl (zl1_ne rfl rfl (zl1_ne rfl rfl h1))) (by rw [E]; exact (zl1_ne rfl rfl (zl1_ne rfl rfl zl1_eq))) (by rw [E]; exact (zl1_ne rfl rfl zl1_eq)) zl1_eq (by omega) (by omega)
          · refine zw_aload_n 59 f130_58 rfl h0 ?_
            refine zw_getfield 62 f130_59 rfl g130_37_12 (hb_52 _ _ _ _) rfl ?_
            refine zw_iload 64 f130_62 rfl h4 ?_
            refine zw_iaload k (A 62 k) 65 f130_64 rfl (hb_62 _ _ _ _) (nI_clamp (by omega)) (nI_pos (by omega)) (by omega) (congrFun ((K.2.2.1 62 rfl)) k) ?_
            refine zw_iload_n 66 f130_65 rfl h2 ?_
            refine zw_ic_ge 69 79 f130_66 (by decide +kernel) rfl (fun hc9 => ?_) (fun hc9 => ?_)
            · refine zw_iload_n 80 f130_79 rfl h2 ?_
              refine zw_ast k _ 81 f130_80 rfl (hb_75 _ _ _ _) (nI_clamp (by omega)) (nI_pos (by omega)) (by omega) (ha_75 _ _ _ _ _) ?_
              refine zw_iload_n 82 f130_81 rfl h2 ?_
              refine zw_aload_n 83 f130_82 rfl h0 ?_
              refine zw_getfield 86 f130_83 rfl g130_86_12 (hb_52 _ _ _ _) rfl ?_
              refine zw_iload 88 f130_86 rfl h4 ?_
              refine zw_iaload k ((mRO (A 60) (A 61) (A 62) (mRn nv A) (B 63 v) v (s.1, s.2.1, s.1 v, 0) k).2.2.1) 89 f130_88 rfl (hb_75 _ _ _ _) (nI_clamp (by omega)) (nI_pos (by omega)) (by omega) (if_pos rfl) ?_
              refine zw_isub (((mRO (A 60) (A 61) (A 62) (mRn nv A) (B 63 v) v (s.1, s.2.1, s.1 v, 0) k).2.2.1) - ((mRO (A 60) (A 61) (A 62) (mRn nv A) (B 63 v) v (s.1, s.2.1, s.1 v, 0) k).2.2.1)) 90 f130_89 rfl rfl ?_
              refine zw_istore_n _ 91 f130_90 rfl (by decide +kernel) rfl ?_
              refine zw_iload_n 92 f130_91 rfl (zl1_ne rfl rfl h3) ?_
              refine zw_aload_n 93 f130_92 rfl (zl1_ne rfl rfl h0) ?_
              refine zw_getfield 96 f130_93 rfl g130_86_12 (hb_52 _ _ _ _) rfl ?_
              refine zw_iload 98 f130_96 rfl (zl1_ne rfl rfl h4) ?_
              refine zw_iaload k ((mRO (A 60) (A 61) (A 62) (mRn nv A) (B 63 v) v (s.1, s.2.1, s.1 v, 0) k).2.2.1) 99 f130_98 rfl (hb_75 _ _ _ _) (nI_clamp (by omega)) (nI_pos (by omega)) (by omega) (if_pos rfl) ?_
              refine zw_iadd (((mRO (A 60) (A 61) (A 62) (mRn nv A) (B 63 v) v (s.1, s.2.1, s.1 v, 0) k).2.2.2) + ((mRO (A 60) (A 61) (A 62) (mRn nv A) (B 63 v) v (s.1, s.2.1, s.1 v, 0) k).2.2.1)) 100 f130_99 rfl rfl ?_
              refine zw_istore_n _ 101 f130_100 rfl (by decide +kernel) rfl ?_
              refine zw_aload_n 102 f130_101 rfl (zl1_ne rfl rfl (zl1_ne rfl rfl h0)) ?_
              refine zw_aload_n 103 f130_102 rfl (zl1_ne rfl rfl (zl1_ne rfl rfl h0)) ?_
              refine zw_getfield 106 f130_103 rfl g130_34_12 (hb_52 _ _ _ _) rfl ?_
              refine zw_iload 108 f130_106 rfl (zl1_ne rfl rfl (zl1_ne rfl rfl h4)) ?_
              rcases (hP.2.2.2 k (by omega)).1 with t10q | ⟨t10, t10l, t10n, t10q⟩
              · refine zw_iaload k (-1) 109 f130_108 rfl (hb_61 _ _ _ _) (nI_clamp (by omega)) (nI_pos (by omega)) (by omega) ((congrFun (K.2.2.1 61 rfl) k).trans t10q) ?_
                refine zw_aload_n 110 f130_109 rfl (zl1_ne rfl rfl (zl1_ne rfl rfl h0)) ?_
                refine zw_getfield 113 f130_110 rfl g130_86_12 (hb_52 _ _ _ _) rfl ?_
                refine zw_iload 115 f130_113 rfl (zl1_ne rfl rfl (zl1_ne rfl rfl h4)) ?_
                refine zw_iaload k ((mRO (A 60) (A 61) (A 62) (mRn nv A) (B 63 v) v (s.1, s.2.1, s.1 v, 0) k).2.2.1) 116 f130_115 rfl (hb_75 _ _ _ _) (nI_clamp (by omega)) (nI_pos (by omega)) (by omega) (if_pos rfl) ?_
                refine zw_virtual_v 119 0 0 [.ref 52, .int (-1), .int ((mRO (A 60) (A 61) (A 62) (mRn nv A) (B 63 v) v (s.1, s.2.1, s.1 v, 0) k).2.2.1)] [(0, .ref 52), (1, .int (-1)), (2, .int ((mRO (A 60) (A 61) (A 62) (mRn nv A) (B 63 v) v (s.1, s.2.1, s.1 v, 0) k).2.2.1))] f130_116 rfl n130_134 k130_134_12 rfl (hb_52 _ _ _ _) (by decide +kernel) (Nat.le_of_ble_eq_true rfl) rfl rfl (by decide +kernel) (by decide +kernel) rfl (Nat.le_of_ble_eq_true rfl) rfl ?_
                refine zw_iload_n 1 f128_0 rfl rfl ?_
                refine zw_iconst (-1) 2 f128_1 rfl (by decide +kernel) ?_
                refine zw_ic_ne_f 5 18 f128_2 (by decide +kernel) rfl (by decide +kernel) ?_
                refine zw_aload_n 6 f128_5 rfl rfl ?_
                refine zw_dup 7 f128_6 rfl rfl ?_
                refine zw_getI (I1 52 35) 10 f128_7 rfl g128_124_12 (hb_52 _ _ _ _) rfl rfl ?_
                refine zw_iload_n 11 f128_10 rfl rfl ?_
                refine zw_iadd ((I1 52 35) + ((mRO (A 60) (A 61) (A 62) (mRn nv A) (B 63 v) v (s.1, s.2.1, s.1 v, 0) k).2.2.1)) 12 f128_11 rfl rfl ?_
                refine zw_put _ 15 f128_12 rfl g128_124_12 (hb_52 _ _ _ _) rfl (Nat.le_of_ble_eq_true rfl) (by decide +kernel) (hi_52_35 _ _ _ _ _) ?_
                refine zw_goto 28 f128_15 (by decide +kernel) ?_
                refine zw_vreturn f128_28 r128 u128 ⟨rfl, ?_⟩
                refine zw_iinc (nI (k + 1)) _ 122 f130_119 rfl (zl1_ne rfl rfl (zl1_ne rfl rfl h4)) (by decide +kernel) (nI_1 _) rfl ?_
                refine zw_goto 12 f130_122 (by decide +kernel) ?_
                have E := mRO_y (frm := A 60) (too := A 61) (amt := A 62) (run := mRn nv A) (lev := B 63 v) (v := v) (s := (s.1, s.2.1, s.1 v, 0)) (k := k) ((mRO (A 60) (A 61) (A 62) (mRn nv A) (B 63 v) v (s.1, s.2.1, s.1 v, 0) k).2.2.1) (-1) t10q (mFl_c (Int64.not_lt.mpr (Int64.not_lt.mp (fun q => hc7 ((lg_cmp_gt _ _).mpr q)))) (Int32.not_lt.mpr hc9)) (Decidable.of_not_not hc5) hc6
                rw [mGoC_m, mGoD_m] at E
                have hfl : mFl (B 63 v) (A 62 k) (mRO (A 60) (A 61) (A 62) (mRn nv A) (B 63 v) v (s.1, s.2.1, s.1 v, 0) k).2.2.1 = ((mRO (A 60) (A 61) (A 62) (mRn nv A) (B 63 v) v (s.1, s.2.1, s.1 v, 0) k).2.2.1) := (mFl_c (Int64.not_lt.mpr (Int64.not_lt.mp (fun q => hc7 ((lg_cmp_gt _ _).mpr q)))) (Int32.not_lt.mpr hc9))
                exact ih (k + 1) _ _ _ _ _ (KQ.i rfl (KQ.a rfl K)) (by rw [E]; exact ⟨hr.1, congrArg (fun z => z + ((mRO (A 60) (A 61) (A 62) (mRn nv A) (B 63 v) v (s.1, s.2.1, s.1 v, 0) k).2.2.1)) hr.2.1, hr.2.2⟩) (fl_y (r := A1 75) (F := fun p => (mFl (B 63 v) (A 62 p) (mRO (A 60) (A 61) (A 62) (mRn nv A) (B 63 v) v (s.1, s.2.1, s.1 v, 0) p).2.2.1)) (f := f) (c := fun p => A 60 p = nI v ∧ ¬ mRn nv A p = 0) (np := np) (k := k) hf ⟨(Decidable.of_not_not hc5), hc6⟩ rfl hfl.symm) (zl1_ne rfl rfl (zl1_ne rfl rfl (zl1_ne rfl rfl h0))) (zl1_ne rfl rfl (zl1_ne rfl rfl (zl1_ne rfl rfl h1))) (by rw [E]; exact (zl1_ne rfl rfl (zl1_ne rfl rfl zl1_eq))) (by rw [E]; exact (zl1_ne rfl rfl zl1_eq)) zl1_eq (by omega) (by omega)
              · refine zw_iaload k (nI t10) 109 f130_108 rfl (hb_61 _ _ _ _) (nI_clamp (by omega)) (nI_pos (by omega)) (by omega) ((congrFun (K.2.2.1 61 rfl) k).trans t10q) ?_
                refine zw_aload_n 110 f130_109 rfl (zl1_ne rfl rfl (zl1_ne rfl rfl h0)) ?_
                refine zw_getfield 113 f130_110 rfl g130_86_12 (hb_52 _ _ _ _) rfl ?_
                refine zw_iload 115 f130_113 rfl (zl1_ne rfl rfl (zl1_ne rfl rfl h4)) ?_
                refine zw_iaload k ((mRO (A 60) (A 61) (A 62) (mRn nv A) (B 63 v) v (s.1, s.2.1, s.1 v, 0) k).2.2.1) 116 f130_115 rfl (hb_75 _ _ _ _) (nI_clamp (by omega)) (nI_pos (by omega)) (by omega) (if_pos rfl) ?_
                refine zw_virtual_v 119 0 0 [.ref 52, .int (nI t10), .int ((mRO (A 60) (A 61) (A 62) (mRn nv A) (B 63 v) v (s.1, s.2.1, s.1 v, 0) k).2.2.1)] [(0, .ref 52), (1, .int (nI t10)), (2, .int ((mRO (A 60) (A 61) (A 62) (mRn nv A) (B 63 v) v (s.1, s.2.1, s.1 v, 0) k).2.2.1))] f130_116 rfl n130_134 k130_134_12 rfl (hb_52 _ _ _ _) (by decide +kernel) (Nat.le_of_ble_eq_true rfl) rfl rfl (by decide +kernel) (by decide +kernel) rfl (Nat.le_of_ble_eq_true rfl) rfl ?_
                refine zw_iload_n 1 f128_0 rfl rfl ?_
                refine zw_iconst (-1) 2 f128_1 rfl (by decide +kernel) ?_
                refine zw_ic_ne_t 18 f128_2 (by decide +kernel) (nI_nem (by omega)) ?_
                refine zw_aload_n 19 f128_18 rfl rfl ?_
                refine zw_getfield 22 f128_19 rfl g128_77_12 (hb_52 _ _ _ _) rfl ?_
                refine zw_iload_n 23 f128_22 rfl rfl ?_
                refine zw_dup2 24 f128_23 rfl rfl rfl ?_
                refine zw_iaload t10 (A1 72 t10) 25 f128_24 rfl (hb_72 _ _ _ _) (nI_clamp (by omega)) (nI_pos (by omega)) (by omega) rfl ?_
                refine zw_iload_n 26 f128_25 rfl rfl ?_
                refine zw_iadd ((A1 72 t10) + ((mRO (A 60) (A 61) (A 62) (mRn nv A) (B 63 v) v (s.1, s.2.1, s.1 v, 0) k).2.2.1)) 27 f128_26 rfl rfl ?_
                refine zw_ast t10 _ 28 f128_27 rfl (hb_72 _ _ _ _) (nI_clamp (by omega)) (nI_pos (by omega)) (by omega) (ha_72 _ _ _ _ _) ?_
                refine zw_vreturn f128_28 r128 u128 ⟨rfl, ?_⟩
                refine zw_iinc (nI (k + 1)) _ 122 f130_119 rfl (zl1_ne rfl rfl (zl1_ne rfl rfl h4)) (by decide +kernel) (nI_1 _) rfl ?_
                refine zw_goto 12 f130_122 (by decide +kernel) ?_
                have E := mRO_y (frm := A 60) (too := A 61) (amt := A 62) (run := mRn nv A) (lev := B 63 v) (v := v) (s := (s.1, s.2.1, s.1 v, 0)) (k := k) ((mRO (A 60) (A 61) (A 62) (mRn nv A) (B 63 v) v (s.1, s.2.1, s.1 v, 0) k).2.2.1) (nI t10) t10q (mFl_c (Int64.not_lt.mpr (Int64.not_lt.mp (fun q => hc7 ((lg_cmp_gt _ _).mpr q)))) (Int32.not_lt.mpr hc9)) (Decidable.of_not_not hc5) hc6
                rw [mGoC_t (by omega), mGoD_t (by omega)] at E
                have hfl : mFl (B 63 v) (A 62 k) (mRO (A 60) (A 61) (A 62) (mRn nv A) (B 63 v) v (s.1, s.2.1, s.1 v, 0) k).2.2.1 = ((mRO (A 60) (A 61) (A 62) (mRn nv A) (B 63 v) v (s.1, s.2.1, s.1 v, 0) k).2.2.1) := (mFl_c (Int64.not_lt.mpr (Int64.not_lt.mp (fun q => hc7 ((lg_cmp_gt _ _).mpr q)))) (Int32.not_lt.mpr hc9))
                exact ih (k + 1) _ _ _ _ _ (KQ.a rfl (KQ.a rfl K)) (by rw [E]; exact ⟨mC_t hr.1 (by omega), hr.2⟩) (fl_y (r := A1 75) (F := fun p => (mFl (B 63 v) (A 62 p) (mRO (A 60) (A 61) (A 62) (mRn nv A) (B 63 v) v (s.1, s.2.1, s.1 v, 0) p).2.2.1)) (f := f) (c := fun p => A 60 p = nI v ∧ ¬ mRn nv A p = 0) (np := np) (k := k) hf ⟨(Decidable.of_not_not hc5), hc6⟩ rfl hfl.symm) (zl1_ne rfl rfl (zl1_ne rfl rfl (zl1_ne rfl rfl h0))) (zl1_ne rfl rfl (zl1_ne rfl rfl (zl1_ne rfl rfl h1))) (by rw [E]; exact (zl1_ne rfl rfl (zl1_ne rfl rfl zl1_eq))) (by rw [E]; exact (zl1_ne rfl rfl zl1_eq)) zl1_eq (by omega) (by omega)
            · refine zw_aload_n 70 f130_69 rfl h0 ?_
              refine zw_getfield 73 f130_70 rfl g130_37_12 (hb_52 _ _ _ _) rfl ?_
              refine zw_iload 75 f130_73 rfl h4 ?_
              refine zw_iaload k (A 62 k) 76 f130_75 rfl (hb_62 _ _ _ _) (nI_clamp (by omega)) (nI_pos (by omega)) (by omega) (congrFun ((K.2.2.1 62 rfl)) k) ?_
              refine zw_goto 80 f130_76 (by decide +kernel) ?_
              refine zw_ast k _ 81 f130_80 rfl (hb_75 _ _ _ _) (nI_clamp (by omega)) (nI_pos (by omega)) (by omega) (ha_75 _ _ _ _ _) ?_
              refine zw_iload_n 82 f130_81 rfl h2 ?_
              refine zw_aload_n 83 f130_82 rfl h0 ?_
              refine zw_getfield 86 f130_83 rfl g130_86_12 (hb_52 _ _ _ _) rfl ?_
              refine zw_iload 88 f130_86 rfl h4 ?_
              refine zw_iaload k (A 62 k) 89 f130_88 rfl (hb_75 _ _ _ _) (nI_clamp (by omega)) (nI_pos (by omega)) (by omega) (if_pos rfl) ?_
              refine zw_isub (((mRO (A 60) (A 61) (A 62) (mRn nv A) (B 63 v) v (s.1, s.2.1, s.1 v, 0) k).2.2.1) - (A 62 k)) 90 f130_89 rfl rfl ?_
              refine zw_istore_n _ 91 f130_90 rfl (by decide +kernel) rfl ?_
              refine zw_iload_n 92 f130_91 rfl (zl1_ne rfl rfl h3) ?_
              refine zw_aload_n 93 f130_92 rfl (zl1_ne rfl rfl h0) ?_
              refine zw_getfield 96 f130_93 rfl g130_86_12 (hb_52 _ _ _ _) rfl ?_
              refine zw_iload 98 f130_96 rfl (zl1_ne rfl rfl h4) ?_
              refine zw_iaload k (A 62 k) 99 f130_98 rfl (hb_75 _ _ _ _) (nI_clamp (by omega)) (nI_pos (by omega)) (by omega) (if_pos rfl) ?_
              refine zw_iadd (((mRO (A 60) (A 61) (A 62) (mRn nv A) (B 63 v) v (s.1, s.2.1, s.1 v, 0) k).2.2.2) + (A 62 k)) 100 f130_99 rfl rfl ?_
              refine zw_istore_n _ 101 f130_100 rfl (by decide +kernel) rfl ?_
              refine zw_aload_n 102 f130_101 rfl (zl1_ne rfl rfl (zl1_ne rfl rfl h0)) ?_
              refine zw_aload_n 103 f130_102 rfl (zl1_ne rfl rfl (zl1_ne rfl rfl h0)) ?_
              refine zw_getfield 106 f130_103 rfl g130_34_12 (hb_52 _ _ _ _) rfl ?_
              refine zw_iload 108 f130_106 rfl (zl1_ne rfl rfl (zl1_ne rfl rfl h4)) ?_
              rcases (hP.2.2.2 k (by omega)).1 with t11q | ⟨t11, t11l, t11n, t11q⟩
              · refine zw_iaload k (-1) 109 f130_108 rfl (hb_61 _ _ _ _) (nI_clamp (by omega)) (nI_pos (by omega)) (by omega) ((congrFun (K.2.2.1 61 rfl) k).trans t11q) ?_
                refine zw_aload_n 110 f130_109 rfl (zl1_ne rfl rfl (zl1_ne rfl rfl h0)) ?_
                refine zw_getfield 113 f130_110 rfl g130_86_12 (hb_52 _ _ _ _) rfl ?_
                refine zw_iload 115 f130_113 rfl (zl1_ne rfl rfl (zl1_ne rfl rfl h4)) ?_
                refine zw_iaload k (A 62 k) 116 f130_115 rfl (hb_75 _ _ _ _) (nI_clamp (by omega)) (nI_pos (by omega)) (by omega) (if_pos rfl) ?_
                refine zw_virtual_v 119 0 0 [.ref 52, .int (-1), .int (A 62 k)] [(0, .ref 52), (1, .int (-1)), (2, .int (A 62 k))] f130_116 rfl n130_134 k130_134_12 rfl (hb_52 _ _ _ _) (by decide +kernel) (Nat.le_of_ble_eq_true rfl) rfl rfl (by decide +kernel) (by decide +kernel) rfl (Nat.le_of_ble_eq_true rfl) rfl ?_
                refine zw_iload_n 1 f128_0 rfl rfl ?_
                refine zw_iconst (-1) 2 f128_1 rfl (by decide +kernel) ?_
                refine zw_ic_ne_f 5 18 f128_2 (by decide +kernel) rfl (by decide +kernel) ?_
                refine zw_aload_n 6 f128_5 rfl rfl ?_
                refine zw_dup 7 f128_6 rfl rfl ?_
                refine zw_getI (I1 52 35) 10 f128_7 rfl g128_124_12 (hb_52 _ _ _ _) rfl rfl ?_
                refine zw_iload_n 11 f128_10 rfl rfl ?_
                refine zw_iadd ((I1 52 35) + (A 62 k)) 12 f128_11 rfl rfl ?_
                refine zw_put _ 15 f128_12 rfl g128_124_12 (hb_52 _ _ _ _) rfl (Nat.le_of_ble_eq_true rfl) (by decide +kernel) (hi_52_35 _ _ _ _ _) ?_
                refine zw_goto 28 f128_15 (by decide +kernel) ?_
                refine zw_vreturn f128_28 r128 u128 ⟨rfl, ?_⟩
                refine zw_iinc (nI (k + 1)) _ 122 f130_119 rfl (zl1_ne rfl rfl (zl1_ne rfl rfl h4)) (by decide +kernel) (nI_1 _) rfl ?_
                refine zw_goto 12 f130_122 (by decide +kernel) ?_
                have E := mRO_y (frm := A 60) (too := A 61) (amt := A 62) (run := mRn nv A) (lev := B 63 v) (v := v) (s := (s.1, s.2.1, s.1 v, 0)) (k := k) (A 62 k) (-1) t11q (mFl_b (Int32.not_le.mp hc9)) (Decidable.of_not_not hc5) hc6
                rw [mGoC_m, mGoD_m] at E
                have hfl : mFl (B 63 v) (A 62 k) (mRO (A 60) (A 61) (A 62) (mRn nv A) (B 63 v) v (s.1, s.2.1, s.1 v, 0) k).2.2.1 = (A 62 k) := (mFl_b (Int32.not_le.mp hc9))
                exact ih (k + 1) _ _ _ _ _ (KQ.i rfl (KQ.a rfl K)) (by rw [E]; exact ⟨hr.1, congrArg (fun z => z + (A 62 k)) hr.2.1, hr.2.2⟩) (fl_y (r := A1 75) (F := fun p => (mFl (B 63 v) (A 62 p) (mRO (A 60) (A 61) (A 62) (mRn nv A) (B 63 v) v (s.1, s.2.1, s.1 v, 0) p).2.2.1)) (f := f) (c := fun p => A 60 p = nI v ∧ ¬ mRn nv A p = 0) (np := np) (k := k) hf ⟨(Decidable.of_not_not hc5), hc6⟩ rfl hfl.symm) (zl1_ne rfl rfl (zl1_ne rfl rfl (zl1_ne rfl rfl h0))) (zl1_ne rfl rfl (zl1_ne rfl rfl (zl1_ne rfl rfl h1))) (by rw [E]; exact (zl1_ne rfl rfl (zl1_ne rfl rfl zl1_eq))) (by rw [E]; exact (zl1_ne rfl rfl zl1_eq)) zl1_eq (by omega) (by omega)
              · refine zw_iaload k (nI t11) 109 f130_108 rfl (hb_61 _ _ _ _) (nI_clamp (by omega)) (nI_pos (by omega)) (by omega) ((congrFun (K.2.2.1 61 rfl) k).trans t11q) ?_
                refine zw_aload_n 110 f130_109 rfl (zl1_ne rfl rfl (zl1_ne rfl rfl h0)) ?_
                refine zw_getfield 113 f130_110 rfl g130_86_12 (hb_52 _ _ _ _) rfl ?_
                refine zw_iload 115 f130_113 rfl (zl1_ne rfl rfl (zl1_ne rfl rfl h4)) ?_
                refine zw_iaload k (A 62 k) 116 f130_115 rfl (hb_75 _ _ _ _) (nI_clamp (by omega)) (nI_pos (by omega)) (by omega) (if_pos rfl) ?_
                refine zw_virtual_v 119 0 0 [.ref 52, .int (nI t11), .int (A 62 k)] [(0, .ref 52), (1, .int (nI t11)), (2, .int (A 62 k))] f130_116 rfl n130_134 k130_134_12 rfl (hb_52 _ _ _ _) (by decide +kernel) (Nat.le_of_ble_eq_true rfl) rfl rfl (by decide +kernel) (by decide +kernel) rfl (Nat.le_of_ble_eq_true rfl) rfl ?_
                refine zw_iload_n 1 f128_0 rfl rfl ?_
                refine zw_iconst (-1) 2 f128_1 rfl (by decide +kernel) ?_
                refine zw_ic_ne_t 18 f128_2 (by decide +kernel) (nI_nem (by omega)) ?_
                refine zw_aload_n 19 f128_18 rfl rfl ?_
                refine zw_getfield 22 f128_19 rfl g128_77_12 (hb_52 _ _ _ _) rfl ?_
                refine zw_iload_n 23 f128_22 rfl rfl ?_
                refine zw_dup2 24 f128_23 rfl rfl rfl ?_
                refine zw_iaload t11 (A1 72 t11) 25 f128_24 rfl (hb_72 _ _ _ _) (nI_clamp (by omega)) (nI_pos (by omega)) (by omega) rfl ?_
                refine zw_iload_n 26 f128_25 rfl rfl ?_
                refine zw_iadd ((A1 72 t11) + (A 62 k)) 27 f128_26 rfl rfl ?_
                refine zw_ast t11 _ 28 f128_27 rfl (hb_72 _ _ _ _) (nI_clamp (by omega)) (nI_pos (by omega)) (by omega) (ha_72 _ _ _ _ _) ?_
                refine zw_vreturn f128_28 r128 u128 ⟨rfl, ?_⟩
                refine zw_iinc (nI (k + 1)) _ 122 f130_119 rfl (zl1_ne rfl rfl (zl1_ne rfl rfl h4)) (by decide +kernel) (nI_1 _) rfl ?_
                refine zw_goto 12 f130_122 (by decide +kernel) ?_
                have E := mRO_y (frm := A 60) (too := A 61) (amt := A 62) (run := mRn nv A) (lev := B 63 v) (v := v) (s := (s.1, s.2.1, s.1 v, 0)) (k := k) (A 62 k) (nI t11) t11q (mFl_b (Int32.not_le.mp hc9)) (Decidable.of_not_not hc5) hc6
                rw [mGoC_t (by omega), mGoD_t (by omega)] at E
                have hfl : mFl (B 63 v) (A 62 k) (mRO (A 60) (A 61) (A 62) (mRn nv A) (B 63 v) v (s.1, s.2.1, s.1 v, 0) k).2.2.1 = (A 62 k) := (mFl_b (Int32.not_le.mp hc9))
                exact ih (k + 1) _ _ _ _ _ (KQ.a rfl (KQ.a rfl K)) (by rw [E]; exact ⟨mC_t hr.1 (by omega), hr.2⟩) (fl_y (r := A1 75) (F := fun p => (mFl (B 63 v) (A 62 p) (mRO (A 60) (A 61) (A 62) (mRn nv A) (B 63 v) v (s.1, s.2.1, s.1 v, 0) p).2.2.1)) (f := f) (c := fun p => A 60 p = nI v ∧ ¬ mRn nv A p = 0) (np := np) (k := k) hf ⟨(Decidable.of_not_not hc5), hc6⟩ rfl hfl.symm) (zl1_ne rfl rfl (zl1_ne rfl rfl (zl1_ne rfl rfl h0))) (zl1_ne rfl rfl (zl1_ne rfl rfl (zl1_ne rfl rfl h1))) (by rw [E]; exact (zl1_ne rfl rfl (zl1_ne rfl rfl zl1_eq))) (by rw [E]; exact (zl1_ne rfl rfl zl1_eq)) zl1_eq (by omega) (by omega)
set_option maxRecDepth 100000 in
set_option maxHeartbeats 0 in
theorem mf_rateOf (ro : UInt32 → Nat × (Nat → Int32)) (nv np v : Nat) (I : Nat → Nat → Int32) (G : Nat → Nat → Int64) (A : Nat → Nat → Int32) (B : Nat → Nat → Int64) (hP : MP nv np I A) (hB : MB A) (hv : v < nv) (s : (Nat → Int32) × Int32 × (Nat → Int32) × (Nat → Int32)) (hs : mRel I A s) (f : Nat → Int32) (h75 : ∀ p, p < np → A 75 p = f p) : zWp ro 130 0 [(0, .ref 52), (1, .int (nI v))] [] (hS I G A B) 0 0 (fun r h1 => ∃ I2 G2 A2 B2, h1 = hS I2 G2 A2 B2 ∧ KQ fD pR I G A B I2 G2 A2 B2 ∧ (mRel I2 A2 (mRateOf (A 60) (A 61) (A 62) (mRn nv A) (A 59) (A 54) (B 63) (G 52 12) np v s) ∧ ∀ p, p < np → A2 75 p = cI (A 60 p = nI v ∧ ¬ mRn nv A p = 0) (mFl (B 63 v) (A 62 p) (mRO (A 60) (A 61) (A 62) (mRn nv A) (B 63 v) v (s.1, s.2.1, s.1 v, 0) p).2.2.1) (f p)) ∧ r = none) := by
  have hnv := hP.1.2
  have hnp := hP.2.1.2
  refine zw_aload_n 1 f130_0 rfl rfl ?_
  refine zw_getfield 4 f130_1 rfl g130_77_12 (hb_52 _ _ _ _) rfl ?_
  refine zw_iload_n 5 f130_4 rfl rfl ?_
  refine zw_iaload v (s.1 v) 6 f130_5 rfl (hb_72 _ _ _ _) (nI_clamp (by omega)) (nI_pos (by omega)) (by omega) (hs.1 v (by omega)) ?_
  refine zw_istore_n _ 7 f130_6 rfl (by decide +kernel) rfl ?_
  refine zw_iconst 0 8 f130_7 rfl (by decide +kernel) ?_
  refine zw_istore_n _ 9 f130_8 rfl (by decide +kernel) rfl ?_
  refine zw_iconst 0 10 f130_9 rfl (by decide +kernel) ?_
  refine zw_istore _ 12 f130_10 rfl (by decide +kernel) rfl ?_
  exact lmf_rateOf ro nv np v I G A B hP hB hv s hs f h75 (np + 1) 0 _ _ _ _ _ KQ.rf ⟨hs.1, hs.2.1, rfl, rfl⟩ (fun p hpp => (h75 p hpp).trans (cI_n (fun q => Nat.not_lt_zero _ q.1)).symm) (zl1_ne rfl rfl (zl1_ne rfl rfl (zl1_ne rfl rfl rfl))) (zl1_ne rfl rfl (zl1_ne rfl rfl (zl1_ne rfl rfl rfl))) (zl1_ne rfl rfl (zl1_ne rfl rfl zl1_eq)) (zl1_ne rfl rfl zl1_eq) zl1_eq (by omega) (by omega)
set_option maxRecDepth 100000 in
set_option maxHeartbeats 0 in
theorem lmf_rates_137 (ro : UInt32 → Nat × (Nat → Int32)) (nv np : Nat) (I : Nat → Nat → Int32) (G : Nat → Nat → Int64) (A : Nat → Nat → Int32) (B : Nat → Nat → Int64) (hP : MP nv np I A) (hB : MB A) : ∀ (n k : Nat) (ls : List (Nat × Value)) (I1 : Nat → Nat → Int32) (G1 : Nat → Nat → Int64) (A1 : Nat → Nat → Int32) (B1 : Nat → Nat → Int64), KQ fR pR I G A B I1 G1 A1 B1 → (mRel I1 A1 (mR2s nv np G A B k) ∧ ∀ p, p < np → A1 75 p = mFk (A 60) (A 61) (A 62) (mRn nv A) (A 59) (A 54) (B 63) (G 52 12) np k p) → zld ls 0 = some (.ref 52) → zld ls 1 = some (.int (nI k)) → k ≤ nv → nv + 1 ≤ k + n → zWp ro 129 137 ls [] (hS I1 G1 A1 B1) 0 0 (fun r h1 => ∃ I2 G2 A2 B2, h1 = hS I2 G2 A2 B2 ∧ KQ fR pR I G A B I2 G2 A2 B2 ∧ (∀ p, p < np → A2 75 p = mFw (A 60) (A 61) (A 62) (mRn nv A) (A 59) (A 54) (B 63) (G 52 12) np p) ∧ r = none) := by
  have hnv := hP.1.2
  have hnp := hP.2.1.2
  intro n
  induction n with
  | zero =>
    intro k ls I1 G1 A1 B1 _ _ _ _ a b
    exact absurd b (by omega)
  | succ n ih =>
    intro k ls I1 G1 A1 B1 K hr h0 h1 hk1 hk2
    refine zw_iload_n 138 f129_137 rfl h1 ?_
    refine zw_aload_n 139 f129_138 rfl h0 ?_
    refine zw_getI (nI nv) 142 f129_139 rfl g129_114_12 (hb_52 _ _ _ _) rfl ((K.1 52 0 rfl).trans hP.1.1) ?_
    refine zw_ic_ge 145 156 f129_142 (by decide +kernel) rfl (fun hc1 => ?_) (fun hc1 => ?_)
    · have hn_hc1 : nv ≤ k := zn_ge (by omega) (by omega) hc1
      refine zw_vreturn f129_156 r129 u129 ?_
      have hk : k = nv := by omega
      subst hk
      exact ⟨_, _, _, _, rfl, K, fun p hpp => (hr.2 p hpp).trans (mFk_w hnv ((hP.2.2.2 p hpp).2.2.elim Or.inl (fun ⟨w, w1, w2, _⟩ => Or.inr ⟨w, w1, w2⟩))), rfl⟩
    · have hn_hc1 : k < nv := zn_lt (by omega) (by omega) hc1
      refine zw_aload_n 146 f129_145 rfl h0 ?_
      refine zw_iload_n 147 f129_146 rfl h1 ?_
      refine zw_virtual_v 150 0 0 [.ref 52, .int (nI k)] [(0, .ref 52), (1, .int (nI k))] f129_147 rfl n129_138 k129_138_12 rfl (hb_52 _ _ _ _) (by decide +kernel) (Nat.le_of_ble_eq_true rfl) rfl rfl (by decide +kernel) (by decide +kernel) rfl (Nat.le_of_ble_eq_true rfl) rfl ?_
      refine zWp.mono (mf_rateOf ro nv np k _ _ _ _ (MP.k K rfl rfl pR_p hP) (MB.k K rfl rfl hB) (by omega) _ hr.1 _ hr.2) ?_
      rintro r h1 ⟨I2, G2, A2, B2, rfl, K2, ⟨hr2, hf2⟩, rfl⟩
      refine ⟨rfl, ?_⟩
      rw [mRO_k K] at hr2
      have en : mRn nv A1 = mRn nv A := funext (fun p => mRn_c (K.2.2.1 53 rfl) (K.2.2.1 57 rfl) (K.2.2.1 65 rfl) (K.2.2.1 64 rfl))
      rw [en, K.2.2.1 60 rfl, K.2.2.1 61 rfl, K.2.2.1 62 rfl, K.2.2.2 63 rfl] at hf2
      have hf3 : ∀ p, p < np → A2 75 p = mFk (A 60) (A 61) (A 62) (mRn nv A) (A 59) (A 54) (B 63) (G 52 12) np (k + 1) p := fun p hpp => (hf2 p hpp).trans (mFk_s (by omega) ((hP.2.2.2 p hpp).2.2.elim Or.inl (fun ⟨w, w1, w2, _⟩ => Or.inr ⟨w, by omega, w2⟩)))
      refine zw_iinc (nI (k + 1)) _ 153 f129_150 rfl h1 (by decide +kernel) (nI_1 _) rfl ?_
      refine zw_goto 137 f129_153 (by decide +kernel) ?_
      exact ih (k + 1) _ _ _ _ _ (KQ.tr K (KQ.wk K2 fD_R (fun _ h => h))) ⟨hr2, hf3⟩ (zl1_ne rfl rfl h0) zl1_eq (by omega) (by omega)
set_option maxRecDepth 100000 in
set_option maxHeartbeats 0 in
theorem lmf_rates_47 (ro : UInt32 → Nat × (Nat → Int32)) (nv np : Nat) (I : Nat → Nat → Int32) (G : Nat → Nat → Int64) (A : Nat → Nat → Int32) (B : Nat → Nat → Int64) (hP : MP nv np I A) (hB : MB A) : ∀ (n k : Nat) (ls : List (Nat × Value)) (I1 : Nat → Nat → Int32) (G1 : Nat → Nat → Int64) (A1 : Nat → Nat → Int32) (B1 : Nat → Nat → Int64), KQ fR pR I G A B I1 G1 A1 B1 → (((∀ j, j < 8 → A1 72 j = (mR1 (A 60) (A 61) (A 62) (mRn nv A) k).1 j) ∧ I1 52 35 = (mR1 (A 60) (A 61) (A 62) (mRn nv A) k).2.1 ∧ I1 52 34 = (mR1 (A 60) (A 61) (A 62) (mRn nv A) k).2.2 ∧ ∀ j, j < 8 → A1 73 j = 0 ∧ A1 74 j = 0) ∧ ∀ p, p < k → A1 75 p = mFk (A 60) (A 61) (A 62) (mRn nv A) (A 59) (A 54) (B 63) (G 52 12) np 0 p) → zld ls 0 = some (.ref 52) → zld ls 1 = some (.int (nI k)) → k ≤ np → np + 1 ≤ k + n → zWp ro 129 47 ls [] (hS I1 G1 A1 B1) 0 0 (fun r h1 => ∃ I2 G2 A2 B2, h1 = hS I2 G2 A2 B2 ∧ KQ fR pR I G A B I2 G2 A2 B2 ∧ (∀ p, p < np → A2 75 p = mFw (A 60) (A 61) (A 62) (mRn nv A) (A 59) (A 54) (B 63) (G 52 12) np p) ∧ r = none) := by
  have hnv := hP.1.2
  have hnp := hP.2.1.2
  intro n
  induction n with
  | zero =>
    intro k ls I1 G1 A1 B1 _ _ _ _ a b
    exact absurd b (by omega)
  | succ n ih =>
    intro k ls I1 G1 A1 B1 K hr h0 h1 hk1 hk2
    refine zw_iload_n 48 f129_47 rfl h1 ?_
    refine zw_aload_n 49 f129_48 rfl h0 ?_
    refine zw_getI (nI np) 52 f129_49 rfl g129_121_12 (hb_52 _ _ _ _) rfl ((K.1 52 8 rfl).trans hP.2.1.1) ?_
    refine zw_ic_ge 55 135 f129_52 (by decide +kernel) rfl (fun hc1 => ?_) (fun hc1 => ?_)
    · have hn_hc1 : np ≤ k := zn_ge (by omega) (by omega) hc1
      refine zw_iconst 0 136 f129_135 rfl (by decide +kernel) ?_
      refine zw_istore_n _ 137 f129_136 rfl (by decide +kernel) rfl ?_
      have hk : k = np := by omega
      rw [hk] at hr
      exact lmf_rates_137 ro nv np I G A B hP hB (nv + 1) 0 _ _ _ _ _ K ⟨⟨hr.1.1, hr.1.2.1, fun j hj => (hr.1.2.2.2 j hj).1, fun j hj => (hr.1.2.2.2 j hj).2⟩, hr.2⟩ (zl1_ne rfl rfl h0) zl1_eq (by omega) (by omega)
    · have hn_hc1 : k < np := zn_lt (by omega) (by omega) hc1
      refine zw_aload_n 56 f129_55 rfl h0 ?_
      refine zw_getfield 59 f129_56 rfl g129_86_12 (hb_52 _ _ _ _) rfl ?_
      refine zw_iload_n 60 f129_59 rfl h1 ?_
      refine zw_aload_n 61 f129_60 rfl h0 ?_
      refine zw_getfield 64 f129_61 rfl g129_31_12 (hb_52 _ _ _ _) rfl ?_
      refine zw_iload_n 65 f129_64 rfl h1 ?_
      refine zw_iaload k (A 60 k) 66 f129_65 rfl (hb_60 _ _ _ _) (nI_clamp (by omega)) (nI_pos (by omega)) (by omega) (congrFun ((K.2.2.1 60 rfl)) k) ?_
      refine zw_iconst (-1) 67 f129_66 rfl (by decide +kernel) ?_
      refine zw_ic_ne 70 87 f129_67 (by decide +kernel) rfl (fun hc2 => ?_) (fun hc2 => ?_)
      · refine zw_iconst 0 88 f129_87 rfl (by decide +kernel) ?_
        refine zw_ast k _ 89 f129_88 rfl (hb_75 _ _ _ _) (nI_clamp (by omega)) (nI_pos (by omega)) (by omega) (ha_75 _ _ _ _ _) ?_
        refine zw_aload_n 90 f129_89 rfl h0 ?_
        refine zw_dup 91 f129_90 rfl rfl ?_
        refine zw_getI (I1 52 34) 94 f129_91 rfl g129_127_12 (hb_52 _ _ _ _) rfl rfl ?_
        refine zw_aload_n 95 f129_94 rfl h0 ?_
        refine zw_getfield 98 f129_95 rfl g129_86_12 (hb_52 _ _ _ _) rfl ?_
        refine zw_iload_n 99 f129_98 rfl h1 ?_
        refine zw_iaload k 0 100 f129_99 rfl (hb_75 _ _ _ _) (nI_clamp (by omega)) (nI_pos (by omega)) (by omega) (if_pos rfl) ?_
        refine zw_iadd ((I1 52 34) + 0) 101 f129_100 rfl rfl ?_
        refine zw_put _ 104 f129_101 rfl g129_127_12 (hb_52 _ _ _ _) rfl (Nat.le_of_ble_eq_true rfl) (by decide +kernel) (hi_52_34 _ _ _ _ _) ?_
        refine zw_aload_n 105 f129_104 rfl h0 ?_
        refine zw_getfield 108 f129_105 rfl g129_86_12 (hb_52 _ _ _ _) rfl ?_
        refine zw_iload_n 109 f129_108 rfl h1 ?_
        refine zw_iaload k 0 110 f129_109 rfl (hb_75 _ _ _ _) (nI_clamp (by omega)) (nI_pos (by omega)) (by omega) (if_pos rfl) ?_
        refine zw_if_le_t 129 f129_110 (by decide +kernel) (by decide +kernel) ?_
        refine zw_iinc (nI (k + 1)) _ 132 f129_129 rfl h1 (by decide +kernel) (nI_1 _) rfl ?_
        refine zw_goto 47 f129_132 (by decide +kernel) ?_
        have E := mR1_n (frm := A 60) (too := A 61) (amt := A 62) (run := mRn nv A) (k := k) 0 (if_neg (fun q => hc2 q.1)) (by decide)
        exact ih (k + 1) _ _ _ _ _ (KQ.i rfl (KQ.a rfl K)) ⟨(by rw [E]; exact ⟨hr.1.1, hr.1.2.1, congrArg (fun z => z + 0) hr.1.2.2.1, hr.1.2.2.2⟩), (mI_u (T := fun p => mFk (A 60) (A 61) (A 62) (mRn nv A) (A 59) (A 54) (B 63) (G 52 12) np 0 p) hr.2 (mFk_0n hc2).symm)⟩ (zl1_ne rfl rfl h0) zl1_eq (by omega) (by omega)
      · refine zw_aload_n 71 f129_70 rfl h0 ?_
        refine zw_iload_n 72 f129_71 rfl h1 ?_
        refine zw_virtual_i 75 0 0 [.ref 52, .int (nI k)] [(0, .ref 52), (1, .int (nI k))] f129_72 rfl n129_130 k129_130_12 rfl (hb_52 _ _ _ _) (by decide +kernel) (Nat.le_of_ble_eq_true rfl) rfl rfl (by decide +kernel) (by decide +kernel) rfl (Nat.le_of_ble_eq_true rfl) rfl ?_
        refine zWp.mono (mm_runs_y ro nv k _ _ _ _ (mRn nv A k) ((K.1 52 0 rfl).trans hP.1.1) (by omega) (by omega) (by rw [(K.2.2.1 64 rfl)]; exact (hB.1 k (by omega))) (mRn_c (K.2.2.1 53 rfl) (K.2.2.1 57 rfl) (K.2.2.1 65 rfl) (K.2.2.1 64 rfl))) ?_
        rintro r h1 ⟨rfl, rfl⟩
        refine ⟨_, rfl, ?_⟩
        refine zw_if_eq 78 87 f129_75 (by decide +kernel) rfl (fun hc3 => ?_) (fun hc3 => ?_)
        · refine zw_iconst 0 88 f129_87 rfl (by decide +kernel) ?_
          refine zw_ast k _ 89 f129_88 rfl (hb_75 _ _ _ _) (nI_clamp (by omega)) (nI_pos (by omega)) (by omega) (ha_75 _ _ _ _ _) ?_
          refine zw_aload_n 90 f129_89 rfl h0 ?_
          refine zw_dup 91 f129_90 rfl rfl ?_
          refine zw_getI (I1 52 34) 94 f129_91 rfl g129_127_12 (hb_52 _ _ _ _) rfl rfl ?_
          refine zw_aload_n 95 f129_94 rfl h0 ?_
          refine zw_getfield 98 f129_95 rfl g129_86_12 (hb_52 _ _ _ _) rfl ?_
          refine zw_iload_n 99 f129_98 rfl h1 ?_
          refine zw_iaload k 0 100 f129_99 rfl (hb_75 _ _ _ _) (nI_clamp (by omega)) (nI_pos (by omega)) (by omega) (if_pos rfl) ?_
          refine zw_iadd ((I1 52 34) + 0) 101 f129_100 rfl rfl ?_
          refine zw_put _ 104 f129_101 rfl g129_127_12 (hb_52 _ _ _ _) rfl (Nat.le_of_ble_eq_true rfl) (by decide +kernel) (hi_52_34 _ _ _ _ _) ?_
          refine zw_aload_n 105 f129_104 rfl h0 ?_
          refine zw_getfield 108 f129_105 rfl g129_86_12 (hb_52 _ _ _ _) rfl ?_
          refine zw_iload_n 109 f129_108 rfl h1 ?_
          refine zw_iaload k 0 110 f129_109 rfl (hb_75 _ _ _ _) (nI_clamp (by omega)) (nI_pos (by omega)) (by omega) (if_pos rfl) ?_
          refine zw_if_le_t 129 f129_110 (by decide +kernel) (by decide +kernel) ?_
          refine zw_iinc (nI (k + 1)) _ 132 f129_129 rfl h1 (by decide +kernel) (nI_1 _) rfl ?_
          refine zw_goto 47 f129_132 (by decide +kernel) ?_
          have E := mR1_n (frm := A 60) (too := A 61) (amt := A 62) (run := mRn nv A) (k := k) 0 (if_neg (fun q => q.2 hc3)) (by decide)
          exact ih (k + 1) _ _ _ _ _ (KQ.i rfl (KQ.a rfl K)) ⟨(by rw [E]; exact ⟨hr.1.1, hr.1.2.1, congrArg (fun z => z + 0) hr.1.2.2.1, hr.1.2.2.2⟩), (mI_u (T := fun p => mFk (A 60) (A 61) (A 62) (mRn nv A) (A 59) (A 54) (B 63) (G 52 12) np 0 p) hr.2 (mFk_0z (Decidable.of_not_not hc2) hc3).symm)⟩ (zl1_ne rfl rfl h0) zl1_eq (by omega) (by omega)
        · refine zw_aload_n 79 f129_78 rfl h0 ?_
          refine zw_getfield 82 f129_79 rfl g129_37_12 (hb_52 _ _ _ _) rfl ?_
          refine zw_iload_n 83 f129_82 rfl h1 ?_
          refine zw_iaload k (A 62 k) 84 f129_83 rfl (hb_62 _ _ _ _) (nI_clamp (by omega)) (nI_pos (by omega)) (by omega) (congrFun ((K.2.2.1 62 rfl)) k) ?_
          refine zw_goto 88 f129_84 (by decide +kernel) ?_
          refine zw_ast k _ 89 f129_88 rfl (hb_75 _ _ _ _) (nI_clamp (by omega)) (nI_pos (by omega)) (by omega) (ha_75 _ _ _ _ _) ?_
          refine zw_aload_n 90 f129_89 rfl h0 ?_
          refine zw_dup 91 f129_90 rfl rfl ?_
          refine zw_getI (I1 52 34) 94 f129_91 rfl g129_127_12 (hb_52 _ _ _ _) rfl rfl ?_
          refine zw_aload_n 95 f129_94 rfl h0 ?_
          refine zw_getfield 98 f129_95 rfl g129_86_12 (hb_52 _ _ _ _) rfl ?_
          refine zw_iload_n 99 f129_98 rfl h1 ?_
          refine zw_iaload k (A 62 k) 100 f129_99 rfl (hb_75 _ _ _ _) (nI_clamp (by omega)) (nI_pos (by omega)) (by omega) (if_pos rfl) ?_
          refine zw_iadd ((I1 52 34) + (A 62 k)) 101 f129_100 rfl rfl ?_
          refine zw_put _ 104 f129_101 rfl g129_127_12 (hb_52 _ _ _ _) rfl (Nat.le_of_ble_eq_true rfl) (by decide +kernel) (hi_52_34 _ _ _ _ _) ?_
          refine zw_aload_n 105 f129_104 rfl h0 ?_
          refine zw_getfield 108 f129_105 rfl g129_86_12 (hb_52 _ _ _ _) rfl ?_
          refine zw_iload_n 109 f129_108 rfl h1 ?_
          refine zw_iaload k (A 62 k) 110 f129_109 rfl (hb_75 _ _ _ _) (nI_clamp (by omega)) (nI_pos (by omega)) (by omega) (if_pos rfl) ?_
          refine zw_if_le 113 129 f129_110 (by decide +kernel) rfl (fun hc4 => ?_) (fun hc4 => ?_)
          · refine zw_iinc (nI (k + 1)) _ 132 f129_129 rfl h1 (by decide +kernel) (nI_1 _) rfl ?_
            refine zw_goto 47 f129_132 (by decide +kernel) ?_
            have E := mR1_n (frm := A 60) (too := A 61) (amt := A 62) (run := mRn nv A) (k := k) (A 62 k) (if_pos ⟨(Decidable.of_not_not hc2), hc3⟩) (Int32.not_lt.mpr hc4)
            exact ih (k + 1) _ _ _ _ _ (KQ.i rfl (KQ.a rfl K)) ⟨(by rw [E]; exact ⟨hr.1.1, hr.1.2.1, congrArg (fun z => z + (A 62 k)) hr.1.2.2.1, hr.1.2.2.2⟩), (mI_u (T := fun p => mFk (A 60) (A 61) (A 62) (mRn nv A) (A 59) (A 54) (B 63) (G 52 12) np 0 p) hr.2 (mFk_0y (Decidable.of_not_not hc2) hc3).symm)⟩ (zl1_ne rfl rfl h0) zl1_eq (by omega) (by omega)
          · refine zw_aload_n 114 f129_113 rfl h0 ?_
            refine zw_aload_n 115 f129_114 rfl h0 ?_
            refine zw_getfield 118 f129_115 rfl g129_34_12 (hb_52 _ _ _ _) rfl ?_
            refine zw_iload_n 119 f129_118 rfl h1 ?_
            rcases (hP.2.2.2 k (by omega)).1 with t5q | ⟨t5, t5l, t5n, t5q⟩
            · refine zw_iaload k (-1) 120 f129_119 rfl (hb_61 _ _ _ _) (nI_clamp (by omega)) (nI_pos (by omega)) (by omega) ((congrFun (K.2.2.1 61 rfl) k).trans t5q) ?_
              refine zw_aload_n 121 f129_120 rfl h0 ?_
              refine zw_getfield 124 f129_121 rfl g129_86_12 (hb_52 _ _ _ _) rfl ?_
              refine zw_iload_n 125 f129_124 rfl h1 ?_
              refine zw_iaload k (A 62 k) 126 f129_125 rfl (hb_75 _ _ _ _) (nI_clamp (by omega)) (nI_pos (by omega)) (by omega) (if_pos rfl) ?_
              refine zw_virtual_v 129 0 0 [.ref 52, .int (-1), .int (A 62 k)] [(0, .ref 52), (1, .int (-1)), (2, .int (A 62 k))] f129_126 rfl n129_134 k129_134_12 rfl (hb_52 _ _ _ _) (by decide +kernel) (Nat.le_of_ble_eq_true rfl) rfl rfl (by decide +kernel) (by decide +kernel) rfl (Nat.le_of_ble_eq_true rfl) rfl ?_
              refine zw_iload_n 1 f128_0 rfl rfl ?_
              refine zw_iconst (-1) 2 f128_1 rfl (by decide +kernel) ?_
              refine zw_ic_ne_f 5 18 f128_2 (by decide +kernel) rfl (by decide +kernel) ?_
              refine zw_aload_n 6 f128_5 rfl rfl ?_
              refine zw_dup 7 f128_6 rfl rfl ?_
              refine zw_getI (I1 52 35) 10 f128_7 rfl g128_124_12 (hb_52 _ _ _ _) rfl rfl ?_
              refine zw_iload_n 11 f128_10 rfl rfl ?_
              refine zw_iadd ((I1 52 35) + (A 62 k)) 12 f128_11 rfl rfl ?_
              refine zw_put _ 15 f128_12 rfl g128_124_12 (hb_52 _ _ _ _) rfl (Nat.le_of_ble_eq_true rfl) (by decide +kernel) (hi_52_35 _ _ _ _ _) ?_
              refine zw_goto 28 f128_15 (by decide +kernel) ?_
              refine zw_vreturn f128_28 r128 u128 ⟨rfl, ?_⟩
              refine zw_iinc (nI (k + 1)) _ 132 f129_129 rfl h1 (by decide +kernel) (nI_1 _) rfl ?_
              refine zw_goto 47 f129_132 (by decide +kernel) ?_
              have E := mR1_y (frm := A 60) (too := A 61) (amt := A 62) (run := mRn nv A) (k := k) (A 62 k) (-1) t5q (if_pos ⟨(Decidable.of_not_not hc2), hc3⟩) (Int32.not_le.mp hc4)
              rw [mGoC_m, mGoD_m] at E
              exact ih (k + 1) _ _ _ _ _ (KQ.i rfl (KQ.i rfl (KQ.a rfl K))) ⟨(by rw [E]; exact ⟨hr.1.1, congrArg (fun z => z + (A 62 k)) hr.1.2.1, congrArg (fun z => z + (A 62 k)) hr.1.2.2.1, hr.1.2.2.2⟩), (mI_u (T := fun p => mFk (A 60) (A 61) (A 62) (mRn nv A) (A 59) (A 54) (B 63) (G 52 12) np 0 p) hr.2 (mFk_0y (Decidable.of_not_not hc2) hc3).symm)⟩ (zl1_ne rfl rfl h0) zl1_eq (by omega) (by omega)
            · refine zw_iaload k (nI t5) 120 f129_119 rfl (hb_61 _ _ _ _) (nI_clamp (by omega)) (nI_pos (by omega)) (by omega) ((congrFun (K.2.2.1 61 rfl) k).trans t5q) ?_
              refine zw_aload_n 121 f129_120 rfl h0 ?_
              refine zw_getfield 124 f129_121 rfl g129_86_12 (hb_52 _ _ _ _) rfl ?_
              refine zw_iload_n 125 f129_124 rfl h1 ?_
              refine zw_iaload k (A 62 k) 126 f129_125 rfl (hb_75 _ _ _ _) (nI_clamp (by omega)) (nI_pos (by omega)) (by omega) (if_pos rfl) ?_
              refine zw_virtual_v 129 0 0 [.ref 52, .int (nI t5), .int (A 62 k)] [(0, .ref 52), (1, .int (nI t5)), (2, .int (A 62 k))] f129_126 rfl n129_134 k129_134_12 rfl (hb_52 _ _ _ _) (by decide +kernel) (Nat.le_of_ble_eq_true rfl) rfl rfl (by decide +kernel) (by decide +kernel) rfl (Nat.le_of_ble_eq_true rfl) rfl ?_
              refine zw_iload_n 1 f128_0 rfl rfl ?_
              refine zw_iconst (-1) 2 f128_1 rfl (by decide +kernel) ?_
              refine zw_ic_ne_t 18 f128_2 (by decide +kernel) (nI_nem (by omega)) ?_
              refine zw_aload_n 19 f128_18 rfl rfl ?_
              refine zw_getfield 22 f128_19 rfl g128_77_12 (hb_52 _ _ _ _) rfl ?_
              refine zw_iload_n 23 f128_22 rfl rfl ?_
              refine zw_dup2 24 f128_23 rfl rfl rfl ?_
              refine zw_iaload t5 (A1 72 t5) 25 f128_24 rfl (hb_72 _ _ _ _) (nI_clamp (by omega)) (nI_pos (by omega)) (by omega) rfl ?_
              refine zw_iload_n 26 f128_25 rfl rfl ?_
              refine zw_iadd ((A1 72 t5) + (A 62 k)) 27 f128_26 rfl rfl ?_
              refine zw_ast t5 _ 28 f128_27 rfl (hb_72 _ _ _ _) (nI_clamp (by omega)) (nI_pos (by omega)) (by omega) (ha_72 _ _ _ _ _) ?_
              refine zw_vreturn f128_28 r128 u128 ⟨rfl, ?_⟩
              refine zw_iinc (nI (k + 1)) _ 132 f129_129 rfl h1 (by decide +kernel) (nI_1 _) rfl ?_
              refine zw_goto 47 f129_132 (by decide +kernel) ?_
              have E := mR1_y (frm := A 60) (too := A 61) (amt := A 62) (run := mRn nv A) (k := k) (A 62 k) (nI t5) t5q (if_pos ⟨(Decidable.of_not_not hc2), hc3⟩) (Int32.not_le.mp hc4)
              rw [mGoC_t (by omega), mGoD_t (by omega)] at E
              exact ih (k + 1) _ _ _ _ _ (KQ.a rfl (KQ.i rfl (KQ.a rfl K))) ⟨(by rw [E]; exact ⟨mC_t hr.1.1 (by omega), hr.1.2.1, congrArg (fun z => z + (A 62 k)) hr.1.2.2.1, hr.1.2.2.2⟩), (mI_u (T := fun p => mFk (A 60) (A 61) (A 62) (mRn nv A) (A 59) (A 54) (B 63) (G 52 12) np 0 p) hr.2 (mFk_0y (Decidable.of_not_not hc2) hc3).symm)⟩ (zl1_ne rfl rfl h0) zl1_eq (by omega) (by omega)
set_option maxRecDepth 100000 in
set_option maxHeartbeats 0 in
theorem lmf_rates_12 (ro : UInt32 → Nat × (Nat → Int32)) (nv np : Nat) (I : Nat → Nat → Int32) (G : Nat → Nat → Int64) (A : Nat → Nat → Int32) (B : Nat → Nat → Int64) (hP : MP nv np I A) (hB : MB A) : ∀ (n k : Nat) (ls : List (Nat × Value)) (I1 : Nat → Nat → Int32) (G1 : Nat → Nat → Int64) (A1 : Nat → Nat → Int32) (B1 : Nat → Nat → Int64), KQ fR pR I G A B I1 G1 A1 B1 → ((∀ j, j < k → A1 72 j = 0 ∧ A1 73 j = 0 ∧ A1 74 j = 0) ∧ I1 52 34 = 0 ∧ I1 52 35 = 0) → zld ls 0 = some (.ref 52) → zld ls 1 = some (.int (nI k)) → k ≤ 8 → 8 + 1 ≤ k + n → zWp ro 129 12 ls [] (hS I1 G1 A1 B1) 0 0 (fun r h1 => ∃ I2 G2 A2 B2, h1 = hS I2 G2 A2 B2 ∧ KQ fR pR I G A B I2 G2 A2 B2 ∧ (∀ p, p < np → A2 75 p = mFw (A 60) (A 61) (A 62) (mRn nv A) (A 59) (A 54) (B 63) (G 52 12) np p) ∧ r = none) := by
  have hnv := hP.1.2
  have hnp := hP.2.1.2
  intro n
  induction n with
  | zero =>
    intro k ls I1 G1 A1 B1 _ _ _ _ a b
    exact absurd b (by omega)
  | succ n ih =>
    intro k ls I1 G1 A1 B1 K hr h0 h1 hk1 hk2
    refine zw_iload_n 13 f129_12 rfl h1 ?_
    refine zw_bipush 8 15 f129_13 rfl (by decide +kernel) ?_
    refine zw_ic_ge 18 45 f129_15 (by decide +kernel) rfl (fun hc1 => ?_) (fun hc1 => ?_)
    · have hn_hc1 : 8 ≤ k := zn_ge (by omega) (by omega) hc1
      refine zw_iconst 0 46 f129_45 rfl (by decide +kernel) ?_
      refine zw_istore_n _ 47 f129_46 rfl (by decide +kernel) rfl ?_
      have hk : k = 8 := by omega
      subst hk
      exact lmf_rates_47 ro nv np I G A B hP hB (np + 1) 0 _ _ _ _ _ K ⟨⟨fun j hj => (hr.1 j hj).1, hr.2.2, hr.2.1, fun j hj => (hr.1 j hj).2⟩, fun j hj => absurd hj (by omega)⟩ (zl1_ne rfl rfl h0) zl1_eq (by omega) (by omega)
    · have hn_hc1 : k < 8 := zn_lt (by omega) (by omega) hc1
      refine zw_aload_n 19 f129_18 rfl h0 ?_
      refine zw_getfield 22 f129_19 rfl g129_77_12 (hb_52 _ _ _ _) rfl ?_
      refine zw_iload_n 23 f129_22 rfl h1 ?_
      refine zw_iconst 0 24 f129_23 rfl (by decide +kernel) ?_
      refine zw_ast k _ 25 f129_24 rfl (hb_72 _ _ _ _) (nI_clamp (by omega)) (nI_pos (by omega)) (by omega) (ha_72 _ _ _ _ _) ?_
      refine zw_aload_n 26 f129_25 rfl h0 ?_
      refine zw_getfield 29 f129_26 rfl g129_80_12 (hb_52 _ _ _ _) rfl ?_
      refine zw_iload_n 30 f129_29 rfl h1 ?_
      refine zw_iconst 0 31 f129_30 rfl (by decide +kernel) ?_
      refine zw_ast k _ 32 f129_31 rfl (hb_73 _ _ _ _) (nI_clamp (by omega)) (nI_pos (by omega)) (by omega) (ha_73 _ _ _ _ _) ?_
      refine zw_aload_n 33 f129_32 rfl h0 ?_
      refine zw_getfield 36 f129_33 rfl g129_83_12 (hb_52 _ _ _ _) rfl ?_
      refine zw_iload_n 37 f129_36 rfl h1 ?_
      refine zw_iconst 0 38 f129_37 rfl (by decide +kernel) ?_
      refine zw_ast k _ 39 f129_38 rfl (hb_74 _ _ _ _) (nI_clamp (by omega)) (nI_pos (by omega)) (by omega) (ha_74 _ _ _ _ _) ?_
      refine zw_iinc (nI (k + 1)) _ 42 f129_39 rfl h1 (by decide +kernel) (nI_1 _) rfl ?_
      refine zw_goto 12 f129_42 (by decide +kernel) ?_
      refine ih (k + 1) _ _ _ _ _ (KQ.a rfl (KQ.a rfl (KQ.a rfl K))) ⟨?_, hr.2⟩ (zl1_ne rfl rfl h0) zl1_eq (by omega) (by omega)
      exact mZ3 hr.1
set_option maxRecDepth 100000 in
set_option maxHeartbeats 0 in
theorem mf_rates (ro : UInt32 → Nat × (Nat → Int32)) (nv np : Nat) (I : Nat → Nat → Int32) (G : Nat → Nat → Int64) (A : Nat → Nat → Int32) (B : Nat → Nat → Int64) (hP : MP nv np I A) (hB : MB A) : zWp ro 129 0 [(0, .ref 52)] [] (hS I G A B) 0 0 (fun r h1 => ∃ I2 G2 A2 B2, h1 = hS I2 G2 A2 B2 ∧ KQ fR pR I G A B I2 G2 A2 B2 ∧ (∀ p, p < np → A2 75 p = mFw (A 60) (A 61) (A 62) (mRn nv A) (A 59) (A 54) (B 63) (G 52 12) np p) ∧ r = none) := by
  have hnv := hP.1.2
  have hnp := hP.2.1.2
  refine zw_aload_n 1 f129_0 rfl rfl ?_
  refine zw_iconst 0 2 f129_1 rfl (by decide +kernel) ?_
  refine zw_put _ 5 f129_2 rfl g129_127_12 (hb_52 _ _ _ _) rfl (Nat.le_of_ble_eq_true rfl) (by decide +kernel) (hi_52_34 _ _ _ _ _) ?_
  refine zw_aload_n 6 f129_5 rfl rfl ?_
  refine zw_iconst 0 7 f129_6 rfl (by decide +kernel) ?_
  refine zw_put _ 10 f129_7 rfl g129_124_12 (hb_52 _ _ _ _) rfl (Nat.le_of_ble_eq_true rfl) (by decide +kernel) (hi_52_35 _ _ _ _ _) ?_
  refine zw_iconst 0 11 f129_10 rfl (by decide +kernel) ?_
  refine zw_istore_n _ 12 f129_11 rfl (by decide +kernel) rfl ?_
  exact lmf_rates_12 ro nv np I G A B hP hB 9 0 _ _ _ _ _ (KQ.i rfl (KQ.i rfl KQ.rf)) ⟨fun j hj => absurd hj (by omega), rfl, rfl⟩ (zl1_ne rfl rfl rfl) zl1_eq (by omega) (by omega)
set_option maxRecDepth 100000 in
set_option maxHeartbeats 0 in
theorem lcf_rv11_1 (ro : UInt32 → Nat × (Nat → Int32)) (nv np : Nat) (P : Nat → Nat → Int32) (W : qW) (T K : Int) (I : Nat → Nat → Int32) (G : Nat → Nat → Int64) (A : Nat → Nat → Int32) (B : Nat → Nat → Int64) (hR : cRS 11 nv np P W I G A B) (hp : MPa nv np P) (hb : wBo W) (hq : qOw nv np P) (hW : wOk nv T K P W) (v : Nat) (hv : v < nv) (s : (Nat → Int32) × Int32 × (Nat → Int32) × (Nat → Int32)) (hs : cRel 11 I A s v) (hz : s.2.2.2 v = 0) (hw : 0 < W.2.2.2.2.1 v) : ∀ (n k : Nat) (ls : List (Nat × Value)) (I1 : Nat → Nat → Int32) (G1 : Nat → Nat → Int64) (A1 : Nat → Nat → Int32) (B1 : Nat → Nat → Int64), KQ (fCr 11) (pCr 11) I G A B I1 G1 A1 B1 → ((∀ j, j < 8 → A1 16 j = (mRO (P 60) (P 61) (P 62) (wRun nv P W) (W.2.2.2.2.1 v) v (s.1, s.2.1, s.1 v, 0) k).1 j) ∧ I1 11 7 = (mRO (P 60) (P 61) (P 62) (wRun nv P W) (W.2.2.2.2.1 v) v (s.1, s.2.1, s.1 v, 0) k).2.1 ∧ A1 17 = A 17 ∧ A1 18 = A 18 ∧ I1 11 6 = I 11 6) → ((∀ p, p < k → P 60 p = nI v → A1 19 p = mFs (P 60) (P 61) (P 62) (wRun nv P W) W.2.2.2.2.1 v s p) ∧ ∀ p, ¬ P 60 p = nI v → A1 19 p = A 19 p) → zld ls 0 = some (.ref 11) → zld ls 1 = some (.int (nI v)) → zld ls 2 = some (.int ((mRO (P 60) (P 61) (P 62) (wRun nv P W) (W.2.2.2.2.1 v) v (s.1, s.2.1, s.1 v, 0) k).2.2.1)) → zld ls 3 = some (.int 1) → zld ls 4 = some (.int (nI k)) → k ≤ np → np + 1 ≤ k + n → zWp ro 50 30 ls [] (hS I1 G1 A1 B1) 0 0 (fun r h1 => ∃ I2 G2 A2 B2, h1 = hS I2 G2 A2 B2 ∧ KQ (fCr 11) (pCr 11) I G A B I2 G2 A2 B2 ∧ (cRel 11 I2 A2 (mRateOf (P 60) (P 61) (P 62) (wRun nv P W) (P 59) (P 54) (W.2.2.2.2.1) W.1 np v s) (v + 1) ∧ (∀ p, p < np → P 60 p = nI v → A2 19 p = mFs (P 60) (P 61) (P 62) (wRun nv P W) W.2.2.2.2.1 v s p) ∧ ∀ p, ¬ P 60 p = nI v → A2 19 p = A 19 p) ∧ r = none) := by
  have h8 := hp.1
  have h14 := hp.2.1
  have hto : ∀ p, p < np → P 60 p = nI v → mTo nv (v + 1) (P 61 p) := fun p h1 h2 => (MPa.e hp W (fun _ => 0) 0 0).ht v p hv h1 h2
  intro n
  induction n with
  | zero =>
    intro k ls I1 G1 A1 B1 _ _ _ _ _ _ _ _ a c
    exact absurd c (by omega)
  | succ n ih =>
    intro k ls I1 G1 A1 B1 K0 hr hf h0 h1 h2 h3 h4 hk1 hk2
    refine zw_iload 32 f50_30 rfl h4 ?_
    refine zw_aload_n 33 f50_32 rfl h0 ?_
    refine zw_getfield 36 f50_33 rfl g50_37_10 (hb_11 _ _ _ _) rfl ?_
    refine zw_getI (nI np) 39 f50_36 rfl g50_61_4 (hb_1 _ _ _ _) rfl ((K0.1 1 1 rfl).trans hR.1.2) ?_
    refine zw_ic_ge 42 148 f50_39 (by decide +kernel) rfl (fun hc1 => ?_) (fun hc1 => ?_)
    · have hn_hc1 : np ≤ k := zn_ge (by omega) (by omega) hc1
      refine zw_aload_n 149 f50_148 rfl h0 ?_
      refine zw_getfield 152 f50_149 rfl g50_25_10 (hb_11 _ _ _ _) rfl ?_
      refine zw_iload_n 153 f50_152 rfl h1 ?_
      refine zw_aload_n 154 f50_153 rfl h0 ?_
      refine zw_iload_n 155 f50_154 rfl h1 ?_
      refine zw_virtual_i 158 0 0 [.ref 11, .int (nI v)] [(0, .ref 11), (1, .int (nI v))] f50_155 rfl n50_97 k50_97_10 rfl (hb_11 _ _ _ _) (by decide +kernel) (Nat.le_of_ble_eq_true rfl) rfl rfl (by decide +kernel) (by decide +kernel) rfl (Nat.le_of_ble_eq_true rfl) rfl ?_
      refine zw_aload_n 1 f52_0 rfl rfl ?_
      refine zw_getfield 4 f52_1 rfl g52_12_10 (hb_11 _ _ _ _) rfl ?_
      refine zw_getfield 7 f52_4 rfl g52_87_9 (hb_12 _ _ _ _) rfl ?_
      refine zw_iload_n 8 f52_7 rfl rfl ?_
      refine zw_laload v ((W.2.2.2.2.1) v) 9 f52_8 rfl (hb_13 _ _ _ _) (nI_clamp (by omega)) (nI_pos (by omega)) (by omega) (congrFun (((K0.2.2.2 13 rfl).trans hR.2.2.2.1)) v) ?_
      refine zw_aload_n 10 f52_9 rfl rfl ?_
      refine zw_getfield 13 f52_10 rfl g52_37_10 (hb_11 _ _ _ _) rfl ?_
      refine zw_getfield 16 f52_13 rfl g52_106_4 (hb_1 _ _ _ _) rfl ?_
      refine zw_iload_n 17 f52_16 rfl rfl ?_
      refine zw_iaload v (P 54 v) 18 f52_17 rfl (hb_3 _ _ _ _) (nI_clamp (by omega)) (nI_pos (by omega)) (by omega) (congrFun (((K0.2.2.1 3 rfl).trans (hR.2.1 54 (by omega) (by omega)))) v) ?_
      refine zw_i2l (Int32.toInt64 (P 54 v)) 19 f52_18 rfl rfl ?_
      refine zw_aload_n 20 f52_19 rfl rfl ?_
      refine zw_getfield 23 f52_20 rfl g52_12_10 (hb_11 _ _ _ _) rfl ?_
      refine zw_getG W.1 26 f52_23 rfl g52_109_9 (hb_12 _ _ _ _) rfl ((K0.2.1 12 0 rfl).trans hR.2.2.1.1) ?_
      refine zw_lmul ((Int32.toInt64 (P 54 v)) * W.1) 27 f52_26 rfl rfl ?_
      refine zw_lcmp (lg_cmp ((W.2.2.2.2.1) v) ((Int32.toInt64 (P 54 v)) * W.1)) 28 f52_27 rfl rfl ?_
      refine zw_if_lt 31 35 f52_28 (by decide +kernel) rfl (fun hc2 => ?_) (fun hc2 => ?_)
      · refine zw_iconst 0 36 f52_35 rfl (by decide +kernel) ?_
        refine zw_zreturn f52_36 r52 u52 (by decide +kernel) ⟨_, rfl, ?_⟩
        refine zw_if_eq_t 169 f50_158 (by decide +kernel) (by decide +kernel) ?_
        refine zw_iconst 0 170 f50_169 rfl (by decide +kernel) ?_
        refine zw_ast v _ 171 f50_170 rfl (hb_18 _ _ _ _) (nI_clamp (by omega)) (nI_pos (by omega)) (by omega) (ha_18 _ _ _ _ _) ?_
        refine zw_aload_n 172 f50_171 rfl h0 ?_
        refine zw_getfield 175 f50_172 rfl g50_22_10 (hb_11 _ _ _ _) rfl ?_
        refine zw_iload_n 176 f50_175 rfl h1 ?_
        refine zw_iload_n 177 f50_176 rfl h2 ?_
        refine zw_aload_n 178 f50_177 rfl h0 ?_
        refine zw_getfield 181 f50_178 rfl g50_25_10 (hb_11 _ _ _ _) rfl ?_
        refine zw_iload_n 182 f50_181 rfl h1 ?_
        refine zw_iaload v 0 183 f50_182 rfl (hb_18 _ _ _ _) (nI_clamp (by omega)) (nI_pos (by omega)) (by omega) (if_pos rfl) ?_
        refine zw_isub (((mRO (P 60) (P 61) (P 62) (wRun nv P W) (W.2.2.2.2.1 v) v (s.1, s.2.1, s.1 v, 0) k).2.2.1) - 0) 184 f50_183 rfl rfl ?_
        refine zw_ast v _ 185 f50_184 rfl (hb_17 _ _ _ _) (nI_clamp (by omega)) (nI_pos (by omega)) (by omega) (ha_17 _ _ _ _ _) ?_
        refine zw_aload_n 186 f50_185 rfl h0 ?_
        refine zw_aload_n 187 f50_186 rfl h0 ?_
        refine zw_getfield 190 f50_187 rfl g50_37_10 (hb_11 _ _ _ _) rfl ?_
        refine zw_getfield 193 f50_190 rfl g50_100_4 (hb_1 _ _ _ _) rfl ?_
        refine zw_iload_n 194 f50_193 rfl h1 ?_
        rcases (hp.2.2.1 v (by omega)).2.2.2.2.2 with t3q | ⟨t3, t3l, t3n, t3q⟩
        · refine zw_iaload v (-1) 195 f50_194 rfl (hb_8 _ _ _ _) (nI_clamp (by omega)) (nI_pos (by omega)) (by omega) ((congrFun ((K0.2.2.1 8 rfl).trans (hR.2.1 59 (by omega) (by omega))) v).trans t3q) ?_
          refine zw_aload_n 196 f50_195 rfl h0 ?_
          refine zw_getfield 199 f50_196 rfl g50_25_10 (hb_11 _ _ _ _) rfl ?_
          refine zw_iload_n 200 f50_199 rfl h1 ?_
          refine zw_iaload v 0 201 f50_200 rfl (hb_18 _ _ _ _) (nI_clamp (by omega)) (nI_pos (by omega)) (by omega) (if_pos rfl) ?_
          refine zw_virtual_v 204 0 0 [.ref 11, .int (-1), .int 0] [(0, .ref 11), (1, .int (-1)), (2, .int 0)] f50_201 rfl n50_76 k50_76_10 rfl (hb_11 _ _ _ _) (by decide +kernel) (Nat.le_of_ble_eq_true rfl) rfl rfl (by decide +kernel) (by decide +kernel) rfl (Nat.le_of_ble_eq_true rfl) rfl ?_
          refine zw_aload_n 1 f51_0 rfl rfl ?_
          refine zw_getfield 4 f51_1 rfl g51_37_10 (hb_11 _ _ _ _) rfl ?_
          refine zw_iload_n 5 f51_4 rfl rfl ?_
          refine zw_virtual_i 8 0 0 [.ref 1, .int (-1)] [(0, .ref 1), (1, .int (-1))] f51_5 rfl n51_103 k51_103_4 rfl (hb_1 _ _ _ _) (by decide +kernel) (Nat.le_of_ble_eq_true rfl) rfl rfl (by decide +kernel) (by decide +kernel) rfl (Nat.le_of_ble_eq_true rfl) rfl ?_
          refine zw_iload_n 1 f13_0 rfl rfl ?_
          refine zw_if_lt_t 22 f13_1 (by decide +kernel) (by decide +kernel) ?_
          refine zw_iconst 0 23 f13_22 rfl (by decide +kernel) ?_
          refine zw_zreturn f13_23 r13 u13 (by decide +kernel) ⟨_, rfl, ?_⟩
          refine zw_if_eq_t 24 f51_8 (by decide +kernel) (by decide +kernel) ?_
          refine zw_aload_n 25 f51_24 rfl rfl ?_
          refine zw_dup 26 f51_25 rfl rfl ?_
          refine zw_getI (I1 11 7) 29 f51_26 rfl g51_58_10 (hb_11 _ _ _ _) rfl rfl ?_
          refine zw_iload_n 30 f51_29 rfl rfl ?_
          refine zw_iadd ((I1 11 7) + 0) 31 f51_30 rfl rfl ?_
          refine zw_put _ 34 f51_31 rfl g51_58_10 (hb_11 _ _ _ _) rfl (Nat.le_of_ble_eq_true rfl) (by decide +kernel) (hi_11_7 _ _ _ _ _) ?_
          refine zw_vreturn f51_34 r51 u51 ⟨rfl, ?_⟩
          refine zw_vreturn f50_204 r50 u50 ?_
          have hk : k = np := by omega
          have hE : (mRO (P 60) (P 61) (P 62) (wRun nv P W) (W.2.2.2.2.1 v) v (s.1, s.2.1, s.1 v, 0) np) = (mRO (P 60) (P 61) (P 62) (wRun nv P W) (W.2.2.2.2.1 v) v (s.1, s.2.1, s.1 v, 0) k) := by rw [hk]
          have EL := (mRO_left (nv := nv) (np := np) (frm := P 60) (too := P 61) (amt := P 62) (run := (wRun nv P W)) (lev := W.2.2.2.2.1 v) (v := v) (s := s) h8 (fun p hpp z => hto p hpp z) k (by omega)).2
          have E := mRateOf_n (over := P 59) (brim := P 54) (g := W.1) (lev := W.2.2.2.2.1) (s := s) hE (fun q => absurd ((lg_cmp_lt _ _).mp hc2) (by rw [show W.2.2.2.2.1 v = _ from q.2]; exact i64_irr))
          rw [← EL] at E
          refine ⟨_, _, _, _, rfl, (KQ.i rfl (KQ.a rfl (KQ.a rfl K0))), ⟨?_, ⟨fun p hpp q => hf.1 p (by omega) q, hf.2⟩⟩, rfl⟩
          rw [E]
          exact ⟨hr.1, (Int32.add_zero _).trans hr.2.1, mC_n (fun j hj => (congrFun hr.2.2.1 j).trans (hs.2.2.1 j hj)) (Int32.sub_zero _), mC_k (fun j hj => (congrFun hr.2.2.2.1 j).trans (hs.2.2.2 j hj)) hz.symm⟩
        · refine zw_iaload v (nI t3) 195 f50_194 rfl (hb_8 _ _ _ _) (nI_clamp (by omega)) (nI_pos (by omega)) (by omega) ((congrFun ((K0.2.2.1 8 rfl).trans (hR.2.1 59 (by omega) (by omega))) v).trans t3q) ?_
          refine zw_aload_n 196 f50_195 rfl h0 ?_
          refine zw_getfield 199 f50_196 rfl g50_25_10 (hb_11 _ _ _ _) rfl ?_
          refine zw_iload_n 200 f50_199 rfl h1 ?_
          refine zw_iaload v 0 201 f50_200 rfl (hb_18 _ _ _ _) (nI_clamp (by omega)) (nI_pos (by omega)) (by omega) (if_pos rfl) ?_
          refine zw_virtual_v 204 0 0 [.ref 11, .int (nI t3), .int 0] [(0, .ref 11), (1, .int (nI t3)), (2, .int 0)] f50_201 rfl n50_76 k50_76_10 rfl (hb_11 _ _ _ _) (by decide +kernel) (Nat.le_of_ble_eq_true rfl) rfl rfl (by decide +kernel) (by decide +kernel) rfl (Nat.le_of_ble_eq_true rfl) rfl ?_
          refine zw_aload_n 1 f51_0 rfl rfl ?_
          refine zw_getfield 4 f51_1 rfl g51_37_10 (hb_11 _ _ _ _) rfl ?_
          refine zw_iload_n 5 f51_4 rfl rfl ?_
          refine zw_virtual_i 8 0 0 [.ref 1, .int (nI t3)] [(0, .ref 1), (1, .int (nI t3))] f51_5 rfl n51_103 k51_103_4 rfl (hb_1 _ _ _ _) (by decide +kernel) (Nat.le_of_ble_eq_true rfl) rfl rfl (by decide +kernel) (by decide +kernel) rfl (Nat.le_of_ble_eq_true rfl) rfl ?_
          refine zw_iload_n 1 f13_0 rfl rfl ?_
          refine zw_if_lt_f 4 22 f13_1 (by decide +kernel) rfl (nI_pos (by omega)) ?_
          refine zw_iload_n 5 f13_4 rfl rfl ?_
          refine zw_aload_n 6 f13_5 rfl rfl ?_
          refine zw_getI (nI nv) 9 f13_6 rfl g13_39_4 (hb_1 _ _ _ _) rfl ((K0.1 1 0 rfl).trans hR.1.1) ?_
          refine zw_ic_ge_f 12 22 f13_9 (by decide +kernel) rfl (fun q => absurd (zn_ge (a := nv) (b := t3) (by omega) (by omega) q) (by omega)) ?_
          refine zw_iload_n 13 f13_12 rfl rfl ?_
          refine zw_bipush 8 15 f13_13 rfl (by decide +kernel) ?_
          refine zw_ic_ge_f 18 22 f13_15 (by decide +kernel) rfl (fun q => absurd (zn_ge (a := 8) (b := t3) (by omega) (by omega) q) (by omega)) ?_
          refine zw_iconst 1 19 f13_18 rfl (by decide +kernel) ?_
          refine zw_goto 23 f13_19 (by decide +kernel) ?_
          refine zw_zreturn f13_23 r13 u13 (by decide +kernel) ⟨_, rfl, ?_⟩
          refine zw_if_eq_f 11 24 f51_8 (by decide +kernel) rfl (by decide +kernel) ?_
          refine zw_aload_n 12 f51_11 rfl rfl ?_
          refine zw_getfield 15 f51_12 rfl g51_18_10 (hb_11 _ _ _ _) rfl ?_
          refine zw_iload_n 16 f51_15 rfl rfl ?_
          refine zw_dup2 17 f51_16 rfl rfl rfl ?_
          refine zw_iaload t3 (A1 16 t3) 18 f51_17 rfl (hb_16 _ _ _ _) (nI_clamp (by omega)) (nI_pos (by omega)) (by omega) rfl ?_
          refine zw_iload_n 19 f51_18 rfl rfl ?_
          refine zw_iadd ((A1 16 t3) + 0) 20 f51_19 rfl rfl ?_
          refine zw_ast t3 _ 21 f51_20 rfl (hb_16 _ _ _ _) (nI_clamp (by omega)) (nI_pos (by omega)) (by omega) (ha_16 _ _ _ _ _) ?_
          refine zw_goto 34 f51_21 (by decide +kernel) ?_
          refine zw_vreturn f51_34 r51 u51 ⟨rfl, ?_⟩
          refine zw_vreturn f50_204 r50 u50 ?_
          have hk : k = np := by omega
          have hE : (mRO (P 60) (P 61) (P 62) (wRun nv P W) (W.2.2.2.2.1 v) v (s.1, s.2.1, s.1 v, 0) np) = (mRO (P 60) (P 61) (P 62) (wRun nv P W) (W.2.2.2.2.1 v) v (s.1, s.2.1, s.1 v, 0) k) := by rw [hk]
          have EL := (mRO_left (nv := nv) (np := np) (frm := P 60) (too := P 61) (amt := P 62) (run := (wRun nv P W)) (lev := W.2.2.2.2.1 v) (v := v) (s := s) h8 (fun p hpp z => hto p hpp z) k (by omega)).2
          have E := mRateOf_n (over := P 59) (brim := P 54) (g := W.1) (lev := W.2.2.2.2.1) (s := s) hE (fun q => absurd ((lg_cmp_lt _ _).mp hc2) (by rw [show W.2.2.2.2.1 v = _ from q.2]; exact i64_irr))
          rw [← EL] at E
          refine ⟨_, _, _, _, rfl, (KQ.a rfl (KQ.a rfl (KQ.a rfl K0))), ⟨?_, ⟨fun p hpp q => hf.1 p (by omega) q, hf.2⟩⟩, rfl⟩
          rw [E]
          exact ⟨mC_0 hr.1, hr.2.1, mC_n (fun j hj => (congrFun hr.2.2.1 j).trans (hs.2.2.1 j hj)) (Int32.sub_zero _), mC_k (fun j hj => (congrFun hr.2.2.2.1 j).trans (hs.2.2.2 j hj)) hz.symm⟩
      · refine zw_iconst 1 32 f52_31 rfl (by decide +kernel) ?_
        refine zw_goto 36 f52_32 (by decide +kernel) ?_
        refine zw_zreturn f52_36 r52 u52 (by decide +kernel) ⟨_, rfl, ?_⟩
        refine zw_if_eq_f 161 169 f50_158 (by decide +kernel) rfl (by decide +kernel) ?_
        refine zw_iload_n 162 f50_161 rfl h2 ?_
        refine zw_if_le 165 169 f50_162 (by decide +kernel) rfl (fun hc4 => ?_) (fun hc4 => ?_)
        · refine zw_iconst 0 170 f50_169 rfl (by decide +kernel) ?_
          refine zw_ast v _ 171 f50_170 rfl (hb_18 _ _ _ _) (nI_clamp (by omega)) (nI_pos (by omega)) (by omega) (ha_18 _ _ _ _ _) ?_
          refine zw_aload_n 172 f50_171 rfl h0 ?_
          refine zw_getfield 175 f50_172 rfl g50_22_10 (hb_11 _ _ _ _) rfl ?_
          refine zw_iload_n 176 f50_175 rfl h1 ?_
          refine zw_iload_n 177 f50_176 rfl h2 ?_
          refine zw_aload_n 178 f50_177 rfl h0 ?_
          refine zw_getfield 181 f50_178 rfl g50_25_10 (hb_11 _ _ _ _) rfl ?_
          refine zw_iload_n 182 f50_181 rfl h1 ?_
          refine zw_iaload v 0 183 f50_182 rfl (hb_18 _ _ _ _) (nI_clamp (by omega)) (nI_pos (by omega)) (by omega) (if_pos rfl) ?_
          refine zw_isub (((mRO (P 60) (P 61) (P 62) (wRun nv P W) (W.2.2.2.2.1 v) v (s.1, s.2.1, s.1 v, 0) k).2.2.1) - 0) 184 f50_183 rfl rfl ?_
          refine zw_ast v _ 185 f50_184 rfl (hb_17 _ _ _ _) (nI_clamp (by omega)) (nI_pos (by omega)) (by omega) (ha_17 _ _ _ _ _) ?_
          refine zw_aload_n 186 f50_185 rfl h0 ?_
          refine zw_aload_n 187 f50_186 rfl h0 ?_
          refine zw_getfield 190 f50_187 rfl g50_37_10 (hb_11 _ _ _ _) rfl ?_
          refine zw_getfield 193 f50_190 rfl g50_100_4 (hb_1 _ _ _ _) rfl ?_
          refine zw_iload_n 194 f50_193 rfl h1 ?_
          rcases (hp.2.2.1 v (by omega)).2.2.2.2.2 with t5q | ⟨t5, t5l, t5n, t5q⟩
          · refine zw_iaload v (-1) 195 f50_194 rfl (hb_8 _ _ _ _) (nI_clamp (by omega)) (nI_pos (by omega)) (by omega) ((congrFun ((K0.2.2.1 8 rfl).trans (hR.2.1 59 (by omega) (by omega))) v).trans t5q) ?_
            refine zw_aload_n 196 f50_195 rfl h0 ?_
            refine zw_getfield 199 f50_196 rfl g50_25_10 (hb_11 _ _ _ _) rfl ?_
            refine zw_iload_n 200 f50_199 rfl h1 ?_
            refine zw_iaload v 0 201 f50_200 rfl (hb_18 _ _ _ _) (nI_clamp (by omega)) (nI_pos (by omega)) (by omega) (if_pos rfl) ?_
            refine zw_virtual_v 204 0 0 [.ref 11, .int (-1), .int 0] [(0, .ref 11), (1, .int (-1)), (2, .int 0)] f50_201 rfl n50_76 k50_76_10 rfl (hb_11 _ _ _ _) (by decide +kernel) (Nat.le_of_ble_eq_true rfl) rfl rfl (by decide +kernel) (by decide +kernel) rfl (Nat.le_of_ble_eq_true rfl) rfl ?_
            refine zw_aload_n 1 f51_0 rfl rfl ?_
            refine zw_getfield 4 f51_1 rfl g51_37_10 (hb_11 _ _ _ _) rfl ?_
            refine zw_iload_n 5 f51_4 rfl rfl ?_
            refine zw_virtual_i 8 0 0 [.ref 1, .int (-1)] [(0, .ref 1), (1, .int (-1))] f51_5 rfl n51_103 k51_103_4 rfl (hb_1 _ _ _ _) (by decide +kernel) (Nat.le_of_ble_eq_true rfl) rfl rfl (by decide +kernel) (by decide +kernel) rfl (Nat.le_of_ble_eq_true rfl) rfl ?_
            refine zw_iload_n 1 f13_0 rfl rfl ?_
            refine zw_if_lt_t 22 f13_1 (by decide +kernel) (by decide +kernel) ?_
            refine zw_iconst 0 23 f13_22 rfl (by decide +kernel) ?_
            refine zw_zreturn f13_23 r13 u13 (by decide +kernel) ⟨_, rfl, ?_⟩
            refine zw_if_eq_t 24 f51_8 (by decide +kernel) (by decide +kernel) ?_
            refine zw_aload_n 25 f51_24 rfl rfl ?_
            refine zw_dup 26 f51_25 rfl rfl ?_
            refine zw_getI (I1 11 7) 29 f51_26 rfl g51_58_10 (hb_11 _ _ _ _) rfl rfl ?_
            refine zw_iload_n 30 f51_29 rfl rfl ?_
            refine zw_iadd ((I1 11 7) + 0) 31 f51_30 rfl rfl ?_
            refine zw_put _ 34 f51_31 rfl g51_58_10 (hb_11 _ _ _ _) rfl (Nat.le_of_ble_eq_true rfl) (by decide +kernel) (hi_11_7 _ _ _ _ _) ?_
            refine zw_vreturn f51_34 r51 u51 ⟨rfl, ?_⟩
            refine zw_vreturn f50_204 r50 u50 ?_
            have hk : k = np := by omega
            have hE : (mRO (P 60) (P 61) (P 62) (wRun nv P W) (W.2.2.2.2.1 v) v (s.1, s.2.1, s.1 v, 0) np) = (mRO (P 60) (P 61) (P 62) (wRun nv P W) (W.2.2.2.2.1 v) v (s.1, s.2.1, s.1 v, 0) k) := by rw [hk]
            have EL := (mRO_left (nv := nv) (np := np) (frm := P 60) (too := P 61) (amt := P 62) (run := (wRun nv P W)) (lev := W.2.2.2.2.1 v) (v := v) (s := s) h8 (fun p hpp z => hto p hpp z) k (by omega)).2
            have E := mRateOf_n (over := P 59) (brim := P 54) (g := W.1) (lev := W.2.2.2.2.1) (s := s) hE (fun q => absurd q.1 (by rw [← EL]; exact Int32.not_lt.mpr hc4))
            rw [← EL] at E
            refine ⟨_, _, _, _, rfl, (KQ.i rfl (KQ.a rfl (KQ.a rfl K0))), ⟨?_, ⟨fun p hpp q => hf.1 p (by omega) q, hf.2⟩⟩, rfl⟩
            rw [E]
            exact ⟨hr.1, (Int32.add_zero _).trans hr.2.1, mC_n (fun j hj => (congrFun hr.2.2.1 j).trans (hs.2.2.1 j hj)) (Int32.sub_zero _), mC_k (fun j hj => (congrFun hr.2.2.2.1 j).trans (hs.2.2.2 j hj)) hz.symm⟩
          · refine zw_iaload v (nI t5) 195 f50_194 rfl (hb_8 _ _ _ _) (nI_clamp (by omega)) (nI_pos (by omega)) (by omega) ((congrFun ((K0.2.2.1 8 rfl).trans (hR.2.1 59 (by omega) (by omega))) v).trans t5q) ?_
            refine zw_aload_n 196 f50_195 rfl h0 ?_
            refine zw_getfield 199 f50_196 rfl g50_25_10 (hb_11 _ _ _ _) rfl ?_
            refine zw_iload_n 200 f50_199 rfl h1 ?_
            refine zw_iaload v 0 201 f50_200 rfl (hb_18 _ _ _ _) (nI_clamp (by omega)) (nI_pos (by omega)) (by omega) (if_pos rfl) ?_
            refine zw_virtual_v 204 0 0 [.ref 11, .int (nI t5), .int 0] [(0, .ref 11), (1, .int (nI t5)), (2, .int 0)] f50_201 rfl n50_76 k50_76_10 rfl (hb_11 _ _ _ _) (by decide +kernel) (Nat.le_of_ble_eq_true rfl) rfl rfl (by decide +kernel) (by decide +kernel) rfl (Nat.le_of_ble_eq_true rfl) rfl ?_
            refine zw_aload_n 1 f51_0 rfl rfl ?_
            refine zw_getfield 4 f51_1 rfl g51_37_10 (hb_11 _ _ _ _) rfl ?_
            refine zw_iload_n 5 f51_4 rfl rfl ?_
            refine zw_virtual_i 8 0 0 [.ref 1, .int (nI t5)] [(0, .ref 1), (1, .int (nI t5))] f51_5 rfl n51_103 k51_103_4 rfl (hb_1 _ _ _ _) (by decide +kernel) (Nat.le_of_ble_eq_true rfl) rfl rfl (by decide +kernel) (by decide +kernel) rfl (Nat.le_of_ble_eq_true rfl) rfl ?_
            refine zw_iload_n 1 f13_0 rfl rfl ?_
            refine zw_if_lt_f 4 22 f13_1 (by decide +kernel) rfl (nI_pos (by omega)) ?_
            refine zw_iload_n 5 f13_4 rfl rfl ?_
            refine zw_aload_n 6 f13_5 rfl rfl ?_
            refine zw_getI (nI nv) 9 f13_6 rfl g13_39_4 (hb_1 _ _ _ _) rfl ((K0.1 1 0 rfl).trans hR.1.1) ?_
            refine zw_ic_ge_f 12 22 f13_9 (by decide +kernel) rfl (fun q => absurd (zn_ge (a := nv) (b := t5) (by omega) (by omega) q) (by omega)) ?_
            refine zw_iload_n 13 f13_12 rfl rfl ?_
            refine zw_bipush 8 15 f13_13 rfl (by decide +kernel) ?_
            refine zw_ic_ge_f 18 22 f13_15 (by decide +kernel) rfl (fun q => absurd (zn_ge (a := 8) (b := t5) (by omega) (by omega) q) (by omega)) ?_
            refine zw_iconst 1 19 f13_18 rfl (by decide +kernel) ?_
            refine zw_goto 23 f13_19 (by decide +kernel) ?_
            refine zw_zreturn f13_23 r13 u13 (by decide +kernel) ⟨_, rfl, ?_⟩
            refine zw_if_eq_f 11 24 f51_8 (by decide +kernel) rfl (by decide +kernel) ?_
            refine zw_aload_n 12 f51_11 rfl rfl ?_
            refine zw_getfield 15 f51_12 rfl g51_18_10 (hb_11 _ _ _ _) rfl ?_
            refine zw_iload_n 16 f51_15 rfl rfl ?_
            refine zw_dup2 17 f51_16 rfl rfl rfl ?_
            refine zw_iaload t5 (A1 16 t5) 18 f51_17 rfl (hb_16 _ _ _ _) (nI_clamp (by omega)) (nI_pos (by omega)) (by omega) rfl ?_
            refine zw_iload_n 19 f51_18 rfl rfl ?_
            refine zw_iadd ((A1 16 t5) + 0) 20 f51_19 rfl rfl ?_
            refine zw_ast t5 _ 21 f51_20 rfl (hb_16 _ _ _ _) (nI_clamp (by omega)) (nI_pos (by omega)) (by omega) (ha_16 _ _ _ _ _) ?_
            refine zw_goto 34 f51_21 (by decide +kernel) ?_
            refine zw_vreturn f51_34 r51 u51 ⟨rfl, ?_⟩
            refine zw_vreturn f50_204 r50 u50 ?_
            have hk : k = np := by omega
            have hE : (mRO (P 60) (P 61) (P 62) (wRun nv P W) (W.2.2.2.2.1 v) v (s.1, s.2.1, s.1 v, 0) np) = (mRO (P 60) (P 61) (P 62) (wRun nv P W) (W.2.2.2.2.1 v) v (s.1, s.2.1, s.1 v, 0) k) := by rw [hk]
            have EL := (mRO_left (nv := nv) (np := np) (frm := P 60) (too := P 61) (amt := P 62) (run := (wRun nv P W)) (lev := W.2.2.2.2.1 v) (v := v) (s := s) h8 (fun p hpp z => hto p hpp z) k (by omega)).2
            have E := mRateOf_n (over := P 59) (brim := P 54) (g := W.1) (lev := W.2.2.2.2.1) (s := s) hE (fun q => absurd q.1 (by rw [← EL]; exact Int32.not_lt.mpr hc4))
            rw [← EL] at E
            refine ⟨_, _, _, _, rfl, (KQ.a rfl (KQ.a rfl (KQ.a rfl K0))), ⟨?_, ⟨fun p hpp q => hf.1 p (by omega) q, hf.2⟩⟩, rfl⟩
            rw [E]
            exact ⟨mC_0 hr.1, hr.2.1, mC_n (fun j hj => (congrFun hr.2.2.1 j).trans (hs.2.2.1 j hj)) (Int32.sub_zero _), mC_k (fun j hj => (congrFun hr.2.2.2.1 j).trans (hs.2.2.2 j hj)) hz.symm⟩
        · refine zw_iload_n 166 f50_165 rfl h2 ?_
          refine zw_goto 170 f50_166 (by decide +kernel) ?_
          refine zw_ast v _ 171 f50_170 rfl (hb_18 _ _ _ _) (nI_clamp (by omega)) (nI_pos (by omega)) (by omega) (ha_18 _ _ _ _ _) ?_
          refine zw_aload_n 172 f50_171 rfl h0 ?_
          refine zw_getfield 175 f50_172 rfl g50_22_10 (hb_11 _ _ _ _) rfl ?_
          refine zw_iload_n 176 f50_175 rfl h1 ?_
          refine zw_iload_n 177 f50_176 rfl h2 ?_
          refine zw_aload_n 178 f50_177 rfl h0 ?_
          refine zw_getfield 181 f50_178 rfl g50_25_10 (hb_11 _ _ _ _) rfl ?_
          refine zw_iload_n 182 f50_181 rfl h1 ?_
          refine zw_iaload v ((mRO (P 60) (P 61) (P 62) (wRun nv P W) (W.2.2.2.2.1 v) v (s.1, s.2.1, s.1 v, 0) k).2.2.1) 183 f50_182 rfl (hb_18 _ _ _ _) (nI_clamp (by omega)) (nI_pos (by omega)) (by omega) (if_pos rfl) ?_
          refine zw_isub (((mRO (P 60) (P 61) (P 62) (wRun nv P W) (W.2.2.2.2.1 v) v (s.1, s.2.1, s.1 v, 0) k).2.2.1) - ((mRO (P 60) (P 61) (P 62) (wRun nv P W) (W.2.2.2.2.1 v) v (s.1, s.2.1, s.1 v, 0) k).2.2.1)) 184 f50_183 rfl rfl ?_
          refine zw_ast v _ 185 f50_184 rfl (hb_17 _ _ _ _) (nI_clamp (by omega)) (nI_pos (by omega)) (by omega) (ha_17 _ _ _ _ _) ?_
          refine zw_aload_n 186 f50_185 rfl h0 ?_
          refine zw_aload_n 187 f50_186 rfl h0 ?_
          refine zw_getfield 190 f50_187 rfl g50_37_10 (hb_11 _ _ _ _) rfl ?_
          refine zw_getfield 193 f50_190 rfl g50_100_4 (hb_1 _ _ _ _) rfl ?_
          refine zw_iload_n 194 f50_193 rfl h1 ?_
          rcases (hp.2.2.1 v (by omega)).2.2.2.2.2 with t6q | ⟨t6, t6l, t6n, t6q⟩
          · refine zw_iaload v (-1) 195 f50_194 rfl (hb_8 _ _ _ _) (nI_clamp (by omega)) (nI_pos (by omega)) (by omega) ((congrFun ((K0.2.2.1 8 rfl).trans (hR.2.1 59 (by omega) (by omega))) v).trans t6q) ?_
            refine zw_aload_n 196 f50_195 rfl h0 ?_
            refine zw_getfield 199 f50_196 rfl g50_25_10 (hb_11 _ _ _ _) rfl ?_
            refine zw_iload_n 200 f50_199 rfl h1 ?_
            refine zw_iaload v ((mRO (P 60) (P 61) (P 62) (wRun nv P W) (W.2.2.2.2.1 v) v (s.1, s.2.1, s.1 v, 0) k).2.2.1) 201 f50_200 rfl (hb_18 _ _ _ _) (nI_clamp (by omega)) (nI_pos (by omega)) (by omega) (if_pos rfl) ?_
            refine zw_virtual_v 204 0 0 [.ref 11, .int (-1), .int ((mRO (P 60) (P 61) (P 62) (wRun nv P W) (W.2.2.2.2.1 v) v (s.1, s.2.1, s.1 v, 0) k).2.2.1)] [(0, .ref 11), (1, .int (-1)), (2, .int ((mRO (P 60) (P 61) (P 62) (wRun nv P W) (W.2.2.2.2.1 v) v (s.1, s.2.1, s.1 v, 0) k).2.2.1))] f50_201 rfl n50_76 k50_76_10 rfl (hb_11 _ _ _ _) (by decide +kernel) (Nat.le_of_ble_eq_true rfl) rfl rfl (by decide +kernel) (by decide +kernel) rfl (Nat.le_of_ble_eq_true rfl) rfl ?_
            refine zw_aload_n 1 f51_0 rfl rfl ?_
            refine zw_getfield 4 f51_1 rfl g51_37_10 (hb_11 _ _ _ _) rfl ?_
            refine zw_iload_n 5 f51_4 rfl rfl ?_
            refine zw_virtual_i 8 0 0 [.ref 1, .int (-1)] [(0, .ref 1), (1, .int (-1))] f51_5 rfl n51_103 k51_103_4 rfl (hb_1 _ _ _ _) (by decide +kernel) (Nat.le_of_ble_eq_true rfl) rfl rfl (by decide +kernel) (by decide +kernel) rfl (Nat.le_of_ble_eq_true rfl) rfl ?_
            refine zw_iload_n 1 f13_0 rfl rfl ?_
            refine zw_if_lt_t 22 f13_1 (by decide +kernel) (by decide +kernel) ?_
            refine zw_iconst 0 23 f13_22 rfl (by decide +kernel) ?_
            refine zw_zreturn f13_23 r13 u13 (by decide +kernel) ⟨_, rfl, ?_⟩
            refine zw_if_eq_t 24 f51_8 (by decide +kernel) (by decide +kernel) ?_
            refine zw_aload_n 25 f51_24 rfl rfl ?_
            refine zw_dup 26 f51_25 rfl rfl ?_
            refine zw_getI (I1 11 7) 29 f51_26 rfl g51_58_10 (hb_11 _ _ _ _) rfl rfl ?_
            refine zw_iload_n 30 f51_29 rfl rfl ?_
            refine zw_iadd ((I1 11 7) + ((mRO (P 60) (P 61) (P 62) (wRun nv P W) (W.2.2.2.2.1 v) v (s.1, s.2.1, s.1 v, 0) k).2.2.1)) 31 f51_30 rfl rfl ?_
            refine zw_put _ 34 f51_31 rfl g51_58_10 (hb_11 _ _ _ _) rfl (Nat.le_of_ble_eq_true rfl) (by decide +kernel) (hi_11_7 _ _ _ _ _) ?_
            refine zw_vreturn f51_34 r51 u51 ⟨rfl, ?_⟩
            refine zw_vreturn f50_204 r50 u50 ?_
            have hk : k = np := by omega
            have hE : (mRO (P 60) (P 61) (P 62) (wRun nv P W) (W.2.2.2.2.1 v) v (s.1, s.2.1, s.1 v, 0) np) = (mRO (P 60) (P 61) (P 62) (wRun nv P W) (W.2.2.2.2.1 v) v (s.1, s.2.1, s.1 v, 0) k) := by rw [hk]
            have EL := (mRO_left (nv := nv) (np := np) (frm := P 60) (too := P 61) (amt := P 62) (run := (wRun nv P W)) (lev := W.2.2.2.2.1 v) (v := v) (s := s) h8 (fun p hpp z => hto p hpp z) k (by omega)).2
            have hx : 0 < ((mRO (P 60) (P 61) (P 62) (wRun nv P W) (W.2.2.2.2.1 v) v (s.1, s.2.1, s.1 v, 0) k).1 v - (mRO (P 60) (P 61) (P 62) (wRun nv P W) (W.2.2.2.2.1 v) v (s.1, s.2.1, s.1 v, 0) k).2.2.2) := by rw [← EL]; exact Int32.not_le.mp hc4
            have E := mRateOf_y (over := P 59) (brim := P 54) (g := W.1) (lev := W.2.2.2.2.1) (s := s) (-1) t6q hE hx (full_eq hp hW hv (Int64.not_lt.mpr (Int64.not_lt.mp (fun q => hc2 ((lg_cmp_lt _ _).mpr q)))))
            rw [← EL] at E
            rw [mGoC_m, mGoD_m] at E
            refine ⟨_, _, _, _, rfl, (KQ.i rfl (KQ.a rfl (KQ.a rfl K0))), ⟨?_, ⟨fun p hpp q => hf.1 p (by omega) q, hf.2⟩⟩, rfl⟩
            rw [E]
            exact ⟨hr.1, congrArg (fun z => z + ((mRO (P 60) (P 61) (P 62) (wRun nv P W) (W.2.2.2.2.1 v) v (s.1, s.2.1, s.1 v, 0) k).2.2.1)) hr.2.1, mC_n (fun j hj => (congrFun hr.2.2.1 j).trans (hs.2.2.1 j hj)) (Int32.sub_self _), mC_n (fun j hj => (congrFun hr.2.2.2.1 j).trans (hs.2.2.2 j hj)) rfl⟩
          · refine zw_iaload v (nI t6) 195 f50_194 rfl (hb_8 _ _ _ _) (nI_clamp (by omega)) (nI_pos (by omega)) (by omega) ((congrFun ((K0.2.2.1 8 rfl).trans (hR.2.1 59 (by omega) (by omega))) v).trans t6q) ?_
            refine zw_aload_n 196 f50_195 rfl h0 ?_
            refine zw_getfield 199 f50_196 rfl g50_25_10 (hb_11 _ _ _ _) rfl ?_
            refine zw_iload_n 200 f50_199 rfl h1 ?_
            refine zw_iaload v ((mRO (P 60) (P 61) (P 62) (wRun nv P W) (W.2.2.2.2.1 v) v (s.1, s.2.1, s.1 v, 0) k).2.2.1) 201 f50_200 rfl (hb_18 _ _ _ _) (nI_clamp (by omega)) (nI_pos (by omega)) (by omega) (if_pos rfl) ?_
            refine zw_virtual_v 204 0 0 [.ref 11, .int (nI t6), .int ((mRO (P 60) (P 61) (P 62) (wRun nv P W) (W.2.2.2.2.1 v) v (s.1, s.2.1, s.1 v, 0) k).2.2.1)] [(0, .ref 11), (1, .int (nI t6)), (2, .int ((mRO (P 60) (P 61) (P 62) (wRun nv P W) (W.2.2.2.2.1 v) v (s.1, s.2.1, s.1 v, 0) k).2.2.1))] f50_201 rfl n50_76 k50_76_10 rfl (hb_11 _ _ _ _) (by decide +kernel) (Nat.le_of_ble_eq_true rfl) rfl rfl (by decide +kernel) (by decide +kernel) rfl (Nat.le_of_ble_eq_true rfl) rfl ?_
            refine zw_aload_n 1 f51_0 rfl rfl ?_
            refine zw_getfield 4 f51_1 rfl g51_37_10 (hb_11 _ _ _ _) rfl ?_
            refine zw_iload_n 5 f51_4 rfl rfl ?_
            refine zw_virtual_i 8 0 0 [.ref 1, .int (nI t6)] [(0, .ref 1), (1, .int (nI t6))] f51_5 rfl n51_103 k51_103_4 rfl (hb_1 _ _ _ _) (by decide +kernel) (Nat.le_of_ble_eq_true rfl) rfl rfl (by decide +kernel) (by decide +kernel) rfl (Nat.le_of_ble_eq_true rfl) rfl ?_
            refine zw_iload_n 1 f13_0 rfl rfl ?_
            refine zw_if_lt_f 4 22 f13_1 (by decide +kernel) rfl (nI_pos (by omega)) ?_
            refine zw_iload_n 5 f13_4 rfl rfl ?_
            refine zw_aload_n 6 f13_5 rfl rfl ?_
            refine zw_getI (nI nv) 9 f13_6 rfl g13_39_4 (hb_1 _ _ _ _) rfl ((K0.1 1 0 rfl).trans hR.1.1) ?_
            refine zw_ic_ge_f 12 22 f13_9 (by decide +kernel) rfl (fun q => absurd (zn_ge (a := nv) (b := t6) (by omega) (by omega) q) (by omega)) ?_
            refine zw_iload_n 13 f13_12 rfl rfl ?_
            refine zw_bipush 8 15 f13_13 rfl (by decide +kernel) ?_
            refine zw_ic_ge_f 18 22 f13_15 (by decide +kernel) rfl (fun q => absurd (zn_ge (a := 8) (b := t6) (by omega) (by omega) q) (by omega)) ?_
            refine zw_iconst 1 19 f13_18 rfl (by decide +kernel) ?_
            refine zw_goto 23 f13_19 (by decide +kernel) ?_
            refine zw_zreturn f13_23 r13 u13 (by decide +kernel) ⟨_, rfl, ?_⟩
            refine zw_if_eq_f 11 24 f51_8 (by decide +kernel) rfl (by decide +kernel) ?_
            refine zw_aload_n 12 f51_11 rfl rfl ?_
            refine zw_getfield 15 f51_12 rfl g51_18_10 (hb_11 _ _ _ _) rfl ?_
            refine zw_iload_n 16 f51_15 rfl rfl ?_
            refine zw_dup2 17 f51_16 rfl rfl rfl ?_
            refine zw_iaload t6 (A1 16 t6) 18 f51_17 rfl (hb_16 _ _ _ _) (nI_clamp (by omega)) (nI_pos (by omega)) (by omega) rfl ?_
            refine zw_iload_n 19 f51_18 rfl rfl ?_
            refine zw_iadd ((A1 16 t6) + ((mRO (P 60) (P 61) (P 62) (wRun nv P W) (W.2.2.2.2.1 v) v (s.1, s.2.1, s.1 v, 0) k).2.2.1)) 20 f51_19 rfl rfl ?_
            refine zw_ast t6 _ 21 f51_20 rfl (hb_16 _ _ _ _) (nI_clamp (by omega)) (nI_pos (by omega)) (by omega) (ha_16 _ _ _ _ _) ?_
            refine zw_goto 34 f51_21 (by decide +kernel) ?_
            refine zw_vreturn f51_34 r51 u51 ⟨rfl, ?_⟩
            refine zw_vreturn f50_204 r50 u50 ?_
            have hk : k = np := by omega
            have hE : (mRO (P 60) (P 61) (P 62) (wRun nv P W) (W.2.2.2.2.1 v) v (s.1, s.2.1, s.1 v, 0) np) = (mRO (P 60) (P 61) (P 62) (wRun nv P W) (W.2.2.2.2.1 v) v (s.1, s.2.1, s.1 v, 0) k) := by rw [hk]
            have EL := (mRO_left (nv := nv) (np := np) (frm := P 60) (too := P 61) (amt := P 62) (run := (wRun nv P W)) (lev := W.2.2.2.2.1 v) (v := v) (s := s) h8 (fun p hpp z => hto p hpp z) k (by omega)).2
            have hx : 0 < ((mRO (P 60) (P 61) (P 62) (wRun nv P W) (W.2.2.2.2.1 v) v (s.1, s.2.1, s.1 v, 0) k).1 v - (mRO (P 60) (P 61) (P 62) (wRun nv P W) (W.2.2.2.2.1 v) v (s.1, s.2.1, s.1 v, 0) k).2.2.2) := by rw [← EL]; exact Int32.not_le.mp hc4
            have E := mRateOf_y (over := P 59) (brim := P 54) (g := W.1) (lev := W.2.2.2.2.1) (s := s) (nI t6) t6q hE hx (full_eq hp hW hv (Int64.not_lt.mpr (Int64.not_lt.mp (fun q => hc2 ((lg_cmp_lt _ _).mpr q)))))
            rw [← EL] at E
            rw [mGoC_t (by omega), mGoD_t (by omega)] at E
            refine ⟨_, _, _, _, rfl, (KQ.a rfl (KQ.a rfl (KQ.a rfl K0))), ⟨?_, ⟨fun p hpp q => hf.1 p (by omega) q, hf.2⟩⟩, rfl⟩
            rw [E]
            exact ⟨mC_t hr.1 (by omega), hr.2.1, mC_n (fun j hj => (congrFun hr.2.2.1 j).trans (hs.2.2.1 j hj)) (Int32.sub_self _), mC_n (fun j hj => (congrFun hr.2.2.2.1 j).trans (hs.2.2.2 j hj)) rfl⟩
    · have hn_hc1 : k < np := zn_lt (by omega) (by omega) hc1
      refine zw_aload_n 43 f50_42 rfl h0 ?_
      refine zw_getfield 46 f50_43 rfl g50_37_10 (hb_11 _ _ _ _) rfl ?_
      refine zw_getfield 49 f50_46 rfl g50_64_4 (hb_1 _ _ _ _) rfl ?_
      refine zw_iload 51 f50_49 rfl h4 ?_
      refine zw_iaload k (P 60 k) 52 f50_51 rfl (hb_9 _ _ _ _) (nI_clamp (by omega)) (nI_pos (by omega)) (by omega) (congrFun (((K0.2.2.1 9 rfl).trans (hR.2.1 60 (by omega) (by omega)))) k) ?_
      refine zw_iload_n 53 f50_52 rfl h1 ?_
      refine zw_ic_ne 56 142 f50_53 (by decide +kernel) rfl (fun hc7 => ?_) (fun hc7 => ?_)
      · refine zw_iinc (nI (k + 1)) _ 145 f50_142 rfl h4 (by decide +kernel) (nI_1 _) rfl ?_
        refine zw_goto 30 f50_145 (by decide +kernel) ?_
        have E := mRO_n (frm := P 60) (too := P 61) (amt := P 62) (run := (wRun nv P W)) (lev := W.2.2.2.2.1 v) (v := v) (s := (s.1, s.2.1, s.1 v, 0)) (k := k) (fun q => hc7 q.1)
        exact ih (k + 1) _ _ _ _ _ K0 (by rw [E]; exact hr) (fc_n (r := A1 19) (r0 := A 19) (F := fun p => mFs (P 60) (P 61) (P 62) (wRun nv P W) W.2.2.2.2.1 v s p) (c := fun p => P 60 p = nI v) (k := k) hf hc7) (zl1_ne rfl rfl h0) (zl1_ne rfl rfl h1) (by rw [E]; exact (zl1_ne rfl rfl h2)) (zl1_ne rfl rfl h3) zl1_eq (by omega) (by omega)
      · refine zw_iload_n 57 f50_56 rfl h3 ?_
        refine zw_if_eq_f 60 73 f50_57 (by decide +kernel) rfl (by decide +kernel) ?_
        refine zw_aload_n 61 f50_60 rfl h0 ?_
        refine zw_getfield 64 f50_61 rfl g50_12_10 (hb_11 _ _ _ _) rfl ?_
        refine zw_getfield 67 f50_64 rfl g50_70_9 (hb_12 _ _ _ _) rfl ?_
        refine zw_iload 69 f50_67 rfl h4 ?_
        refine zw_iaload k (P 62 k) 70 f50_69 rfl (hb_15 _ _ _ _) (nI_clamp (by omega)) (nI_pos (by omega)) (by omega) (congrFun (((K0.2.2.1 15 rfl).trans (hR.2.1 62 (by omega) (by omega)))) k) ?_
        refine zw_goto 87 f50_70 (by decide +kernel) ?_
        refine zw_istore _ 89 f50_87 rfl (by decide +kernel) rfl ?_
        refine zw_aload_n 90 f50_89 rfl (zl1_ne rfl rfl h0) ?_
        refine zw_getfield 93 f50_90 rfl g50_28_10 (hb_11 _ _ _ _) rfl ?_
        refine zw_iload 95 f50_93 rfl (zl1_ne rfl rfl h4) ?_
        refine zw_aload_n 96 f50_95 rfl (zl1_ne rfl rfl h0) ?_
        refine zw_iload 98 f50_96 rfl (zl1_ne rfl rfl h4) ?_
        refine zw_virtual_i 101 0 0 [.ref 11, .int (nI k)] [(0, .ref 11), (1, .int (nI k))] f50_98 rfl n50_67 k50_67_10 rfl (hb_11 _ _ _ _) (by decide +kernel) (Nat.le_of_ble_eq_true rfl) rfl rfl (by decide +kernel) (by decide +kernel) rfl (Nat.le_of_ble_eq_true rfl) rfl ?_
        refine zWp.mono (cx_runs_11 ro nv np P W _ _ _ _ (hR.k K0 ⟨rfl, rfl⟩ (fCr_w 11) (pCr_w 11 (by omega))) hp hb hq k (by omega)) ?_
        rintro r h1 ⟨rfl, rfl⟩
        refine ⟨_, rfl, ?_⟩
        refine zw_if_eq 104 109 f50_101 (by decide +kernel) rfl (fun hc8 => ?_) (fun hc8 => ?_)
        · refine zw_iconst 0 110 f50_109 rfl (by decide +kernel) ?_
          refine zw_ast k _ 111 f50_110 rfl (hb_19 _ _ _ _) (nI_clamp (by omega)) (nI_pos (by omega)) (by omega) (ha_19 _ _ _ _ _) ?_
          refine zw_iload_n 112 f50_111 rfl (zl1_ne rfl rfl h2) ?_
          refine zw_aload_n 113 f50_112 rfl (zl1_ne rfl rfl h0) ?_
          refine zw_getfield 116 f50_113 rfl g50_28_10 (hb_11 _ _ _ _) rfl ?_
          refine zw_iload 118 f50_116 rfl (zl1_ne rfl rfl h4) ?_
          refine zw_iaload k 0 119 f50_118 rfl (hb_19 _ _ _ _) (nI_clamp (by omega)) (nI_pos (by omega)) (by omega) (if_pos rfl) ?_
          refine zw_isub (((mRO (P 60) (P 61) (P 62) (wRun nv P W) (W.2.2.2.2.1 v) v (s.1, s.2.1, s.1 v, 0) k).2.2.1) - 0) 120 f50_119 rfl rfl ?_
          refine zw_istore_n _ 121 f50_120 rfl (by decide +kernel) rfl ?_
          refine zw_aload_n 122 f50_121 rfl (zl1_ne rfl rfl (zl1_ne rfl rfl h0)) ?_
          refine zw_aload_n 123 f50_122 rfl (zl1_ne rfl rfl (zl1_ne rfl rfl h0)) ?_
          refine zw_getfield 126 f50_123 rfl g50_37_10 (hb_11 _ _ _ _) rfl ?_
          refine zw_getfield 129 f50_126 rfl g50_73_4 (hb_1 _ _ _ _) rfl ?_
          refine zw_iload 131 f50_129 rfl (zl1_ne rfl rfl (zl1_ne rfl rfl h4)) ?_
          rcases (hp.2.2.2 k (by omega)).1 with t9q | ⟨t9, t9l, t9n, t9q⟩
          · refine zw_iaload k (-1) 132 f50_131 rfl (hb_10 _ _ _ _) (nI_clamp (by omega)) (nI_pos (by omega)) (by omega) ((congrFun ((K0.2.2.1 10 rfl).trans (hR.2.1 61 (by omega) (by omega))) k).trans t9q) ?_
            refine zw_aload_n 133 f50_132 rfl (zl1_ne rfl rfl (zl1_ne rfl rfl h0)) ?_
            refine zw_getfield 136 f50_133 rfl g50_28_10 (hb_11 _ _ _ _) rfl ?_
            refine zw_iload 138 f50_136 rfl (zl1_ne rfl rfl (zl1_ne rfl rfl h4)) ?_
            refine zw_iaload k 0 139 f50_138 rfl (hb_19 _ _ _ _) (nI_clamp (by omega)) (nI_pos (by omega)) (by omega) (if_pos rfl) ?_
            refine zw_virtual_v 142 0 0 [.ref 11, .int (-1), .int 0] [(0, .ref 11), (1, .int (-1)), (2, .int 0)] f50_139 rfl n50_76 k50_76_10 rfl (hb_11 _ _ _ _) (by decide +kernel) (Nat.le_of_ble_eq_true rfl) rfl rfl (by decide +kernel) (by decide +kernel) rfl (Nat.le_of_ble_eq_true rfl) rfl ?_
            refine zw_aload_n 1 f51_0 rfl rfl ?_
            refine zw_getfield 4 f51_1 rfl g51_37_10 (hb_11 _ _ _ _) rfl ?_
            refine zw_iload_n 5 f51_4 rfl rfl ?_
            refine zw_virtual_i 8 0 0 [.ref 1, .int (-1)] [(0, .ref 1), (1, .int (-1))] f51_5 rfl n51_103 k51_103_4 rfl (hb_1 _ _ _ _) (by decide +kernel) (Nat.le_of_ble_eq_true rfl) rfl rfl (by decide +kernel) (by decide +kernel) rfl (Nat.le_of_ble_eq_true rfl) rfl ?_
            refine zw_iload_n 1 f13_0 rfl rfl ?_
            refine zw_if_lt_t 22 f13_1 (by decide +kernel) (by decide +kernel) ?_
            refine zw_iconst 0 23 f13_22 rfl (by decide +kernel) ?_
            refine zw_zreturn f13_23 r13 u13 (by decide +kernel) ⟨_, rfl, ?_⟩
            refine zw_if_eq_t 24 f51_8 (by decide +kernel) (by decide +kernel) ?_
            refine zw_aload_n 25 f51_24 rfl rfl ?_
            refine zw_dup 26 f51_25 rfl rfl ?_
            refine zw_getI (I1 11 7) 29 f51_26 rfl g51_58_10 (hb_11 _ _ _ _) rfl rfl ?_
            refine zw_iload_n 30 f51_29 rfl rfl ?_
            refine zw_iadd ((I1 11 7) + 0) 31 f51_30 rfl rfl ?_
            refine zw_put _ 34 f51_31 rfl g51_58_10 (hb_11 _ _ _ _) rfl (Nat.le_of_ble_eq_true rfl) (by decide +kernel) (hi_11_7 _ _ _ _ _) ?_
            refine zw_vreturn f51_34 r51 u51 ⟨rfl, ?_⟩
            refine zw_iinc (nI (k + 1)) _ 145 f50_142 rfl (zl1_ne rfl rfl (zl1_ne rfl rfl h4)) (by decide +kernel) (nI_1 _) rfl ?_
            refine zw_goto 30 f50_145 (by decide +kernel) ?_
            have E := mRO_n (frm := P 60) (too := P 61) (amt := P 62) (run := (wRun nv P W)) (lev := W.2.2.2.2.1 v) (v := v) (s := (s.1, s.2.1, s.1 v, 0)) (k := k) (fun q => q.2 hc8)
            exact ih (k + 1) _ _ _ _ _ (KQ.i rfl (KQ.a rfl K0)) (by rw [E]; exact ⟨hr.1, (Int32.add_zero _).trans hr.2.1, hr.2.2⟩) (fc_y (r := A1 19) (r0 := A 19) (F := fun p => mFs (P 60) (P 61) (P 62) (wRun nv P W) W.2.2.2.2.1 v s p) (c := fun p => P 60 p = nI v) (k := k) hf (Decidable.of_not_not hc7) rfl (cI_y hc8).symm) (zl1_ne rfl rfl (zl1_ne rfl rfl (zl1_ne rfl rfl h0))) (zl1_ne rfl rfl (zl1_ne rfl rfl (zl1_ne rfl rfl h1))) (by rw [E]; exact (zld_s0 (zl1_ne rfl rfl zl1_eq))) (zl1_ne rfl rfl (zl1_ne rfl rfl (zl1_ne rfl rfl h3))) zl1_eq (by omega) (by omega)
          · refine zw_iaload k (nI t9) 132 f50_131 rfl (hb_10 _ _ _ _) (nI_clamp (by omega)) (nI_pos (by omega)) (by omega) ((congrFun ((K0.2.2.1 10 rfl).trans (hR.2.1 61 (by omega) (by omega))) k).trans t9q) ?_
            refine zw_aload_n 133 f50_132 rfl (zl1_ne rfl rfl (zl1_ne rfl rfl h0)) ?_
            refine zw_getfield 136 f50_133 rfl g50_28_10 (hb_11 _ _ _ _) rfl ?_
            refine zw_iload 138 f50_136 rfl (zl1_ne rfl rfl (zl1_ne rfl rfl h4)) ?_
            refine zw_iaload k 0 139 f50_138 rfl (hb_19 _ _ _ _) (nI_clamp (by omega)) (nI_pos (by omega)) (by omega) (if_pos rfl) ?_
            refine zw_virtual_v 142 0 0 [.ref 11, .int (nI t9), .int 0] [(0, .ref 11), (1, .int (nI t9)), (2, .int 0)] f50_139 rfl n50_76 k50_76_10 rfl (hb_11 _ _ _ _) (by decide +kernel) (Nat.le_of_ble_eq_true rfl) rfl rfl (by decide +kernel) (by decide +kernel) rfl (Nat.le_of_ble_eq_true rfl) rfl ?_
            refine zw_aload_n 1 f51_0 rfl rfl ?_
            refine zw_getfield 4 f51_1 rfl g51_37_10 (hb_11 _ _ _ _) rfl ?_
            refine zw_iload_n 5 f51_4 rfl rfl ?_
            refine zw_virtual_i 8 0 0 [.ref 1, .int (nI t9)] [(0, .ref 1), (1, .int (nI t9))] f51_5 rfl n51_103 k51_103_4 rfl (hb_1 _ _ _ _) (by decide +kernel) (Nat.le_of_ble_eq_true rfl) rfl rfl (by decide +kernel) (by decide +kernel) rfl (Nat.le_of_ble_eq_true rfl) rfl ?_
            refine zw_iload_n 1 f13_0 rfl rfl ?_
            refine zw_if_lt_f 4 22 f13_1 (by decide +kernel) rfl (nI_pos (by omega)) ?_
            refine zw_iload_n 5 f13_4 rfl rfl ?_
            refine zw_aload_n 6 f13_5 rfl rfl ?_
            refine zw_getI (nI nv) 9 f13_6 rfl g13_39_4 (hb_1 _ _ _ _) rfl ((K0.1 1 0 rfl).trans hR.1.1) ?_
            refine zw_ic_ge_f 12 22 f13_9 (by decide +kernel) rfl (fun q => absurd (zn_ge (a := nv) (b := t9) (by omega) (by omega) q) (by omega)) ?_
            refine zw_iload_n 13 f13_12 rfl rfl ?_
            refine zw_bipush 8 15 f13_13 rfl (by decide +kernel) ?_
            refine zw_ic_ge_f 18 22 f13_15 (by decide +kernel) rfl (fun q => absurd (zn_ge (a := 8) (b := t9) (by omega) (by omega) q) (by omega)) ?_
            refine zw_iconst 1 19 f13_18 rfl (by decide +kernel) ?_
            refine zw_goto 23 f13_19 (by decide +kernel) ?_
            refine zw_zreturn f13_23 r13 u13 (by decide +kernel) ⟨_, rfl, ?_⟩
            refine zw_if_eq_f 11 24 f51_8 (by decide +kernel) rfl (by decide +kernel) ?_
            refine zw_aload_n 12 f51_11 rfl rfl ?_
            refine zw_getfield 15 f51_12 rfl g51_18_10 (hb_11 _ _ _ _) rfl ?_
            refine zw_iload_n 16 f51_15 rfl rfl ?_
            refine zw_dup2 17 f51_16 rfl rfl rfl ?_
            refine zw_iaload t9 (A1 16 t9) 18 f51_17 rfl (hb_16 _ _ _ _) (nI_clamp (by omega)) (nI_pos (by omega)) (by omega) rfl ?_
            refine zw_iload_n 19 f51_18 rfl rfl ?_
            refine zw_iadd ((A1 16 t9) + 0) 20 f51_19 rfl rfl ?_
            refine zw_ast t9 _ 21 f51_20 rfl (hb_16 _ _ _ _) (nI_clamp (by omega)) (nI_pos (by omega)) (by omega) (ha_16 _ _ _ _ _) ?_
            refine zw_goto 34 f51_21 (by decide +kernel) ?_
            refine zw_vreturn f51_34 r51 u51 ⟨rfl, ?_⟩
            refine zw_iinc (nI (k + 1)) _ 145 f50_142 rfl (zl1_ne rfl rfl (zl1_ne rfl rfl h4)) (by decide +kernel) (nI_1 _) rfl ?_
            refine zw_goto 30 f50_145 (by decide +kernel) ?_
            have E := mRO_n (frm := P 60) (too := P 61) (amt := P 62) (run := (wRun nv P W)) (lev := W.2.2.2.2.1 v) (v := v) (s := (s.1, s.2.1, s.1 v, 0)) (k := k) (fun q => q.2 hc8)
            exact ih (k + 1) _ _ _ _ _ (KQ.a rfl (KQ.a rfl K0)) (by rw [E]; exact ⟨mC_0 hr.1, hr.2⟩) (fc_y (r := A1 19) (r0 := A 19) (F := fun p => mFs (P 60) (P 61) (P 62) (wRun nv P W) W.2.2.2.2.1 v s p) (c := fun p => P 60 p = nI v) (k := k) hf (Decidable.of_not_not hc7) rfl (cI_y hc8).symm) (zl1_ne rfl rfl (zl1_ne rfl rfl (zl1_ne rfl rfl h0))) (zl1_ne rfl rfl (zl1_ne rfl rfl (zl1_ne rfl rfl h1))) (by rw [E]; exact (zld_s0 (zl1_ne rfl rfl zl1_eq))) (zl1_ne rfl rfl (zl1_ne rfl rfl (zl1_ne rfl rfl h3))) zl1_eq (by omega) (by omega)
        · refine zw_iload 106 f50_104 rfl zl1_eq ?_
          refine zw_goto 110 f50_106 (by decide +kernel) ?_
          refine zw_ast k _ 111 f50_110 rfl (hb_19 _ _ _ _) (nI_clamp (by omega)) (nI_pos (by omega)) (by omega) (ha_19 _ _ _ _ _) ?_
          refine zw_iload_n 112 f50_111 rfl (zl1_ne rfl rfl h2) ?_
          refine zw_aload_n 113 f50_112 rfl (zl1_ne rfl rfl h0) ?_
          refine zw_getfield 116 f50_113 rfl g50_28_10 (hb_11 _ _ _ _) rfl ?_
          refine zw_iload 118 f50_116 rfl (zl1_ne rfl rfl h4) ?_
          refine zw_iaload k (P 62 k) 119 f50_118 rfl (hb_19 _ _ _ _) (nI_clamp (by omega)) (nI_pos (by omega)) (by omega) (if_pos rfl) ?_
          refine zw_isub (((mRO (P 60) (P 61) (P 62) (wRun nv P W) (W.2.2.2.2.1 v) v (s.1, s.2.1, s.1 v, 0) k).2.2.1) - (P 62 k)) 120 f50_119 rfl rfl ?_
          refine zw_istore_n _ 121 f50_120 rfl (by decide +kernel) rfl ?_
          refine zw_aload_n 122 f50_121 rfl (zl1_ne rfl rfl (zl1_ne rfl rfl h0)) ?_
          refine zw_aload_n 123 f50_122 rfl (zl1_ne rfl rfl (zl1_ne rfl rfl h0)) ?_
          refine zw_getfield 126 f50_123 rfl g50_37_10 (hb_11 _ _ _ _) rfl ?_
          refine zw_getfield 129 f50_126 rfl g50_73_4 (hb_1 _ _ _ _) rfl ?_
          refine zw_iload 131 f50_129 rfl (zl1_ne rfl rfl (zl1_ne rfl rfl h4)) ?_
          rcases (hp.2.2.2 k (by omega)).1 with t10q | ⟨t10, t10l, t10n, t10q⟩
          · refine zw_iaload k (-1) 132 f50_131 rfl (hb_10 _ _ _ _) (nI_clamp (by omega)) (nI_pos (by omega)) (by omega) ((congrFun ((K0.2.2.1 10 rfl).trans (hR.2.1 61 (by omega) (by omega))) k).trans t10q) ?_
            refine zw_aload_n 133 f50_132 rfl (zl1_ne rfl rfl (zl1_ne rfl rfl h0)) ?_
            refine zw_getfield 136 f50_133 rfl g50_28_10 (hb_11 _ _ _ _) rfl ?_
            refine zw_iload 138 f50_136 rfl (zl1_ne rfl rfl (zl1_ne rfl rfl h4)) ?_
            refine zw_iaload k (P 62 k) 139 f50_138 rfl (hb_19 _ _ _ _) (nI_clamp (by omega)) (nI_pos (by omega)) (by omega) (if_pos rfl) ?_
            refine zw_virtual_v 142 0 0 [.ref 11, .int (-1), .int (P 62 k)] [(0, .ref 11), (1, .int (-1)), (2, .int (P 62 k))] f50_139 rfl n50_76 k50_76_10 rfl (hb_11 _ _ _ _) (by decide +kernel) (Nat.le_of_ble_eq_true rfl) rfl rfl (by decide +kernel) (by decide +kernel) rfl (Nat.le_of_ble_eq_true rfl) rfl ?_
            refine zw_aload_n 1 f51_0 rfl rfl ?_
            refine zw_getfield 4 f51_1 rfl g51_37_10 (hb_11 _ _ _ _) rfl ?_
            refine zw_iload_n 5 f51_4 rfl rfl ?_
            refine zw_virtual_i 8 0 0 [.ref 1, .int (-1)] [(0, .ref 1), (1, .int (-1))] f51_5 rfl n51_103 k51_103_4 rfl (hb_1 _ _ _ _) (by decide +kernel) (Nat.le_of_ble_eq_true rfl) rfl rfl (by decide +kernel) (by decide +kernel) rfl (Nat.le_of_ble_eq_true rfl) rfl ?_
            refine zw_iload_n 1 f13_0 rfl rfl ?_
            refine zw_if_lt_t 22 f13_1 (by decide +kernel) (by decide +kernel) ?_
            refine zw_iconst 0 23 f13_22 rfl (by decide +kernel) ?_
            refine zw_zreturn f13_23 r13 u13 (by decide +kernel) ⟨_, rfl, ?_⟩
            refine zw_if_eq_t 24 f51_8 (by decide +kernel) (by decide +kernel) ?_
            refine zw_aload_n 25 f51_24 rfl rfl ?_
            refine zw_dup 26 f51_25 rfl rfl ?_
            refine zw_getI (I1 11 7) 29 f51_26 rfl g51_58_10 (hb_11 _ _ _ _) rfl rfl ?_
            refine zw_iload_n 30 f51_29 rfl rfl ?_
            refine zw_iadd ((I1 11 7) + (P 62 k)) 31 f51_30 rfl rfl ?_
            refine zw_put _ 34 f51_31 rfl g51_58_10 (hb_11 _ _ _ _) rfl (Nat.le_of_ble_eq_true rfl) (by decide +kernel) (hi_11_7 _ _ _ _ _) ?_
            refine zw_vreturn f51_34 r51 u51 ⟨rfl, ?_⟩
            refine zw_iinc (nI (k + 1)) _ 145 f50_142 rfl (zl1_ne rfl rfl (zl1_ne rfl rfl h4)) (by decide +kernel) (nI_1 _) rfl ?_
            refine zw_goto 30 f50_145 (by decide +kernel) ?_
            have E := mRO_y (frm := P 60) (too := P 61) (amt := P 62) (run := (wRun nv P W)) (lev := W.2.2.2.2.1 v) (v := v) (s := (s.1, s.2.1, s.1 v, 0)) (k := k) (P 62 k) (-1) t10q (mFl_a hw) (Decidable.of_not_not hc7) hc8
            rw [mGoC_m, mGoD_m] at E
            have hfl : mFs (P 60) (P 61) (P 62) (wRun nv P W) W.2.2.2.2.1 v s k = (P 62 k) := (cI_n hc8).trans (mFl_a hw)
            exact ih (k + 1) _ _ _ _ _ (KQ.i rfl (KQ.a rfl K0)) (by rw [E]; exact ⟨hr.1, congrArg (fun z => z + (P 62 k)) hr.2.1, hr.2.2⟩) (fc_y (r := A1 19) (r0 := A 19) (F := fun p => mFs (P 60) (P 61) (P 62) (wRun nv P W) W.2.2.2.2.1 v s p) (c := fun p => P 60 p = nI v) (k := k) hf (Decidable.of_not_not hc7) rfl hfl.symm) (zl1_ne rfl rfl (zl1_ne rfl rfl (zl1_ne rfl rfl h0))) (zl1_ne rfl rfl (zl1_ne rfl rfl (zl1_ne rfl rfl h1))) (by rw [E]; exact (zl1_ne rfl rfl zl1_eq)) (zl1_ne rfl rfl (zl1_ne rfl rfl (zl1_ne rfl rfl h3))) zl1_eq (by omega) (by omega)
          · refine zw_iaload k (nI t10) 132 f50_131 rfl (hb_10 _ _ _ _) (nI_clamp (by omega)) (nI_pos (by omega)) (by omega) ((congrFun ((K0.2.2.1 10 rfl).trans (hR.2.1 61 (by omega) (by omega))) k).trans t10q) ?_
            refine zw_aload_n 133 f50_132 rfl (zl1_ne rfl rfl (zl1_ne rfl rfl h0)) ?_
            refine zw_getfield 136 f50_133 rfl g50_28_10 (hb_11 _ _ _ _) rfl ?_
            refine zw_iload 138 f50_136 rfl (zl1_ne rfl rfl (zl1_ne rfl rfl h4)) ?_
            refine zw_iaload k (P 62 k) 139 f50_138 rfl (hb_19 _ _ _ _) (nI_clamp (by omega)) (nI_pos (by omega)) (by omega) (if_pos rfl) ?_
            refine zw_virtual_v 142 0 0 [.ref 11, .int (nI t10), .int (P 62 k)] [(0, .ref 11), (1, .int (nI t10)), (2, .int (P 62 k))] f50_139 rfl n50_76 k50_76_10 rfl (hb_11 _ _ _ _) (by decide +kernel) (Nat.le_of_ble_eq_true rfl) rfl rfl (by decide +kernel) (by decide +kernel) rfl (Nat.le_of_ble_eq_true rfl) rfl ?_
            refine zw_aload_n 1 f51_0 rfl rfl ?_
            refine zw_getfield 4 f51_1 rfl g51_37_10 (hb_11 _ _ _ _) rfl ?_
            refine zw_iload_n 5 f51_4 rfl rfl ?_
            refine zw_virtual_i 8 0 0 [.ref 1, .int (nI t10)] [(0, .ref 1), (1, .int (nI t10))] f51_5 rfl n51_103 k51_103_4 rfl (hb_1 _ _ _ _) (by decide +kernel) (Nat.le_of_ble_eq_true rfl) rfl rfl (by decide +kernel) (by decide +kernel) rfl (Nat.le_of_ble_eq_true rfl) rfl ?_
            refine zw_iload_n 1 f13_0 rfl rfl ?_
            refine zw_if_lt_f 4 22 f13_1 (by decide +kernel) rfl (nI_pos (by omega)) ?_
            refine zw_iload_n 5 f13_4 rfl rfl ?_
            refine zw_aload_n 6 f13_5 rfl rfl ?_
            refine zw_getI (nI nv) 9 f13_6 rfl g13_39_4 (hb_1 _ _ _ _) rfl ((K0.1 1 0 rfl).trans hR.1.1) ?_
            refine zw_ic_ge_f 12 22 f13_9 (by decide +kernel) rfl (fun q => absurd (zn_ge (a := nv) (b := t10) (by omega) (by omega) q) (by omega)) ?_
            refine zw_iload_n 13 f13_12 rfl rfl ?_
            refine zw_bipush 8 15 f13_13 rfl (by decide +kernel) ?_
            refine zw_ic_ge_f 18 22 f13_15 (by decide +kernel) rfl (fun q => absurd (zn_ge (a := 8) (b := t10) (by omega) (by omega) q) (by omega)) ?_
            refine zw_iconst 1 19 f13_18 rfl (by decide +kernel) ?_
            refine zw_goto 23 f13_19 (by decide +kernel) ?_
            refine zw_zreturn f13_23 r13 u13 (by decide +kernel) ⟨_, rfl, ?_⟩
            refine zw_if_eq_f 11 24 f51_8 (by decide +kernel) rfl (by decide +kernel) ?_
            refine zw_aload_n 12 f51_11 rfl rfl ?_
            refine zw_getfield 15 f51_12 rfl g51_18_10 (hb_11 _ _ _ _) rfl ?_
            refine zw_iload_n 16 f51_15 rfl rfl ?_
            refine zw_dup2 17 f51_16 rfl rfl rfl ?_
            refine zw_iaload t10 (A1 16 t10) 18 f51_17 rfl (hb_16 _ _ _ _) (nI_clamp (by omega)) (nI_pos (by omega)) (by omega) rfl ?_
            refine zw_iload_n 19 f51_18 rfl rfl ?_
            refine zw_iadd ((A1 16 t10) + (P 62 k)) 20 f51_19 rfl rfl ?_
            refine zw_ast t10 _ 21 f51_20 rfl (hb_16 _ _ _ _) (nI_clamp (by omega)) (nI_pos (by omega)) (by omega) (ha_16 _ _ _ _ _) ?_
            refine zw_goto 34 f51_21 (by decide +kernel) ?_
            refine zw_vreturn f51_34 r51 u51 ⟨rfl, ?_⟩
            refine zw_iinc (nI (k + 1)) _ 145 f50_142 rfl (zl1_ne rfl rfl (zl1_ne rfl rfl h4)) (by decide +kernel) (nI_1 _) rfl ?_
            refine zw_goto 30 f50_145 (by decide +kernel) ?_
            have E := mRO_y (frm := P 60) (too := P 61) (amt := P 62) (run := (wRun nv P W)) (lev := W.2.2.2.2.1 v) (v := v) (s := (s.1, s.2.1, s.1 v, 0)) (k := k) (P 62 k) (nI t10) t10q (mFl_a hw) (Decidable.of_not_not hc7) hc8
            rw [mGoC_t (by omega), mGoD_t (by omega)] at E
            have hfl : mFs (P 60) (P 61) (P 62) (wRun nv P W) W.2.2.2.2.1 v s k = (P 62 k) := (cI_n hc8).trans (mFl_a hw)
            exact ih (k + 1) _ _ _ _ _ (KQ.a rfl (KQ.a rfl K0)) (by rw [E]; exact ⟨mC_t hr.1 (by omega), hr.2⟩) (fc_y (r := A1 19) (r0 := A 19) (F := fun p => mFs (P 60) (P 61) (P 62) (wRun nv P W) W.2.2.2.2.1 v s p) (c := fun p => P 60 p = nI v) (k := k) hf (Decidable.of_not_not hc7) rfl hfl.symm) (zl1_ne rfl rfl (zl1_ne rfl rfl (zl1_ne rfl rfl h0))) (zl1_ne rfl rfl (zl1_ne rfl rfl (zl1_ne rfl rfl h1))) (by rw [E]; exact (zl1_ne rfl rfl zl1_eq)) (zl1_ne rfl rfl (zl1_ne rfl rfl (zl1_ne rfl rfl h3))) zl1_eq (by omega) (by omega)
set_option maxRecDepth 100000 in
set_option maxHeartbeats 0 in
theorem lcf_rv11_0 (ro : UInt32 → Nat × (Nat → Int32)) (nv np : Nat) (P : Nat → Nat → Int32) (W : qW) (T K : Int) (I : Nat → Nat → Int32) (G : Nat → Nat → Int64) (A : Nat → Nat → Int32) (B : Nat → Nat → Int64) (hR : cRS 11 nv np P W I G A B) (hp : MPa nv np P) (hb : wBo W) (hq : qOw nv np P) (hW : wOk nv T K P W) (v : Nat) (hv : v < nv) (s : (Nat → Int32) × Int32 × (Nat → Int32) × (Nat → Int32)) (hs : cRel 11 I A s v) (hz : s.2.2.2 v = 0) (hw : ¬ 0 < W.2.2.2.2.1 v) : ∀ (n k : Nat) (ls : List (Nat × Value)) (I1 : Nat → Nat → Int32) (G1 : Nat → Nat → Int64) (A1 : Nat → Nat → Int32) (B1 : Nat → Nat → Int64), KQ (fCr 11) (pCr 11) I G A B I1 G1 A1 B1 → ((∀ j, j < 8 → A1 16 j = (mRO (P 60) (P 61) (P 62) (wRun nv P W) (W.2.2.2.2.1 v) v (s.1, s.2.1, s.1 v, 0) k).1 j) ∧ I1 11 7 = (mRO (P 60) (P 61) (P 62) (wRun nv P W) (W.2.2.2.2.1 v) v (s.1, s.2.1, s.1 v, 0) k).2.1 ∧ A1 17 = A 17 ∧ A1 18 = A 18 ∧ I1 11 6 = I 11 6) → ((∀ p, p < k → P 60 p = nI v → A1 19 p = mFs (P 60) (P 61) (P 62) (wRun nv P W) W.2.2.2.2.1 v s p) ∧ ∀ p, ¬ P 60 p = nI v → A1 19 p = A 19 p) → zld ls 0 = some (.ref 11) → zld ls 1 = some (.int (nI v)) → zld ls 2 = some (.int ((mRO (P 60) (P 61) (P 62) (wRun nv P W) (W.2.2.2.2.1 v) v (s.1, s.2.1, s.1 v, 0) k).2.2.1)) → zld ls 3 = some (.int 0) → zld ls 4 = some (.int (nI k)) → k ≤ np → np + 1 ≤ k + n → zWp ro 50 30 ls [] (hS I1 G1 A1 B1) 0 0 (fun r h1 => ∃ I2 G2 A2 B2, h1 = hS I2 G2 A2 B2 ∧ KQ (fCr 11) (pCr 11) I G A B I2 G2 A2 B2 ∧ (cRel 11 I2 A2 (mRateOf (P 60) (P 61) (P 62) (wRun nv P W) (P 59) (P 54) (W.2.2.2.2.1) W.1 np v s) (v + 1) ∧ (∀ p, p < np → P 60 p = nI v → A2 19 p = mFs (P 60) (P 61) (P 62) (wRun nv P W) W.2.2.2.2.1 v s p) ∧ ∀ p, ¬ P 60 p = nI v → A2 19 p = A 19 p) ∧ r = none) := by
  have h8 := hp.1
  have h14 := hp.2.1
  have hto : ∀ p, p < np → P 60 p = nI v → mTo nv (v + 1) (P 61 p) := fun p h1 h2 => (MPa.e hp W (fun _ => 0) 0 0).ht v p hv h1 h2
  intro n
  induction n with
  | zero =>
    intro k ls I1 G1 A1 B1 _ _ _ _ _ _ _ _ a c
    exact absurd c (by omega)
  | succ n ih =>
    intro k ls I1 G1 A1 B1 K0 hr hf h0 h1 h2 h3 h4 hk1 hk2
    refine zw_iload 32 f50_30 rfl h4 ?_
    refine zw_aload_n 33 f50_32 rfl h0 ?_
    refine zw_getfield 36 f50_33 rfl g50_37_10 (hb_11 _ _ _ _) rfl ?_
    refine zw_getI (nI np) 39 f50_36 rfl g50_61_4 (hb_1 _ _ _ _) rfl ((K0.1 1 1 rfl).trans hR.1.2) ?_
    refine zw_ic_ge 42 148 f50_39 (by decide +kernel) rfl (fun hc1 => ?_) (fun hc1 => ?_)
    · have hn_hc1 : np ≤ k := zn_ge (by omega) (by omega) hc1
      refine zw_aload_n 149 f50_148 rfl h0 ?_
      refine zw_getfield 152 f50_149 rfl g50_25_10 (hb_11 _ _ _ _) rfl ?_
      refine zw_iload_n 153 f50_152 rfl h1 ?_
      refine zw_aload_n 154 f50_153 rfl h0 ?_
      refine zw_iload_n 155 f50_154 rfl h1 ?_
      refine zw_virtual_i 158 0 0 [.ref 11, .int (nI v)] [(0, .ref 11), (1, .int (nI v))] f50_155 rfl n50_97 k50_97_10 rfl (hb_11 _ _ _ _) (by decide +kernel) (Nat.le_of_ble_eq_true rfl) rfl rfl (by decide +kernel) (by decide +kernel) rfl (Nat.le_of_ble_eq_true rfl) rfl ?_
      refine zw_aload_n 1 f52_0 rfl rfl ?_
      refine zw_getfield 4 f52_1 rfl g52_12_10 (hb_11 _ _ _ _) rfl ?_
      refine zw_getfield 7 f52_4 rfl g52_87_9 (hb_12 _ _ _ _) rfl ?_
      refine zw_iload_n 8 f52_7 rfl rfl ?_
      refine zw_laload v ((W.2.2.2.2.1) v) 9 f52_8 rfl (hb_13 _ _ _ _) (nI_clamp (by omega)) (nI_pos (by omega)) (by omega) (congrFun (((K0.2.2.2 13 rfl).trans hR.2.2.2.1)) v) ?_
      refine zw_aload_n 10 f52_9 rfl rfl ?_
      refine zw_getfield 13 f52_10 rfl g52_37_10 (hb_11 _ _ _ _) rfl ?_
      refine zw_getfield 16 f52_13 rfl g52_106_4 (hb_1 _ _ _ _) rfl ?_
      refine zw_iload_n 17 f52_16 rfl rfl ?_
      refine zw_iaload v (P 54 v) 18 f52_17 rfl (hb_3 _ _ _ _) (nI_clamp (by omega)) (nI_pos (by omega)) (by omega) (congrFun (((K0.2.2.1 3 rfl).trans (hR.2.1 54 (by omega) (by omega)))) v) ?_
      refine zw_i2l (Int32.toInt64 (P 54 v)) 19 f52_18 rfl rfl ?_
      refine zw_aload_n 20 f52_19 rfl rfl ?_
      refine zw_getfield 23 f52_20 rfl g52_12_10 (hb_11 _ _ _ _) rfl ?_
      refine zw_getG W.1 26 f52_23 rfl g52_109_9 (hb_12 _ _ _ _) rfl ((K0.2.1 12 0 rfl).trans hR.2.2.1.1) ?_
      refine zw_lmul ((Int32.toInt64 (P 54 v)) * W.1) 27 f52_26 rfl rfl ?_
      refine zw_lcmp (lg_cmp ((W.2.2.2.2.1) v) ((Int32.toInt64 (P 54 v)) * W.1)) 28 f52_27 rfl rfl ?_
      refine zw_if_lt 31 35 f52_28 (by decide +kernel) rfl (fun hc2 => ?_) (fun hc2 => ?_)
      · refine zw_iconst 0 36 f52_35 rfl (by decide +kernel) ?_
        refine zw_zreturn f52_36 r52 u52 (by decide +kernel) ⟨_, rfl, ?_⟩
        refine zw_if_eq_t 169 f50_158 (by decide +kernel) (by decide +kernel) ?_
        refine zw_iconst 0 170 f50_169 rfl (by decide +kernel) ?_
        refine zw_ast v _ 171 f50_170 rfl (hb_18 _ _ _ _) (nI_clamp (by omega)) (nI_pos (by omega)) (by omega) (ha_18 _ _ _ _ _) ?_
        refine zw_aload_n 172 f50_171 rfl h0 ?_
        refine zw_getfield 175 f50_172 rfl g50_22_10 (hb_11 _ _ _ _) rfl ?_
        refine zw_iload_n 176 f50_175 rfl h1 ?_
        refine zw_iload_n 177 f50_176 rfl h2 ?_
        refine zw_aload_n 178 f50_177 rfl h0 ?_
        refine zw_getfield 181 f50_178 rfl g50_25_10 (hb_11 _ _ _ _) rfl ?_
        refine zw_iload_n 182 f50_181 rfl h1 ?_
        refine zw_iaload v 0 183 f50_182 rfl (hb_18 _ _ _ _) (nI_clamp (by omega)) (nI_pos (by omega)) (by omega) (if_pos rfl) ?_
        refine zw_isub (((mRO (P 60) (P 61) (P 62) (wRun nv P W) (W.2.2.2.2.1 v) v (s.1, s.2.1, s.1 v, 0) k).2.2.1) - 0) 184 f50_183 rfl rfl ?_
        refine zw_ast v _ 185 f50_184 rfl (hb_17 _ _ _ _) (nI_clamp (by omega)) (nI_pos (by omega)) (by omega) (ha_17 _ _ _ _ _) ?_
        refine zw_aload_n 186 f50_185 rfl h0 ?_
        refine zw_aload_n 187 f50_186 rfl h0 ?_
        refine zw_getfield 190 f50_187 rfl g50_37_10 (hb_11 _ _ _ _) rfl ?_
        refine zw_getfield 193 f50_190 rfl g50_100_4 (hb_1 _ _ _ _) rfl ?_
        refine zw_iload_n 194 f50_193 rfl h1 ?_
        rcases (hp.2.2.1 v (by omega)).2.2.2.2.2 with t3q | ⟨t3, t3l, t3n, t3q⟩
        · refine zw_iaload v (-1) 195 f50_194 rfl (hb_8 _ _ _ _) (nI_clamp (by omega)) (nI_pos (by omega)) (by omega) ((congrFun ((K0.2.2.1 8 rfl).trans (hR.2.1 59 (by omega) (by omega))) v).trans t3q) ?_
          refine zw_aload_n 196 f50_195 rfl h0 ?_
          refine zw_getfield 199 f50_196 rfl g50_25_10 (hb_11 _ _ _ _) rfl ?_
          refine zw_iload_n 200 f50_199 rfl h1 ?_
          refine zw_iaload v 0 201 f50_200 rfl (hb_18 _ _ _ _) (nI_clamp (by omega)) (nI_pos (by omega)) (by omega) (if_pos rfl) ?_
          refine zw_virtual_v 204 0 0 [.ref 11, .int (-1), .int 0] [(0, .ref 11), (1, .int (-1)), (2, .int 0)] f50_201 rfl n50_76 k50_76_10 rfl (hb_11 _ _ _ _) (by decide +kernel) (Nat.le_of_ble_eq_true rfl) rfl rfl (by decide +kernel) (by decide +kernel) rfl (Nat.le_of_ble_eq_true rfl) rfl ?_
          refine zw_aload_n 1 f51_0 rfl rfl ?_
          refine zw_getfield 4 f51_1 rfl g51_37_10 (hb_11 _ _ _ _) rfl ?_
          refine zw_iload_n 5 f51_4 rfl rfl ?_
          refine zw_virtual_i 8 0 0 [.ref 1, .int (-1)] [(0, .ref 1), (1, .int (-1))] f51_5 rfl n51_103 k51_103_4 rfl (hb_1 _ _ _ _) (by decide +kernel) (Nat.le_of_ble_eq_true rfl) rfl rfl (by decide +kernel) (by decide +kernel) rfl (Nat.le_of_ble_eq_true rfl) rfl ?_
          refine zw_iload_n 1 f13_0 rfl rfl ?_
          refine zw_if_lt_t 22 f13_1 (by decide +kernel) (by decide +kernel) ?_
          refine zw_iconst 0 23 f13_22 rfl (by decide +kernel) ?_
          refine zw_zreturn f13_23 r13 u13 (by decide +kernel) ⟨_, rfl, ?_⟩
          refine zw_if_eq_t 24 f51_8 (by decide +kernel) (by decide +kernel) ?_
          refine zw_aload_n 25 f51_24 rfl rfl ?_
          refine zw_dup 26 f51_25 rfl rfl ?_
          refine zw_getI (I1 11 7) 29 f51_26 rfl g51_58_10 (hb_11 _ _ _ _) rfl rfl ?_
          refine zw_iload_n 30 f51_29 rfl rfl ?_
          refine zw_iadd ((I1 11 7) + 0) 31 f51_30 rfl rfl ?_
          refine zw_put _ 34 f51_31 rfl g51_58_10 (hb_11 _ _ _ _) rfl (Nat.le_of_ble_eq_true rfl) (by decide +kernel) (hi_11_7 _ _ _ _ _) ?_
          refine zw_vreturn f51_34 r51 u51 ⟨rfl, ?_⟩
          refine zw_vreturn f50_204 r50 u50 ?_
          have hk : k = np := by omega
          have hE : (mRO (P 60) (P 61) (P 62) (wRun nv P W) (W.2.2.2.2.1 v) v (s.1, s.2.1, s.1 v, 0) np) = (mRO (P 60) (P 61) (P 62) (wRun nv P W) (W.2.2.2.2.1 v) v (s.1, s.2.1, s.1 v, 0) k) := by rw [hk]
          have EL := (mRO_left (nv := nv) (np := np) (frm := P 60) (too := P 61) (amt := P 62) (run := (wRun nv P W)) (lev := W.2.2.2.2.1 v) (v := v) (s := s) h8 (fun p hpp z => hto p hpp z) k (by omega)).2
          have E := mRateOf_n (over := P 59) (brim := P 54) (g := W.1) (lev := W.2.2.2.2.1) (s := s) hE (fun q => absurd ((lg_cmp_lt _ _).mp hc2) (by rw [show W.2.2.2.2.1 v = _ from q.2]; exact i64_irr))
          rw [← EL] at E
          refine ⟨_, _, _, _, rfl, (KQ.i rfl (KQ.a rfl (KQ.a rfl K0))), ⟨?_, ⟨fun p hpp q => hf.1 p (by omega) q, hf.2⟩⟩, rfl⟩
          rw [E]
          exact ⟨hr.1, (Int32.add_zero _).trans hr.2.1, mC_n (fun j hj => (congrFun hr.2.2.1 j).trans (hs.2.2.1 j hj)) (Int32.sub_zero _), mC_k (fun j hj => (congrFun hr.2.2.2.1 j).trans (hs.2.2.2 j hj)) hz.symm⟩
        · refine zw_iaload v (nI t3) 195 f50_194 rfl (hb_8 _ _ _ _) (nI_clamp (by omega)) (nI_pos (by omega)) (by omega) ((congrFun ((K0.2.2.1 8 rfl).trans (hR.2.1 59 (by omega) (by omega))) v).trans t3q) ?_
          refine zw_aload_n 196 f50_195 rfl h0 ?_
          refine zw_getfield 199 f50_196 rfl g50_25_10 (hb_11 _ _ _ _) rfl ?_
          refine zw_iload_n 200 f50_199 rfl h1 ?_
          refine zw_iaload v 0 201 f50_200 rfl (hb_18 _ _ _ _) (nI_clamp (by omega)) (nI_pos (by omega)) (by omega) (if_pos rfl) ?_
          refine zw_virtual_v 204 0 0 [.ref 11, .int (nI t3), .int 0] [(0, .ref 11), (1, .int (nI t3)), (2, .int 0)] f50_201 rfl n50_76 k50_76_10 rfl (hb_11 _ _ _ _) (by decide +kernel) (Nat.le_of_ble_eq_true rfl) rfl rfl (by decide +kernel) (by decide +kernel) rfl (Nat.le_of_ble_eq_true rfl) rfl ?_
          refine zw_aload_n 1 f51_0 rfl rfl ?_
          refine zw_getfield 4 f51_1 rfl g51_37_10 (hb_11 _ _ _ _) rfl ?_
          refine zw_iload_n 5 f51_4 rfl rfl ?_
          refine zw_virtual_i 8 0 0 [.ref 1, .int (nI t3)] [(0, .ref 1), (1, .int (nI t3))] f51_5 rfl n51_103 k51_103_4 rfl (hb_1 _ _ _ _) (by decide +kernel) (Nat.le_of_ble_eq_true rfl) rfl rfl (by decide +kernel) (by decide +kernel) rfl (Nat.le_of_ble_eq_true rfl) rfl ?_
          refine zw_iload_n 1 f13_0 rfl rfl ?_
          refine zw_if_lt_f 4 22 f13_1 (by decide +kernel) rfl (nI_pos (by omega)) ?_
          refine zw_iload_n 5 f13_4 rfl rfl ?_
          refine zw_aload_n 6 f13_5 rfl rfl ?_
          refine zw_getI (nI nv) 9 f13_6 rfl g13_39_4 (hb_1 _ _ _ _) rfl ((K0.1 1 0 rfl).trans hR.1.1) ?_
          refine zw_ic_ge_f 12 22 f13_9 (by decide +kernel) rfl (fun q => absurd (zn_ge (a := nv) (b := t3) (by omega) (by omega) q) (by omega)) ?_
          refine zw_iload_n 13 f13_12 rfl rfl ?_
          refine zw_bipush 8 15 f13_13 rfl (by decide +kernel) ?_
          refine zw_ic_ge_f 18 22 f13_15 (by decide +kernel) rfl (fun q => absurd (zn_ge (a := 8) (b := t3) (by omega) (by omega) q) (by omega)) ?_
          refine zw_iconst 1 19 f13_18 rfl (by decide +kernel) ?_
          refine zw_goto 23 f13_19 (by decide +kernel) ?_
          refine zw_zreturn f13_23 r13 u13 (by decide +kernel) ⟨_, rfl, ?_⟩
          refine zw_if_eq_f 11 24 f51_8 (by decide +kernel) rfl (by decide +kernel) ?_
          refine zw_aload_n 12 f51_11 rfl rfl ?_
          refine zw_getfield 15 f51_12 rfl g51_18_10 (hb_11 _ _ _ _) rfl ?_
          refine zw_iload_n 16 f51_15 rfl rfl ?_
          refine zw_dup2 17 f51_16 rfl rfl rfl ?_
          refine zw_iaload t3 (A1 16 t3) 18 f51_17 rfl (hb_16 _ _ _ _) (nI_clamp (by omega)) (nI_pos (by omega)) (by omega) rfl ?_
          refine zw_iload_n 19 f51_18 rfl rfl ?_
          refine zw_iadd ((A1 16 t3) + 0) 20 f51_19 rfl rfl ?_
          refine zw_ast t3 _ 21 f51_20 rfl (hb_16 _ _ _ _) (nI_clamp (by omega)) (nI_pos (by omega)) (by omega) (ha_16 _ _ _ _ _) ?_
          refine zw_goto 34 f51_21 (by decide +kernel) ?_
          refine zw_vreturn f51_34 r51 u51 ⟨rfl, ?_⟩
          refine zw_vreturn f50_204 r50 u50 ?_
          have hk : k = np := by omega
          have hE : (mRO (P 60) (P 61) (P 62) (wRun nv P W) (W.2.2.2.2.1 v) v (s.1, s.2.1, s.1 v, 0) np) = (mRO (P 60) (P 61) (P 62) (wRun nv P W) (W.2.2.2.2.1 v) v (s.1, s.2.1, s.1 v, 0) k) := by rw [hk]
          have EL := (mRO_left (nv := nv) (np := np) (frm := P 60) (too := P 61) (amt := P 62) (run := (wRun nv P W)) (lev := W.2.2.2.2.1 v) (v := v) (s := s) h8 (fun p hpp z => hto p hpp z) k (by omega)).2
          have E := mRateOf_n (over := P 59) (brim := P 54) (g := W.1) (lev := W.2.2.2.2.1) (s := s) hE (fun q => absurd ((lg_cmp_lt _ _).mp hc2) (by rw [show W.2.2.2.2.1 v = _ from q.2]; exact i64_irr))
          rw [← EL] at E
          refine ⟨_, _, _, _, rfl, (KQ.a rfl (KQ.a rfl (KQ.a rfl K0))), ⟨?_, ⟨fun p hpp q => hf.1 p (by omega) q, hf.2⟩⟩, rfl⟩
          rw [E]
          exact ⟨mC_0 hr.1, hr.2.1, mC_n (fun j hj => (congrFun hr.2.2.1 j).trans (hs.2.2.1 j hj)) (Int32.sub_zero _), mC_k (fun j hj => (congrFun hr.2.2.2.1 j).trans (hs.2.2.2 j hj)) hz.symm⟩
      · refine zw_iconst 1 32 f52_31 rfl (by decide +kernel) ?_
        refine zw_goto 36 f52_32 (by decide +kernel) ?_
        refine zw_zreturn f52_36 r52 u52 (by decide +kernel) ⟨_, rfl, ?_⟩
        refine zw_if_eq_f 161 169 f50_158 (by decide +kernel) rfl (by decide +kernel) ?_
        refine zw_iload_n 162 f50_161 rfl h2 ?_
        refine zw_if_le 165 169 f50_162 (by decide +kernel) rfl (fun hc4 => ?_) (fun hc4 => ?_)
        · refine zw_iconst 0 170 f50_169 rfl (by decide +kernel) ?_
          refine zw_ast v _ 171 f50_170 rfl (hb_18 _ _ _ _) (nI_clamp (by omega)) (nI_pos (by omega)) (by omega) (ha_18 _ _ _ _ _) ?_
          refine zw_aload_n 172 f50_171 rfl h0 ?_
          refine zw_getfield 175 f50_172 rfl g50_22_10 (hb_11 _ _ _ _) rfl ?_
          refine zw_iload_n 176 f50_175 rfl h1 ?_
          refine zw_iload_n 177 f50_176 rfl h2 ?_
          refine zw_aload_n 178 f50_177 rfl h0 ?_
          refine zw_getfield 181 f50_178 rfl g50_25_10 (hb_11 _ _ _ _) rfl ?_
          refine zw_iload_n 182 f50_181 rfl h1 ?_
          refine zw_iaload v 0 183 f50_182 rfl (hb_18 _ _ _ _) (nI_clamp (by omega)) (nI_pos (by omega)) (by omega) (if_pos rfl) ?_
          refine zw_isub (((mRO (P 60) (P 61) (P 62) (wRun nv P W) (W.2.2.2.2.1 v) v (s.1, s.2.1, s.1 v, 0) k).2.2.1) - 0) 184 f50_183 rfl rfl ?_
          refine zw_ast v _ 185 f50_184 rfl (hb_17 _ _ _ _) (nI_clamp (by omega)) (nI_pos (by omega)) (by omega) (ha_17 _ _ _ _ _) ?_
          refine zw_aload_n 186 f50_185 rfl h0 ?_
          refine zw_aload_n 187 f50_186 rfl h0 ?_
          refine zw_getfield 190 f50_187 rfl g50_37_10 (hb_11 _ _ _ _) rfl ?_
          refine zw_getfield 193 f50_190 rfl g50_100_4 (hb_1 _ _ _ _) rfl ?_
          refine zw_iload_n 194 f50_193 rfl h1 ?_
          rcases (hp.2.2.1 v (by omega)).2.2.2.2.2 with t5q | ⟨t5, t5l, t5n, t5q⟩
          · refine zw_iaload v (-1) 195 f50_194 rfl (hb_8 _ _ _ _) (nI_clamp (by omega)) (nI_pos (by omega)) (by omega) ((congrFun ((K0.2.2.1 8 rfl).trans (hR.2.1 59 (by omega) (by omega))) v).trans t5q) ?_
            refine zw_aload_n 196 f50_195 rfl h0 ?_
            refine zw_getfield 199 f50_196 rfl g50_25_10 (hb_11 _ _ _ _) rfl ?_
            refine zw_iload_n 200 f50_199 rfl h1 ?_
            refine zw_iaload v 0 201 f50_200 rfl (hb_18 _ _ _ _) (nI_clamp (by omega)) (nI_pos (by omega)) (by omega) (if_pos rfl) ?_
            refine zw_virtual_v 204 0 0 [.ref 11, .int (-1), .int 0] [(0, .ref 11), (1, .int (-1)), (2, .int 0)] f50_201 rfl n50_76 k50_76_10 rfl (hb_11 _ _ _ _) (by decide +kernel) (Nat.le_of_ble_eq_true rfl) rfl rfl (by decide +kernel) (by decide +kernel) rfl (Nat.le_of_ble_eq_true rfl) rfl ?_
            refine zw_aload_n 1 f51_0 rfl rfl ?_
            refine zw_getfield 4 f51_1 rfl g51_37_10 (hb_11 _ _ _ _) rfl ?_
            refine zw_iload_n 5 f51_4 rfl rfl ?_
            refine zw_virtual_i 8 0 0 [.ref 1, .int (-1)] [(0, .ref 1), (1, .int (-1))] f51_5 rfl n51_103 k51_103_4 rfl (hb_1 _ _ _ _) (by decide +kernel) (Nat.le_of_ble_eq_true rfl) rfl rfl (by decide +kernel) (by decide +kernel) rfl (Nat.le_of_ble_eq_true rfl) rfl ?_
            refine zw_iload_n 1 f13_0 rfl rfl ?_
            refine zw_if_lt_t 22 f13_1 (by decide +kernel) (by decide +kernel) ?_
            refine zw_iconst 0 23 f13_22 rfl (by decide +kernel) ?_
            refine zw_zreturn f13_23 r13 u13 (by decide +kernel) ⟨_, rfl, ?_⟩
            refine zw_if_eq_t 24 f51_8 (by decide +kernel) (by decide +kernel) ?_
            refine zw_aload_n 25 f51_24 rfl rfl ?_
            refine zw_dup 26 f51_25 rfl rfl ?_
            refine zw_getI (I1 11 7) 29 f51_26 rfl g51_58_10 (hb_11 _ _ _ _) rfl rfl ?_
            refine zw_iload_n 30 f51_29 rfl rfl ?_
            refine zw_iadd ((I1 11 7) + 0) 31 f51_30 rfl rfl ?_
            refine zw_put _ 34 f51_31 rfl g51_58_10 (hb_11 _ _ _ _) rfl (Nat.le_of_ble_eq_true rfl) (by decide +kernel) (hi_11_7 _ _ _ _ _) ?_
            refine zw_vreturn f51_34 r51 u51 ⟨rfl, ?_⟩
            refine zw_vreturn f50_204 r50 u50 ?_
            have hk : k = np := by omega
            have hE : (mRO (P 60) (P 61) (P 62) (wRun nv P W) (W.2.2.2.2.1 v) v (s.1, s.2.1, s.1 v, 0) np) = (mRO (P 60) (P 61) (P 62) (wRun nv P W) (W.2.2.2.2.1 v) v (s.1, s.2.1, s.1 v, 0) k) := by rw [hk]
            have EL := (mRO_left (nv := nv) (np := np) (frm := P 60) (too := P 61) (amt := P 62) (run := (wRun nv P W)) (lev := W.2.2.2.2.1 v) (v := v) (s := s) h8 (fun p hpp z => hto p hpp z) k (by omega)).2
            have E := mRateOf_n (over := P 59) (brim := P 54) (g := W.1) (lev := W.2.2.2.2.1) (s := s) hE (fun q => absurd q.1 (by rw [← EL]; exact Int32.not_lt.mpr hc4))
            rw [← EL] at E
            refine ⟨_, _, _, _, rfl, (KQ.i rfl (KQ.a rfl (KQ.a rfl K0))), ⟨?_, ⟨fun p hpp q => hf.1 p (by omega) q, hf.2⟩⟩, rfl⟩
            rw [E]
            exact ⟨hr.1, (Int32.add_zero _).trans hr.2.1, mC_n (fun j hj => (congrFun hr.2.2.1 j).trans (hs.2.2.1 j hj)) (Int32.sub_zero _), mC_k (fun j hj => (congrFun hr.2.2.2.1 j).trans (hs.2.2.2 j hj)) hz.symm⟩
          · refine zw_iaload v (nI t5) 195 f50_194 rfl (hb_8 _ _ _ _) (nI_clamp (by omega)) (nI_pos (by omega)) (by omega) ((congrFun ((K0.2.2.1 8 rfl).trans (hR.2.1 59 (by omega) (by omega))) v).trans t5q) ?_
            refine zw_aload_n 196 f50_195 rfl h0 ?_
            refine zw_getfield 199 f50_196 rfl g50_25_10 (hb_11 _ _ _ _) rfl ?_
            refine zw_iload_n 200 f50_199 rfl h1 ?_
            refine zw_iaload v 0 201 f50_200 rfl (hb_18 _ _ _ _) (nI_clamp (by omega)) (nI_pos (by omega)) (by omega) (if_pos rfl) ?_
            refine zw_virtual_v 204 0 0 [.ref 11, .int (nI t5), .int 0] [(0, .ref 11), (1, .int (nI t5)), (2, .int 0)] f50_201 rfl n50_76 k50_76_10 rfl (hb_11 _ _ _ _) (by decide +kernel) (Nat.le_of_ble_eq_true rfl) rfl rfl (by decide +kernel) (by decide +kernel) rfl (Nat.le_of_ble_eq_true rfl) rfl ?_
            refine zw_aload_n 1 f51_0 rfl rfl ?_
            refine zw_getfield 4 f51_1 rfl g51_37_10 (hb_11 _ _ _ _) rfl ?_
            refine zw_iload_n 5 f51_4 rfl rfl ?_
            refine zw_virtual_i 8 0 0 [.ref 1, .int (nI t5)] [(0, .ref 1), (1, .int (nI t5))] f51_5 rfl n51_103 k51_103_4 rfl (hb_1 _ _ _ _) (by decide +kernel) (Nat.le_of_ble_eq_true rfl) rfl rfl (by decide +kernel) (by decide +kernel) rfl (Nat.le_of_ble_eq_true rfl) rfl ?_
            refine zw_iload_n 1 f13_0 rfl rfl ?_
            refine zw_if_lt_f 4 22 f13_1 (by decide +kernel) rfl (nI_pos (by omega)) ?_
            refine zw_iload_n 5 f13_4 rfl rfl ?_
            refine zw_aload_n 6 f13_5 rfl rfl ?_
            refine zw_getI (nI nv) 9 f13_6 rfl g13_39_4 (hb_1 _ _ _ _) rfl ((K0.1 1 0 rfl).trans hR.1.1) ?_
            refine zw_ic_ge_f 12 22 f13_9 (by decide +kernel) rfl (fun q => absurd (zn_ge (a := nv) (b := t5) (by omega) (by omega) q) (by omega)) ?_
            refine zw_iload_n 13 f13_12 rfl rfl ?_
            refine zw_bipush 8 15 f13_13 rfl (by decide +kernel) ?_
            refine zw_ic_ge_f 18 22 f13_15 (by decide +kernel) rfl (fun q => absurd (zn_ge (a := 8) (b := t5) (by omega) (by omega) q) (by omega)) ?_
            refine zw_iconst 1 19 f13_18 rfl (by decide +kernel) ?_
            refine zw_goto 23 f13_19 (by decide +kernel) ?_
            refine zw_zreturn f13_23 r13 u13 (by decide +kernel) ⟨_, rfl, ?_⟩
            refine zw_if_eq_f 11 24 f51_8 (by decide +kernel) rfl (by decide +kernel) ?_
            refine zw_aload_n 12 f51_11 rfl rfl ?_
            refine zw_getfield 15 f51_12 rfl g51_18_10 (hb_11 _ _ _ _) rfl ?_
            refine zw_iload_n 16 f51_15 rfl rfl ?_
            refine zw_dup2 17 f51_16 rfl rfl rfl ?_
            refine zw_iaload t5 (A1 16 t5) 18 f51_17 rfl (hb_16 _ _ _ _) (nI_clamp (by omega)) (nI_pos (by omega)) (by omega) rfl ?_
            refine zw_iload_n 19 f51_18 rfl rfl ?_
            refine zw_iadd ((A1 16 t5) + 0) 20 f51_19 rfl rfl ?_
            refine zw_ast t5 _ 21 f51_20 rfl (hb_16 _ _ _ _) (nI_clamp (by omega)) (nI_pos (by omega)) (by omega) (ha_16 _ _ _ _ _) ?_
            refine zw_goto 34 f51_21 (by decide +kernel) ?_
            refine zw_vreturn f51_34 r51 u51 ⟨rfl, ?_⟩
            refine zw_vreturn f50_204 r50 u50 ?_
            have hk : k = np := by omega
            have hE : (mRO (P 60) (P 61) (P 62) (wRun nv P W) (W.2.2.2.2.1 v) v (s.1, s.2.1, s.1 v, 0) np) = (mRO (P 60) (P 61) (P 62) (wRun nv P W) (W.2.2.2.2.1 v) v (s.1, s.2.1, s.1 v, 0) k) := by rw [hk]
            have EL := (mRO_left (nv := nv) (np := np) (frm := P 60) (too := P 61) (amt := P 62) (run := (wRun nv P W)) (lev := W.2.2.2.2.1 v) (v := v) (s := s) h8 (fun p hpp z => hto p hpp z) k (by omega)).2
            have E := mRateOf_n (over := P 59) (brim := P 54) (g := W.1) (lev := W.2.2.2.2.1) (s := s) hE (fun q => absurd q.1 (by rw [← EL]; exact Int32.not_lt.mpr hc4))
            rw [← EL] at E
            refine ⟨_, _, _, _, rfl, (KQ.a rfl (KQ.a rfl (KQ.a rfl K0))), ⟨?_, ⟨fun p hpp q => hf.1 p (by omega) q, hf.2⟩⟩, rfl⟩
            rw [E]
            exact ⟨mC_0 hr.1, hr.2.1, mC_n (fun j hj => (congrFun hr.2.2.1 j).trans (hs.2.2.1 j hj)) (Int32.sub_zero _), mC_k (fun j hj => (congrFun hr.2.2.2.1 j).trans (hs.2.2.2 j hj)) hz.symm⟩
        · refine zw_iload_n 166 f50_165 rfl h2 ?_
          refine zw_goto 170 f50_166 (by decide +kernel) ?_
          refine zw_ast v _ 171 f50_170 rfl (hb_18 _ _ _ _) (nI_clamp (by omega)) (nI_pos (by omega)) (by omega) (ha_18 _ _ _ _ _) ?_
          refine zw_aload_n 172 f50_171 rfl h0 ?_
          refine zw_getfield 175 f50_172 rfl g50_22_10 (hb_11 _ _ _ _) rfl ?_
          refine zw_iload_n 176 f50_175 rfl h1 ?_
          refine zw_iload_n 177 f50_176 rfl h2 ?_
          refine zw_aload_n 178 f50_177 rfl h0 ?_
          refine zw_getfield 181 f50_178 rfl g50_25_10 (hb_11 _ _ _ _) rfl ?_
          refine zw_iload_n 182 f50_181 rfl h1 ?_
          refine zw_iaload v ((mRO (P 60) (P 61) (P 62) (wRun nv P W) (W.2.2.2.2.1 v) v (s.1, s.2.1, s.1 v, 0) k).2.2.1) 183 f50_182 rfl (hb_18 _ _ _ _) (nI_clamp (by omega)) (nI_pos (by omega)) (by omega) (if_pos rfl) ?_
          refine zw_isub (((mRO (P 60) (P 61) (P 62) (wRun nv P W) (W.2.2.2.2.1 v) v (s.1, s.2.1, s.1 v, 0) k).2.2.1) - ((mRO (P 60) (P 61) (P 62) (wRun nv P W) (W.2.2.2.2.1 v) v (s.1, s.2.1, s.1 v, 0) k).2.2.1)) 184 f50_183 rfl rfl ?_
          refine zw_ast v _ 185 f50_184 rfl (hb_17 _ _ _ _) (nI_clamp (by omega)) (nI_pos (by omega)) (by omega) (ha_17 _ _ _ _ _) ?_
          refine zw_aload_n 186 f50_185 rfl h0 ?_
          refine zw_aload_n 187 f50_186 rfl h0 ?_
          refine zw_getfield 190 f50_187 rfl g50_37_10 (hb_11 _ _ _ _) rfl ?_
          refine zw_getfield 193 f50_190 rfl g50_100_4 (hb_1 _ _ _ _) rfl ?_
          refine zw_iload_n 194 f50_193 rfl h1 ?_
          rcases (hp.2.2.1 v (by omega)).2.2.2.2.2 with t6q | ⟨t6, t6l, t6n, t6q⟩
          · refine zw_iaload v (-1) 195 f50_194 rfl (hb_8 _ _ _ _) (nI_clamp (by omega)) (nI_pos (by omega)) (by omega) ((congrFun ((K0.2.2.1 8 rfl).trans (hR.2.1 59 (by omega) (by omega))) v).trans t6q) ?_
            refine zw_aload_n 196 f50_195 rfl h0 ?_
            refine zw_getfield 199 f50_196 rfl g50_25_10 (hb_11 _ _ _ _) rfl ?_
            refine zw_iload_n 200 f50_199 rfl h1 ?_
            refine zw_iaload v ((mRO (P 60) (P 61) (P 62) (wRun nv P W) (W.2.2.2.2.1 v) v (s.1, s.2.1, s.1 v, 0) k).2.2.1) 201 f50_200 rfl (hb_18 _ _ _ _) (nI_clamp (by omega)) (nI_pos (by omega)) (by omega) (if_pos rfl) ?_
            refine zw_virtual_v 204 0 0 [.ref 11, .int (-1), .int ((mRO (P 60) (P 61) (P 62) (wRun nv P W) (W.2.2.2.2.1 v) v (s.1, s.2.1, s.1 v, 0) k).2.2.1)] [(0, .ref 11), (1, .int (-1)), (2, .int ((mRO (P 60) (P 61) (P 62) (wRun nv P W) (W.2.2.2.2.1 v) v (s.1, s.2.1, s.1 v, 0) k).2.2.1))] f50_201 rfl n50_76 k50_76_10 rfl (hb_11 _ _ _ _) (by decide +kernel) (Nat.le_of_ble_eq_true rfl) rfl rfl (by decide +kernel) (by decide +kernel) rfl (Nat.le_of_ble_eq_true rfl) rfl ?_
            refine zw_aload_n 1 f51_0 rfl rfl ?_
            refine zw_getfield 4 f51_1 rfl g51_37_10 (hb_11 _ _ _ _) rfl ?_
            refine zw_iload_n 5 f51_4 rfl rfl ?_
            refine zw_virtual_i 8 0 0 [.ref 1, .int (-1)] [(0, .ref 1), (1, .int (-1))] f51_5 rfl n51_103 k51_103_4 rfl (hb_1 _ _ _ _) (by decide +kernel) (Nat.le_of_ble_eq_true rfl) rfl rfl (by decide +kernel) (by decide +kernel) rfl (Nat.le_of_ble_eq_true rfl) rfl ?_
            refine zw_iload_n 1 f13_0 rfl rfl ?_
            refine zw_if_lt_t 22 f13_1 (by decide +kernel) (by decide +kernel) ?_
            refine zw_iconst 0 23 f13_22 rfl (by decide +kernel) ?_
            refine zw_zreturn f13_23 r13 u13 (by decide +kernel) ⟨_, rfl, ?_⟩
            refine zw_if_eq_t 24 f51_8 (by decide +kernel) (by decide +kernel) ?_
            refine zw_aload_n 25 f51_24 rfl rfl ?_
            refine zw_dup 26 f51_25 rfl rfl ?_
            refine zw_getI (I1 11 7) 29 f51_26 rfl g51_58_10 (hb_11 _ _ _ _) rfl rfl ?_
            refine zw_iload_n 30 f51_29 rfl rfl ?_
            refine zw_iadd ((I1 11 7) + ((mRO (P 60) (P 61) (P 62) (wRun nv P W) (W.2.2.2.2.1 v) v (s.1, s.2.1, s.1 v, 0) k).2.2.1)) 31 f51_30 rfl rfl ?_
            refine zw_put _ 34 f51_31 rfl g51_58_10 (hb_11 _ _ _ _) rfl (Nat.le_of_ble_eq_true rfl) (by decide +kernel) (hi_11_7 _ _ _ _ _) ?_
            refine zw_vreturn f51_34 r51 u51 ⟨rfl, ?_⟩
            refine zw_vreturn f50_204 r50 u50 ?_
            have hk : k = np := by omega
            have hE : (mRO (P 60) (P 61) (P 62) (wRun nv P W) (W.2.2.2.2.1 v) v (s.1, s.2.1, s.1 v, 0) np) = (mRO (P 60) (P 61) (P 62) (wRun nv P W) (W.2.2.2.2.1 v) v (s.1, s.2.1, s.1 v, 0) k) := by rw [hk]
            have EL := (mRO_left (nv := nv) (np := np) (frm := P 60) (too := P 61) (amt := P 62) (run := (wRun nv P W)) (lev := W.2.2.2.2.1 v) (v := v) (s := s) h8 (fun p hpp z => hto p hpp z) k (by omega)).2
            have hx : 0 < ((mRO (P 60) (P 61) (P 62) (wRun nv P W) (W.2.2.2.2.1 v) v (s.1, s.2.1, s.1 v, 0) k).1 v - (mRO (P 60) (P 61) (P 62) (wRun nv P W) (W.2.2.2.2.1 v) v (s.1, s.2.1, s.1 v, 0) k).2.2.2) := by rw [← EL]; exact Int32.not_le.mp hc4
            have E := mRateOf_y (over := P 59) (brim := P 54) (g := W.1) (lev := W.2.2.2.2.1) (s := s) (-1) t6q hE hx (full_eq hp hW hv (Int64.not_lt.mpr (Int64.not_lt.mp (fun q => hc2 ((lg_cmp_lt _ _).mpr q)))))
            rw [← EL] at E
            rw [mGoC_m, mGoD_m] at E
            refine ⟨_, _, _, _, rfl, (KQ.i rfl (KQ.a rfl (KQ.a rfl K0))), ⟨?_, ⟨fun p hpp q => hf.1 p (by omega) q, hf.2⟩⟩, rfl⟩
            rw [E]
            exact ⟨hr.1, congrArg (fun z => z + ((mRO (P 60) (P 61) (P 62) (wRun nv P W) (W.2.2.2.2.1 v) v (s.1, s.2.1, s.1 v, 0) k).2.2.1)) hr.2.1, mC_n (fun j hj => (congrFun hr.2.2.1 j).trans (hs.2.2.1 j hj)) (Int32.sub_self _), mC_n (fun j hj => (congrFun hr.2.2.2.1 j).trans (hs.2.2.2 j hj)) rfl⟩
          · refine zw_iaload v (nI t6) 195 f50_194 rfl (hb_8 _ _ _ _) (nI_clamp (by omega)) (nI_pos (by omega)) (by omega) ((congrFun ((K0.2.2.1 8 rfl).trans (hR.2.1 59 (by omega) (by omega))) v).trans t6q) ?_
            refine zw_aload_n 196 f50_195 rfl h0 ?_
            refine zw_getfield 199 f50_196 rfl g50_25_10 (hb_11 _ _ _ _) rfl ?_
            refine zw_iload_n 200 f50_199 rfl h1 ?_
            refine zw_iaload v ((mRO (P 60) (P 61) (P 62) (wRun nv P W) (W.2.2.2.2.1 v) v (s.1, s.2.1, s.1 v, 0) k).2.2.1) 201 f50_200 rfl (hb_18 _ _ _ _) (nI_clamp (by omega)) (nI_pos (by omega)) (by omega) (if_pos rfl) ?_
            refine zw_virtual_v 204 0 0 [.ref 11, .int (nI t6), .int ((mRO (P 60) (P 61) (P 62) (wRun nv P W) (W.2.2.2.2.1 v) v (s.1, s.2.1, s.1 v, 0) k).2.2.1)] [(0, .ref 11), (1, .int (nI t6)), (2, .int ((mRO (P 60) (P 61) (P 62) (wRun nv P W) (W.2.2.2.2.1 v) v (s.1, s.2.1, s.1 v, 0) k).2.2.1))] f50_201 rfl n50_76 k50_76_10 rfl (hb_11 _ _ _ _) (by decide +kernel) (Nat.le_of_ble_eq_true rfl) rfl rfl (by decide +kernel) (by decide +kernel) rfl (Nat.le_of_ble_eq_true rfl) rfl ?_
            refine zw_aload_n 1 f51_0 rfl rfl ?_
            refine zw_getfield 4 f51_1 rfl g51_37_10 (hb_11 _ _ _ _) rfl ?_
            refine zw_iload_n 5 f51_4 rfl rfl ?_
            refine zw_virtual_i 8 0 0 [.ref 1, .int (nI t6)] [(0, .ref 1), (1, .int (nI t6))] f51_5 rfl n51_103 k51_103_4 rfl (hb_1 _ _ _ _) (by decide +kernel) (Nat.le_of_ble_eq_true rfl) rfl rfl (by decide +kernel) (by decide +kernel) rfl (Nat.le_of_ble_eq_true rfl) rfl ?_
            refine zw_iload_n 1 f13_0 rfl rfl ?_
            refine zw_if_lt_f 4 22 f13_1 (by decide +kernel) rfl (nI_pos (by omega)) ?_
            refine zw_iload_n 5 f13_4 rfl rfl ?_
            refine zw_aload_n 6 f13_5 rfl rfl ?_
            refine zw_getI (nI nv) 9 f13_6 rfl g13_39_4 (hb_1 _ _ _ _) rfl ((K0.1 1 0 rfl).trans hR.1.1) ?_
            refine zw_ic_ge_f 12 22 f13_9 (by decide +kernel) rfl (fun q => absurd (zn_ge (a := nv) (b := t6) (by omega) (by omega) q) (by omega)) ?_
            refine zw_iload_n 13 f13_12 rfl rfl ?_
            refine zw_bipush 8 15 f13_13 rfl (by decide +kernel) ?_
            refine zw_ic_ge_f 18 22 f13_15 (by decide +kernel) rfl (fun q => absurd (zn_ge (a := 8) (b := t6) (by omega) (by omega) q) (by omega)) ?_
            refine zw_iconst 1 19 f13_18 rfl (by decide +kernel) ?_
            refine zw_goto 23 f13_19 (by decide +kernel) ?_
            refine zw_zreturn f13_23 r13 u13 (by decide +kernel) ⟨_, rfl, ?_⟩
            refine zw_if_eq_f 11 24 f51_8 (by decide +kernel) rfl (by decide +kernel) ?_
            refine zw_aload_n 12 f51_11 rfl rfl ?_
            refine zw_getfield 15 f51_12 rfl g51_18_10 (hb_11 _ _ _ _) rfl ?_
            refine zw_iload_n 16 f51_15 rfl rfl ?_
            refine zw_dup2 17 f51_16 rfl rfl rfl ?_
            refine zw_iaload t6 (A1 16 t6) 18 f51_17 rfl (hb_16 _ _ _ _) (nI_clamp (by omega)) (nI_pos (by omega)) (by omega) rfl ?_
            refine zw_iload_n 19 f51_18 rfl rfl ?_
            refine zw_iadd ((A1 16 t6) + ((mRO (P 60) (P 61) (P 62) (wRun nv P W) (W.2.2.2.2.1 v) v (s.1, s.2.1, s.1 v, 0) k).2.2.1)) 20 f51_19 rfl rfl ?_
            refine zw_ast t6 _ 21 f51_20 rfl (hb_16 _ _ _ _) (nI_clamp (by omega)) (nI_pos (by omega)) (by omega) (ha_16 _ _ _ _ _) ?_
            refine zw_goto 34 f51_21 (by decide +kernel) ?_
            refine zw_vreturn f51_34 r51 u51 ⟨rfl, ?_⟩
            refine zw_vreturn f50_204 r50 u50 ?_
            have hk : k = np := by omega
            have hE : (mRO (P 60) (P 61) (P 62) (wRun nv P W) (W.2.2.2.2.1 v) v (s.1, s.2.1, s.1 v, 0) np) = (mRO (P 60) (P 61) (P 62) (wRun nv P W) (W.2.2.2.2.1 v) v (s.1, s.2.1, s.1 v, 0) k) := by rw [hk]
            have EL := (mRO_left (nv := nv) (np := np) (frm := P 60) (too := P 61) (amt := P 62) (run := (wRun nv P W)) (lev := W.2.2.2.2.1 v) (v := v) (s := s) h8 (fun p hpp z => hto p hpp z) k (by omega)).2
            have hx : 0 < ((mRO (P 60) (P 61) (P 62) (wRun nv P W) (W.2.2.2.2.1 v) v (s.1, s.2.1, s.1 v, 0) k).1 v - (mRO (P 60) (P 61) (P 62) (wRun nv P W) (W.2.2.2.2.1 v) v (s.1, s.2.1, s.1 v, 0) k).2.2.2) := by rw [← EL]; exact Int32.not_le.mp hc4
            have E := mRateOf_y (over := P 59) (brim := P 54) (g := W.1) (lev := W.2.2.2.2.1) (s := s) (nI t6) t6q hE hx (full_eq hp hW hv (Int64.not_lt.mpr (Int64.not_lt.mp (fun q => hc2 ((lg_cmp_lt _ _).mpr q)))))
            rw [← EL] at E
            rw [mGoC_t (by omega), mGoD_t (by omega)] at E
            refine ⟨_, _, _, _, rfl, (KQ.a rfl (KQ.a rfl (KQ.a rfl K0))), ⟨?_, ⟨fun p hpp q => hf.1 p (by omega) q, hf.2⟩⟩, rfl⟩
            rw [E]
            exact ⟨mC_t hr.1 (by omega), hr.2.1, mC_n (fun j hj => (congrFun hr.2.2.1 j).trans (hs.2.2.1 j hj)) (Int32.sub_self _), mC_n (fun j hj => (congrFun hr.2.2.2.1 j).trans (hs.2.2.2 j hj)) rfl⟩
    · have hn_hc1 : k < np := zn_lt (by omega) (by omega) hc1
      refine zw_aload_n 43 f50_42 rfl h0 ?_
      refine zw_getfield 46 f50_43 rfl g50_37_10 (hb_11 _ _ _ _) rfl ?_
      refine zw_getfield 49 f50_46 rfl g50_64_4 (hb_1 _ _ _ _) rfl ?_
      refine zw_iload 51 f50_49 rfl h4 ?_
      refine zw_iaload k (P 60 k) 52 f50_51 rfl (hb_9 _ _ _ _) (nI_clamp (by omega)) (nI_pos (by omega)) (by omega) (congrFun (((K0.2.2.1 9 rfl).trans (hR.2.1 60 (by omega) (by omega)))) k) ?_
      refine zw_iload_n 53 f50_52 rfl h1 ?_
      refine zw_ic_ne 56 142 f50_53 (by decide +kernel) rfl (fun hc7 => ?_) (fun hc7 => ?_)
      · refine zw_iinc (nI (k + 1)) _ 145 f50_142 rfl h4 (by decide +kernel) (nI_1 _) rfl ?_
        refine zw_goto 30 f50_145 (by decide +kernel) ?_
        have E := mRO_n (frm := P 60) (too := P 61) (amt := P 62) (run := (wRun nv P W)) (lev := W.2.2.2.2.1 v) (v := v) (s := (s.1, s.2.1, s.1 v, 0)) (k := k) (fun q => hc7 q.1)
        exact ih (k + 1) _ _ _ _ _ K0 (by rw [E]; exact hr) (fc_n (r := A1 19) (r0 := A 19) (F := fun p => mFs (P 60) (P 61) (P 62) (wRun nv P W) W.2.2.2.2.1 v s p) (c := fun p => P 60 p = nI v) (k := k) hf hc7) (zl1_ne rfl rfl h0) (zl1_ne rfl rfl h1) (by rw [E]; exact (zl1_ne rfl rfl h2)) (zl1_ne rfl rfl h3) zl1_eq (by omega) (by omega)
      · refine zw_iload_n 57 f50_56 rfl h3 ?_
        refine zw_if_eq_t 73 f50_57 (by decide +kernel) (by decide +kernel) ?_
        refine zw_aload_n 74 f50_73 rfl h0 ?_
        refine zw_getfield 77 f50_74 rfl g50_12_10 (hb_11 _ _ _ _) rfl ?_
        refine zw_getfield 80 f50_77 rfl g50_70_9 (hb_12 _ _ _ _) rfl ?_
        refine zw_iload 82 f50_80 rfl h4 ?_
        refine zw_iaload k (P 62 k) 83 f50_82 rfl (hb_15 _ _ _ _) (nI_clamp (by omega)) (nI_pos (by omega)) (by omega) (congrFun (((K0.2.2.1 15 rfl).trans (hR.2.1 62 (by omega) (by omega)))) k) ?_
        refine zw_iload_n 84 f50_83 rfl h2 ?_
        refine zw_static_i 87 0 0 [.int (P 62 k), .int ((mRO (P 60) (P 61) (P 62) (wRun nv P W) (W.2.2.2.2.1 v) v (s.1, s.2.1, s.1 v, 0) k).2.2.1)] [] [(0, .int (P 62 k)), (1, .int ((mRO (P 60) (P 61) (P 62) (wRun nv P W) (W.2.2.2.2.1 v) v (s.1, s.2.1, s.1 v, 0) k).2.2.1))] f50_84 rfl k50_91_99 rfl (by decide +kernel) (Nat.le_of_ble_eq_true rfl) (Nat.le_of_ble_eq_true rfl) rfl rfl (by decide +kernel) (by decide +kernel) rfl (Nat.le_of_ble_eq_true rfl) rfl ?_
        refine zw_iload_n 1 f187_0 rfl rfl ?_
        refine zw_iload_n 2 f187_1 rfl rfl ?_
        refine zw_ic_gt 5 9 f187_2 (by decide +kernel) rfl (fun hc8 => ?_) (fun hc8 => ?_)
        · refine zw_iload_n 10 f187_9 rfl rfl ?_
          refine zw_ireturn f187_10 r187 u187 ⟨_, rfl, ?_⟩
          refine zw_istore _ 89 f50_87 rfl (by decide +kernel) rfl ?_
          refine zw_aload_n 90 f50_89 rfl (zl1_ne rfl rfl h0) ?_
          refine zw_getfield 93 f50_90 rfl g50_28_10 (hb_11 _ _ _ _) rfl ?_
          refine zw_iload 95 f50_93 rfl (zl1_ne rfl rfl h4) ?_
          refine zw_aload_n 96 f50_95 rfl (zl1_ne rfl rfl h0) ?_
          refine zw_iload 98 f50_96 rfl (zl1_ne rfl rfl h4) ?_
          refine zw_virtual_i 101 0 0 [.ref 11, .int (nI k)] [(0, .ref 11), (1, .int (nI k))] f50_98 rfl n50_67 k50_67_10 rfl (hb_11 _ _ _ _) (by decide +kernel) (Nat.le_of_ble_eq_true rfl) rfl rfl (by decide +kernel) (by decide +kernel) rfl (Nat.le_of_ble_eq_true rfl) rfl ?_
          refine zWp.mono (cx_runs_11 ro nv np P W _ _ _ _ (hR.k K0 ⟨rfl, rfl⟩ (fCr_w 11) (pCr_w 11 (by omega))) hp hb hq k (by omega)) ?_
          rintro r h1 ⟨rfl, rfl⟩
          refine ⟨_, rfl, ?_⟩
          refine zw_if_eq 104 109 f50_101 (by decide +kernel) rfl (fun hc9 => ?_) (fun hc9 => ?_)
          · refine zw_iconst 0 110 f50_109 rfl (by decide +kernel) ?_
            refine zw_ast k _ 111 f50_110 rfl (hb_19 _ _ _ _) (nI_clamp (by omega)) (nI_pos (by omega)) (by omega) (ha_19 _ _ _ _ _) ?_
            refine zw_iload_n 112 f50_111 rfl (zl1_ne rfl rfl h2) ?_
            refine zw_aload_n 113 f50_112 rfl (zl1_ne rfl rfl h0) ?_
            refine zw_getfield 116 f50_113 rfl g50_28_10 (hb_11 _ _ _ _) rfl ?_
            refine zw_iload 118 f50_116 rfl (zl1_ne rfl rfl h4) ?_
            refine zw_iaload k 0 119 f50_118 rfl (hb_19 _ _ _ _) (nI_clamp (by omega)) (nI_pos (by omega)) (by omega) (if_pos rfl) ?_
            refine zw_isub (((mRO (P 60) (P 61) (P 62) (wRun nv P W) (W.2.2.2.2.1 v) v (s.1, s.2.1, s.1 v, 0) k).2.2.1) - 0) 120 f50_119 rfl rfl ?_
            refine zw_istore_n _ 121 f50_120 rfl (by decide +kernel) rfl ?_
            refine zw_aload_n 122 f50_121 rfl (zl1_ne rfl rfl (zl1_ne rfl rfl h0)) ?_
            refine zw_aload_n 123 f50_122 rfl (zl1_ne rfl rfl (zl1_ne rfl rfl h0)) ?_
            refine zw_getfield 126 f50_123 rfl g50_37_10 (hb_11 _ _ _ _) rfl ?_
            refine zw_getfield 129 f50_126 rfl g50_73_4 (hb_1 _ _ _ _) rfl ?_
            refine zw_iload 131 f50_129 rfl (zl1_ne rfl rfl (zl1_ne rfl rfl h4)) ?_
            rcases (hp.2.2.2 k (by omega)).1 with t10q | ⟨t10, t10l, t10n, t10q⟩
            · refine zw_iaload k (-1) 132 f50_131 rfl (hb_10 _ _ _ _) (nI_clamp (by omega)) (nI_pos (by omega)) (by omega) ((congrFun ((K0.2.2.1 10 rfl).trans (hR.2.1 61 (by omega) (by omega))) k).trans t10q) ?_
              refine zw_aload_n 133 f50_132 rfl (zl1_ne rfl rfl (zl1_ne rfl rfl h0)) ?_
              refine zw_getfield 136 f50_133 rfl g50_28_10 (hb_11 _ _ _ _) rfl ?_
              refine zw_iload 138 f50_136 rfl (zl1_ne rfl rfl (zl1_ne rfl rfl h4)) ?_
              refine zw_iaload k 0 139 f50_138 rfl (hb_19 _ _ _ _) (nI_clamp (by omega)) (nI_pos (by omega)) (by omega) (if_pos rfl) ?_
              refine zw_virtual_v 142 0 0 [.ref 11, .int (-1), .int 0] [(0, .ref 11), (1, .int (-1)), (2, .int 0)] f50_139 rfl n50_76 k50_76_10 rfl (hb_11 _ _ _ _) (by decide +kernel) (Nat.le_of_ble_eq_true rfl) rfl rfl (by decide +kernel) (by decide +kernel) rfl (Nat.le_of_ble_eq_true rfl) rfl ?_
              refine zw_aload_n 1 f51_0 rfl rfl ?_
              refine zw_getfield 4 f51_1 rfl g51_37_10 (hb_11 _ _ _ _) rfl ?_
              refine zw_iload_n 5 f51_4 rfl rfl ?_
              refine zw_virtual_i 8 0 0 [.ref 1, .int (-1)] [(0, .ref 1), (1, .int (-1))] f51_5 rfl n51_103 k51_103_4 rfl (hb_1 _ _ _ _) (by decide +kernel) (Nat.le_of_ble_eq_true rfl) rfl rfl (by decide +kernel) (by decide +kernel) rfl (Nat.le_of_ble_eq_true rfl) rfl ?_
              refine zw_iload_n 1 f13_0 rfl rfl ?_
              refine zw_if_lt_t 22 f13_1 (by decide +kernel) (by decide +kernel) ?_
              refine zw_iconst 0 23 f13_22 rfl (by decide +kernel) ?_
              refine zw_zreturn f13_23 r13 u13 (by decide +kernel) ⟨_, rfl, ?_⟩
              refine zw_if_eq_t 24 f51_8 (by decide +kernel) (by decide +kernel) ?_
              refine zw_aload_n 25 f51_24 rfl rfl ?_
              refine zw_dup 26 f51_25 rfl rfl ?_
              refine zw_getI (I1 11 7) 29 f51_26 rfl g51_58_10 (hb_11 _ _ _ _) rfl rfl ?_
              refine zw_iload_n 30 f51_29 rfl rfl ?_
              refine zw_iadd ((I1 11 7) + 0) 31 f51_30 rfl rfl ?_
              refine zw_put _ 34 f51_31 rfl g51_58_10 (hb_11 _ _ _ _) rfl (Nat.le_of_ble_eq_true rfl) (by decide +kernel) (hi_11_7 _ _ _ _ _) ?_
              refine zw_vreturn f51_34 r51 u51 ⟨rfl, ?_⟩
              refine zw_iinc (nI (k + 1)) _ 145 f50_142 rfl (zl1_ne rfl rfl (zl1_ne rfl rfl h4)) (by decide +kernel) (nI_1 _) rfl ?_
              refine zw_goto 30 f50_145 (by decide +kernel) ?_
              have E := mRO_n (frm := P 60) (too := P 61) (amt := P 62) (run := (wRun nv P W)) (lev := W.2.2.2.2.1 v) (v := v) (s := (s.1, s.2.1, s.1 v, 0)) (k := k) (fun q => q.2 hc9)
              exact ih (k + 1) _ _ _ _ _ (KQ.i rfl (KQ.a rfl K0)) (by rw [E]; exact ⟨hr.1, (Int32.add_zero _).trans hr.2.1, hr.2.2⟩) (fc_y (r := A1 19) (r0 := A 19) (F := fun p => mFs (P 60) (P 61) (P 62) (wRun nv P W) W.2.2.2.2.1 v s p) (c := fun p => P 60 p = nI v) (k := k) hf (Decidable.of_not_not hc7) rfl (cI_y hc9).symm) (zl1_ne rfl rfl (zl1_ne rfl rfl (zl1_ne rfl rfl h0))) (zl1_ne rfl rfl (zl1_ne rfl rfl (zl1_ne rfl rfl h1))) (by rw [E]; exact (zld_s0 (zl1_ne rfl rfl zl1_eq))) (zl1_ne rfl rfl (zl1_ne rfl rfl (zl1_ne rfl rfl h3))) zl1_eq (by omega) (by omega)
            · refine zw_iaload k (nI t10) 132 f50_131 rfl (hb_10 _ _ _ _) (nI_clamp (by omega)) (nI_pos (by omega)) (by omega) ((congrFun ((K0.2.2.1 10 rfl).trans (hR.2.1 61 (by omega) (by omega))) k).trans t10q) ?_
              refine zw_aload_n 133 f50_132 rfl (zl1_ne rfl rfl (zl1_ne rfl rfl h0)) ?_
              refine zw_getfield 136 f50_133 rfl g50_28_10 (hb_11 _ _ _ _) rfl ?_
              refine zw_iload 138 f50_136 rfl (zl1_ne rfl rfl (zl1_ne rfl rfl h4)) ?_
              refine zw_iaload k 0 139 f50_138 rfl (hb_19 _ _ _ _) (nI_clamp (by omega)) (nI_pos (by omega)) (by omega) (if_pos rfl) ?_
              refine zw_virtual_v 142 0 0 [.ref 11, .int (nI t10), .int 0] [(0, .ref 11), (1, .int (nI t10)), (2, .int 0)] f50_139 rfl n50_76 k50_76_10 rfl (hb_11 _ _ _ _) (by decide +kernel) (Nat.le_of_ble_eq_true rfl) rfl rfl (by decide +kernel) (by decide +kernel) rfl (Nat.le_of_ble_eq_true rfl) rfl ?_
              refine zw_aload_n 1 f51_0 rfl rfl ?_
              refine zw_getfield 4 f51_1 rfl g51_37_10 (hb_11 _ _ _ _) rfl ?_
              refine zw_iload_n 5 f51_4 rfl rfl ?_
              refine zw_virtual_i 8 0 0 [.ref 1, .int (nI t10)] [(0, .ref 1), (1, .int (nI t10))] f51_5 rfl n51_103 k51_103_4 rfl (hb_1 _ _ _ _) (by decide +kernel) (Nat.le_of_ble_eq_true rfl) rfl rfl (by decide +kernel) (by decide +kernel) rfl (Nat.le_of_ble_eq_true rfl) rfl ?_
              refine zw_iload_n 1 f13_0 rfl rfl ?_
              refine zw_if_lt_f 4 22 f13_1 (by decide +kernel) rfl (nI_pos (by omega)) ?_
              refine zw_iload_n 5 f13_4 rfl rfl ?_
              refine zw_aload_n 6 f13_5 rfl rfl ?_
              refine zw_getI (nI nv) 9 f13_6 rfl g13_39_4 (hb_1 _ _ _ _) rfl ((K0.1 1 0 rfl).trans hR.1.1) ?_
              refine zw_ic_ge_f 12 22 f13_9 (by decide +kernel) rfl (fun q => absurd (zn_ge (a := nv) (b := t10) (by omega) (by omega) q) (by omega)) ?_
              refine zw_iload_n 13 f13_12 rfl rfl ?_
              refine zw_bipush 8 15 f13_13 rfl (by decide +kernel) ?_
              refine zw_ic_ge_f 18 22 f13_15 (by decide +kernel) rfl (fun q => absurd (zn_ge (a := 8) (b := t10) (by omega) (by omega) q) (by omega)) ?_
              refine zw_iconst 1 19 f13_18 rfl (by decide +kernel) ?_
              refine zw_goto 23 f13_19 (by decide +kernel) ?_
              refine zw_zreturn f13_23 r13 u13 (by decide +kernel) ⟨_, rfl, ?_⟩
              refine zw_if_eq_f 11 24 f51_8 (by decide +kernel) rfl (by decide +kernel) ?_
              refine zw_aload_n 12 f51_11 rfl rfl ?_
              refine zw_getfield 15 f51_12 rfl g51_18_10 (hb_11 _ _ _ _) rfl ?_
              refine zw_iload_n 16 f51_15 rfl rfl ?_
              refine zw_dup2 17 f51_16 rfl rfl rfl ?_
              refine zw_iaload t10 (A1 16 t10) 18 f51_17 rfl (hb_16 _ _ _ _) (nI_clamp (by omega)) (nI_pos (by omega)) (by omega) rfl ?_
              refine zw_iload_n 19 f51_18 rfl rfl ?_
              refine zw_iadd ((A1 16 t10) + 0) 20 f51_19 rfl rfl ?_
              refine zw_ast t10 _ 21 f51_20 rfl (hb_16 _ _ _ _) (nI_clamp (by omega)) (nI_pos (by omega)) (by omega) (ha_16 _ _ _ _ _) ?_
              refine zw_goto 34 f51_21 (by decide +kernel) ?_
              refine zw_vreturn f51_34 r51 u51 ⟨rfl, ?_⟩
              refine zw_iinc (nI (k + 1)) _ 145 f50_142 rfl (zl1_ne rfl rfl (zl1_ne rfl rfl h4)) (by decide +kernel) (nI_1 _) rfl ?_
              refine zw_goto 30 f50_145 (by decide +kernel) ?_
              have E := mRO_n (frm := P 60) (too := P 61) (amt := P 62) (run := (wRun nv P W)) (lev := W.2.2.2.2.1 v) (v := v) (s := (s.1, s.2.1, s.1 v, 0)) (k := k) (fun q => q.2 hc9)
              exact ih (k + 1) _ _ _ _ _ (KQ.a rfl (KQ.a rfl K0)) (by rw [E]; exact ⟨mC_0 hr.1, hr.2⟩) (fc_y (r := A1 19) (r0 := A 19) (F := fun p => mFs (P 60) (P 61) (P 62) (wRun nv P W) W.2.2.2.2.1 v s p) (c := fun p => P 60 p = nI v) (k := k) hf (Decidable.of_not_not hc7) rfl (cI_y hc9).symm) (zl1_ne rfl rfl (zl1_ne rfl rfl (zl1_ne rfl rfl h0))) (zl1_ne rfl rfl (zl1_ne rfl rfl (zl1_ne rfl rfl h1))) (by rw [E]; exact (zld_s0 (zl1_ne rfl rfl zl1_eq))) (zl1_ne rfl rfl (zl1_ne rfl rfl (zl1_ne rfl rfl h3))) zl1_eq (by omega) (by omega)
          · refine zw_iload 106 f50_104 rfl zl1_eq ?_
            refine zw_goto 110 f50_106 (by decide +kernel) ?_
            refine zw_ast k _ 111 f50_110 rfl (hb_19 _ _ _ _) (nI_clamp (by omega)) (nI_pos (by omega)) (by omega) (ha_19 _ _ _ _ _) ?_
            refine zw_iload_n 112 f50_111 rfl (zl1_ne rfl rfl h2) ?_
            refine zw_aload_n 113 f50_112 rfl (zl1_ne rfl rfl h0) ?_
            refine zw_getfield 116 f50_113 rfl g50_28_10 (hb_11 _ _ _ _) rfl ?_
            refine zw_iload 118 f50_116 rfl (zl1_ne rfl rfl h4) ?_
            refine zw_iaload k ((mRO (P 60) (P 61) (P 62) (wRun nv P W) (W.2.2.2.2.1 v) v (s.1, s.2.1, s.1 v, 0) k).2.2.1) 119 f50_118 rfl (hb_19 _ _ _ _) (nI_clamp (by omega)) (nI_pos (by omega)) (by omega) (if_pos rfl) ?_
            refine zw_isub (((mRO (P 60) (P 61) (P 62) (wRun nv P W) (W.2.2.2.2.1 v) v (s.1, s.2.1, s.1 v, 0) k).2.2.1) - ((mRO (P 60) (P 61) (P 62) (wRun nv P W) (W.2.2.2.2.1 v) v (s.1, s.2.1, s.1 v, 0) k).2.2.1)) 120 f50_119 rfl rfl ?_
            refine zw_istore_n _ 121 f50_120 rfl (by decide +kernel) rfl ?_
            refine zw_aload_n 122 f50_121 rfl (zl1_ne rfl rfl (zl1_ne rfl rfl h0)) ?_
            refine zw_aload_n 123 f50_122 rfl (zl1_ne rfl rfl (zl1_ne rfl rfl h0)) ?_
            refine zw_getfield 126 f50_123 rfl g50_37_10 (hb_11 _ _ _ _) rfl ?_
            refine zw_getfield 129 f50_126 rfl g50_73_4 (hb_1 _ _ _ _) rfl ?_
            refine zw_iload 131 f50_129 rfl (zl1_ne rfl rfl (zl1_ne rfl rfl h4)) ?_
            rcases (hp.2.2.2 k (by omega)).1 with t11q | ⟨t11, t11l, t11n, t11q⟩
            · refine zw_iaload k (-1) 132 f50_131 rfl (hb_10 _ _ _ _) (nI_clamp (by omega)) (nI_pos (by omega)) (by omega) ((congrFun ((K0.2.2.1 10 rfl).trans (hR.2.1 61 (by omega) (by omega))) k).trans t11q) ?_
              refine zw_aload_n 133 f50_132 rfl (zl1_ne rfl rfl (zl1_ne rfl rfl h0)) ?_
              refine zw_getfield 136 f50_133 rfl g50_28_10 (hb_11 _ _ _ _) rfl ?_
              refine zw_iload 138 f50_136 rfl (zl1_ne rfl rfl (zl1_ne rfl rfl h4)) ?_
              refine zw_iaload k ((mRO (P 60) (P 61) (P 62) (wRun nv P W) (W.2.2.2.2.1 v) v (s.1, s.2.1, s.1 v, 0) k).2.2.1) 139 f50_138 rfl (hb_19 _ _ _ _) (nI_clamp (by omega)) (nI_pos (by omega)) (by omega) (if_pos rfl) ?_
              refine zw_virtual_v 142 0 0 [.ref 11, .int (-1), .int ((mRO (P 60) (P 61) (P 62) (wRun nv P W) (W.2.2.2.2.1 v) v (s.1, s.2.1, s.1 v, 0) k).2.2.1)] [(0, .ref 11), (1, .int (-1)), (2, .int ((mRO (P 60) (P 61) (P 62) (wRun nv P W) (W.2.2.2.2.1 v) v (s.1, s.2.1, s.1 v, 0) k).2.2.1))] f50_139 rfl n50_76 k50_76_10 rfl (hb_11 _ _ _ _) (by decide +kernel) (Nat.le_of_ble_eq_true rfl) rfl rfl (by decide +kernel) (by decide +kernel) rfl (Nat.le_of_ble_eq_true rfl) rfl ?_
              refine zw_aload_n 1 f51_0 rfl rfl ?_
              refine zw_getfield 4 f51_1 rfl g51_37_10 (hb_11 _ _ _ _) rfl ?_
              refine zw_iload_n 5 f51_4 rfl rfl ?_
              refine zw_virtual_i 8 0 0 [.ref 1, .int (-1)] [(0, .ref 1), (1, .int (-1))] f51_5 rfl n51_103 k51_103_4 rfl (hb_1 _ _ _ _) (by decide +kernel) (Nat.le_of_ble_eq_true rfl) rfl rfl (by decide +kernel) (by decide +kernel) rfl (Nat.le_of_ble_eq_true rfl) rfl ?_
              refine zw_iload_n 1 f13_0 rfl rfl ?_
              refine zw_if_lt_t 22 f13_1 (by decide +kernel) (by decide +kernel) ?_
              refine zw_iconst 0 23 f13_22 rfl (by decide +kernel) ?_
              refine zw_zreturn f13_23 r13 u13 (by decide +kernel) ⟨_, rfl, ?_⟩
              refine zw_if_eq_t 24 f51_8 (by decide +kernel) (by decide +kernel) ?_
              refine zw_aload_n 25 f51_24 rfl rfl ?_
              refine zw_dup 26 f51_25 rfl rfl ?_
              refine zw_getI (I1 11 7) 29 f51_26 rfl g51_58_10 (hb_11 _ _ _ _) rfl rfl ?_
              refine zw_iload_n 30 f51_29 rfl rfl ?_
              refine zw_iadd ((I1 11 7) + ((mRO (P 60) (P 61) (P 62) (wRun nv P W) (W.2.2.2.2.1 v) v (s.1, s.2.1, s.1 v, 0) k).2.2.1)) 31 f51_30 rfl rfl ?_
              refine zw_put _ 34 f51_31 rfl g51_58_10 (hb_11 _ _ _ _) rfl (Nat.le_of_ble_eq_true rfl) (by decide +kernel) (hi_11_7 _ _ _ _ _) ?_
              refine zw_vreturn f51_34 r51 u51 ⟨rfl, ?_⟩
              refine zw_iinc (nI (k + 1)) _ 145 f50_142 rfl (zl1_ne rfl rfl (zl1_ne rfl rfl h4)) (by decide +kernel) (nI_1 _) rfl ?_
              refine zw_goto 30 f50_145 (by decide +kernel) ?_
              have E := mRO_y (frm := P 60) (too := P 61) (amt := P 62) (run := (wRun nv P W)) (lev := W.2.2.2.2.1 v) (v := v) (s := (s.1, s.2.1, s.1 v, 0)) (k := k) ((mRO (P 60) (P 61) (P 62) (wRun nv P W) (W.2.2.2.2.1 v) v (s.1, s.2.1, s.1 v, 0) k).2.2.1) (-1) t11q (mFl_l hw hc8) (Decidable.of_not_not hc7) hc9
              rw [mGoC_m, mGoD_m] at E
              have hfl : mFs (P 60) (P 61) (P 62) (wRun nv P W) W.2.2.2.2.1 v s k = ((mRO (P 60) (P 61) (P 62) (wRun nv P W) (W.2.2.2.2.1 v) v (s.1, s.2.1, s.1 v, 0) k).2.2.1) := (cI_n hc9).trans (mFl_l hw hc8)
              exact ih (k + 1) _ _ _ _ _ (KQ.i rfl (KQ.a rfl K0)) (by rw [E]; exact ⟨hr.1, congrArg (fun z => z + ((mRO (P 60) (P 61) (P 62) (wRun nv P W) (W.2.2.2.2.1 v) v (s.1, s.2.1, s.1 v, 0) k).2.2.1)) hr.2.1, hr.2.2⟩) (fc_y (r := A1 19) (r0 := A 19) (F := fun p => mFs (P 60) (P 61) (P 62) (wRun nv P W) W.2.2.2.2.1 v s p) (c := fun p => P 60 p = nI v) (k := k) hf (Decidable.of_not_not hc7) rfl hfl.symm) (zl1_ne rfl rfl (zl1_ne rfl rfl (zl1_ne rfl rfl h0))) (zl1_ne rfl rfl (zl1_ne rfl rfl (zl1_ne rfl rfl h1))) (by rw [E]; exact (zl1_ne rfl rfl zl1_eq)) (zl1_ne rfl rfl (zl1_ne rfl rfl (zl1_ne rfl rfl h3))) zl1_eq (by omega) (by omega)
            · refine zw_iaload k (nI t11) 132 f50_131 rfl (hb_10 _ _ _ _) (nI_clamp (by omega)) (nI_pos (by omega)) (by omega) ((congrFun ((K0.2.2.1 10 rfl).trans (hR.2.1 61 (by omega) (by omega))) k).trans t11q) ?_
              refine zw_aload_n 133 f50_132 rfl (zl1_ne rfl rfl (zl1_ne rfl rfl h0)) ?_
              refine zw_getfield 136 f50_133 rfl g50_28_10 (hb_11 _ _ _ _) rfl ?_
              refine zw_iload 138 f50_136 rfl (zl1_ne rfl rfl (zl1_ne rfl rfl h4)) ?_
              refine zw_iaload k ((mRO (P 60) (P 61) (P 62) (wRun nv P W) (W.2.2.2.2.1 v) v (s.1, s.2.1, s.1 v, 0) k).2.2.1) 139 f50_138 rfl (hb_19 _ _ _ _) (nI_clamp (by omega)) (nI_pos (by omega)) (by omega) (if_pos rfl) ?_
              refine zw_virtual_v 142 0 0 [.ref 11, .int (nI t11), .int ((mRO (P 60) (P 61) (P 62) (wRun nv P W) (W.2.2.2.2.1 v) v (s.1, s.2.1, s.1 v, 0) k).2.2.1)] [(0, .ref 11), (1, .int (nI t11)), (2, .int ((mRO (P 60) (P 61) (P 62) (wRun nv P W) (W.2.2.2.2.1 v) v (s.1, s.2.1, s.1 v, 0) k).2.2.1))] f50_139 rfl n50_76 k50_76_10 rfl (hb_11 _ _ _ _) (by decide +kernel) (Nat.le_of_ble_eq_true rfl) rfl rfl (by decide +kernel) (by decide +kernel) rfl (Nat.le_of_ble_eq_true rfl) rfl ?_
              refine zw_aload_n 1 f51_0 rfl rfl ?_
              refine zw_getfield 4 f51_1 rfl g51_37_10 (hb_11 _ _ _ _) rfl ?_
              refine zw_iload_n 5 f51_4 rfl rfl ?_
              refine zw_virtual_i 8 0 0 [.ref 1, .int (nI t11)] [(0, .ref 1), (1, .int (nI t11))] f51_5 rfl n51_103 k51_103_4 rfl (hb_1 _ _ _ _) (by decide +kernel) (Nat.le_of_ble_eq_true rfl) rfl rfl (by decide +kernel) (by decide +kernel) rfl (Nat.le_of_ble_eq_true rfl) rfl ?_
              refine zw_iload_n 1 f13_0 rfl rfl ?_
              refine zw_if_lt_f 4 22 f13_1 (by decide +kernel) rfl (nI_pos (by omega)) ?_
              refine zw_iload_n 5 f13_4 rfl rfl ?_
              refine zw_aload_n 6 f13_5 rfl rfl ?_
              refine zw_getI (nI nv) 9 f13_6 rfl g13_39_4 (hb_1 _ _ _ _) rfl ((K0.1 1 0 rfl).trans hR.1.1) ?_
              refine zw_ic_ge_f 12 22 f13_9 (by decide +kernel) rfl (fun q => absurd (zn_ge (a := nv) (b := t11) (by omega) (by omega) q) (by omega)) ?_
              refine zw_iload_n 13 f13_12 rfl rfl ?_
              refine zw_bipush 8 15 f13_13 rfl (by decide +kernel) ?_
              refine zw_ic_ge_f 18 22 f13_15 (by decide +kernel) rfl (fun q => absurd (zn_ge (a := 8) (b := t11) (by omega) (by omega) q) (by omega)) ?_
              refine zw_iconst 1 19 f13_18 rfl (by decide +kernel) ?_
              refine zw_goto 23 f13_19 (by decide +kernel) ?_
              refine zw_zreturn f13_23 r13 u13 (by decide +kernel) ⟨_, rfl, ?_⟩
              refine zw_if_eq_f 11 24 f51_8 (by decide +kernel) rfl (by decide +kernel) ?_
              refine zw_aload_n 12 f51_11 rfl rfl ?_
              refine zw_getfield 15 f51_12 rfl g51_18_10 (hb_11 _ _ _ _) rfl ?_
              refine zw_iload_n 16 f51_15 rfl rfl ?_
              refine zw_dup2 17 f51_16 rfl rfl rfl ?_
              refine zw_iaload t11 (A1 16 t11) 18 f51_17 rfl (hb_16 _ _ _ _) (nI_clamp (by omega)) (nI_pos (by omega)) (by omega) rfl ?_
              refine zw_iload_n 19 f51_18 rfl rfl ?_
              refine zw_iadd ((A1 16 t11) + ((mRO (P 60) (P 61) (P 62) (wRun nv P W) (W.2.2.2.2.1 v) v (s.1, s.2.1, s.1 v, 0) k).2.2.1)) 20 f51_19 rfl rfl ?_
              refine zw_ast t11 _ 21 f51_20 rfl (hb_16 _ _ _ _) (nI_clamp (by omega)) (nI_pos (by omega)) (by omega) (ha_16 _ _ _ _ _) ?_
              refine zw_goto 34 f51_21 (by decide +kernel) ?_
              refine zw_vreturn f51_34 r51 u51 ⟨rfl, ?_⟩
              refine zw_iinc (nI (k + 1)) _ 145 f50_142 rfl (zl1_ne rfl rfl (zl1_ne rfl rfl h4)) (by decide +kernel) (nI_1 _) rfl ?_
              refine zw_goto 30 f50_145 (by decide +kernel) ?_
              have E := mRO_y (frm := P 60) (too := P 61) (amt := P 62) (run := (wRun nv P W)) (lev := W.2.2.2.2.1 v) (v := v) (s := (s.1, s.2.1, s.1 v, 0)) (k := k) ((mRO (P 60) (P 61) (P 62) (wRun nv P W) (W.2.2.2.2.1 v) v (s.1, s.2.1, s.1 v, 0) k).2.2.1) (nI t11) t11q (mFl_l hw hc8) (Decidable.of_not_not hc7) hc9
              rw [mGoC_t (by omega), mGoD_t (by omega)] at E
              have hfl : mFs (P 60) (P 61) (P 62) (wRun nv P W) W.2.2.2.2.1 v s k = ((mRO (P 60) (P 61) (P 62) (wRun nv P W) (W.2.2.2.2.1 v) v (s.1, s.2.1, s.1 v, 0) k).2.2.1) := (cI_n hc9).trans (mFl_l hw hc8)
              exact ih (k + 1) _ _ _ _ _ (KQ.a rfl (KQ.a rfl K0)) (by rw [E]; exact ⟨mC_t hr.1 (by omega), hr.2⟩) (fc_y (r := A1 19) (r0 := A 19) (F := fun p => mFs (P 60) (P 61) (P 62) (wRun nv P W) W.2.2.2.2.1 v s p) (c := fun p => P 60 p = nI v) (k := k) hf (Decidable.of_not_not hc7) rfl hfl.symm) (zl1_ne rfl rfl (zl1_ne rfl rfl (zl1_ne rfl rfl h0))) (zl1_ne rfl rfl (zl1_ne rfl rfl (zl1_ne rfl rfl h1))) (by rw [E]; exact (zl1_ne rfl rfl zl1_eq)) (zl1_ne rfl rfl (zl1_ne rfl rfl (zl1_ne rfl rfl h3))) zl1_eq (by omega) (by omega)
        · refine zw_iload_n 6 f187_5 rfl rfl ?_
          refine zw_goto 10 f187_6 (by decide +kernel) ?_
          refine zw_ireturn f187_10 r187 u187 ⟨_, rfl, ?_⟩
          refine zw_istore _ 89 f50_87 rfl (by decide +kernel) rfl ?_
          refine zw_aload_n 90 f50_89 rfl (zl1_ne rfl rfl h0) ?_
          refine zw_getfield 93 f50_90 rfl g50_28_10 (hb_11 _ _ _ _) rfl ?_
          refine zw_iload 95 f50_93 rfl (zl1_ne rfl rfl h4) ?_
          refine zw_aload_n 96 f50_95 rfl (zl1_ne rfl rfl h0) ?_
          refine zw_iload 98 f50_96 rfl (zl1_ne rfl rfl h4) ?_
          refine zw_virtual_i 101 0 0 [.ref 11, .int (nI k)] [(0, .ref 11), (1, .int (nI k))] f50_98 rfl n50_67 k50_67_10 rfl (hb_11 _ _ _ _) (by decide +kernel) (Nat.le_of_ble_eq_true rfl) rfl rfl (by decide +kernel) (by decide +kernel) rfl (Nat.le_of_ble_eq_true rfl) rfl ?_
          refine zWp.mono (cx_runs_11 ro nv np P W _ _ _ _ (hR.k K0 ⟨rfl, rfl⟩ (fCr_w 11) (pCr_w 11 (by omega))) hp hb hq k (by omega)) ?_
          rintro r h1 ⟨rfl, rfl⟩
          refine ⟨_, rfl, ?_⟩
          refine zw_if_eq 104 109 f50_101 (by decide +kernel) rfl (fun hc12 => ?_) (fun hc12 => ?_)
          · refine zw_iconst 0 110 f50_109 rfl (by decide +kernel) ?_
            refine zw_ast k _ 111 f50_110 rfl (hb_19 _ _ _ _) (nI_clamp (by omega)) (nI_pos (by omega)) (by omega) (ha_19 _ _ _ _ _) ?_
            refine zw_iload_n 112 f50_111 rfl (zl1_ne rfl rfl h2) ?_
            refine zw_aload_n 113 f50_112 rfl (zl1_ne rfl rfl h0) ?_
            refine zw_getfield 116 f50_113 rfl g50_28_10 (hb_11 _ _ _ _) rfl ?_
            refine zw_iload 118 f50_116 rfl (zl1_ne rfl rfl h4) ?_
            refine zw_iaload k 0 119 f50_118 rfl (hb_19 _ _ _ _) (nI_clamp (by omega)) (nI_pos (by omega)) (by omega) (if_pos rfl) ?_
            refine zw_isub (((mRO (P 60) (P 61) (P 62) (wRun nv P W) (W.2.2.2.2.1 v) v (s.1, s.2.1, s.1 v, 0) k).2.2.1) - 0) 120 f50_119 rfl rfl ?_
            refine zw_istore_n _ 121 f50_120 rfl (by decide +kernel) rfl ?_
            refine zw_aload_n 122 f50_121 rfl (zl1_ne rfl rfl (zl1_ne rfl rfl h0)) ?_
            refine zw_aload_n 123 f50_122 rfl (zl1_ne rfl rfl (zl1_ne rfl rfl h0)) ?_
            refine zw_getfield 126 f50_123 rfl g50_37_10 (hb_11 _ _ _ _) rfl ?_
            refine zw_getfield 129 f50_126 rfl g50_73_4 (hb_1 _ _ _ _) rfl ?_
            refine zw_iload 131 f50_129 rfl (zl1_ne rfl rfl (zl1_ne rfl rfl h4)) ?_
            rcases (hp.2.2.2 k (by omega)).1 with t13q | ⟨t13, t13l, t13n, t13q⟩
            · refine zw_iaload k (-1) 132 f50_131 rfl (hb_10 _ _ _ _) (nI_clamp (by omega)) (nI_pos (by omega)) (by omega) ((congrFun ((K0.2.2.1 10 rfl).trans (hR.2.1 61 (by omega) (by omega))) k).trans t13q) ?_
              refine zw_aload_n 133 f50_132 rfl (zl1_ne rfl rfl (zl1_ne rfl rfl h0)) ?_
              refine zw_getfield 136 f50_133 rfl g50_28_10 (hb_11 _ _ _ _) rfl ?_
              refine zw_iload 138 f50_136 rfl (zl1_ne rfl rfl (zl1_ne rfl rfl h4)) ?_
              refine zw_iaload k 0 139 f50_138 rfl (hb_19 _ _ _ _) (nI_clamp (by omega)) (nI_pos (by omega)) (by omega) (if_pos rfl) ?_
              refine zw_virtual_v 142 0 0 [.ref 11, .int (-1), .int 0] [(0, .ref 11), (1, .int (-1)), (2, .int 0)] f50_139 rfl n50_76 k50_76_10 rfl (hb_11 _ _ _ _) (by decide +kernel) (Nat.le_of_ble_eq_true rfl) rfl rfl (by decide +kernel) (by decide +kernel) rfl (Nat.le_of_ble_eq_true rfl) rfl ?_
              refine zw_aload_n 1 f51_0 rfl rfl ?_
              refine zw_getfield 4 f51_1 rfl g51_37_10 (hb_11 _ _ _ _) rfl ?_
              refine zw_iload_n 5 f51_4 rfl rfl ?_
              refine zw_virtual_i 8 0 0 [.ref 1, .int (-1)] [(0, .ref 1), (1, .int (-1))] f51_5 rfl n51_103 k51_103_4 rfl (hb_1 _ _ _ _) (by decide +kernel) (Nat.le_of_ble_eq_true rfl) rfl rfl (by decide +kernel) (by decide +kernel) rfl (Nat.le_of_ble_eq_true rfl) rfl ?_
              refine zw_iload_n 1 f13_0 rfl rfl ?_
              refine zw_if_lt_t 22 f13_1 (by decide +kernel) (by decide +kernel) ?_
              refine zw_iconst 0 23 f13_22 rfl (by decide +kernel) ?_
              refine zw_zreturn f13_23 r13 u13 (by decide +kernel) ⟨_, rfl, ?_⟩
              refine zw_if_eq_t 24 f51_8 (by decide +kernel) (by decide +kernel) ?_
              refine zw_aload_n 25 f51_24 rfl rfl ?_
              refine zw_dup 26 f51_25 rfl rfl ?_
              refine zw_getI (I1 11 7) 29 f51_26 rfl g51_58_10 (hb_11 _ _ _ _) rfl rfl ?_
              refine zw_iload_n 30 f51_29 rfl rfl ?_
              refine zw_iadd ((I1 11 7) + 0) 31 f51_30 rfl rfl ?_
              refine zw_put _ 34 f51_31 rfl g51_58_10 (hb_11 _ _ _ _) rfl (Nat.le_of_ble_eq_true rfl) (by decide +kernel) (hi_11_7 _ _ _ _ _) ?_
              refine zw_vreturn f51_34 r51 u51 ⟨rfl, ?_⟩
              refine zw_iinc (nI (k + 1)) _ 145 f50_142 rfl (zl1_ne rfl rfl (zl1_ne rfl rfl h4)) (by decide +kernel) (nI_1 _) rfl ?_
              refine zw_goto 30 f50_145 (by decide +kernel) ?_
              have E := mRO_n (frm := P 60) (too := P 61) (amt := P 62) (run := (wRun nv P W)) (lev := W.2.2.2.2.1 v) (v := v) (s := (s.1, s.2.1, s.1 v, 0)) (k := k) (fun q => q.2 hc12)
              exact ih (k + 1) _ _ _ _ _ (KQ.i rfl (KQ.a rfl K0)) (by rw [E]; exact ⟨hr.1, (Int32.add_zero _).trans hr.2.1, hr.2.2⟩) (fc_y (r := A1 19) (r0 := A 19) (F := fun p => mFs (P 60) (P 61) (P 62) (wRun nv P W) W.2.2.2.2.1 v s p) (c := fun p => P 60 p = nI v) (k := k) hf (Decidable.of_not_not hc7) rfl (cI_y hc12).symm) (zl1_ne rfl rfl (zl1_ne rfl rfl (zl1_ne rfl rfl h0))) (zl1_ne rfl rfl (zl1_ne rfl rfl (zl1_ne rfl rfl h1))) (by rw [E]; exact (zld_s0 (zl1_ne rfl rfl zl1_eq))) (zl1_ne rfl rfl (zl1_ne rfl rfl (zl1_ne rfl rfl h3))) zl1_eq (by omega) (by omega)
            · refine zw_iaload k (nI t13) 132 f50_131 rfl (hb_10 _ _ _ _) (nI_clamp (by omega)) (nI_pos (by omega)) (by omega) ((congrFun ((K0.2.2.1 10 rfl).trans (hR.2.1 61 (by omega) (by omega))) k).trans t13q) ?_
              refine zw_aload_n 133 f50_132 rfl (zl1_ne rfl rfl (zl1_ne rfl rfl h0)) ?_
              refine zw_getfield 136 f50_133 rfl g50_28_10 (hb_11 _ _ _ _) rfl ?_
              refine zw_iload 138 f50_136 rfl (zl1_ne rfl rfl (zl1_ne rfl rfl h4)) ?_
              refine zw_iaload k 0 139 f50_138 rfl (hb_19 _ _ _ _) (nI_clamp (by omega)) (nI_pos (by omega)) (by omega) (if_pos rfl) ?_
              refine zw_virtual_v 142 0 0 [.ref 11, .int (nI t13), .int 0] [(0, .ref 11), (1, .int (nI t13)), (2, .int 0)] f50_139 rfl n50_76 k50_76_10 rfl (hb_11 _ _ _ _) (by decide +kernel) (Nat.le_of_ble_eq_true rfl) rfl rfl (by decide +kernel) (by decide +kernel) rfl (Nat.le_of_ble_eq_true rfl) rfl ?_
              refine zw_aload_n 1 f51_0 rfl rfl ?_
              refine zw_getfield 4 f51_1 rfl g51_37_10 (hb_11 _ _ _ _) rfl ?_
              refine zw_iload_n 5 f51_4 rfl rfl ?_
              refine zw_virtual_i 8 0 0 [.ref 1, .int (nI t13)] [(0, .ref 1), (1, .int (nI t13))] f51_5 rfl n51_103 k51_103_4 rfl (hb_1 _ _ _ _) (by decide +kernel) (Nat.le_of_ble_eq_true rfl) rfl rfl (by decide +kernel) (by decide +kernel) rfl (Nat.le_of_ble_eq_true rfl) rfl ?_
              refine zw_iload_n 1 f13_0 rfl rfl ?_
              refine zw_if_lt_f 4 22 f13_1 (by decide +kernel) rfl (nI_pos (by omega)) ?_
              refine zw_iload_n 5 f13_4 rfl rfl ?_
              refine zw_aload_n 6 f13_5 rfl rfl ?_
              refine zw_getI (nI nv) 9 f13_6 rfl g13_39_4 (hb_1 _ _ _ _) rfl ((K0.1 1 0 rfl).trans hR.1.1) ?_
              refine zw_ic_ge_f 12 22 f13_9 (by decide +kernel) rfl (fun q => absurd (zn_ge (a := nv) (b := t13) (by omega) (by omega) q) (by omega)) ?_
              refine zw_iload_n 13 f13_12 rfl rfl ?_
              refine zw_bipush 8 15 f13_13 rfl (by decide +kernel) ?_
              refine zw_ic_ge_f 18 22 f13_15 (by decide +kernel) rfl (fun q => absurd (zn_ge (a := 8) (b := t13) (by omega) (by omega) q) (by omega)) ?_
              refine zw_iconst 1 19 f13_18 rfl (by decide +kernel) ?_
              refine zw_goto 23 f13_19 (by decide +kernel) ?_
              refine zw_zreturn f13_23 r13 u13 (by decide +kernel) ⟨_, rfl, ?_⟩
              refine zw_if_eq_f 11 24 f51_8 (by decide +kernel) rfl (by decide +kernel) ?_
              refine zw_aload_n 12 f51_11 rfl rfl ?_
              refine zw_getfield 15 f51_12 rfl g51_18_10 (hb_11 _ _ _ _) rfl ?_
              refine zw_iload_n 16 f51_15 rfl rfl ?_
              refine zw_dup2 17 f51_16 rfl rfl rfl ?_
              refine zw_iaload t13 (A1 16 t13) 18 f51_17 rfl (hb_16 _ _ _ _) (nI_clamp (by omega)) (nI_pos (by omega)) (by omega) rfl ?_
              refine zw_iload_n 19 f51_18 rfl rfl ?_
              refine zw_iadd ((A1 16 t13) + 0) 20 f51_19 rfl rfl ?_
              refine zw_ast t13 _ 21 f51_20 rfl (hb_16 _ _ _ _) (nI_clamp (by omega)) (nI_pos (by omega)) (by omega) (ha_16 _ _ _ _ _) ?_
              refine zw_goto 34 f51_21 (by decide +kernel) ?_
              refine zw_vreturn f51_34 r51 u51 ⟨rfl, ?_⟩
              refine zw_iinc (nI (k + 1)) _ 145 f50_142 rfl (zl1_ne rfl rfl (zl1_ne rfl rfl h4)) (by decide +kernel) (nI_1 _) rfl ?_
              refine zw_goto 30 f50_145 (by decide +kernel) ?_
              have E := mRO_n (frm := P 60) (too := P 61) (amt := P 62) (run := (wRun nv P W)) (lev := W.2.2.2.2.1 v) (v := v) (s := (s.1, s.2.1, s.1 v, 0)) (k := k) (fun q => q.2 hc12)
              exact ih (k + 1) _ _ _ _ _ (KQ.a rfl (KQ.a rfl K0)) (by rw [E]; exact ⟨mC_0 hr.1, hr.2⟩) (fc_y (r := A1 19) (r0 := A 19) (F := fun p => mFs (P 60) (P 61) (P 62) (wRun nv P W) W.2.2.2.2.1 v s p) (c := fun p => P 60 p = nI v) (k := k) hf (Decidable.of_not_not hc7) rfl (cI_y hc12).symm) (zl1_ne rfl rfl (zl1_ne rfl rfl (zl1_ne rfl rfl h0))) (zl1_ne rfl rfl (zl1_ne rfl rfl (zl1_ne rfl rfl h1))) (by rw [E]; exact (zld_s0 (zl1_ne rfl rfl zl1_eq))) (zl1_ne rfl rfl (zl1_ne rfl rfl (zl1_ne rfl rfl h3))) zl1_eq (by omega) (by omega)
          · refine zw_iload 106 f50_104 rfl zl1_eq ?_
            refine zw_goto 110 f50_106 (by decide +kernel) ?_
            refine zw_ast k _ 111 f50_110 rfl (hb_19 _ _ _ _) (nI_clamp (by omega)) (nI_pos (by omega)) (by omega) (ha_19 _ _ _ _ _) ?_
            refine zw_iload_n 112 f50_111 rfl (zl1_ne rfl rfl h2) ?_
            refine zw_aload_n 113 f50_112 rfl (zl1_ne rfl rfl h0) ?_
            refine zw_getfield 116 f50_113 rfl g50_28_10 (hb_11 _ _ _ _) rfl ?_
            refine zw_iload 118 f50_116 rfl (zl1_ne rfl rfl h4) ?_
            refine zw_iaload k (P 62 k) 119 f50_118 rfl (hb_19 _ _ _ _) (nI_clamp (by omega)) (nI_pos (by omega)) (by omega) (if_pos rfl) ?_
            refine zw_isub (((mRO (P 60) (P 61) (P 62) (wRun nv P W) (W.2.2.2.2.1 v) v (s.1, s.2.1, s.1 v, 0) k).2.2.1) - (P 62 k)) 120 f50_119 rfl rfl ?_
            refine zw_istore_n _ 121 f50_120 rfl (by decide +kernel) rfl ?_
            refine zw_aload_n 122 f50_121 rfl (zl1_ne rfl rfl (zl1_ne rfl rfl h0)) ?_
            refine zw_aload_n 123 f50_122 rfl (zl1_ne rfl rfl (zl1_ne rfl rfl h0)) ?_
            refine zw_getfield 126 f50_123 rfl g50_37_10 (hb_11 _ _ _ _) rfl ?_
            refine zw_getfield 129 f50_126 rfl g50_73_4 (hb_1 _ _ _ _) rfl ?_
            refine zw_iload 131 f50_129 rfl (zl1_ne rfl rfl (zl1_ne rfl rfl h4)) ?_
            rcases (hp.2.2.2 k (by omega)).1 with t14q | ⟨t14, t14l, t14n, t14q⟩
            · refine zw_iaload k (-1) 132 f50_131 rfl (hb_10 _ _ _ _) (nI_clamp (by omega)) (nI_pos (by omega)) (by omega) ((congrFun ((K0.2.2.1 10 rfl).trans (hR.2.1 61 (by omega) (by omega))) k).trans t14q) ?_
              refine zw_aload_n 133 f50_132 rfl (zl1_ne rfl rfl (zl1_ne rfl rfl h0)) ?_
              refine zw_getfield 136 f50_133 rfl g50_28_10 (hb_11 _ _ _ _) rfl ?_
              refine zw_iload 138 f50_136 rfl (zl1_ne rfl rfl (zl1_ne rfl rfl h4)) ?_
              refine zw_iaload k (P 62 k) 139 f50_138 rfl (hb_19 _ _ _ _) (nI_clamp (by omega)) (nI_pos (by omega)) (by omega) (if_pos rfl) ?_
              refine zw_virtual_v 142 0 0 [.ref 11, .int (-1), .int (P 62 k)] [(0, .ref 11), (1, .int (-1)), (2, .int (P 62 k))] f50_139 rfl n50_76 k50_76_10 rfl (hb_11 _ _ _ _) (by decide +kernel) (Nat.le_of_ble_eq_true rfl) rfl rfl (by decide +kernel) (by decide +kernel) rfl (Nat.le_of_ble_eq_true rfl) rfl ?_
              refine zw_aload_n 1 f51_0 rfl rfl ?_
              refine zw_getfield 4 f51_1 rfl g51_37_10 (hb_11 _ _ _ _) rfl ?_
              refine zw_iload_n 5 f51_4 rfl rfl ?_
              refine zw_virtual_i 8 0 0 [.ref 1, .int (-1)] [(0, .ref 1), (1, .int (-1))] f51_5 rfl n51_103 k51_103_4 rfl (hb_1 _ _ _ _) (by decide +kernel) (Nat.le_of_ble_eq_true rfl) rfl rfl (by decide +kernel) (by decide +kernel) rfl (Nat.le_of_ble_eq_true rfl) rfl ?_
              refine zw_iload_n 1 f13_0 rfl rfl ?_
              refine zw_if_lt_t 22 f13_1 (by decide +kernel) (by decide +kernel) ?_
              refine zw_iconst 0 23 f13_22 rfl (by decide +kernel) ?_
              refine zw_zreturn f13_23 r13 u13 (by decide +kernel) ⟨_, rfl, ?_⟩
              refine zw_if_eq_t 24 f51_8 (by decide +kernel) (by decide +kernel) ?_
              refine zw_aload_n 25 f51_24 rfl rfl ?_
              refine zw_dup 26 f51_25 rfl rfl ?_
              refine zw_getI (I1 11 7) 29 f51_26 rfl g51_58_10 (hb_11 _ _ _ _) rfl rfl ?_
              refine zw_iload_n 30 f51_29 rfl rfl ?_
              refine zw_iadd ((I1 11 7) + (P 62 k)) 31 f51_30 rfl rfl ?_
              refine zw_put _ 34 f51_31 rfl g51_58_10 (hb_11 _ _ _ _) rfl (Nat.le_of_ble_eq_true rfl) (by decide +kernel) (hi_11_7 _ _ _ _ _) ?_
              refine zw_vreturn f51_34 r51 u51 ⟨rfl, ?_⟩
              refine zw_iinc (nI (k + 1)) _ 145 f50_142 rfl (zl1_ne rfl rfl (zl1_ne rfl rfl h4)) (by decide +kernel) (nI_1 _) rfl ?_
              refine zw_goto 30 f50_145 (by decide +kernel) ?_
              have E := mRO_y (frm := P 60) (too := P 61) (amt := P 62) (run := (wRun nv P W)) (lev := W.2.2.2.2.1 v) (v := v) (s := (s.1, s.2.1, s.1 v, 0)) (k := k) (P 62 k) (-1) t14q (mFl_m hw hc8) (Decidable.of_not_not hc7) hc12
              rw [mGoC_m, mGoD_m] at E
              have hfl : mFs (P 60) (P 61) (P 62) (wRun nv P W) W.2.2.2.2.1 v s k = (P 62 k) := (cI_n hc12).trans (mFl_m hw hc8)
              exact ih (k + 1) _ _ _ _ _ (KQ.i rfl (KQ.a rfl K0)) (by rw [E]; exact ⟨hr.1, congrArg (fun z => z + (P 62 k)) hr.2.1, hr.2.2⟩) (fc_y (r := A1 19) (r0 := A 19) (F := fun p => mFs (P 60) (P 61) (P 62) (wRun nv P W) W.2.2.2.2.1 v s p) (c := fun p => P 60 p = nI v) (k := k) hf (Decidable.of_not_not hc7) rfl hfl.symm) (zl1_ne rfl rfl (zl1_ne rfl rfl (zl1_ne rfl rfl h0))) (zl1_ne rfl rfl (zl1_ne rfl rfl (zl1_ne rfl rfl h1))) (by rw [E]; exact (zl1_ne rfl rfl zl1_eq)) (zl1_ne rfl rfl (zl1_ne rfl rfl (zl1_ne rfl rfl h3))) zl1_eq (by omega) (by omega)
            · refine zw_iaload k (nI t14) 132 f50_131 rfl (hb_10 _ _ _ _) (nI_clamp (by omega)) (nI_pos (by omega)) (by omega) ((congrFun ((K0.2.2.1 10 rfl).trans (hR.2.1 61 (by omega) (by omega))) k).trans t14q) ?_
              refine zw_aload_n 133 f50_132 rfl (zl1_ne rfl rfl (zl1_ne rfl rfl h0)) ?_
              refine zw_getfield 136 f50_133 rfl g50_28_10 (hb_11 _ _ _ _) rfl ?_
              refine zw_iload 138 f50_136 rfl (zl1_ne rfl rfl (zl1_ne rfl rfl h4)) ?_
              refine zw_iaload k (P 62 k) 139 f50_138 rfl (hb_19 _ _ _ _) (nI_clamp (by omega)) (nI_pos (by omega)) (by omega) (if_pos rfl) ?_
              refine zw_virtual_v 142 0 0 [.ref 11, .int (nI t14), .int (P 62 k)] [(0, .ref 11), (1, .int (nI t14)), (2, .int (P 62 k))] f50_139 rfl n50_76 k50_76_10 rfl (hb_11 _ _ _ _) (by decide +kernel) (Nat.le_of_ble_eq_true rfl) rfl rfl (by decide +kernel) (by decide +kernel) rfl (Nat.le_of_ble_eq_true rfl) rfl ?_
              refine zw_aload_n 1 f51_0 rfl rfl ?_
              refine zw_getfield 4 f51_1 rfl g51_37_10 (hb_11 _ _ _ _) rfl ?_
              refine zw_iload_n 5 f51_4 rfl rfl ?_
              refine zw_virtual_i 8 0 0 [.ref 1, .int (nI t14)] [(0, .ref 1), (1, .int (nI t14))] f51_5 rfl n51_103 k51_103_4 rfl (hb_1 _ _ _ _) (by decide +kernel) (Nat.le_of_ble_eq_true rfl) rfl rfl (by decide +kernel) (by decide +kernel) rfl (Nat.le_of_ble_eq_true rfl) rfl ?_
              refine zw_iload_n 1 f13_0 rfl rfl ?_
              refine zw_if_lt_f 4 22 f13_1 (by decide +kernel) rfl (nI_pos (by omega)) ?_
              refine zw_iload_n 5 f13_4 rfl rfl ?_
              refine zw_aload_n 6 f13_5 rfl rfl ?_
              refine zw_getI (nI nv) 9 f13_6 rfl g13_39_4 (hb_1 _ _ _ _) rfl ((K0.1 1 0 rfl).trans hR.1.1) ?_
              refine zw_ic_ge_f 12 22 f13_9 (by decide +kernel) rfl (fun q => absurd (zn_ge (a := nv) (b := t14) (by omega) (by omega) q) (by omega)) ?_
              refine zw_iload_n 13 f13_12 rfl rfl ?_
              refine zw_bipush 8 15 f13_13 rfl (by decide +kernel) ?_
              refine zw_ic_ge_f 18 22 f13_15 (by decide +kernel) rfl (fun q => absurd (zn_ge (a := 8) (b := t14) (by omega) (by omega) q) (by omega)) ?_
              refine zw_iconst 1 19 f13_18 rfl (by decide +kernel) ?_
              refine zw_goto 23 f13_19 (by decide +kernel) ?_
              refine zw_zreturn f13_23 r13 u13 (by decide +kernel) ⟨_, rfl, ?_⟩
              refine zw_if_eq_f 11 24 f51_8 (by decide +kernel) rfl (by decide +kernel) ?_
              refine zw_aload_n 12 f51_11 rfl rfl ?_
              refine zw_getfield 15 f51_12 rfl g51_18_10 (hb_11 _ _ _ _) rfl ?_
              refine zw_iload_n 16 f51_15 rfl rfl ?_
              refine zw_dup2 17 f51_16 rfl rfl rfl ?_
              refine zw_iaload t14 (A1 16 t14) 18 f51_17 rfl (hb_16 _ _ _ _) (nI_clamp (by omega)) (nI_pos (by omega)) (by omega) rfl ?_
              refine zw_iload_n 19 f51_18 rfl rfl ?_
              refine zw_iadd ((A1 16 t14) + (P 62 k)) 20 f51_19 rfl rfl ?_
              refine zw_ast t14 _ 21 f51_20 rfl (hb_16 _ _ _ _) (nI_clamp (by omega)) (nI_pos (by omega)) (by omega) (ha_16 _ _ _ _ _) ?_
              refine zw_goto 34 f51_21 (by decide +kernel) ?_
              refine zw_vreturn f51_34 r51 u51 ⟨rfl, ?_⟩
              refine zw_iinc (nI (k + 1)) _ 145 f50_142 rfl (zl1_ne rfl rfl (zl1_ne rfl rfl h4)) (by decide +kernel) (nI_1 _) rfl ?_
              refine zw_goto 30 f50_145 (by decide +kernel) ?_
              have E := mRO_y (frm := P 60) (too := P 61) (amt := P 62) (run := (wRun nv P W)) (lev := W.2.2.2.2.1 v) (v := v) (s := (s.1, s.2.1, s.1 v, 0)) (k := k) (P 62 k) (nI t14) t14q (mFl_m hw hc8) (Decidable.of_not_not hc7) hc12
              rw [mGoC_t (by omega), mGoD_t (by omega)] at E
              have hfl : mFs (P 60) (P 61) (P 62) (wRun nv P W) W.2.2.2.2.1 v s k = (P 62 k) := (cI_n hc12).trans (mFl_m hw hc8)
              exact ih (k + 1) _ _ _ _ _ (KQ.a rfl (KQ.a rfl K0)) (by rw [E]; exact ⟨mC_t hr.1 (by omega), hr.2⟩) (fc_y (r := A1 19) (r0 := A 19) (F := fun p => mFs (P 60) (P 61) (P 62) (wRun nv P W) W.2.2.2.2.1 v s p) (c := fun p => P 60 p = nI v) (k := k) hf (Decidable.of_not_not hc7) rfl hfl.symm) (zl1_ne rfl rfl (zl1_ne rfl rfl (zl1_ne rfl rfl h0))) (zl1_ne rfl rfl (zl1_ne rfl rfl (zl1_ne rfl rfl h1))) (by rw [E]; exact (zl1_ne rfl rfl zl1_eq)) (zl1_ne rfl rfl (zl1_ne rfl rfl (zl1_ne rfl rfl h3))) zl1_eq (by omega) (by omega)
set_option maxRecDepth 100000 in
set_option maxHeartbeats 0 in
theorem cf_rv_11 (ro : UInt32 → Nat × (Nat → Int32)) (nv np : Nat) (P : Nat → Nat → Int32) (W : qW) (T K : Int) (I : Nat → Nat → Int32) (G : Nat → Nat → Int64) (A : Nat → Nat → Int32) (B : Nat → Nat → Int64) (hR : cRS 11 nv np P W I G A B) (hp : MPa nv np P) (hb : wBo W) (hq : qOw nv np P) (hW : wOk nv T K P W) (v : Nat) (hv : v < nv) (s : (Nat → Int32) × Int32 × (Nat → Int32) × (Nat → Int32)) (hs : cRel 11 I A s v) (hz : s.2.2.2 v = 0) : zWp ro 50 0 [(0, .ref 11), (1, .int (nI v))] [] (hS I G A B) 0 0 (fun r h1 => ∃ I2 G2 A2 B2, h1 = hS I2 G2 A2 B2 ∧ KQ (fCr 11) (pCr 11) I G A B I2 G2 A2 B2 ∧ (cRel 11 I2 A2 (mRateOf (P 60) (P 61) (P 62) (wRun nv P W) (P 59) (P 54) (W.2.2.2.2.1) W.1 np v s) (v + 1) ∧ (∀ p, p < np → P 60 p = nI v → A2 19 p = mFs (P 60) (P 61) (P 62) (wRun nv P W) W.2.2.2.2.1 v s p) ∧ ∀ p, ¬ P 60 p = nI v → A2 19 p = A 19 p) ∧ r = none) := by
  have h8 := hp.1
  have h14 := hp.2.1
  have hto : ∀ p, p < np → P 60 p = nI v → mTo nv (v + 1) (P 61 p) := fun p h1 h2 => (MPa.e hp W (fun _ => 0) 0 0).ht v p hv h1 h2
  refine zw_aload_n 1 f50_0 rfl rfl ?_
  refine zw_getfield 4 f50_1 rfl g50_18_10 (hb_11 _ _ _ _) rfl ?_
  refine zw_iload_n 5 f50_4 rfl rfl ?_
  refine zw_iaload v (s.1 v) 6 f50_5 rfl (hb_16 _ _ _ _) (nI_clamp (by omega)) (nI_pos (by omega)) (by omega) (hs.1 v (by omega)) ?_
  refine zw_istore_n _ 7 f50_6 rfl (by decide +kernel) rfl ?_
  refine zw_aload_n 8 f50_7 rfl (zl1_ne rfl rfl rfl) ?_
  refine zw_getfield 11 f50_8 rfl g50_12_10 (hb_11 _ _ _ _) rfl ?_
  refine zw_getfield 14 f50_11 rfl g50_87_9 (hb_12 _ _ _ _) rfl ?_
  refine zw_iload_n 15 f50_14 rfl (zl1_ne rfl rfl rfl) ?_
  refine zw_laload v ((W.2.2.2.2.1) v) 16 f50_15 rfl (hb_13 _ _ _ _) (nI_clamp (by omega)) (nI_pos (by omega)) (by omega) (congrFun (hR.2.2.2.1) v) ?_
  refine zw_lconst 0 17 f50_16 rfl (by decide +kernel) ?_
  refine zw_lcmp (lg_cmp ((W.2.2.2.2.1) v) 0) 18 f50_17 rfl rfl ?_
  refine zw_if_le 21 25 f50_18 (by decide +kernel) rfl (fun hc1 => ?_) (fun hc1 => ?_)
  · refine zw_iconst 0 26 f50_25 rfl (by decide +kernel) ?_
    refine zw_istore_n _ 27 f50_26 rfl (by decide +kernel) rfl ?_
    refine zw_iconst 0 28 f50_27 rfl (by decide +kernel) ?_
    refine zw_istore _ 30 f50_28 rfl (by decide +kernel) rfl ?_
    exact lcf_rv11_0 ro nv np P W T K I G A B hR hp hb hq hW v hv s hs hz (Int64.not_lt.mpr ((lg_cmp_le _ _).mp hc1)) (np + 1) 0 _ _ _ _ _ KQ.rf ⟨hs.1, hs.2.1, rfl, rfl, rfl⟩ ⟨fun p hp0 => absurd hp0 (by omega), fun _ _ => rfl⟩ (zl1_ne rfl rfl (zl1_ne rfl rfl (zl1_ne rfl rfl rfl))) (zl1_ne rfl rfl (zl1_ne rfl rfl (zl1_ne rfl rfl rfl))) (zl1_ne rfl rfl (zl1_ne rfl rfl zl1_eq)) (zl1_ne rfl rfl zl1_eq) zl1_eq (by omega) (by omega)
  · refine zw_iconst 1 22 f50_21 rfl (by decide +kernel) ?_
    refine zw_goto 26 f50_22 (by decide +kernel) ?_
    refine zw_istore_n _ 27 f50_26 rfl (by decide +kernel) rfl ?_
    refine zw_iconst 0 28 f50_27 rfl (by decide +kernel) ?_
    refine zw_istore _ 30 f50_28 rfl (by decide +kernel) rfl ?_
    exact lcf_rv11_1 ro nv np P W T K I G A B hR hp hb hq hW v hv s hs hz (Int64.not_le.mp (fun q => hc1 ((lg_cmp_le _ _).mpr q))) (np + 1) 0 _ _ _ _ _ KQ.rf ⟨hs.1, hs.2.1, rfl, rfl, rfl⟩ ⟨fun p hp0 => absurd hp0 (by omega), fun _ _ => rfl⟩ (zl1_ne rfl rfl (zl1_ne rfl rfl (zl1_ne rfl rfl rfl))) (zl1_ne rfl rfl (zl1_ne rfl rfl (zl1_ne rfl rfl rfl))) (zl1_ne rfl rfl (zl1_ne rfl rfl zl1_eq)) (zl1_ne rfl rfl zl1_eq) zl1_eq (by omega) (by omega)
theorem fs_n {r F frm : Nat → Int32} {k : Nat} (h : ∀ p, p < k → frm p = -1 → r p = F p) (hc : ¬ frm k = -1) : ∀ p, p < k + 1 → frm p = -1 → r p = F p := by
  intro p hp q
  by_cases e : p = k
  · exact absurd (e ▸ q) hc
  · exact h p (by omega) q
theorem fs_y {r r2 F frm : Nat → Int32} {k : Nat} {x : Int32} (h : ∀ p, p < k → frm p = -1 → r p = F p) (hr : r2 = upd r k x) (hx : x = F k) : ∀ p, p < k + 1 → frm p = -1 → r2 p = F p := by
  intro p hp q
  rw [hr]
  by_cases e : p = k
  · rw [e, upd_s]; exact hx
  · rw [upd_o e]; exact h p (by omega) q
set_option maxRecDepth 100000 in
set_option maxHeartbeats 0 in
theorem lcf_rr11_126 (ro : UInt32 → Nat × (Nat → Int32)) (nv np : Nat) (P : Nat → Nat → Int32) (W : qW) (T K : Int) (I : Nat → Nat → Int32) (G : Nat → Nat → Int64) (A : Nat → Nat → Int32) (B : Nat → Nat → Int64) (hR : cRS 11 nv np P W I G A B) (hp : MPa nv np P) (hb : wBo W) (hq : qOw nv np P) (hW : wOk nv T K P W) : ∀ (n k : Nat) (ls : List (Nat × Value)) (I1 : Nat → Nat → Int32) (G1 : Nat → Nat → Int64) (A1 : Nat → Nat → Int32) (B1 : Nat → Nat → Int64), KQ (fCr 11) (pCr 11) I G A B I1 G1 A1 B1 → (cRel 11 I1 A1 (mR2 (P 60) (P 61) (P 62) (wRun nv P W) (P 59) (P 54) (W.2.2.2.2.1) W.1 np k) k ∧ ∀ p, p < np → (P 60 p = -1 ∨ (¬ P 60 p = -1 ∧ (P 60 p).toNatClampNeg < k)) → A1 19 p = mFw (P 60) (P 61) (P 62) (wRun nv P W) (P 59) (P 54) W.2.2.2.2.1 W.1 np p) → zld ls 0 = some (.ref 11) → zld ls 1 = some (.int (nI k)) → k ≤ nv → nv + 1 ≤ k + n → zWp ro 49 126 ls [] (hS I1 G1 A1 B1) 0 0 (fun r h1 => ∃ I2 G2 A2 B2, h1 = hS I2 G2 A2 B2 ∧ KQ (fCr 11) (pCr 11) I G A B I2 G2 A2 B2 ∧ (∀ p, p < np → A2 19 p = mFw (P 60) (P 61) (P 62) (wRun nv P W) (P 59) (P 54) W.2.2.2.2.1 W.1 np p) ∧ r = none) := by
  have h8 := hp.1
  have h14 := hp.2.1
  intro n
  induction n with
  | zero =>
    intro k ls I1 G1 A1 B1 _ _ _ _ a c
    exact absurd c (by omega)
  | succ n ih =>
    intro k ls I1 G1 A1 B1 K0 hr h0 h1 hk1 hk2
    refine zw_iload_n 127 f49_126 rfl h1 ?_
    refine zw_aload_n 128 f49_127 rfl h0 ?_
    refine zw_getfield 131 f49_128 rfl g49_37_10 (hb_11 _ _ _ _) rfl ?_
    refine zw_getI (nI nv) 134 f49_131 rfl g49_80_4 (hb_1 _ _ _ _) rfl ((K0.1 1 0 rfl).trans hR.1.1) ?_
    refine zw_ic_ge 137 148 f49_134 (by decide +kernel) rfl (fun hc1 => ?_) (fun hc1 => ?_)
    · have hn_hc1 : nv ≤ k := zn_ge (by omega) (by omega) hc1
      refine zw_vreturn f49_148 r49 u49 ?_
      have hk : k = nv := by omega
      subst hk
      refine ⟨_, _, _, _, rfl, K0, fun p hpp => hr.2 p hpp ?_, rfl⟩
      rcases (hp.2.2.2 p hpp).2.2 with w | ⟨w, w1, w2, -⟩
      · exact Or.inl w
      · exact Or.inr ⟨fun q => nI_nem (a := w) (by omega) (w2.symm.trans q), by rw [w2, nI_clamp (by omega)]; exact w1⟩
    · have hn_hc1 : k < nv := zn_lt (by omega) (by omega) hc1
      refine zw_aload_n 138 f49_137 rfl h0 ?_
      refine zw_iload_n 139 f49_138 rfl h1 ?_
      refine zw_virtual_v 142 0 0 [.ref 11, .int (nI k)] [(0, .ref 11), (1, .int (nI k))] f49_139 rfl n49_83 k49_83_10 rfl (hb_11 _ _ _ _) (by decide +kernel) (Nat.le_of_ble_eq_true rfl) rfl rfl (by decide +kernel) (by decide +kernel) rfl (Nat.le_of_ble_eq_true rfl) rfl ?_
      refine zWp.mono (cf_rv_11 ro nv np P W T K _ _ _ _ (hR.k K0 ⟨rfl, rfl⟩ (fCr_w 11) (pCr_w 11 (by omega))) hp hb hq hW k (by omega) _ hr.1 (mR2_fz k k (Nat.le_refl _))) ?_
      rintro r h1 ⟨I2, G2, A2, B2, rfl, K2, ⟨hr2, hf2, hf0⟩, rfl⟩
      refine ⟨rfl, ?_⟩
      have hf3 : ∀ p, p < np → (P 60 p = -1 ∨ (¬ P 60 p = -1 ∧ (P 60 p).toNatClampNeg < k + 1)) → A2 19 p = mFw (P 60) (P 61) (P 62) (wRun nv P W) (P 59) (P 54) W.2.2.2.2.1 W.1 np p := by
        intro p hpp q
        by_cases c : P 60 p = nI k
        · rw [hf2 p hpp c]; exact (mFw_v (by omega) c).symm
        · rw [hf0 p c]
          refine hr.2 p hpp (q.elim Or.inl (fun z => Or.inr ⟨z.1, ?_⟩))
          rcases (hp.2.2.2 p hpp).2.2 with w | ⟨w, w1, w2, -⟩
          · exact absurd w z.1
          · have z2 := z.2
            rw [w2, nI_clamp (by omega)] at z2 ⊢
            have : ¬ w = k := fun e => c (e ▸ w2)
            omega
      refine zw_iinc (nI (k + 1)) _ 145 f49_142 rfl h1 (by decide +kernel) (nI_1 _) rfl ?_
      refine zw_goto 126 f49_145 (by decide +kernel) ?_
      exact ih (k + 1) _ _ _ _ _ (KQ.tr K0 K2) ⟨hr2, hf3⟩ (zl1_ne rfl rfl h0) zl1_eq (by omega) (by omega)
set_option maxRecDepth 100000 in
set_option maxHeartbeats 0 in
theorem lcf_rr11_33 (ro : UInt32 → Nat × (Nat → Int32)) (nv np : Nat) (P : Nat → Nat → Int32) (W : qW) (T K : Int) (I : Nat → Nat → Int32) (G : Nat → Nat → Int64) (A : Nat → Nat → Int32) (B : Nat → Nat → Int64) (hR : cRS 11 nv np P W I G A B) (hp : MPa nv np P) (hb : wBo W) (hq : qOw nv np P) (hW : wOk nv T K P W) : ∀ (n k : Nat) (ls : List (Nat × Value)) (I1 : Nat → Nat → Int32) (G1 : Nat → Nat → Int64) (A1 : Nat → Nat → Int32) (B1 : Nat → Nat → Int64), KQ (fCr 11) (pCr 11) I G A B I1 G1 A1 B1 → (((∀ j, j < 8 → A1 16 j = (mR1 (P 60) (P 61) (P 62) (wRun nv P W) k).1 j) ∧ I1 11 7 = (mR1 (P 60) (P 61) (P 62) (wRun nv P W) k).2.1 ∧ I1 11 6 = (mR1 (P 60) (P 61) (P 62) (wRun nv P W) k).2.2) ∧ ∀ p, p < k → P 60 p = -1 → A1 19 p = mFw (P 60) (P 61) (P 62) (wRun nv P W) (P 59) (P 54) W.2.2.2.2.1 W.1 np p) → zld ls 0 = some (.ref 11) → zld ls 1 = some (.int (nI k)) → k ≤ np → np + 1 ≤ k + n → zWp ro 49 33 ls [] (hS I1 G1 A1 B1) 0 0 (fun r h1 => ∃ I2 G2 A2 B2, h1 = hS I2 G2 A2 B2 ∧ KQ (fCr 11) (pCr 11) I G A B I2 G2 A2 B2 ∧ (∀ p, p < np → A2 19 p = mFw (P 60) (P 61) (P 62) (wRun nv P W) (P 59) (P 54) W.2.2.2.2.1 W.1 np p) ∧ r = none) := by
  have h8 := hp.1
  have h14 := hp.2.1
  intro n
  induction n with
  | zero =>
    intro k ls I1 G1 A1 B1 _ _ _ _ a c
    exact absurd c (by omega)
  | succ n ih =>
    intro k ls I1 G1 A1 B1 K0 hr h0 h1 hk1 hk2
    refine zw_iload_n 34 f49_33 rfl h1 ?_
    refine zw_aload_n 35 f49_34 rfl h0 ?_
    refine zw_getfield 38 f49_35 rfl g49_37_10 (hb_11 _ _ _ _) rfl ?_
    refine zw_getI (nI np) 41 f49_38 rfl g49_61_4 (hb_1 _ _ _ _) rfl ((K0.1 1 1 rfl).trans hR.1.2) ?_
    refine zw_ic_ge 44 124 f49_41 (by decide +kernel) rfl (fun hc1 => ?_) (fun hc1 => ?_)
    · have hn_hc1 : np ≤ k := zn_ge (by omega) (by omega) hc1
      refine zw_iconst 0 125 f49_124 rfl (by decide +kernel) ?_
      refine zw_istore_n _ 126 f49_125 rfl (by decide +kernel) rfl ?_
      have hk : k = np := by omega
      rw [hk] at hr
      exact lcf_rr11_126 ro nv np P W T K I G A B hR hp hb hq hW (nv + 1) 0 _ _ _ _ _ K0 ⟨⟨hr.1.1, hr.1.2.1, fun j hj => absurd hj (by omega), fun j hj => absurd hj (by omega)⟩, fun p hpp q => hr.2 p hpp (q.resolve_right (fun z => Nat.not_lt_zero _ z.2))⟩ (zl1_ne rfl rfl h0) zl1_eq (by omega) (by omega)
    · have hn_hc1 : k < np := zn_lt (by omega) (by omega) hc1
      refine zw_aload_n 45 f49_44 rfl h0 ?_
      refine zw_getfield 48 f49_45 rfl g49_37_10 (hb_11 _ _ _ _) rfl ?_
      refine zw_getfield 51 f49_48 rfl g49_64_4 (hb_1 _ _ _ _) rfl ?_
      refine zw_iload_n 52 f49_51 rfl h1 ?_
      refine zw_iaload k (P 60 k) 53 f49_52 rfl (hb_9 _ _ _ _) (nI_clamp (by omega)) (nI_pos (by omega)) (by omega) (congrFun (((K0.2.2.1 9 rfl).trans (hR.2.1 60 (by omega) (by omega)))) k) ?_
      refine zw_iconst (-1) 54 f49_53 rfl (by decide +kernel) ?_
      refine zw_ic_ne 57 118 f49_54 (by decide +kernel) rfl (fun hc2 => ?_) (fun hc2 => ?_)
      · refine zw_iinc (nI (k + 1)) _ 121 f49_118 rfl h1 (by decide +kernel) (nI_1 _) rfl ?_
        refine zw_goto 33 f49_121 (by decide +kernel) ?_
        have E := mR1_n (frm := P 60) (too := P 61) (amt := P 62) (run := (wRun nv P W)) (k := k) 0 (if_neg (fun q => hc2 q.1)) (by decide)
        exact ih (k + 1) _ _ _ _ _ K0 ⟨(by rw [E]; exact ⟨hr.1.1, hr.1.2.1, hr.1.2.2.trans (Int32.add_zero _).symm⟩), (fs_n hr.2 hc2)⟩ (zl1_ne rfl rfl h0) zl1_eq (by omega) (by omega)
      · refine zw_aload_n 58 f49_57 rfl h0 ?_
        refine zw_getfield 61 f49_58 rfl g49_28_10 (hb_11 _ _ _ _) rfl ?_
        refine zw_iload_n 62 f49_61 rfl h1 ?_
        refine zw_aload_n 63 f49_62 rfl h0 ?_
        refine zw_iload_n 64 f49_63 rfl h1 ?_
        refine zw_virtual_i 67 0 0 [.ref 11, .int (nI k)] [(0, .ref 11), (1, .int (nI k))] f49_64 rfl n49_67 k49_67_10 rfl (hb_11 _ _ _ _) (by decide +kernel) (Nat.le_of_ble_eq_true rfl) rfl rfl (by decide +kernel) (by decide +kernel) rfl (Nat.le_of_ble_eq_true rfl) rfl ?_
        refine zWp.mono (cx_runs_11 ro nv np P W _ _ _ _ (hR.k K0 ⟨rfl, rfl⟩ (fCr_w 11) (pCr_w 11 (by omega))) hp hb hq k (by omega)) ?_
        rintro r h1 ⟨rfl, rfl⟩
        refine ⟨_, rfl, ?_⟩
        refine zw_if_eq 70 82 f49_67 (by decide +kernel) rfl (fun hc3 => ?_) (fun hc3 => ?_)
        · refine zw_iconst 0 83 f49_82 rfl (by decide +kernel) ?_
          refine zw_ast k _ 84 f49_83 rfl (hb_19 _ _ _ _) (nI_clamp (by omega)) (nI_pos (by omega)) (by omega) (ha_19 _ _ _ _ _) ?_
          refine zw_aload_n 85 f49_84 rfl h0 ?_
          refine zw_dup 86 f49_85 rfl rfl ?_
          refine zw_getI (I1 11 6) 89 f49_86 rfl g49_54_10 (hb_11 _ _ _ _) rfl rfl ?_
          refine zw_aload_n 90 f49_89 rfl h0 ?_
          refine zw_getfield 93 f49_90 rfl g49_28_10 (hb_11 _ _ _ _) rfl ?_
          refine zw_iload_n 94 f49_93 rfl h1 ?_
          refine zw_iaload k 0 95 f49_94 rfl (hb_19 _ _ _ _) (nI_clamp (by omega)) (nI_pos (by omega)) (by omega) (if_pos rfl) ?_
          refine zw_iadd ((I1 11 6) + 0) 96 f49_95 rfl rfl ?_
          refine zw_put _ 99 f49_96 rfl g49_54_10 (hb_11 _ _ _ _) rfl (Nat.le_of_ble_eq_true rfl) (by decide +kernel) (hi_11_6 _ _ _ _ _) ?_
          refine zw_aload_n 100 f49_99 rfl h0 ?_
          refine zw_aload_n 101 f49_100 rfl h0 ?_
          refine zw_getfield 104 f49_101 rfl g49_37_10 (hb_11 _ _ _ _) rfl ?_
          refine zw_getfield 107 f49_104 rfl g49_73_4 (hb_1 _ _ _ _) rfl ?_
          refine zw_iload_n 108 f49_107 rfl h1 ?_
          rcases (hp.2.2.2 k (by omega)).1 with t4q | ⟨t4, t4l, t4n, t4q⟩
          · refine zw_iaload k (-1) 109 f49_108 rfl (hb_10 _ _ _ _) (nI_clamp (by omega)) (nI_pos (by omega)) (by omega) ((congrFun ((K0.2.2.1 10 rfl).trans (hR.2.1 61 (by omega) (by omega))) k).trans t4q) ?_
            refine zw_aload_n 110 f49_109 rfl h0 ?_
            refine zw_getfield 113 f49_110 rfl g49_28_10 (hb_11 _ _ _ _) rfl ?_
            refine zw_iload_n 114 f49_113 rfl h1 ?_
            refine zw_iaload k 0 115 f49_114 rfl (hb_19 _ _ _ _) (nI_clamp (by omega)) (nI_pos (by omega)) (by omega) (if_pos rfl) ?_
            refine zw_virtual_v 118 0 0 [.ref 11, .int (-1), .int 0] [(0, .ref 11), (1, .int (-1)), (2, .int 0)] f49_115 rfl n49_76 k49_76_10 rfl (hb_11 _ _ _ _) (by decide +kernel) (Nat.le_of_ble_eq_true rfl) rfl rfl (by decide +kernel) (by decide +kernel) rfl (Nat.le_of_ble_eq_true rfl) rfl ?_
            refine zw_aload_n 1 f51_0 rfl rfl ?_
            refine zw_getfield 4 f51_1 rfl g51_37_10 (hb_11 _ _ _ _) rfl ?_
            refine zw_iload_n 5 f51_4 rfl rfl ?_
            refine zw_virtual_i 8 0 0 [.ref 1, .int (-1)] [(0, .ref 1), (1, .int (-1))] f51_5 rfl n51_103 k51_103_4 rfl (hb_1 _ _ _ _) (by decide +kernel) (Nat.le_of_ble_eq_true rfl) rfl rfl (by decide +kernel) (by decide +kernel) rfl (Nat.le_of_ble_eq_true rfl) rfl ?_
            refine zw_iload_n 1 f13_0 rfl rfl ?_
            refine zw_if_lt_t 22 f13_1 (by decide +kernel) (by decide +kernel) ?_
            refine zw_iconst 0 23 f13_22 rfl (by decide +kernel) ?_
            refine zw_zreturn f13_23 r13 u13 (by decide +kernel) ⟨_, rfl, ?_⟩
            refine zw_if_eq_t 24 f51_8 (by decide +kernel) (by decide +kernel) ?_
            refine zw_aload_n 25 f51_24 rfl rfl ?_
            refine zw_dup 26 f51_25 rfl rfl ?_
            refine zw_getI (I1 11 7) 29 f51_26 rfl g51_58_10 (hb_11 _ _ _ _) rfl rfl ?_
            refine zw_iload_n 30 f51_29 rfl rfl ?_
            refine zw_iadd ((I1 11 7) + 0) 31 f51_30 rfl rfl ?_
            refine zw_put _ 34 f51_31 rfl g51_58_10 (hb_11 _ _ _ _) rfl (Nat.le_of_ble_eq_true rfl) (by decide +kernel) (hi_11_7 _ _ _ _ _) ?_
            refine zw_vreturn f51_34 r51 u51 ⟨rfl, ?_⟩
            refine zw_iinc (nI (k + 1)) _ 121 f49_118 rfl h1 (by decide +kernel) (nI_1 _) rfl ?_
            refine zw_goto 33 f49_121 (by decide +kernel) ?_
            have E := mR1_n (frm := P 60) (too := P 61) (amt := P 62) (run := (wRun nv P W)) (k := k) 0 (if_neg (fun q => q.2 hc3)) (by decide)
            exact ih (k + 1) _ _ _ _ _ (KQ.i rfl (KQ.i rfl (KQ.a rfl K0))) ⟨(by rw [E]; exact ⟨hr.1.1, (Int32.add_zero _).trans hr.1.2.1, congrArg (fun z => z + 0) hr.1.2.2⟩), (fs_y hr.2 rfl ((cI_y (Decidable.of_not_not hc2)).trans (cI_y hc3)).symm)⟩ (zl1_ne rfl rfl h0) zl1_eq (by omega) (by omega)
          · refine zw_iaload k (nI t4) 109 f49_108 rfl (hb_10 _ _ _ _) (nI_clamp (by omega)) (nI_pos (by omega)) (by omega) ((congrFun ((K0.2.2.1 10 rfl).trans (hR.2.1 61 (by omega) (by omega))) k).trans t4q) ?_
            refine zw_aload_n 110 f49_109 rfl h0 ?_
            refine zw_getfield 113 f49_110 rfl g49_28_10 (hb_11 _ _ _ _) rfl ?_
            refine zw_iload_n 114 f49_113 rfl h1 ?_
            refine zw_iaload k 0 115 f49_114 rfl (hb_19 _ _ _ _) (nI_clamp (by omega)) (nI_pos (by omega)) (by omega) (if_pos rfl) ?_
            refine zw_virtual_v 118 0 0 [.ref 11, .int (nI t4), .int 0] [(0, .ref 11), (1, .int (nI t4)), (2, .int 0)] f49_115 rfl n49_76 k49_76_10 rfl (hb_11 _ _ _ _) (by decide +kernel) (Nat.le_of_ble_eq_true rfl) rfl rfl (by decide +kernel) (by decide +kernel) rfl (Nat.le_of_ble_eq_true rfl) rfl ?_
            refine zw_aload_n 1 f51_0 rfl rfl ?_
            refine zw_getfield 4 f51_1 rfl g51_37_10 (hb_11 _ _ _ _) rfl ?_
            refine zw_iload_n 5 f51_4 rfl rfl ?_
            refine zw_virtual_i 8 0 0 [.ref 1, .int (nI t4)] [(0, .ref 1), (1, .int (nI t4))] f51_5 rfl n51_103 k51_103_4 rfl (hb_1 _ _ _ _) (by decide +kernel) (Nat.le_of_ble_eq_true rfl) rfl rfl (by decide +kernel) (by decide +kernel) rfl (Nat.le_of_ble_eq_true rfl) rfl ?_
            refine zw_iload_n 1 f13_0 rfl rfl ?_
            refine zw_if_lt_f 4 22 f13_1 (by decide +kernel) rfl (nI_pos (by omega)) ?_
            refine zw_iload_n 5 f13_4 rfl rfl ?_
            refine zw_aload_n 6 f13_5 rfl rfl ?_
            refine zw_getI (nI nv) 9 f13_6 rfl g13_39_4 (hb_1 _ _ _ _) rfl ((K0.1 1 0 rfl).trans hR.1.1) ?_
            refine zw_ic_ge_f 12 22 f13_9 (by decide +kernel) rfl (fun q => absurd (zn_ge (a := nv) (b := t4) (by omega) (by omega) q) (by omega)) ?_
            refine zw_iload_n 13 f13_12 rfl rfl ?_
            refine zw_bipush 8 15 f13_13 rfl (by decide +kernel) ?_
            refine zw_ic_ge_f 18 22 f13_15 (by decide +kernel) rfl (fun q => absurd (zn_ge (a := 8) (b := t4) (by omega) (by omega) q) (by omega)) ?_
            refine zw_iconst 1 19 f13_18 rfl (by decide +kernel) ?_
            refine zw_goto 23 f13_19 (by decide +kernel) ?_
            refine zw_zreturn f13_23 r13 u13 (by decide +kernel) ⟨_, rfl, ?_⟩
            refine zw_if_eq_f 11 24 f51_8 (by decide +kernel) rfl (by decide +kernel) ?_
            refine zw_aload_n 12 f51_11 rfl rfl ?_
            refine zw_getfield 15 f51_12 rfl g51_18_10 (hb_11 _ _ _ _) rfl ?_
            refine zw_iload_n 16 f51_15 rfl rfl ?_
            refine zw_dup2 17 f51_16 rfl rfl rfl ?_
            refine zw_iaload t4 (A1 16 t4) 18 f51_17 rfl (hb_16 _ _ _ _) (nI_clamp (by omega)) (nI_pos (by omega)) (by omega) rfl ?_
            refine zw_iload_n 19 f51_18 rfl rfl ?_
            refine zw_iadd ((A1 16 t4) + 0) 20 f51_19 rfl rfl ?_
            refine zw_ast t4 _ 21 f51_20 rfl (hb_16 _ _ _ _) (nI_clamp (by omega)) (nI_pos (by omega)) (by omega) (ha_16 _ _ _ _ _) ?_
            refine zw_goto 34 f51_21 (by decide +kernel) ?_
            refine zw_vreturn f51_34 r51 u51 ⟨rfl, ?_⟩
            refine zw_iinc (nI (k + 1)) _ 121 f49_118 rfl h1 (by decide +kernel) (nI_1 _) rfl ?_
            refine zw_goto 33 f49_121 (by decide +kernel) ?_
            have E := mR1_n (frm := P 60) (too := P 61) (amt := P 62) (run := (wRun nv P W)) (k := k) 0 (if_neg (fun q => q.2 hc3)) (by decide)
            exact ih (k + 1) _ _ _ _ _ (KQ.a rfl (KQ.i rfl (KQ.a rfl K0))) ⟨(by rw [E]; exact ⟨mC_0 hr.1.1, hr.1.2.1, congrArg (fun z => z + 0) hr.1.2.2⟩), (fs_y hr.2 rfl ((cI_y (Decidable.of_not_not hc2)).trans (cI_y hc3)).symm)⟩ (zl1_ne rfl rfl h0) zl1_eq (by omega) (by omega)
        · refine zw_aload_n 71 f49_70 rfl h0 ?_
          refine zw_getfield 74 f49_71 rfl g49_12_10 (hb_11 _ _ _ _) rfl ?_
          refine zw_getfield 77 f49_74 rfl g49_70_9 (hb_12 _ _ _ _) rfl ?_
          refine zw_iload_n 78 f49_77 rfl h1 ?_
          refine zw_iaload k (P 62 k) 79 f49_78 rfl (hb_15 _ _ _ _) (nI_clamp (by omega)) (nI_pos (by omega)) (by omega) (congrFun (((K0.2.2.1 15 rfl).trans (hR.2.1 62 (by omega) (by omega)))) k) ?_
          refine zw_goto 83 f49_79 (by decide +kernel) ?_
          refine zw_ast k _ 84 f49_83 rfl (hb_19 _ _ _ _) (nI_clamp (by omega)) (nI_pos (by omega)) (by omega) (ha_19 _ _ _ _ _) ?_
          refine zw_aload_n 85 f49_84 rfl h0 ?_
          refine zw_dup 86 f49_85 rfl rfl ?_
          refine zw_getI (I1 11 6) 89 f49_86 rfl g49_54_10 (hb_11 _ _ _ _) rfl rfl ?_
          refine zw_aload_n 90 f49_89 rfl h0 ?_
          refine zw_getfield 93 f49_90 rfl g49_28_10 (hb_11 _ _ _ _) rfl ?_
          refine zw_iload_n 94 f49_93 rfl h1 ?_
          refine zw_iaload k (P 62 k) 95 f49_94 rfl (hb_19 _ _ _ _) (nI_clamp (by omega)) (nI_pos (by omega)) (by omega) (if_pos rfl) ?_
          refine zw_iadd ((I1 11 6) + (P 62 k)) 96 f49_95 rfl rfl ?_
          refine zw_put _ 99 f49_96 rfl g49_54_10 (hb_11 _ _ _ _) rfl (Nat.le_of_ble_eq_true rfl) (by decide +kernel) (hi_11_6 _ _ _ _ _) ?_
          refine zw_aload_n 100 f49_99 rfl h0 ?_
          refine zw_aload_n 101 f49_100 rfl h0 ?_
          refine zw_getfield 104 f49_101 rfl g49_37_10 (hb_11 _ _ _ _) rfl ?_
          refine zw_getfield 107 f49_104 rfl g49_73_4 (hb_1 _ _ _ _) rfl ?_
          refine zw_iload_n 108 f49_107 rfl h1 ?_
          rcases (hp.2.2.2 k (by omega)).1 with t5q | ⟨t5, t5l, t5n, t5q⟩
          · refine zw_iaload k (-1) 109 f49_108 rfl (hb_10 _ _ _ _) (nI_clamp (by omega)) (nI_pos (by omega)) (by omega) ((congrFun ((K0.2.2.1 10 rfl).trans (hR.2.1 61 (by omega) (by omega))) k).trans t5q) ?_
            refine zw_aload_n 110 f49_109 rfl h0 ?_
            refine zw_getfield 113 f49_110 rfl g49_28_10 (hb_11 _ _ _ _) rfl ?_
            refine zw_iload_n 114 f49_113 rfl h1 ?_
            refine zw_iaload k (P 62 k) 115 f49_114 rfl (hb_19 _ _ _ _) (nI_clamp (by omega)) (nI_pos (by omega)) (by omega) (if_pos rfl) ?_
            refine zw_virtual_v 118 0 0 [.ref 11, .int (-1), .int (P 62 k)] [(0, .ref 11), (1, .int (-1)), (2, .int (P 62 k))] f49_115 rfl n49_76 k49_76_10 rfl (hb_11 _ _ _ _) (by decide +kernel) (Nat.le_of_ble_eq_true rfl) rfl rfl (by decide +kernel) (by decide +kernel) rfl (Nat.le_of_ble_eq_true rfl) rfl ?_
            refine zw_aload_n 1 f51_0 rfl rfl ?_
            refine zw_getfield 4 f51_1 rfl g51_37_10 (hb_11 _ _ _ _) rfl ?_
            refine zw_iload_n 5 f51_4 rfl rfl ?_
            refine zw_virtual_i 8 0 0 [.ref 1, .int (-1)] [(0, .ref 1), (1, .int (-1))] f51_5 rfl n51_103 k51_103_4 rfl (hb_1 _ _ _ _) (by decide +kernel) (Nat.le_of_ble_eq_true rfl) rfl rfl (by decide +kernel) (by decide +kernel) rfl (Nat.le_of_ble_eq_true rfl) rfl ?_
            refine zw_iload_n 1 f13_0 rfl rfl ?_
            refine zw_if_lt_t 22 f13_1 (by decide +kernel) (by decide +kernel) ?_
            refine zw_iconst 0 23 f13_22 rfl (by decide +kernel) ?_
            refine zw_zreturn f13_23 r13 u13 (by decide +kernel) ⟨_, rfl, ?_⟩
            refine zw_if_eq_t 24 f51_8 (by decide +kernel) (by decide +kernel) ?_
            refine zw_aload_n 25 f51_24 rfl rfl ?_
            refine zw_dup 26 f51_25 rfl rfl ?_
            refine zw_getI (I1 11 7) 29 f51_26 rfl g51_58_10 (hb_11 _ _ _ _) rfl rfl ?_
            refine zw_iload_n 30 f51_29 rfl rfl ?_
            refine zw_iadd ((I1 11 7) + (P 62 k)) 31 f51_30 rfl rfl ?_
            refine zw_put _ 34 f51_31 rfl g51_58_10 (hb_11 _ _ _ _) rfl (Nat.le_of_ble_eq_true rfl) (by decide +kernel) (hi_11_7 _ _ _ _ _) ?_
            refine zw_vreturn f51_34 r51 u51 ⟨rfl, ?_⟩
            refine zw_iinc (nI (k + 1)) _ 121 f49_118 rfl h1 (by decide +kernel) (nI_1 _) rfl ?_
            refine zw_goto 33 f49_121 (by decide +kernel) ?_
            have ha := (hp.2.2.2 k (by omega)).2.1
            have h0a : 0 < P 62 k := by rw [i32_lt, i32_0]; omega
            have E := mR1_y (frm := P 60) (too := P 61) (amt := P 62) (run := (wRun nv P W)) (k := k) (P 62 k) (-1) t5q (if_pos ⟨(Decidable.of_not_not hc2), hc3⟩) h0a
            rw [mGoC_m, mGoD_m] at E
            exact ih (k + 1) _ _ _ _ _ (KQ.i rfl (KQ.i rfl (KQ.a rfl K0))) ⟨(by rw [E]; exact ⟨hr.1.1, congrArg (fun z => z + P 62 k) hr.1.2.1, congrArg (fun z => z + P 62 k) hr.1.2.2⟩), (fs_y hr.2 rfl ((cI_y (Decidable.of_not_not hc2)).trans (cI_n hc3)).symm)⟩ (zl1_ne rfl rfl h0) zl1_eq (by omega) (by omega)
          · refine zw_iaload k (nI t5) 109 f49_108 rfl (hb_10 _ _ _ _) (nI_clamp (by omega)) (nI_pos (by omega)) (by omega) ((congrFun ((K0.2.2.1 10 rfl).trans (hR.2.1 61 (by omega) (by omega))) k).trans t5q) ?_
            refine zw_aload_n 110 f49_109 rfl h0 ?_
            refine zw_getfield 113 f49_110 rfl g49_28_10 (hb_11 _ _ _ _) rfl ?_
            refine zw_iload_n 114 f49_113 rfl h1 ?_
            refine zw_iaload k (P 62 k) 115 f49_114 rfl (hb_19 _ _ _ _) (nI_clamp (by omega)) (nI_pos (by omega)) (by omega) (if_pos rfl) ?_
            refine zw_virtual_v 118 0 0 [.ref 11, .int (nI t5), .int (P 62 k)] [(0, .ref 11), (1, .int (nI t5)), (2, .int (P 62 k))] f49_115 rfl n49_76 k49_76_10 rfl (hb_11 _ _ _ _) (by decide +kernel) (Nat.le_of_ble_eq_true rfl) rfl rfl (by decide +kernel) (by decide +kernel) rfl (Nat.le_of_ble_eq_true rfl) rfl ?_
            refine zw_aload_n 1 f51_0 rfl rfl ?_
            refine zw_getfield 4 f51_1 rfl g51_37_10 (hb_11 _ _ _ _) rfl ?_
            refine zw_iload_n 5 f51_4 rfl rfl ?_
            refine zw_virtual_i 8 0 0 [.ref 1, .int (nI t5)] [(0, .ref 1), (1, .int (nI t5))] f51_5 rfl n51_103 k51_103_4 rfl (hb_1 _ _ _ _) (by decide +kernel) (Nat.le_of_ble_eq_true rfl) rfl rfl (by decide +kernel) (by decide +kernel) rfl (Nat.le_of_ble_eq_true rfl) rfl ?_
            refine zw_iload_n 1 f13_0 rfl rfl ?_
            refine zw_if_lt_f 4 22 f13_1 (by decide +kernel) rfl (nI_pos (by omega)) ?_
            refine zw_iload_n 5 f13_4 rfl rfl ?_
            refine zw_aload_n 6 f13_5 rfl rfl ?_
            refine zw_getI (nI nv) 9 f13_6 rfl g13_39_4 (hb_1 _ _ _ _) rfl ((K0.1 1 0 rfl).trans hR.1.1) ?_
            refine zw_ic_ge_f 12 22 f13_9 (by decide +kernel) rfl (fun q => absurd (zn_ge (a := nv) (b := t5) (by omega) (by omega) q) (by omega)) ?_
            refine zw_iload_n 13 f13_12 rfl rfl ?_
            refine zw_bipush 8 15 f13_13 rfl (by decide +kernel) ?_
            refine zw_ic_ge_f 18 22 f13_15 (by decide +kernel) rfl (fun q => absurd (zn_ge (a := 8) (b := t5) (by omega) (by omega) q) (by omega)) ?_
            refine zw_iconst 1 19 f13_18 rfl (by decide +kernel) ?_
            refine zw_goto 23 f13_19 (by decide +kernel) ?_
            refine zw_zreturn f13_23 r13 u13 (by decide +kernel) ⟨_, rfl, ?_⟩
            refine zw_if_eq_f 11 24 f51_8 (by decide +kernel) rfl (by decide +kernel) ?_
            refine zw_aload_n 12 f51_11 rfl rfl ?_
            refine zw_getfield 15 f51_12 rfl g51_18_10 (hb_11 _ _ _ _) rfl ?_
            refine zw_iload_n 16 f51_15 rfl rfl ?_
            refine zw_dup2 17 f51_16 rfl rfl rfl ?_
            refine zw_iaload t5 (A1 16 t5) 18 f51_17 rfl (hb_16 _ _ _ _) (nI_clamp (by omega)) (nI_pos (by omega)) (by omega) rfl ?_
            refine zw_iload_n 19 f51_18 rfl rfl ?_
            refine zw_iadd ((A1 16 t5) + (P 62 k)) 20 f51_19 rfl rfl ?_
            refine zw_ast t5 _ 21 f51_20 rfl (hb_16 _ _ _ _) (nI_clamp (by omega)) (nI_pos (by omega)) (by omega) (ha_16 _ _ _ _ _) ?_
            refine zw_goto 34 f51_21 (by decide +kernel) ?_
            refine zw_vreturn f51_34 r51 u51 ⟨rfl, ?_⟩
            refine zw_iinc (nI (k + 1)) _ 121 f49_118 rfl h1 (by decide +kernel) (nI_1 _) rfl ?_
            refine zw_goto 33 f49_121 (by decide +kernel) ?_
            have ha := (hp.2.2.2 k (by omega)).2.1
            have h0a : 0 < P 62 k := by rw [i32_lt, i32_0]; omega
            have E := mR1_y (frm := P 60) (too := P 61) (amt := P 62) (run := (wRun nv P W)) (k := k) (P 62 k) (nI t5) t5q (if_pos ⟨(Decidable.of_not_not hc2), hc3⟩) h0a
            rw [mGoC_t (by omega), mGoD_t (by omega)] at E
            exact ih (k + 1) _ _ _ _ _ (KQ.a rfl (KQ.i rfl (KQ.a rfl K0))) ⟨(by rw [E]; exact ⟨mC_t hr.1.1 (by omega), hr.1.2.1, congrArg (fun z => z + P 62 k) hr.1.2.2⟩), (fs_y hr.2 rfl ((cI_y (Decidable.of_not_not hc2)).trans (cI_n hc3)).symm)⟩ (zl1_ne rfl rfl h0) zl1_eq (by omega) (by omega)
set_option maxRecDepth 100000 in
set_option maxHeartbeats 0 in
theorem lcf_rr11_12 (ro : UInt32 → Nat × (Nat → Int32)) (nv np : Nat) (P : Nat → Nat → Int32) (W : qW) (T K : Int) (I : Nat → Nat → Int32) (G : Nat → Nat → Int64) (A : Nat → Nat → Int32) (B : Nat → Nat → Int64) (hR : cRS 11 nv np P W I G A B) (hp : MPa nv np P) (hb : wBo W) (hq : qOw nv np P) (hW : wOk nv T K P W) : ∀ (n k : Nat) (ls : List (Nat × Value)) (I1 : Nat → Nat → Int32) (G1 : Nat → Nat → Int64) (A1 : Nat → Nat → Int32) (B1 : Nat → Nat → Int64), KQ (fCr 11) (pCr 11) I G A B I1 G1 A1 B1 → ((∀ j, j < k → A1 16 j = 0) ∧ I1 11 6 = 0 ∧ I1 11 7 = 0) → zld ls 0 = some (.ref 11) → zld ls 1 = some (.int (nI k)) → k ≤ 8 → 8 + 1 ≤ k + n → zWp ro 49 12 ls [] (hS I1 G1 A1 B1) 0 0 (fun r h1 => ∃ I2 G2 A2 B2, h1 = hS I2 G2 A2 B2 ∧ KQ (fCr 11) (pCr 11) I G A B I2 G2 A2 B2 ∧ (∀ p, p < np → A2 19 p = mFw (P 60) (P 61) (P 62) (wRun nv P W) (P 59) (P 54) W.2.2.2.2.1 W.1 np p) ∧ r = none) := by
  have h8 := hp.1
  have h14 := hp.2.1
  intro n
  induction n with
  | zero =>
    intro k ls I1 G1 A1 B1 _ _ _ _ a c
    exact absurd c (by omega)
  | succ n ih =>
    intro k ls I1 G1 A1 B1 K0 hr h0 h1 hk1 hk2
    refine zw_iload_n 13 f49_12 rfl h1 ?_
    refine zw_bipush 8 15 f49_13 rfl (by decide +kernel) ?_
    refine zw_ic_ge 18 31 f49_15 (by decide +kernel) rfl (fun hc1 => ?_) (fun hc1 => ?_)
    · have hn_hc1 : 8 ≤ k := zn_ge (by omega) (by omega) hc1
      refine zw_iconst 0 32 f49_31 rfl (by decide +kernel) ?_
      refine zw_istore_n _ 33 f49_32 rfl (by decide +kernel) rfl ?_
      have hk : k = 8 := by omega
      subst hk
      exact lcf_rr11_33 ro nv np P W T K I G A B hR hp hb hq hW (np + 1) 0 _ _ _ _ _ K0 ⟨⟨hr.1, hr.2.2, hr.2.1⟩, fun p hp0 => absurd hp0 (by omega)⟩ (zl1_ne rfl rfl h0) zl1_eq (by omega) (by omega)
    · have hn_hc1 : k < 8 := zn_lt (by omega) (by omega) hc1
      refine zw_aload_n 19 f49_18 rfl h0 ?_
      refine zw_getfield 22 f49_19 rfl g49_18_10 (hb_11 _ _ _ _) rfl ?_
      refine zw_iload_n 23 f49_22 rfl h1 ?_
      refine zw_iconst 0 24 f49_23 rfl (by decide +kernel) ?_
      refine zw_ast k _ 25 f49_24 rfl (hb_16 _ _ _ _) (nI_clamp (by omega)) (nI_pos (by omega)) (by omega) (ha_16 _ _ _ _ _) ?_
      refine zw_iinc (nI (k + 1)) _ 28 f49_25 rfl h1 (by decide +kernel) (nI_1 _) rfl ?_
      refine zw_goto 12 f49_28 (by decide +kernel) ?_
      exact ih (k + 1) _ _ _ _ _ (KQ.a rfl K0) ⟨mI_u (T := fun _ => 0) hr.1 rfl, hr.2⟩ (zl1_ne rfl rfl h0) zl1_eq (by omega) (by omega)
set_option maxRecDepth 100000 in
set_option maxHeartbeats 0 in
theorem cf_rates_11 (ro : UInt32 → Nat × (Nat → Int32)) (nv np : Nat) (P : Nat → Nat → Int32) (W : qW) (T K : Int) (I : Nat → Nat → Int32) (G : Nat → Nat → Int64) (A : Nat → Nat → Int32) (B : Nat → Nat → Int64) (hR : cRS 11 nv np P W I G A B) (hp : MPa nv np P) (hb : wBo W) (hq : qOw nv np P) (hW : wOk nv T K P W) : zWp ro 49 0 [(0, .ref 11)] [] (hS I G A B) 0 0 (fun r h1 => ∃ I2 G2 A2 B2, h1 = hS I2 G2 A2 B2 ∧ KQ (fCr 11) (pCr 11) I G A B I2 G2 A2 B2 ∧ (∀ p, p < np → A2 19 p = mFw (P 60) (P 61) (P 62) (wRun nv P W) (P 59) (P 54) W.2.2.2.2.1 W.1 np p) ∧ r = none) := by
  have h8 := hp.1
  have h14 := hp.2.1
  refine zw_aload_n 1 f49_0 rfl rfl ?_
  refine zw_iconst 0 2 f49_1 rfl (by decide +kernel) ?_
  refine zw_put _ 5 f49_2 rfl g49_54_10 (hb_11 _ _ _ _) rfl (Nat.le_of_ble_eq_true rfl) (by decide +kernel) (hi_11_6 _ _ _ _ _) ?_
  refine zw_aload_n 6 f49_5 rfl rfl ?_
  refine zw_iconst 0 7 f49_6 rfl (by decide +kernel) ?_
  refine zw_put _ 10 f49_7 rfl g49_58_10 (hb_11 _ _ _ _) rfl (Nat.le_of_ble_eq_true rfl) (by decide +kernel) (hi_11_7 _ _ _ _ _) ?_
  refine zw_iconst 0 11 f49_10 rfl (by decide +kernel) ?_
  refine zw_istore_n _ 12 f49_11 rfl (by decide +kernel) rfl ?_
  exact lcf_rr11_12 ro nv np P W T K I G A B hR hp hb hq hW 9 0 _ _ _ _ _ (KQ.i rfl (KQ.i rfl KQ.rf)) ⟨fun j hj => absurd hj (by omega), rfl, rfl⟩ (zl1_ne rfl rfl rfl) zl1_eq (by omega) (by omega)
noncomputable def an_flow (nv np : Nat) (P : Nat → Nat → Int32) (W : qW) (a : Int32) : Int32 := cI (qV np a) (mFw (P 60) (P 61) (P 62) (wRun nv P W) (P 59) (P 54) W.2.2.2.2.1 W.1 np a.toNatClampNeg) (-1)
theorem mf_ratesW (ro : UInt32 → Nat × (Nat → Int32)) (nv np : Nat) (P : Nat → Nat → Int32) (W : qW) (L : qLog) (I : Nat → Nat → Int32) (G : Nat → Nat → Int64) (A : Nat → Nat → Int32) (B : Nat → Nat → Int64) (hR : mRS nv np P W L I G A B) (hp : MPa nv np P) (hb : wBo W) : zWp ro 129 0 [(0, .ref 52)] [] (hS I G A B) 0 0 (fun r h1 => ∃ I2 G2 A2 B2, h1 = hS I2 G2 A2 B2 ∧ KQ fR pR I G A B I2 G2 A2 B2 ∧ (∀ p, p < np → A2 75 p = mFw (P 60) (P 61) (P 62) (wRun nv P W) (P 59) (P 54) W.2.2.2.2.1 W.1 np p) ∧ r = none) := by
  refine zWp.mono (mf_rates ro nv np I G A B (hR.mp hp) (hR.mb hb)) ?_
  rintro r h1 ⟨I2, G2, A2, B2, rfl, K, hf, rfl⟩
  have en : mRn nv A = wRun nv P W := funext (fun p => mRn_w hR)
  rw [en, hR.2.1 60 (by omega) (by omega), hR.2.1 61 (by omega) (by omega), hR.2.1 62 (by omega) (by omega), hR.2.1 59 (by omega) (by omega), hR.2.1 54 (by omega) (by omega), hR.lev, hR.g] at hf
  exact ⟨I2, G2, A2, B2, rfl, K, hf, rfl⟩
set_option maxRecDepth 100000 in
set_option maxHeartbeats 0 in
theorem cq_flow (ro : UInt32 → Nat × (Nat → Int32)) (nv np : Nat) (P : Nat → Nat → Int32) (W : qW) (L : qLog) (K : Int) (I : Nat → Nat → Int32) (G : Nat → Nat → Int64) (A : Nat → Nat → Int32) (B : Nat → Nat → Int64) (hR : cRS 11 nv np P W I G A B) (hp : MPa nv np P) (hq : qOw nv np P) (hW : wInv nv 10000 K P W) (hQ : qKd nv P) (hL : cLg L I A) (hn : L.1 < 900000000) (a : Int32) : zWp ro 92 0 [(0, .ref 0), (1, .int a)] [] (hS I G A B) 0 0 (fun r h1 => ∃ I2 G2 A2 B2, h1 = hS I2 G2 A2 B2 ∧ KQ fNe pNe I G A B I2 G2 A2 B2 ∧ r = some (.int (an_flow nv np P W a))) := by
  have h8 := hp.1
  have h14 := hp.2.1
  refine zw_aload_n 1 f92_0 rfl rfl ?_
  refine zw_getfield 4 f92_1 rfl g92_10_11 (hb_0 _ _ _ _) rfl ?_
  refine zw_iload_n 5 f92_4 rfl rfl ?_
  refine zw_virtual_i 8 0 0 [.ref 1, .int a] [(0, .ref 1), (1, .int a)] f92_5 rfl n92_109 k92_109_4 rfl (hb_1 _ _ _ _) (by decide +kernel) (Nat.le_of_ble_eq_true rfl) rfl rfl (by decide +kernel) (by decide +kernel) rfl (Nat.le_of_ble_eq_true rfl) rfl ?_
  refine zw_iload_n 1 f14_0 rfl rfl ?_
  refine zw_if_lt 4 22 f14_1 (by decide +kernel) rfl (fun hc1 => ?_) (fun hc1 => ?_)
  · refine zw_iconst 0 23 f14_22 rfl (by decide +kernel) ?_
    refine zw_zreturn f14_23 r14 u14 (by decide +kernel) ⟨_, rfl, ?_⟩
    refine zw_if_ne_f 11 13 f92_8 (by decide +kernel) rfl (by decide +kernel) ?_
    refine zw_iconst (-1) 12 f92_11 rfl (by decide +kernel) ?_
    refine zw_ireturn f92_12 r92 u92 ?_
    exact ⟨_, _, _, _, rfl, KQ.rf, by rw [show an_flow nv np P W a = (-1) from (cI_n (qV.n0 (by omega) hc1))]⟩
  · refine zw_iload_n 5 f14_4 rfl rfl ?_
    refine zw_aload_n 6 f14_5 rfl rfl ?_
    refine zw_getI (nI np) 9 f14_6 rfl g14_43_4 (hb_1 _ _ _ _) rfl hR.1.2 ?_
    refine zw_ic_ge 12 22 f14_9 (by decide +kernel) rfl (fun hc2 => ?_) (fun hc2 => ?_)
    · refine zw_iconst 0 23 f14_22 rfl (by decide +kernel) ?_
      refine zw_zreturn f14_23 r14 u14 (by decide +kernel) ⟨_, rfl, ?_⟩
      refine zw_if_ne_f 11 13 f92_8 (by decide +kernel) rfl (by decide +kernel) ?_
      refine zw_iconst (-1) 12 f92_11 rfl (by decide +kernel) ?_
      refine zw_ireturn f92_12 r92 u92 ?_
      exact ⟨_, _, _, _, rfl, KQ.rf, by rw [show an_flow nv np P W a = (-1) from (cI_n (qV.n2 (by omega) hc2))]⟩
    · refine zw_iload_n 13 f14_12 rfl rfl ?_
      refine zw_bipush 14 15 f14_13 rfl (by decide +kernel) ?_
      refine zw_ic_ge 18 22 f14_15 (by decide +kernel) rfl (fun hc3 => ?_) (fun hc3 => ?_)
      · refine zw_iconst 0 23 f14_22 rfl (by decide +kernel) ?_
        refine zw_zreturn f14_23 r14 u14 (by decide +kernel) ⟨_, rfl, ?_⟩
        refine zw_if_ne_f 11 13 f92_8 (by decide +kernel) rfl (by decide +kernel) ?_
        refine zw_iconst (-1) 12 f92_11 rfl (by decide +kernel) ?_
        refine zw_ireturn f92_12 r92 u92 ?_
        exact ⟨_, _, _, _, rfl, KQ.rf, by rw [show an_flow nv np P W a = (-1) from (cI_n (qV.n3 (m := 14) (N := 14) (by omega) (by omega) (by decide) hc3))]⟩
      · refine zw_iconst 1 19 f14_18 rfl (by decide +kernel) ?_
        refine zw_goto 23 f14_19 (by decide +kernel) ?_
        refine zw_zreturn f14_23 r14 u14 (by decide +kernel) ⟨_, rfl, ?_⟩
        refine zw_if_ne_t 13 f92_8 (by decide +kernel) (by decide +kernel) ?_
        refine zw_aload_n 14 f92_13 rfl rfl ?_
        refine zw_getfield 17 f92_14 rfl g92_21_11 (hb_0 _ _ _ _) rfl ?_
        refine zw_virtual_v 20 0 0 [.ref 11] [(0, .ref 11)] f92_17 rfl n92_219 k92_219_10 rfl (hb_11 _ _ _ _) (by decide +kernel) (Nat.le_of_ble_eq_true rfl) rfl rfl (by decide +kernel) (by decide +kernel) rfl (Nat.le_of_ble_eq_true rfl) rfl ?_
        refine zWp.mono (cf_rates_11 ro nv np P W 10000 K _ _ _ _ hR hp hW.2.1 hq hW.1) ?_
        rintro r h1 ⟨I_r, G_r, A_r, B_r, rfl, K_r, hRt, rfl⟩
        refine ⟨rfl, ?_⟩
        have hR2 := hR.k K_r ⟨rfl, rfl⟩ (fCr_w 11) (pCr_w 11 (by omega))
        refine zw_aload_n 21 f92_20 rfl rfl ?_
        refine zw_getfield 24 f92_21 rfl g92_21_11 (hb_0 _ _ _ _) rfl ?_
        refine zw_getfield 27 f92_24 rfl g92_225_10 (hb_11 _ _ _ _) rfl ?_
        refine zw_iload_n 28 f92_27 rfl rfl ?_
        refine zw_iaload a.toNatClampNeg (mFw (P 60) (P 61) (P 62) (wRun nv P W) (P 59) (P 54) W.2.2.2.2.1 W.1 np a.toNatClampNeg) 29 f92_28 rfl (hb_19 _ _ _ _) rfl hc1 (zix (by decide) hc1 hc3) (hRt _ ((qV.ofc (by omega) hc1 hc2)).1) ?_
        refine zw_ireturn f92_29 r92 u92 ?_
        exact ⟨_, _, _, _, rfl, (KQ.wk K_r fCr_Ne pCr_Ne), by rw [show an_flow nv np P W a = (mFw (P 60) (P 61) (P 62) (wRun nv P W) (P 59) (P 54) W.2.2.2.2.1 W.1 np a.toNatClampNeg) from (cI_y (qV.ofc (by omega) hc1 hc2))]⟩
set_option maxRecDepth 100000 in
set_option maxHeartbeats 0 in
theorem mx_flow (ro : UInt32 → Nat × (Nat → Int32)) (nv np : Nat) (P : Nat → Nat → Int32) (W : qW) (L : qLog) (I : Nat → Nat → Int32) (G : Nat → Nat → Int64) (A : Nat → Nat → Int32) (B : Nat → Nat → Int64) (K : Int) (hR : mRS nv np P W L I G A B) (hp : MPa nv np P) (hW : wInv nv 10000 K P W) (hn : L.1 < 900000000) (hg : qLG L) (hi : mId I) (a : Int32) : zWp ro 158 0 [(0, .ref 52), (1, .int a)] [] (hS I G A B) 0 0 (fun r h1 => ∃ I2 G2 A2 B2, h1 = hS I2 G2 A2 B2 ∧ KQ fQu pQu I G A B I2 G2 A2 B2 ∧ mId I2 ∧ r = some (.int (an_flow nv np P W a))) := by
  have h8 := hp.1
  have h14 := hp.2.1
  obtain ⟨t, ht, et⟩ := hi.2.2
  refine zw_aload_n 1 f158_0 rfl rfl ?_
  refine zw_virtual_v 4 0 0 [.ref 52] [(0, .ref 52)] f158_1 rfl n158_151 k158_151_12 rfl (hb_52 _ _ _ _) (by decide +kernel) (Nat.le_of_ble_eq_true rfl) rfl rfl (by decide +kernel) (by decide +kernel) rfl (Nat.le_of_ble_eq_true rfl) rfl ?_
  refine zWp.mono (mf_ratesW ro nv np P W L _ _ _ _ hR hp hW.2.1) ?_
  rintro r h1 ⟨I_r, G_r, A_r, B_r, rfl, K_r, T_r, rfl⟩
  refine ⟨rfl, ?_⟩
  refine zw_aload_n 5 f158_4 rfl rfl ?_
  refine zw_iload_n 6 f158_5 rfl rfl ?_
  refine zw_virtual_i 9 0 0 [.ref 52, .int a] [(0, .ref 52), (1, .int a)] f158_6 rfl n158_218 k158_218_12 rfl (hb_52 _ _ _ _) (by decide +kernel) (Nat.le_of_ble_eq_true rfl) rfl rfl (by decide +kernel) (by decide +kernel) rfl (Nat.le_of_ble_eq_true rfl) rfl ?_
  refine zw_iload_n 1 f124_0 rfl rfl ?_
  refine zw_iconst 0 2 f124_1 rfl (by decide +kernel) ?_
  refine zw_aload_n 3 f124_2 rfl rfl ?_
  refine zw_getI (nI np) 6 f124_3 rfl g124_121_12 (hb_52 _ _ _ _) rfl ((K_r.1 52 8 rfl).trans hR.1.2) ?_
  refine zw_iconst 1 7 f124_6 rfl (by decide +kernel) ?_
  refine zw_isub ((nI np) - 1) 8 f124_7 rfl rfl ?_
  refine zw_static_i 11 0 0 [.int a, .int 0, .int ((nI np) - 1)] [] [(0, .int a), (1, .int 0), (2, .int ((nI np) - 1))] f124_8 rfl k124_117_99 rfl (by decide +kernel) (Nat.le_of_ble_eq_true rfl) (Nat.le_of_ble_eq_true rfl) rfl rfl (by decide +kernel) (by decide +kernel) rfl (Nat.le_of_ble_eq_true rfl) rfl ?_
  refine zw_iload_n 1 f120_0 rfl rfl ?_
  refine zw_iload_n 2 f120_1 rfl rfl ?_
  refine zw_ic_lt 5 14 f120_2 (by decide +kernel) rfl (fun hc1 => ?_) (fun hc1 => ?_)
  · refine zw_iconst 0 15 f120_14 rfl (by decide +kernel) ?_
    refine zw_zreturn f120_15 r120 u120 (by decide +kernel) ⟨_, rfl, ?_⟩
    refine zw_zreturn f124_11 r124 u124 (by decide +kernel) ⟨_, rfl, ?_⟩
    refine zw_if_eq_t 21 f158_9 (by decide +kernel) (by decide +kernel) ?_
    refine zw_iconst (-1) 22 f158_21 rfl (by decide +kernel) ?_
    refine zw_ireturn f158_22 r158 u158 ?_
    exact ⟨_, _, _, _, rfl, (KQ.wk K_r fR_Qu pR_Qu), ⟨((K_r.1 52 22 rfl).trans hi.1), ((K_r.1 52 41 rfl).trans hi.2.1), t, by omega, ((K_r.1 52 29 rfl).trans et)⟩, by rw [show an_flow nv np P W a = (-1) from (cI_n (qV.n0 (by omega) hc1))]⟩
  · refine zw_iload_n 6 f120_5 rfl rfl ?_
    refine zw_iload_n 7 f120_6 rfl rfl ?_
    refine zw_ic_gt 10 14 f120_7 (by decide +kernel) rfl (fun hc2 => ?_) (fun hc2 => ?_)
    · refine zw_iconst 0 15 f120_14 rfl (by decide +kernel) ?_
      refine zw_zreturn f120_15 r120 u120 (by decide +kernel) ⟨_, rfl, ?_⟩
      refine zw_zreturn f124_11 r124 u124 (by decide +kernel) ⟨_, rfl, ?_⟩
      refine zw_if_eq_t 21 f158_9 (by decide +kernel) (by decide +kernel) ?_
      refine zw_iconst (-1) 22 f158_21 rfl (by decide +kernel) ?_
      refine zw_ireturn f158_22 r158 u158 ?_
      exact ⟨_, _, _, _, rfl, (KQ.wk K_r fR_Qu pR_Qu), ⟨((K_r.1 52 22 rfl).trans hi.1), ((K_r.1 52 41 rfl).trans hi.2.1), t, by omega, ((K_r.1 52 29 rfl).trans et)⟩, by rw [show an_flow nv np P W a = (-1) from (cI_n (qV.n1 (by omega) hc2))]⟩
    · refine zw_iconst 1 11 f120_10 rfl (by decide +kernel) ?_
      refine zw_goto 15 f120_11 (by decide +kernel) ?_
      refine zw_zreturn f120_15 r120 u120 (by decide +kernel) ⟨_, rfl, ?_⟩
      refine zw_zreturn f124_11 r124 u124 (by decide +kernel) ⟨_, rfl, ?_⟩
      refine zw_if_eq_f 12 21 f158_9 (by decide +kernel) rfl (by decide +kernel) ?_
      refine zw_aload_n 13 f158_12 rfl rfl ?_
      refine zw_getfield 16 f158_13 rfl g158_86_12 (hb_52 _ _ _ _) rfl ?_
      refine zw_iload_n 17 f158_16 rfl rfl ?_
      refine zw_iaload a.toNatClampNeg (mFw (P 60) (P 61) (P 62) (wRun nv P W) (P 59) (P 54) W.2.2.2.2.1 W.1 np a.toNatClampNeg) 18 f158_17 rfl (hb_75 _ _ _ _) rfl hc1 (zix (by decide) hc1 (show ¬ 14 ≤ a from ix_le hp.2.1 (by decide) (by decide) hc1 hc2)) (T_r _ ((qV.of (by omega) hc1 hc2)).1) ?_
      refine zw_goto 22 f158_18 (by decide +kernel) ?_
      refine zw_ireturn f158_22 r158 u158 ?_
      exact ⟨_, _, _, _, rfl, (KQ.wk K_r fR_Qu pR_Qu), ⟨((K_r.1 52 22 rfl).trans hi.1), ((K_r.1 52 41 rfl).trans hi.2.1), t, by omega, ((K_r.1 52 29 rfl).trans et)⟩, by rw [show an_flow nv np P W a = (mFw (P 60) (P 61) (P 62) (wRun nv P W) (P 59) (P 54) W.2.2.2.2.1 W.1 np a.toNatClampNeg) from (cI_y (qV.of (by omega) hc1 hc2))]⟩
set_option maxHeartbeats 0 in
theorem pairX_flowx (ro : UInt32 → Nat × (Nat → Int32)) (k : Nat) (I : Nat → Nat → Int32) (G : Nat → Nat → Int64) (A : Nat → Nat → Int32) (B : Nat → Nat → Int64) (h : zCx k I G A B) (hk : k < 512) (a : Int32) : zWp ro 92 0 [(0, .ref 0), (1, .int a)] [] (hS I G A B) 0 0 (zPX ro 158 [(0, .ref 52), (1, .int a)] k (fun v w => v = w)) := by
  obtain ⟨nv, np, W, L, F, R, ow, kd, lw, lg⟩ := h
  have fn := F.2.2.2.2.2
  refine zWp.mono (cq_flow ro nv np A W L (242600 * k) I G A B R F.2.1 ow F.2.2.1 kd lg (by omega) a) ?_
  rintro r h1 ⟨I1, G1, A1, B1, rfl, K1, rfl⟩
  have F1 := F.kq K1 fNe_52 pNe_52
  have e1 : PE A A1 := fun k _ _ => (K1.2.2.1 k (pNe_52 k (by omega))).symm
  have R1 := R.k K1 ⟨rfl, rfl⟩ (fun j h1 h2 => by simp only [fNe, decide_eq_false_iff_not]; omega) (fun k h1 h2 => by simp only [pNe, decide_eq_false_iff_not]; omega)
  have g1 := lg.k K1 rfl rfl rfl rfl rfl
  refine ⟨_, rfl, zWp.mono (mx_flow ro nv np A W L I1 G1 A1 B1 (242600 * k) ⟨F1.1.1, e1.sy, F1.1.2.2⟩ F.2.1 F.2.2.1 (by omega) F1.2.2.2.1 F1.2.2.2.2.1 a) ?_⟩
  rintro r2 h2 ⟨I2, G2, A2, B2, rfl, K2, id2, rfl⟩
  have R2 := F1.1.k K2 fQu_R pQu_R
  refine ⟨_, rfl, ?_, rfl⟩
  exact zCx.mk (zRf.of R2 F1.2.1 F1.2.2.1 F1.2.2.2.1 id2 fn) (by omega) (by omega) R1 (e1.tr R2.2.1.sy) K2 fQu_c pQu_c ow kd lw g1
theorem pair2_flowx (ro : UInt32 → Nat × (Nat → Int32)) (k : Nat) (I : Nat → Nat → Int32) (G : Nat → Nat → Int64) (A : Nat → Nat → Int32) (B : Nat → Nat → Int64) (h : zL2 k I G A B) (hk : k < 512) (a : Int32) : zWp ro 92 0 [(0, .ref 0), (1, .int a)] [] (hS I G A B) 0 0 (zP2 ro 158 [(0, .ref 52), (1, .int a)] k (fun v w => v = w)) := by
  obtain ⟨h1, I3, G3, A3, B3, eh, hx⟩ := h
  have p1 := pair_flow ro k I G A B h1 hk a
  have p2 := pairX_flowx ro k I3 G3 A3 B3 hx hk a
  rw [← eh] at p2
  exact zP_and p1 p2
