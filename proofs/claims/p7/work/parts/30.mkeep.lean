/-! ===== the reference keeps and brings back; a search; tune ===== -/
def fKp (k j : Nat) : Bool := decide (k = 52 ∧ (j = 22 ∨ (43 ≤ j ∧ j ≤ 47)))
def pKp (k : Nat) : Bool := decide (77 ≤ k ∧ k ≤ 80)
def fBk (k j : Nat) : Bool := decide (k = 52 ∧ ((12 ≤ j ∧ j ≤ 15) ∨ j = 20 ∨ j = 22))
def pBk (k : Nat) : Bool := decide (63 ≤ k ∧ k ≤ 66)
theorem fKp_R : ∀ j, (j = 0 ∨ j = 8 ∨ (12 ≤ j ∧ j ≤ 15) ∨ j = 20 ∨ j = 42) → fKp 52 j = false := by
  intro j h
  simp only [fKp, decide_eq_false_iff_not]
  omega
theorem pKp_R : ∀ k, 53 ≤ k → k ≤ 70 → pKp k = false := by
  intro k h1 h2
  simp only [pKp, decide_eq_false_iff_not]
  omega
theorem pBk_p : ∀ k, 53 ≤ k → k ≤ 62 → pBk k = false := by
  intro k h1 h2
  simp only [pBk, decide_eq_false_iff_not]
  omega
theorem vnar_b {x : Int32} (h : x = 0 ∨ x = 1) : vp_nar .boolean x = x := by
  rcases h with h | h <;> subst h <;> decide
theorem mI_u {f T : Nat → Int32} {x : Int32} {k : Nat} (h : ∀ j, j < k → f j = T j) (hx : x = T k) : ∀ j, j < k + 1 → upd f k x j = T j := by
  intro j hj
  by_cases e : j = k
  · rw [e, upd_s]; exact hx
  · rw [upd_o e]; exact h j (by omega)
theorem mI_o {f T : Nat → Int32} {x : Int32} {k : Nat} (h : ∀ j, k ≤ j → f j = T j) : ∀ j, k + 1 ≤ j → upd f k x j = T j := fun j hj => (upd_o (by omega)).trans (h j (by omega))
def qKept (W0 : qW) (n0 : Nat) (I : Nat → Nat → Int32) (G : Nat → Nat → Int64) (A : Nat → Nat → Int32) (B : Nat → Nat → Int64) : Prop := (G 52 43 = W0.1 ∧ G 52 44 = W0.2.1 ∧ G 52 45 = W0.2.2.1 ∧ G 52 46 = W0.2.2.2.1 ∧ I 52 47 = nI n0) ∧ (∀ j, j < 8 → B 77 j = W0.2.2.2.2.1 j) ∧ (∀ j, j < 8 → A 79 j = W0.2.2.2.2.2.1 j) ∧ (∀ j, j < 8 → A 80 j = W0.2.2.2.2.2.2.2 j) ∧ ∀ j, j < 14 → A 78 j = W0.2.2.2.2.2.2.1 j
theorem qKept.k {pf : Nat → Nat → Bool} {pa : Nat → Bool} {I I1 : Nat → Nat → Int32} {G G1 : Nat → Nat → Int64} {A A1 : Nat → Nat → Int32} {B B1 : Nat → Nat → Int64} {W0 : qW} {n0 : Nat} (K : KQ pf pa I G A B I1 G1 A1 B1) (hf : ∀ j, 43 ≤ j → j ≤ 47 → pf 52 j = false) (hp : ∀ k, 77 ≤ k → k ≤ 80 → pa k = false) (h : qKept W0 n0 I G A B) : qKept W0 n0 I1 G1 A1 B1 := by
  unfold qKept
  rw [K.2.1 52 43 (hf 43 (by omega) (by omega)), K.2.1 52 44 (hf 44 (by omega) (by omega)), K.2.1 52 45 (hf 45 (by omega) (by omega)), K.2.1 52 46 (hf 46 (by omega) (by omega)), K.1 52 47 (hf 47 (by omega) (by omega)), K.2.2.2 77 (hp 77 (by omega) (by omega)), K.2.2.1 79 (hp 79 (by omega) (by omega)), K.2.2.1 80 (hp 80 (by omega) (by omega)), K.2.2.1 78 (hp 78 (by omega) (by omega))]
  exact h
section ZRX
variable {nv np : Nat} {PA : Nat → Nat → Int32} {W : qW} {L : qLog} {I I1 : Nat → Nat → Int32} {G G1 : Nat → Nat → Int64} {A A1 : Nat → Nat → Int32} {B B1 : Nat → Nat → Int64}
theorem mRS.sp (h : mRS nv np PA W L I G A B) : G 52 14 = W.2.2.1 := congrArg (fun w => w.2.2.1) h.2.2.1
theorem mRS.dr (h : mRS nv np PA W L I G A B) : G 52 15 = W.2.2.2.1 := congrArg (fun w => w.2.2.2.1) h.2.2.1
theorem mRS.lev (h : mRS nv np PA W L I G A B) : B 63 = W.2.2.2.2.1 := congrArg (fun w => w.2.2.2.2.1) h.2.2.1
theorem mRS.sip (h : mRS nv np PA W L I G A B) : A 65 = W.2.2.2.2.2.1 := congrArg (fun w => w.2.2.2.2.2.1) h.2.2.1
theorem mRS.opn (h : mRS nv np PA W L I G A B) : A 64 = W.2.2.2.2.2.2.1 := congrArg (fun w => w.2.2.2.2.2.2.1) h.2.2.1
theorem mRS.cnt (h : mRS nv np PA W L I G A B) : A 66 = W.2.2.2.2.2.2.2 := congrArg (fun w => w.2.2.2.2.2.2.2) h.2.2.1
end ZRX
theorem f_ext {f g : Nat → Int32} {n : Nat} (h : ∀ j, j < n → f j = g j) (h2 : ∀ j, n ≤ j → f j = 0) (h3 : ∀ j, n ≤ j → g j = 0) : f = g := by
  funext j
  rcases Nat.lt_or_ge j n with z | z
  · exact h j z
  · rw [h2 j z, h3 j z]
theorem g_ext {f g : Nat → Int64} {n : Nat} (h : ∀ j, j < n → f j = g j) (h2 : ∀ j, n ≤ j → f j = 0) (h3 : ∀ j, n ≤ j → g j = 0) : f = g := by
  funext j
  rcases Nat.lt_or_ge j n with z | z
  · exact h j z
  · rw [h2 j z, h3 j z]
def qArr (L L2 : qLog) : Prop := L2.2.1 = L.2.1 ∧ L2.2.2.1 = L.2.2.1 ∧ L2.2.2.2.1 = L.2.2.2.1 ∧ L2.2.2.2.2.1 = L.2.2.2.2.1
theorem qArr.rf {L : qLog} : qArr L L := ⟨rfl, rfl, rfl, rfl⟩
theorem qArr.tr {L L2 L3 : qLog} (h : qArr L L2) (h2 : qArr L2 L3) : qArr L L3 := ⟨h2.1.trans h.1, h2.2.1.trans h.2.1, h2.2.2.1.trans h.2.2.1, h2.2.2.2.trans h.2.2.2⟩
theorem qNotes_0 {t g : Int64} {so : Int32} : ∀ {L : qLog} (e : List (Int32 × Int32)), qArr L (qNotes 0 t g so L e)
  | L, [] => qArr.rf
  | L, (a, b) :: e => by
    have h1 : qArr L (qNote 0 t g so L a b) := by
      unfold qNote
      rw [if_neg (fun q => q.1 rfl)]
      exact ⟨rfl, rfl, rfl, rfl⟩
    exact h1.tr (qNotes_0 e)
theorem nI_n60 {k : Nat} (h : k < 60) : ¬ 60 ≤ nI k := by
  intro q
  rw [Int32.le_iff_toInt_le, nI_toInt (by omega)] at q
  have e : (60 : Int32).toInt = 60 := by decide
  omega
theorem wStep_inv4 {nv np : Nat} {T T2 K : Int} {PA : Nat → Nat → Int32} {W : qW} {u : Int64} (so : Int32) (h : MPa nv np PA) (hW : wInv nv T K PA W) (hT : T ≤ 40000) (hT2 : T2 ≤ 40000) (hK0 : 0 ≤ K) (hK : K ≤ 200000000) (hu : wU T T2 u) : (wStep nv np PA u W = (0, W, 0, 0, []) ∨ wStep nv np PA u W = (-1, W, 0, 0, [])) ∨ (((wStep nv np PA u W).1 = 1 ∧ wInv nv T2 (K + 1600) PA (wStep nv np PA u W).2.1 ∧ (wStep nv np PA u W).2.2.2.2.length ≤ 24) ∧ (4, so) ∈ (wStep nv np PA u W).2.2.2.2) ∨ (((wStep nv np PA u W).1 = 1 ∧ wInv nv T2 (K + 1600) PA (wStep nv np PA u W).2.1 ∧ (wStep nv np PA u W).2.2.2.2.length ≤ 24) ∧ ¬ (4, so) ∈ (wStep nv np PA u W).2.2.2.2) := by
  rcases wStep_inv h hW hT hT2 hK0 hK hu with q | q
  · exact Or.inl q
  · rcases Classical.em ((4, so) ∈ (wStep nv np PA u W).2.2.2.2) with z | z
    · exact Or.inr (Or.inl ⟨q, z⟩)
    · exact Or.inr (Or.inr ⟨q, z⟩)
set_option maxRecDepth 100000 in
set_option maxHeartbeats 0 in
theorem lmm_keep_97 (ro : UInt32 → Nat × (Nat → Int32)) (nv np : Nat) (PA : Nat → Nat → Int32) (W : qW) (L : qLog) (I : Nat → Nat → Int32) (G : Nat → Nat → Int64) (A : Nat → Nat → Int32) (B : Nat → Nat → Int64) (hR : mRS nv np PA W L I G A B) (hb : wBo W) : ∀ (n k : Nat) (ls : List (Nat × Value)) (I1 : Nat → Nat → Int32) (G1 : Nat → Nat → Int64) (A1 : Nat → Nat → Int32) (B1 : Nat → Nat → Int64), KQ fKp pKp I G A B I1 G1 A1 B1 → (((G1 52 43 = W.1 ∧ G1 52 44 = W.2.1 ∧ G1 52 45 = W.2.2.1 ∧ G1 52 46 = W.2.2.2.1 ∧ I1 52 47 = nI L.1) ∧ I1 52 22 = 0) ∧ (∀ j, j < 8 → B1 77 j = W.2.2.2.2.1 j) ∧ (∀ j, j < 8 → A1 79 j = W.2.2.2.2.2.1 j) ∧ (∀ j, j < 8 → A1 80 j = W.2.2.2.2.2.2.2 j) ∧ ∀ j, j < k → A1 78 j = W.2.2.2.2.2.2.1 j) → zld ls 0 = some (.ref 52) → zld ls 1 = some (.int (nI k)) → k ≤ 14 → 14 + 1 ≤ k + n → zWp ro 165 97 ls [] (hS I1 G1 A1 B1) 0 0 (fun r h1 => ∃ I2 G2 A2 B2, h1 = hS I2 G2 A2 B2 ∧ KQ fKp pKp I G A B I2 G2 A2 B2 ∧ qKept W L.1 I2 G2 A2 B2 ∧ I2 52 22 = 0 ∧ r = none) := by
  intro n
  induction n with
  | zero =>
    intro k ls I1 G1 A1 B1 _ _ _ _ a b
    exact absurd b (by omega)
  | succ n ih =>
    intro k ls I1 G1 A1 B1 K hr h0 h1 hk1 hk2
    refine zw_iload_n 98 f165_97 rfl h1 ?_
    refine zw_bipush 14 100 f165_98 rfl (by decide +kernel) ?_
    refine zw_ic_ge 103 121 f165_100 (by decide +kernel) rfl (fun hc1 => ?_) (fun hc1 => ?_)
    · have hn_hc1 : 14 ≤ k := zn_ge (by omega) (by omega) hc1
      refine zw_vreturn f165_121 r165 u165 ?_
      have hk : k = 14 := by omega
      subst hk
      exact ⟨_, _, _, _, rfl, K, ⟨hr.1.1, hr.2⟩, hr.1.2, rfl⟩
    · have hn_hc1 : k < 14 := zn_lt (by omega) (by omega) hc1
      refine zw_aload_n 104 f165_103 rfl h0 ?_
      refine zw_getfield 107 f165_104 rfl g165_99_12 (hb_52 _ _ _ _) rfl ?_
      refine zw_iload_n 108 f165_107 rfl h1 ?_
      refine zw_aload_n 109 f165_108 rfl h0 ?_
      refine zw_getfield 112 f165_109 rfl g165_48_12 (hb_52 _ _ _ _) rfl ?_
      refine zw_iload_n 113 f165_112 rfl h1 ?_
      refine zw_baload k ((W.2.2.2.2.2.2.1) k) 114 f165_113 rfl (hb_64 _ _ _ _) (nI_clamp (by omega)) (nI_pos (by omega)) (by omega) (congrFun (((K.2.2.1 64 rfl).trans hR.opn)) k) ?_
      refine zw_bst k _ 115 f165_114 rfl (hb_78 _ _ _ _) (nI_clamp (by omega)) (nI_pos (by omega)) (by omega) (ha_78 _ _ _ _ _) ?_
      refine zw_iinc (nI (k + 1)) _ 118 f165_115 rfl h1 (by decide +kernel) (nI_1 _) rfl ?_
      refine zw_goto 97 f165_118 (by decide +kernel) ?_
      exact ih (k + 1) _ _ _ _ _ (KQ.a rfl K) ⟨hr.1, hr.2.1, hr.2.2.1, hr.2.2.2.1, mI_u hr.2.2.2.2 (vnar_b (hb.1 k (by omega)))⟩ (zl1_ne rfl rfl h0) zl1_eq (by omega) (by omega)
set_option maxRecDepth 100000 in
set_option maxHeartbeats 0 in
theorem lmm_keep_47 (ro : UInt32 → Nat × (Nat → Int32)) (nv np : Nat) (PA : Nat → Nat → Int32) (W : qW) (L : qLog) (I : Nat → Nat → Int32) (G : Nat → Nat → Int64) (A : Nat → Nat → Int32) (B : Nat → Nat → Int64) (hR : mRS nv np PA W L I G A B) (hb : wBo W) : ∀ (n k : Nat) (ls : List (Nat × Value)) (I1 : Nat → Nat → Int32) (G1 : Nat → Nat → Int64) (A1 : Nat → Nat → Int32) (B1 : Nat → Nat → Int64), KQ fKp pKp I G A B I1 G1 A1 B1 → (((G1 52 43 = W.1 ∧ G1 52 44 = W.2.1 ∧ G1 52 45 = W.2.2.1 ∧ G1 52 46 = W.2.2.2.1 ∧ I1 52 47 = nI L.1) ∧ I1 52 22 = 0) ∧ (∀ j, j < k → B1 77 j = W.2.2.2.2.1 j) ∧ (∀ j, j < k → A1 79 j = W.2.2.2.2.2.1 j) ∧ ∀ j, j < k → A1 80 j = W.2.2.2.2.2.2.2 j) → zld ls 0 = some (.ref 52) → zld ls 1 = some (.int (nI k)) → k ≤ 8 → 8 + 1 ≤ k + n → zWp ro 165 47 ls [] (hS I1 G1 A1 B1) 0 0 (fun r h1 => ∃ I2 G2 A2 B2, h1 = hS I2 G2 A2 B2 ∧ KQ fKp pKp I G A B I2 G2 A2 B2 ∧ qKept W L.1 I2 G2 A2 B2 ∧ I2 52 22 = 0 ∧ r = none) := by
  intro n
  induction n with
  | zero =>
    intro k ls I1 G1 A1 B1 _ _ _ _ a b
    exact absurd b (by omega)
  | succ n ih =>
    intro k ls I1 G1 A1 B1 K hr h0 h1 hk1 hk2
    refine zw_iload_n 48 f165_47 rfl h1 ?_
    refine zw_bipush 8 50 f165_48 rfl (by decide +kernel) ?_
    refine zw_ic_ge 53 95 f165_50 (by decide +kernel) rfl (fun hc1 => ?_) (fun hc1 => ?_)
    · have hn_hc1 : 8 ≤ k := zn_ge (by omega) (by omega) hc1
      refine zw_iconst 0 96 f165_95 rfl (by decide +kernel) ?_
      refine zw_istore_n _ 97 f165_96 rfl (by decide +kernel) rfl ?_
      have hk : k = 8 := by omega
      subst hk
      exact lmm_keep_97 ro nv np PA W L I G A B hR hb 15 0 _ _ _ _ _ K ⟨hr.1, hr.2.1, hr.2.2.1, hr.2.2.2, fun j hj => absurd hj (by omega)⟩ (zl1_ne rfl rfl h0) zl1_eq (by omega) (by omega)
    · have hn_hc1 : k < 8 := zn_lt (by omega) (by omega) hc1
      refine zw_aload_n 54 f165_53 rfl h0 ?_
      refine zw_getfield 57 f165_54 rfl g165_96_12 (hb_52 _ _ _ _) rfl ?_
      refine zw_iload_n 58 f165_57 rfl h1 ?_
      refine zw_aload_n 59 f165_58 rfl h0 ?_
      refine zw_getfield 62 f165_59 rfl g165_44_12 (hb_52 _ _ _ _) rfl ?_
      refine zw_iload_n 63 f165_62 rfl h1 ?_
      refine zw_laload k ((W.2.2.2.2.1) k) 64 f165_63 rfl (hb_63 _ _ _ _) (nI_clamp (by omega)) (nI_pos (by omega)) (by omega) (congrFun (((K.2.2.2 63 rfl).trans hR.lev)) k) ?_
      refine zw_lst k _ 65 f165_64 rfl (hb_77 _ _ _ _) (nI_clamp (by omega)) (nI_pos (by omega)) (by omega) (ha_77 _ _ _ _ _) ?_
      refine zw_aload_n 66 f165_65 rfl h0 ?_
      refine zw_getfield 69 f165_66 rfl g165_102_12 (hb_52 _ _ _ _) rfl ?_
      refine zw_iload_n 70 f165_69 rfl h1 ?_
      refine zw_aload_n 71 f165_70 rfl h0 ?_
      refine zw_getfield 74 f165_71 rfl g165_52_12 (hb_52 _ _ _ _) rfl ?_
      refine zw_iload_n 75 f165_74 rfl h1 ?_
      refine zw_baload k ((W.2.2.2.2.2.1) k) 76 f165_75 rfl (hb_65 _ _ _ _) (nI_clamp (by omega)) (nI_pos (by omega)) (by omega) (congrFun (((K.2.2.1 65 rfl).trans hR.sip)) k) ?_
      refine zw_bst k _ 77 f165_76 rfl (hb_79 _ _ _ _) (nI_clamp (by omega)) (nI_pos (by omega)) (by omega) (ha_79 _ _ _ _ _) ?_
      refine zw_aload_n 78 f165_77 rfl h0 ?_
      refine zw_getfield 81 f165_78 rfl g165_105_12 (hb_52 _ _ _ _) rfl ?_
      refine zw_iload_n 82 f165_81 rfl h1 ?_
      refine zw_aload_n 83 f165_82 rfl h0 ?_
      refine zw_getfield 86 f165_83 rfl g165_55_12 (hb_52 _ _ _ _) rfl ?_
      refine zw_iload_n 87 f165_86 rfl h1 ?_
      refine zw_iaload k ((W.2.2.2.2.2.2.2) k) 88 f165_87 rfl (hb_66 _ _ _ _) (nI_clamp (by omega)) (nI_pos (by omega)) (by omega) (congrFun (((K.2.2.1 66 rfl).trans hR.cnt)) k) ?_
      refine zw_ast k _ 89 f165_88 rfl (hb_80 _ _ _ _) (nI_clamp (by omega)) (nI_pos (by omega)) (by omega) (ha_80 _ _ _ _ _) ?_
      refine zw_iinc (nI (k + 1)) _ 92 f165_89 rfl h1 (by decide +kernel) (nI_1 _) rfl ?_
      refine zw_goto 47 f165_92 (by decide +kernel) ?_
      exact ih (k + 1) _ _ _ _ _ (KQ.a rfl (KQ.a rfl (KQ.b rfl K))) ⟨hr.1, mL_u hr.2.1 rfl, mI_u hr.2.2.1 (vnar_b (hb.2 k (by omega))), mI_u hr.2.2.2 rfl⟩ (zl1_ne rfl rfl h0) zl1_eq (by omega) (by omega)
set_option maxRecDepth 100000 in
set_option maxHeartbeats 0 in
theorem mm_keep (ro : UInt32 → Nat × (Nat → Int32)) (nv np : Nat) (PA : Nat → Nat → Int32) (W : qW) (L : qLog) (I : Nat → Nat → Int32) (G : Nat → Nat → Int64) (A : Nat → Nat → Int32) (B : Nat → Nat → Int64) (hR : mRS nv np PA W L I G A B) (hb : wBo W) : zWp ro 165 0 [(0, .ref 52)] [] (hS I G A B) 0 0 (fun r h1 => ∃ I2 G2 A2 B2, h1 = hS I2 G2 A2 B2 ∧ KQ fKp pKp I G A B I2 G2 A2 B2 ∧ qKept W L.1 I2 G2 A2 B2 ∧ I2 52 22 = 0 ∧ r = none) := by
  refine zw_aload_n 1 f165_0 rfl rfl ?_
  refine zw_iconst 0 2 f165_1 rfl (by decide +kernel) ?_
  refine zw_put _ 5 f165_2 rfl g165_58_12 (hb_52 _ _ _ _) rfl (Nat.le_of_ble_eq_true rfl) (by decide +kernel) (hi_52_22 _ _ _ _ _) ?_
  refine zw_aload_n 6 f165_5 rfl rfl ?_
  refine zw_aload_n 7 f165_6 rfl rfl ?_
  refine zw_getG W.1 10 f165_7 rfl g165_40_12 (hb_52 _ _ _ _) rfl hR.g ?_
  refine zw_put _ 13 f165_10 rfl g165_249_12 (hb_52 _ _ _ _) rfl (Nat.le_of_ble_eq_true rfl) (by decide +kernel) (hg_52_43 _ _ _ _ _) ?_
  refine zw_aload_n 14 f165_13 rfl rfl ?_
  refine zw_aload_n 15 f165_14 rfl rfl ?_
  refine zw_getG W.2.1 18 f165_15 rfl g165_172_12 (hb_52 _ _ _ _) rfl hR.t ?_
  refine zw_put _ 21 f165_18 rfl g165_252_12 (hb_52 _ _ _ _) rfl (Nat.le_of_ble_eq_true rfl) (by decide +kernel) (hg_52_44 _ _ _ _ _) ?_
  refine zw_aload_n 22 f165_21 rfl rfl ?_
  refine zw_aload_n 23 f165_22 rfl rfl ?_
  refine zw_getG W.2.2.1 26 f165_23 rfl g165_175_12 (hb_52 _ _ _ _) rfl hR.sp ?_
  refine zw_put _ 29 f165_26 rfl g165_255_12 (hb_52 _ _ _ _) rfl (Nat.le_of_ble_eq_true rfl) (by decide +kernel) (hg_52_45 _ _ _ _ _) ?_
  refine zw_aload_n 30 f165_29 rfl rfl ?_
  refine zw_aload_n 31 f165_30 rfl rfl ?_
  refine zw_getG W.2.2.2.1 34 f165_31 rfl g165_178_12 (hb_52 _ _ _ _) rfl hR.dr ?_
  refine zw_put _ 37 f165_34 rfl g165_258_12 (hb_52 _ _ _ _) rfl (Nat.le_of_ble_eq_true rfl) (by decide +kernel) (hg_52_46 _ _ _ _ _) ?_
  refine zw_aload_n 38 f165_37 rfl rfl ?_
  refine zw_aload_n 39 f165_38 rfl rfl ?_
  refine zw_getI (nI L.1) 42 f165_39 rfl g165_183_12 (hb_52 _ _ _ _) rfl hR.2.2.2.1 ?_
  refine zw_put _ 45 f165_42 rfl g165_261_12 (hb_52 _ _ _ _) rfl (Nat.le_of_ble_eq_true rfl) (by decide +kernel) (hi_52_47 _ _ _ _ _) ?_
  refine zw_iconst 0 46 f165_45 rfl (by decide +kernel) ?_
  refine zw_istore_n _ 47 f165_46 rfl (by decide +kernel) rfl ?_
  exact lmm_keep_47 ro nv np PA W L I G A B hR hb 9 0 _ _ _ _ _ (KQ.i rfl (KQ.g rfl (KQ.g rfl (KQ.g rfl (KQ.g rfl (KQ.i rfl KQ.rf)))))) ⟨⟨⟨rfl, rfl, rfl, rfl, rfl⟩, rfl⟩, fun j hj => absurd hj (by omega), fun j hj => absurd hj (by omega), fun j hj => absurd hj (by omega)⟩ (zl1_ne rfl rfl rfl) zl1_eq (by omega) (by omega)
set_option maxRecDepth 100000 in
set_option maxHeartbeats 0 in
theorem lmm_back_97 (ro : UInt32 → Nat × (Nat → Int32)) (nv np : Nat) (PA : Nat → Nat → Int32) (W W0 : qW) (L : qLog) (n0 : Nat) (T T0 K K0 : Int) (I : Nat → Nat → Int32) (G : Nat → Nat → Int64) (A : Nat → Nat → Int32) (B : Nat → Nat → Int64) (hR : mRS nv np PA W L I G A B) (hW : wInv nv T K PA W) (h0W : wInv nv T0 K0 PA W0) (hn8 : nv ≤ 8) (hK : qKept W0 n0 I G A B) : ∀ (n k : Nat) (ls : List (Nat × Value)) (I1 : Nat → Nat → Int32) (G1 : Nat → Nat → Int64) (A1 : Nat → Nat → Int32) (B1 : Nat → Nat → Int64), KQ fBk pBk I G A B I1 G1 A1 B1 → (((G1 52 12 = W0.1 ∧ G1 52 13 = W0.2.1 ∧ G1 52 14 = W0.2.2.1 ∧ G1 52 15 = W0.2.2.2.1) ∧ I1 52 20 = nI n0 ∧ I1 52 22 = 1) ∧ ((∀ j, j < 8 → B1 63 j = W0.2.2.2.2.1 j) ∧ (∀ j, 8 ≤ j → B1 63 j = B 63 j)) ∧ ((∀ j, j < 8 → A1 65 j = W0.2.2.2.2.2.1 j) ∧ (∀ j, 8 ≤ j → A1 65 j = A 65 j)) ∧ ((∀ j, j < 8 → A1 66 j = W0.2.2.2.2.2.2.2 j) ∧ (∀ j, 8 ≤ j → A1 66 j = A 66 j)) ∧ (∀ j, j < k → A1 64 j = W0.2.2.2.2.2.2.1 j) ∧ (∀ j, k ≤ j → A1 64 j = A 64 j)) → zld ls 0 = some (.ref 52) → zld ls 1 = some (.int (nI k)) → k ≤ 14 → 14 + 1 ≤ k + n → zWp ro 166 97 ls [] (hS I1 G1 A1 B1) 0 0 (fun r h1 => ∃ I2 G2 A2 B2, h1 = hS I2 G2 A2 B2 ∧ KQ fBk pBk I G A B I2 G2 A2 B2 ∧ mRS nv np PA W0 (n0, L.2) I2 G2 A2 B2 ∧ I2 52 22 = 1 ∧ r = none) := by
  intro n
  induction n with
  | zero =>
    intro k ls I1 G1 A1 B1 _ _ _ _ a b
    exact absurd b (by omega)
  | succ n ih =>
    intro k ls I1 G1 A1 B1 KK hr h0 h1 hk1 hk2
    refine zw_iload_n 98 f166_97 rfl h1 ?_
    refine zw_bipush 14 100 f166_98 rfl (by decide +kernel) ?_
    refine zw_ic_ge 103 121 f166_100 (by decide +kernel) rfl (fun hc1 => ?_) (fun hc1 => ?_)
    · have hn_hc1 : 14 ≤ k := zn_ge (by omega) (by omega) hc1
      refine zw_vreturn f166_121 r166 u166 ?_
      have hk : k = 14 := by omega
      subst hk
      refine ⟨_, _, _, _, rfl, KK, ⟨⟨(KK.1 52 0 rfl).trans hR.1.1, (KK.1 52 8 rfl).trans hR.1.2⟩, PE.k KK pBk_p hR.2.1, ?_, ⟨hr.1.2.1, (KK.2.2.1 67 rfl).trans hR.2.2.2.2.1, (KK.2.2.1 68 rfl).trans hR.2.2.2.2.2.1, (KK.2.2.2 69 rfl).trans hR.2.2.2.2.2.2.1, (KK.2.2.2 70 rfl).trans hR.2.2.2.2.2.2.2.1, (KK.1 52 42 rfl).trans hR.2.2.2.2.2.2.2.2⟩⟩, hr.1.2.2, rfl⟩
      have e1 := g_ext (n := 8) hr.2.1.1 (fun j hj => (hr.2.1.2 j hj).trans ((congrFun hR.lev j).trans (hW.1.1.2.2 j (by omega)))) (fun j hj => h0W.1.1.2.2 j (by omega))
      have e2 := f_ext (n := 8) hr.2.2.1.1 (fun j hj => (hr.2.2.1.2 j hj).trans ((congrFun hR.sip j).trans (hW.2.2.2.1 j hj))) (fun j hj => h0W.2.2.2.1 j hj)
      have e3 := f_ext (n := 8) hr.2.2.2.1.1 (fun j hj => (hr.2.2.2.1.2 j hj).trans ((congrFun hR.cnt j).trans (hW.2.2.2.2 j hj))) (fun j hj => h0W.2.2.2.2 j hj)
      have e4 := f_ext (n := 14) hr.2.2.2.2.1 (fun j hj => (hr.2.2.2.2.2 j hj).trans ((congrFun hR.opn j).trans (hW.2.2.1 j hj))) (fun j hj => h0W.2.2.1 j hj)
      unfold wR
      rw [hr.1.1.1, hr.1.1.2.1, hr.1.1.2.2.1, hr.1.1.2.2.2, e1, e2, e3, e4]
    · have hn_hc1 : k < 14 := zn_lt (by omega) (by omega) hc1
      refine zw_aload_n 104 f166_103 rfl h0 ?_
      refine zw_getfield 107 f166_104 rfl g166_48_12 (hb_52 _ _ _ _) rfl ?_
      refine zw_iload_n 108 f166_107 rfl h1 ?_
      refine zw_aload_n 109 f166_108 rfl h0 ?_
      refine zw_getfield 112 f166_109 rfl g166_99_12 (hb_52 _ _ _ _) rfl ?_
      refine zw_iload_n 113 f166_112 rfl h1 ?_
      refine zw_baload k (W0.2.2.2.2.2.2.1 k) 114 f166_113 rfl (hb_78 _ _ _ _) (nI_clamp (by omega)) (nI_pos (by omega)) (by omega) ((congrFun (KK.2.2.1 78 rfl) k).trans (hK.2.2.2.2 k (by omega))) ?_
      refine zw_bst k _ 115 f166_114 rfl (hb_64 _ _ _ _) (nI_clamp (by omega)) (nI_pos (by omega)) (by omega) (ha_64 _ _ _ _ _) ?_
      refine zw_iinc (nI (k + 1)) _ 118 f166_115 rfl h1 (by decide +kernel) (nI_1 _) rfl ?_
      refine zw_goto 97 f166_118 (by decide +kernel) ?_
      exact ih (k + 1) _ _ _ _ _ (KQ.a rfl KK) ⟨hr.1, hr.2.1, hr.2.2.1, hr.2.2.2.1, mI_u hr.2.2.2.2.1 (vnar_b (h0W.2.1.1 k (by omega))), mI_o hr.2.2.2.2.2⟩ (zl1_ne rfl rfl h0) zl1_eq (by omega) (by omega)
set_option maxRecDepth 100000 in
set_option maxHeartbeats 0 in
theorem lmm_back_47 (ro : UInt32 → Nat × (Nat → Int32)) (nv np : Nat) (PA : Nat → Nat → Int32) (W W0 : qW) (L : qLog) (n0 : Nat) (T T0 K K0 : Int) (I : Nat → Nat → Int32) (G : Nat → Nat → Int64) (A : Nat → Nat → Int32) (B : Nat → Nat → Int64) (hR : mRS nv np PA W L I G A B) (hW : wInv nv T K PA W) (h0W : wInv nv T0 K0 PA W0) (hn8 : nv ≤ 8) (hK : qKept W0 n0 I G A B) : ∀ (n k : Nat) (ls : List (Nat × Value)) (I1 : Nat → Nat → Int32) (G1 : Nat → Nat → Int64) (A1 : Nat → Nat → Int32) (B1 : Nat → Nat → Int64), KQ fBk pBk I G A B I1 G1 A1 B1 → (((G1 52 12 = W0.1 ∧ G1 52 13 = W0.2.1 ∧ G1 52 14 = W0.2.2.1 ∧ G1 52 15 = W0.2.2.2.1) ∧ I1 52 20 = nI n0 ∧ I1 52 22 = 1) ∧ ((∀ j, j < k → B1 63 j = W0.2.2.2.2.1 j) ∧ (∀ j, k ≤ j → B1 63 j = B 63 j)) ∧ ((∀ j, j < k → A1 65 j = W0.2.2.2.2.2.1 j) ∧ (∀ j, k ≤ j → A1 65 j = A 65 j)) ∧ ((∀ j, j < k → A1 66 j = W0.2.2.2.2.2.2.2 j) ∧ (∀ j, k ≤ j → A1 66 j = A 66 j)) ∧ A1 64 = A 64) → zld ls 0 = some (.ref 52) → zld ls 1 = some (.int (nI k)) → k ≤ 8 → 8 + 1 ≤ k + n → zWp ro 166 47 ls [] (hS I1 G1 A1 B1) 0 0 (fun r h1 => ∃ I2 G2 A2 B2, h1 = hS I2 G2 A2 B2 ∧ KQ fBk pBk I G A B I2 G2 A2 B2 ∧ mRS nv np PA W0 (n0, L.2) I2 G2 A2 B2 ∧ I2 52 22 = 1 ∧ r = none) := by
  intro n
  induction n with
  | zero =>
    intro k ls I1 G1 A1 B1 _ _ _ _ a b
    exact absurd b (by omega)
  | succ n ih =>
    intro k ls I1 G1 A1 B1 KK hr h0 h1 hk1 hk2
    refine zw_iload_n 48 f166_47 rfl h1 ?_
    refine zw_bipush 8 50 f166_48 rfl (by decide +kernel) ?_
    refine zw_ic_ge 53 95 f166_50 (by decide +kernel) rfl (fun hc1 => ?_) (fun hc1 => ?_)
    · have hn_hc1 : 8 ≤ k := zn_ge (by omega) (by omega) hc1
      refine zw_iconst 0 96 f166_95 rfl (by decide +kernel) ?_
      refine zw_istore_n _ 97 f166_96 rfl (by decide +kernel) rfl ?_
      have hk : k = 8 := by omega
      subst hk
      exact lmm_back_97 ro nv np PA W W0 L n0 T T0 K K0 I G A B hR hW h0W hn8 hK 15 0 _ _ _ _ _ KK ⟨hr.1, hr.2.1, hr.2.2.1, hr.2.2.2.1, fun j hj => absurd hj (by omega), fun j _ => congrFun hr.2.2.2.2 j⟩ (zl1_ne rfl rfl h0) zl1_eq (by omega) (by omega)
    · have hn_hc1 : k < 8 := zn_lt (by omega) (by omega) hc1
      refine zw_aload_n 54 f166_53 rfl h0 ?_
      refine zw_getfield 57 f166_54 rfl g166_44_12 (hb_52 _ _ _ _) rfl ?_
      refine zw_iload_n 58 f166_57 rfl h1 ?_
      refine zw_aload_n 59 f166_58 rfl h0 ?_
      refine zw_getfield 62 f166_59 rfl g166_96_12 (hb_52 _ _ _ _) rfl ?_
      refine zw_iload_n 63 f166_62 rfl h1 ?_
      refine zw_laload k (W0.2.2.2.2.1 k) 64 f166_63 rfl (hb_77 _ _ _ _) (nI_clamp (by omega)) (nI_pos (by omega)) (by omega) ((congrFun (KK.2.2.2 77 rfl) k).trans (hK.2.1 k (by omega))) ?_
      refine zw_lst k _ 65 f166_64 rfl (hb_63 _ _ _ _) (nI_clamp (by omega)) (nI_pos (by omega)) (by omega) (ha_63 _ _ _ _ _) ?_
      refine zw_aload_n 66 f166_65 rfl h0 ?_
      refine zw_getfield 69 f166_66 rfl g166_52_12 (hb_52 _ _ _ _) rfl ?_
      refine zw_iload_n 70 f166_69 rfl h1 ?_
      refine zw_aload_n 71 f166_70 rfl h0 ?_
      refine zw_getfield 74 f166_71 rfl g166_102_12 (hb_52 _ _ _ _) rfl ?_
      refine zw_iload_n 75 f166_74 rfl h1 ?_
      refine zw_baload k (W0.2.2.2.2.2.1 k) 76 f166_75 rfl (hb_79 _ _ _ _) (nI_clamp (by omega)) (nI_pos (by omega)) (by omega) ((congrFun (KK.2.2.1 79 rfl) k).trans (hK.2.2.1 k (by omega))) ?_
      refine zw_bst k _ 77 f166_76 rfl (hb_65 _ _ _ _) (nI_clamp (by omega)) (nI_pos (by omega)) (by omega) (ha_65 _ _ _ _ _) ?_
      refine zw_aload_n 78 f166_77 rfl h0 ?_
      refine zw_getfield 81 f166_78 rfl g166_55_12 (hb_52 _ _ _ _) rfl ?_
      refine zw_iload_n 82 f166_81 rfl h1 ?_
      refine zw_aload_n 83 f166_82 rfl h0 ?_
      refine zw_getfield 86 f166_83 rfl g166_105_12 (hb_52 _ _ _ _) rfl ?_
      refine zw_iload_n 87 f166_86 rfl h1 ?_
      refine zw_iaload k (W0.2.2.2.2.2.2.2 k) 88 f166_87 rfl (hb_80 _ _ _ _) (nI_clamp (by omega)) (nI_pos (by omega)) (by omega) ((congrFun (KK.2.2.1 80 rfl) k).trans (hK.2.2.2.1 k (by omega))) ?_
      refine zw_ast k _ 89 f166_88 rfl (hb_66 _ _ _ _) (nI_clamp (by omega)) (nI_pos (by omega)) (by omega) (ha_66 _ _ _ _ _) ?_
      refine zw_iinc (nI (k + 1)) _ 92 f166_89 rfl h1 (by decide +kernel) (nI_1 _) rfl ?_
      refine zw_goto 47 f166_92 (by decide +kernel) ?_
      exact ih (k + 1) _ _ _ _ _ (KQ.a rfl (KQ.a rfl (KQ.b rfl KK))) ⟨hr.1, ⟨mL_u hr.2.1.1 rfl, mL_o hr.2.1.2⟩, ⟨mI_u hr.2.2.1.1 (vnar_b (h0W.2.1.2 k (by omega))), mI_o hr.2.2.1.2⟩, ⟨mI_u hr.2.2.2.1.1 rfl, mI_o hr.2.2.2.1.2⟩, hr.2.2.2.2⟩ (zl1_ne rfl rfl h0) zl1_eq (by omega) (by omega)
set_option maxRecDepth 100000 in
set_option maxHeartbeats 0 in
theorem mm_back (ro : UInt32 → Nat × (Nat → Int32)) (nv np : Nat) (PA : Nat → Nat → Int32) (W W0 : qW) (L : qLog) (n0 : Nat) (T T0 K K0 : Int) (I : Nat → Nat → Int32) (G : Nat → Nat → Int64) (A : Nat → Nat → Int32) (B : Nat → Nat → Int64) (hR : mRS nv np PA W L I G A B) (hW : wInv nv T K PA W) (h0W : wInv nv T0 K0 PA W0) (hn8 : nv ≤ 8) (hK : qKept W0 n0 I G A B) : zWp ro 166 0 [(0, .ref 52)] [] (hS I G A B) 0 0 (fun r h1 => ∃ I2 G2 A2 B2, h1 = hS I2 G2 A2 B2 ∧ KQ fBk pBk I G A B I2 G2 A2 B2 ∧ mRS nv np PA W0 (n0, L.2) I2 G2 A2 B2 ∧ I2 52 22 = 1 ∧ r = none) := by
  refine zw_aload_n 1 f166_0 rfl rfl ?_
  refine zw_iconst 1 2 f166_1 rfl (by decide +kernel) ?_
  refine zw_put _ 5 f166_2 rfl g166_58_12 (hb_52 _ _ _ _) rfl (Nat.le_of_ble_eq_true rfl) (by decide +kernel) (hi_52_22 _ _ _ _ _) ?_
  refine zw_aload_n 6 f166_5 rfl rfl ?_
  refine zw_aload_n 7 f166_6 rfl rfl ?_
  refine zw_getG W0.1 10 f166_7 rfl g166_249_12 (hb_52 _ _ _ _) rfl hK.1.1 ?_
  refine zw_put _ 13 f166_10 rfl g166_40_12 (hb_52 _ _ _ _) rfl (Nat.le_of_ble_eq_true rfl) (by decide +kernel) (hg_52_12 _ _ _ _ _) ?_
  refine zw_aload_n 14 f166_13 rfl rfl ?_
  refine zw_aload_n 15 f166_14 rfl rfl ?_
  refine zw_getG W0.2.1 18 f166_15 rfl g166_252_12 (hb_52 _ _ _ _) rfl hK.1.2.1 ?_
  refine zw_put _ 21 f166_18 rfl g166_172_12 (hb_52 _ _ _ _) rfl (Nat.le_of_ble_eq_true rfl) (by decide +kernel) (hg_52_13 _ _ _ _ _) ?_
  refine zw_aload_n 22 f166_21 rfl rfl ?_
  refine zw_aload_n 23 f166_22 rfl rfl ?_
  refine zw_getG W0.2.2.1 26 f166_23 rfl g166_255_12 (hb_52 _ _ _ _) rfl hK.1.2.2.1 ?_
  refine zw_put _ 29 f166_26 rfl g166_175_12 (hb_52 _ _ _ _) rfl (Nat.le_of_ble_eq_true rfl) (by decide +kernel) (hg_52_14 _ _ _ _ _) ?_
  refine zw_aload_n 30 f166_29 rfl rfl ?_
  refine zw_aload_n 31 f166_30 rfl rfl ?_
  refine zw_getG W0.2.2.2.1 34 f166_31 rfl g166_258_12 (hb_52 _ _ _ _) rfl hK.1.2.2.2.1 ?_
  refine zw_put _ 37 f166_34 rfl g166_178_12 (hb_52 _ _ _ _) rfl (Nat.le_of_ble_eq_true rfl) (by decide +kernel) (hg_52_15 _ _ _ _ _) ?_
  refine zw_aload_n 38 f166_37 rfl rfl ?_
  refine zw_aload_n 39 f166_38 rfl rfl ?_
  refine zw_getI (nI n0) 42 f166_39 rfl g166_261_12 (hb_52 _ _ _ _) rfl hK.1.2.2.2.2 ?_
  refine zw_put _ 45 f166_42 rfl g166_183_12 (hb_52 _ _ _ _) rfl (Nat.le_of_ble_eq_true rfl) (by decide +kernel) (hi_52_20 _ _ _ _ _) ?_
  refine zw_iconst 0 46 f166_45 rfl (by decide +kernel) ?_
  refine zw_istore_n _ 47 f166_46 rfl (by decide +kernel) rfl ?_
  exact lmm_back_47 ro nv np PA W W0 L n0 T T0 K K0 I G A B hR hW h0W hn8 hK 9 0 _ _ _ _ _ (KQ.i rfl (KQ.g rfl (KQ.g rfl (KQ.g rfl (KQ.g rfl (KQ.i rfl KQ.rf)))))) ⟨⟨⟨rfl, rfl, rfl, rfl⟩, rfl, rfl⟩, ⟨fun j hj => absurd hj (by omega), fun j _ => rfl⟩, ⟨fun j hj => absurd hj (by omega), fun j _ => rfl⟩, ⟨fun j hj => absurd hj (by omega), fun j _ => rfl⟩, rfl⟩ (zl1_ne rfl rfl rfl) zl1_eq (by omega) (by omega)
def qShP (nv np : Nat) (PA : Nat → Nat → Int32) (K : Int) (u : Int64) (L : qLog) (X : Bool × qW) (I2 : Nat → Nat → Int32) (G2 : Nat → Nat → Int64) (A2 : Nat → Nat → Int32) (B2 : Nat → Nat → Int64) (r : Option Value) : Prop := (∃ L2, mRS nv np PA X.2 L2 I2 G2 A2 B2 ∧ qArr L L2 ∧ L2.1 ≤ L.1 + 1440) ∧ wInv nv 10000 (K + 96000) PA X.2 ∧ r = some (.int (if X.1 = true ∧ X.2.2.1 = u * X.2.1 then 1 else 0))
set_option maxRecDepth 100000 in
set_option maxHeartbeats 0 in
theorem lmm_shutsAt (ro : UInt32 → Nat × (Nat → Int32)) (nv np : Nat) (PA : Nat → Nat → Int32) (W : qW) (L : qLog) (I : Nat → Nat → Int32) (G : Nat → Nat → Int64) (A : Nat → Nat → Int32) (B : Nat → Nat → Int64) (K : Int) (u : Int32) (hR : mRS nv np PA W L I G A B) (hp : MPa nv np PA) (hW : wInv nv 10000 K PA W) (hK0 : 0 ≤ K) (hK : K ≤ 199000000) (hn : L.1 < 900000000) (u0 : 0 ≤ (Int32.toInt64 u).toInt) (u1 : (Int32.toInt64 u).toInt ≤ 10000) (hrec : I 52 22 = 0) : ∀ (n k : Nat) (ls : List (Nat × Value)) (I1 : Nat → Nat → Int32) (G1 : Nat → Nat → Int64) (A1 : Nat → Nat → Int32) (B1 : Nat → Nat → Int64) (W1 : qW) (L1 : qLog), KQ fSt pSt I G A B I1 G1 A1 B1 → mRS nv np PA W1 L1 I1 G1 A1 B1 → wInv nv 10000 (K + 1600 * k) PA W1 → L1.1 ≤ L.1 + 24 * k → L1.2.2.2.2.2 = 0 → qArr L L1 → zld ls 0 = some (.ref 52) → zld ls 1 = some (.int u) → zld ls 2 = some (.int 1) → zld ls 3 = some (.int (nI k)) → k + n = 60 → zWp ro 171 9 ls [] (hS I1 G1 A1 B1) 0 0 (fun r h1 => ∃ I2 G2 A2 B2, h1 = hS I2 G2 A2 B2 ∧ KQ fSt pSt I G A B I2 G2 A2 B2 ∧ qShP nv np PA K (Int32.toInt64 u) L (wSk nv np PA (I 52 41) (Int32.toInt64 u) n W1) I2 G2 A2 B2 r) := by
  intro n
  induction n with
  | zero =>
    intro k ls I1 G1 A1 B1 W1 L1 KK R1 hJ hl hs ha h0 h1 h2 h3 hk
    have hk0 : k = 60 := by omega
    subst hk0
    replace h3 : zld ls 3 = some (.int 60) := h3
    refine zw_iload_n 10 f171_9 rfl h3 ?_
    refine zw_bipush 60 12 f171_10 rfl (by decide +kernel) ?_
    refine zw_ic_ge_t 40 f171_12 (by decide +kernel) (by decide +kernel) ?_
    refine zw_aload_n 41 f171_40 rfl h0 ?_
    refine zw_getI 0 44 f171_41 rfl g171_186_12 (hb_52 _ _ _ _) rfl (R1.2.2.2.2.2.2.2.2.trans hs) ?_
    refine zw_if_eq_t 66 f171_44 (by decide +kernel) (by decide +kernel) ?_
    refine zw_iconst 0 67 f171_66 rfl (by decide +kernel) ?_
    refine zw_zreturn f171_67 r171 u171 (by decide +kernel) ?_
    exact ⟨_, _, _, _, rfl, KK, ⟨L1, R1, ha, by omega⟩, hJ.mo (by omega) (by omega), by rw [if_neg (fun q => absurd q.1 (by show ¬ false = true; decide))]⟩
  | succ n ih =>
    intro k ls I1 G1 A1 B1 W1 L1 KK R1 hJ hl hs ha h0 h1 h2 h3 hk
    refine zw_iload_n 10 f171_9 rfl h3 ?_
    refine zw_bipush 60 12 f171_10 rfl (by decide +kernel) ?_
    refine zw_ic_ge_f 15 40 f171_12 (by decide +kernel) rfl (nI_n60 (by omega)) ?_
    refine zw_iload_n 16 f171_15 rfl h2 ?_
    refine zw_iconst 1 17 f171_16 rfl (by decide +kernel) ?_
    refine zw_ic_ne_f 20 40 f171_17 (by decide +kernel) rfl (by decide +kernel) ?_
    refine zw_aload_n 21 f171_20 rfl h0 ?_
    refine zw_getI 0 24 f171_21 rfl g171_186_12 (hb_52 _ _ _ _) rfl (R1.2.2.2.2.2.2.2.2.trans hs) ?_
    refine zw_if_ne_f 27 40 f171_24 (by decide +kernel) rfl (by decide +kernel) ?_
    refine zw_aload_n 28 f171_27 rfl h0 ?_
    refine zw_iload_n 29 f171_28 rfl h1 ?_
    refine zw_i2l (Int32.toInt64 u) 30 f171_29 rfl rfl ?_
    refine zw_virtual_i 33 0 0 [.ref 52, .long (Int32.toInt64 u)] [(0, .ref 52), (1, .long (Int32.toInt64 u))] f171_30 rfl n171_235 k171_235_12 rfl (hb_52 _ _ _ _) (by decide +kernel) (Nat.le_of_ble_eq_true rfl) rfl rfl (by decide +kernel) (by decide +kernel) rfl (Nat.le_of_ble_eq_true rfl) rfl ?_
    refine zWp.mono (mm_step ro nv np PA W1 L1 _ _ _ _ 10000 10000 (K + 1600 * k) (Int32.toInt64 u) R1 hp hJ (by omega) (by omega) (by omega) (by omega) (Or.inr ⟨u0, u1, u1⟩) (by omega)) ?_
    rintro r h1 ⟨I_1, G_1, A_1, B_1, rfl, K_1, R_1, rfl⟩
    rw [(KK.1 52 22 rfl), (KK.1 52 41 rfl)] at R_1
    rcases wStep_inv4 (I 52 41) hp hJ (by omega) (T2 := 10000) (by omega) (by omega) (by omega) (Or.inr ⟨u0, u1, u1⟩) with (E | E) | ⟨⟨e1, e2, e3⟩, hm⟩ | ⟨⟨e1, e2, e3⟩, hm⟩
    · rw [E] at R_1
      refine ⟨0, by rw [E], ?_⟩
      refine zw_istore_n _ 34 f171_33 rfl (by decide +kernel) rfl ?_
      refine zw_iinc (nI (k + 1)) _ 37 f171_34 rfl (zl1_ne rfl rfl h3) (by decide +kernel) (nI_1 _) rfl ?_
      refine zw_goto 9 f171_37 (by decide +kernel) ?_
      refine zw_iload_n 10 f171_9 rfl zl1_eq ?_
      refine zw_bipush 60 12 f171_10 rfl (by decide +kernel) ?_
      refine zw_ic_ge 15 40 f171_12 (by decide +kernel) rfl (fun hc2 => ?_) (fun hc2 => ?_)
      · have hn_hc2 : 60 ≤ (k + 1) := zn_ge (by omega) (by omega) hc2
        refine zw_aload_n 41 f171_40 rfl (zl1_ne rfl rfl (zl1_ne rfl rfl h0)) ?_
        refine zw_getI 0 44 f171_41 rfl g171_186_12 (hb_52 _ _ _ _) rfl (R_1.2.2.2.2.2.2.2.2.trans hs) ?_
        refine zw_if_eq_t 66 f171_44 (by decide +kernel) (by decide +kernel) ?_
        refine zw_iconst 0 67 f171_66 rfl (by decide +kernel) ?_
        refine zw_zreturn f171_67 r171 u171 (by decide +kernel) ?_
        rw [show wSk nv np PA (I 52 41) (Int32.toInt64 u) (n + 1) W1 = (false, W1) from if_neg (by rw [E]; show ¬ (0 : Int32) = 1; decide)]
        exact ⟨_, _, _, _, rfl, (KQ.tr KK K_1), ⟨L1, R_1, ha, by omega⟩, hJ.mo (by omega) (by omega), by rw [if_neg (fun q => absurd q.1 (by show ¬ false = true; decide))]⟩
      · have hn_hc2 : (k + 1) < 60 := zn_lt (by omega) (by omega) hc2
        refine zw_iload_n 16 f171_15 rfl (zl1_ne rfl rfl zl1_eq) ?_
        refine zw_iconst 1 17 f171_16 rfl (by decide +kernel) ?_
        refine zw_ic_ne_t 40 f171_17 (by decide +kernel) (by decide +kernel) ?_
        refine zw_aload_n 41 f171_40 rfl (zl1_ne rfl rfl (zl1_ne rfl rfl h0)) ?_
        refine zw_getI 0 44 f171_41 rfl g171_186_12 (hb_52 _ _ _ _) rfl (R_1.2.2.2.2.2.2.2.2.trans hs) ?_
        refine zw_if_eq_t 66 f171_44 (by decide +kernel) (by decide +kernel) ?_
        refine zw_iconst 0 67 f171_66 rfl (by decide +kernel) ?_
        refine zw_zreturn f171_67 r171 u171 (by decide +kernel) ?_
        rw [show wSk nv np PA (I 52 41) (Int32.toInt64 u) (n + 1) W1 = (false, W1) from if_neg (by rw [E]; show ¬ (0 : Int32) = 1; decide)]
        exact ⟨_, _, _, _, rfl, (KQ.tr KK K_1), ⟨L1, R_1, ha, by omega⟩, hJ.mo (by omega) (by omega), by rw [if_neg (fun q => absurd q.1 (by show ¬ false = true; decide))]⟩
    · rw [E] at R_1
      refine ⟨(-1), by rw [E], ?_⟩
      refine zw_istore_n _ 34 f171_33 rfl (by decide +kernel) rfl ?_
      refine zw_iinc (nI (k + 1)) _ 37 f171_34 rfl (zl1_ne rfl rfl h3) (by decide +kernel) (nI_1 _) rfl ?_
      refine zw_goto 9 f171_37 (by decide +kernel) ?_
      refine zw_iload_n 10 f171_9 rfl zl1_eq ?_
      refine zw_bipush 60 12 f171_10 rfl (by decide +kernel) ?_
      refine zw_ic_ge 15 40 f171_12 (by decide +kernel) rfl (fun hc3 => ?_) (fun hc3 => ?_)
      · have hn_hc3 : 60 ≤ (k + 1) := zn_ge (by omega) (by omega) hc3
        refine zw_aload_n 41 f171_40 rfl (zl1_ne rfl rfl (zl1_ne rfl rfl h0)) ?_
        refine zw_getI 0 44 f171_41 rfl g171_186_12 (hb_52 _ _ _ _) rfl (R_1.2.2.2.2.2.2.2.2.trans hs) ?_
        refine zw_if_eq_t 66 f171_44 (by decide +kernel) (by decide +kernel) ?_
        refine zw_iconst 0 67 f171_66 rfl (by decide +kernel) ?_
        refine zw_zreturn f171_67 r171 u171 (by decide +kernel) ?_
        rw [show wSk nv np PA (I 52 41) (Int32.toInt64 u) (n + 1) W1 = (false, W1) from if_neg (by rw [E]; show ¬ ((-1) : Int32) = 1; decide)]
        exact ⟨_, _, _, _, rfl, (KQ.tr KK K_1), ⟨L1, R_1, ha, by omega⟩, hJ.mo (by omega) (by omega), by rw [if_neg (fun q => absurd q.1 (by show ¬ false = true; decide))]⟩
      · have hn_hc3 : (k + 1) < 60 := zn_lt (by omega) (by omega) hc3
        refine zw_iload_n 16 f171_15 rfl (zl1_ne rfl rfl zl1_eq) ?_
        refine zw_iconst 1 17 f171_16 rfl (by decide +kernel) ?_
        refine zw_ic_ne_t 40 f171_17 (by decide +kernel) (by decide +kernel) ?_
        refine zw_aload_n 41 f171_40 rfl (zl1_ne rfl rfl (zl1_ne rfl rfl h0)) ?_
        refine zw_getI 0 44 f171_41 rfl g171_186_12 (hb_52 _ _ _ _) rfl (R_1.2.2.2.2.2.2.2.2.trans hs) ?_
        refine zw_if_eq_t 66 f171_44 (by decide +kernel) (by decide +kernel) ?_
        refine zw_iconst 0 67 f171_66 rfl (by decide +kernel) ?_
        refine zw_zreturn f171_67 r171 u171 (by decide +kernel) ?_
        rw [show wSk nv np PA (I 52 41) (Int32.toInt64 u) (n + 1) W1 = (false, W1) from if_neg (by rw [E]; show ¬ ((-1) : Int32) = 1; decide)]
        exact ⟨_, _, _, _, rfl, (KQ.tr KK K_1), ⟨L1, R_1, ha, by omega⟩, hJ.mo (by omega) (by omega), by rw [if_neg (fun q => absurd q.1 (by show ¬ false = true; decide))]⟩
    · refine ⟨1, by rw [e1], ?_⟩
      refine zw_istore_n _ 34 f171_33 rfl (by decide +kernel) rfl ?_
      refine zw_iinc (nI (k + 1)) _ 37 f171_34 rfl (zl1_ne rfl rfl h3) (by decide +kernel) (nI_1 _) rfl ?_
      refine zw_goto 9 f171_37 (by decide +kernel) ?_
      refine zw_iload_n 10 f171_9 rfl zl1_eq ?_
      refine zw_bipush 60 12 f171_10 rfl (by decide +kernel) ?_
      refine zw_ic_ge 15 40 f171_12 (by decide +kernel) rfl (fun hc4 => ?_) (fun hc4 => ?_)
      · have hn_hc4 : 60 ≤ (k + 1) := zn_ge (by omega) (by omega) hc4
        refine zw_aload_n 41 f171_40 rfl (zl1_ne rfl rfl (zl1_ne rfl rfl h0)) ?_
        refine zw_getI ((qNotes (I 52 22) (wStep nv np PA (Int32.toInt64 u) W1).2.2.1 (wStep nv np PA (Int32.toInt64 u) W1).2.2.2.1 (I 52 41) L1 (wStep nv np PA (Int32.toInt64 u) W1).2.2.2.2).2.2.2.2.2) 44 f171_41 rfl g171_186_12 (hb_52 _ _ _ _) rfl R_1.2.2.2.2.2.2.2.2 ?_
        refine zw_if_eq_f 47 66 f171_44 (by decide +kernel) rfl (fun q => ((qNotes_ss _).mp q).2 hm) ?_
        refine zw_aload_n 48 f171_47 rfl (zl1_ne rfl rfl (zl1_ne rfl rfl h0)) ?_
        refine zw_getG (wStep nv np PA (Int32.toInt64 u) W1).2.1.2.1 51 f171_48 rfl g171_172_12 (hb_52 _ _ _ _) rfl R_1.t ?_
        refine zw_iload_n 52 f171_51 rfl (zl1_ne rfl rfl (zl1_ne rfl rfl h1)) ?_
        refine zw_i2l (Int32.toInt64 u) 53 f171_52 rfl rfl ?_
        refine zw_aload_n 54 f171_53 rfl (zl1_ne rfl rfl (zl1_ne rfl rfl h0)) ?_
        refine zw_getG (wStep nv np PA (Int32.toInt64 u) W1).2.1.1 57 f171_54 rfl g171_40_12 (hb_52 _ _ _ _) rfl R_1.g ?_
        refine zw_lmul ((Int32.toInt64 u) * (wStep nv np PA (Int32.toInt64 u) W1).2.1.1) 58 f171_57 rfl rfl ?_
        refine zw_lcmp (lg_cmp (wStep nv np PA (Int32.toInt64 u) W1).2.1.2.1 ((Int32.toInt64 u) * (wStep nv np PA (Int32.toInt64 u) W1).2.1.1)) 59 f171_58 rfl rfl ?_
        refine zw_if_ne 62 66 f171_59 (by decide +kernel) rfl (fun hc5 => ?_) (fun hc5 => ?_)
        · refine zw_iconst 0 67 f171_66 rfl (by decide +kernel) ?_
          refine zw_zreturn f171_67 r171 u171 (by decide +kernel) ?_
          rw [show wSk nv np PA (I 52 41) (Int32.toInt64 u) (n + 1) W1 = (true, (wStep nv np PA (Int32.toInt64 u) W1).2.1) from (if_pos e1).trans (if_pos hm)]
          exact ⟨_, _, _, _, rfl, (KQ.tr KK K_1), ⟨_, R_1, ha.tr (by rw [hrec]; exact qNotes_0 _), by rw [qNotes_1]; omega⟩, e2.mo (by omega) (by omega), by rw [if_neg (fun q => (fun q => hc5 ((lg_cmp_eq _ _).mpr q)) q.2)]⟩
        · refine zw_iconst 1 63 f171_62 rfl (by decide +kernel) ?_
          refine zw_goto 67 f171_63 (by decide +kernel) ?_
          refine zw_zreturn f171_67 r171 u171 (by decide +kernel) ?_
          rw [show wSk nv np PA (I 52 41) (Int32.toInt64 u) (n + 1) W1 = (true, (wStep nv np PA (Int32.toInt64 u) W1).2.1) from (if_pos e1).trans (if_pos hm)]
          exact ⟨_, _, _, _, rfl, (KQ.tr KK K_1), ⟨_, R_1, ha.tr (by rw [hrec]; exact qNotes_0 _), by rw [qNotes_1]; omega⟩, e2.mo (by omega) (by omega), by rw [if_pos ⟨rfl, ((lg_cmp_eq _ _).mp (Decidable.of_not_not hc5))⟩]⟩
      · have hn_hc4 : (k + 1) < 60 := zn_lt (by omega) (by omega) hc4
        refine zw_iload_n 16 f171_15 rfl (zl1_ne rfl rfl zl1_eq) ?_
        refine zw_iconst 1 17 f171_16 rfl (by decide +kernel) ?_
        refine zw_ic_ne_f 20 40 f171_17 (by decide +kernel) rfl (by decide +kernel) ?_
        refine zw_aload_n 21 f171_20 rfl (zl1_ne rfl rfl (zl1_ne rfl rfl h0)) ?_
        refine zw_getI ((qNotes (I 52 22) (wStep nv np PA (Int32.toInt64 u) W1).2.2.1 (wStep nv np PA (Int32.toInt64 u) W1).2.2.2.1 (I 52 41) L1 (wStep nv np PA (Int32.toInt64 u) W1).2.2.2.2).2.2.2.2.2) 24 f171_21 rfl g171_186_12 (hb_52 _ _ _ _) rfl R_1.2.2.2.2.2.2.2.2 ?_
        refine zw_if_ne_t 40 f171_24 (by decide +kernel) (fun q => ((qNotes_ss _).mp q).2 hm) ?_
        refine zw_aload_n 41 f171_40 rfl (zl1_ne rfl rfl (zl1_ne rfl rfl h0)) ?_
        refine zw_getI ((qNotes (I 52 22) (wStep nv np PA (Int32.toInt64 u) W1).2.2.1 (wStep nv np PA (Int32.toInt64 u) W1).2.2.2.1 (I 52 41) L1 (wStep nv np PA (Int32.toInt64 u) W1).2.2.2.2).2.2.2.2.2) 44 f171_41 rfl g171_186_12 (hb_52 _ _ _ _) rfl R_1.2.2.2.2.2.2.2.2 ?_
        refine zw_if_eq_f 47 66 f171_44 (by decide +kernel) rfl (fun q => ((qNotes_ss _).mp q).2 hm) ?_
        refine zw_aload_n 48 f171_47 rfl (zl1_ne rfl rfl (zl1_ne rfl rfl h0)) ?_
        refine zw_getG (wStep nv np PA (Int32.toInt64 u) W1).2.1.2.1 51 f171_48 rfl g171_172_12 (hb_52 _ _ _ _) rfl R_1.t ?_
        refine zw_iload_n 52 f171_51 rfl (zl1_ne rfl rfl (zl1_ne rfl rfl h1)) ?_
        refine zw_i2l (Int32.toInt64 u) 53 f171_52 rfl rfl ?_
        refine zw_aload_n 54 f171_53 rfl (zl1_ne rfl rfl (zl1_ne rfl rfl h0)) ?_
        refine zw_getG (wStep nv np PA (Int32.toInt64 u) W1).2.1.1 57 f171_54 rfl g171_40_12 (hb_52 _ _ _ _) rfl R_1.g ?_
        refine zw_lmul ((Int32.toInt64 u) * (wStep nv np PA (Int32.toInt64 u) W1).2.1.1) 58 f171_57 rfl rfl ?_
        refine zw_lcmp (lg_cmp (wStep nv np PA (Int32.toInt64 u) W1).2.1.2.1 ((Int32.toInt64 u) * (wStep nv np PA (Int32.toInt64 u) W1).2.1.1)) 59 f171_58 rfl rfl ?_
        refine zw_if_ne 62 66 f171_59 (by decide +kernel) rfl (fun hc6 => ?_) (fun hc6 => ?_)
        · refine zw_iconst 0 67 f171_66 rfl (by decide +kernel) ?_
          refine zw_zreturn f171_67 r171 u171 (by decide +kernel) ?_
          rw [show wSk nv np PA (I 52 41) (Int32.toInt64 u) (n + 1) W1 = (true, (wStep nv np PA (Int32.toInt64 u) W1).2.1) from (if_pos e1).trans (if_pos hm)]
          exact ⟨_, _, _, _, rfl, (KQ.tr KK K_1), ⟨_, R_1, ha.tr (by rw [hrec]; exact qNotes_0 _), by rw [qNotes_1]; omega⟩, e2.mo (by omega) (by omega), by rw [if_neg (fun q => (fun q => hc6 ((lg_cmp_eq _ _).mpr q)) q.2)]⟩
        · refine zw_iconst 1 63 f171_62 rfl (by decide +kernel) ?_
          refine zw_goto 67 f171_63 (by decide +kernel) ?_
          refine zw_zreturn f171_67 r171 u171 (by decide +kernel) ?_
          rw [show wSk nv np PA (I 52 41) (Int32.toInt64 u) (n + 1) W1 = (true, (wStep nv np PA (Int32.toInt64 u) W1).2.1) from (if_pos e1).trans (if_pos hm)]
          exact ⟨_, _, _, _, rfl, (KQ.tr KK K_1), ⟨_, R_1, ha.tr (by rw [hrec]; exact qNotes_0 _), by rw [qNotes_1]; omega⟩, e2.mo (by omega) (by omega), by rw [if_pos ⟨rfl, ((lg_cmp_eq _ _).mp (Decidable.of_not_not hc6))⟩]⟩
    · refine ⟨1, by rw [e1], ?_⟩
      refine zw_istore_n _ 34 f171_33 rfl (by decide +kernel) rfl ?_
      refine zw_iinc (nI (k + 1)) _ 37 f171_34 rfl (zl1_ne rfl rfl h3) (by decide +kernel) (nI_1 _) rfl ?_
      refine zw_goto 9 f171_37 (by decide +kernel) ?_
      rw [show wSk nv np PA (I 52 41) (Int32.toInt64 u) (n + 1) W1 = _ from (if_pos e1).trans (if_neg hm)]
      exact ih (k + 1) _ _ _ _ _ _ _ (KQ.tr KK K_1) R_1 (e2.mo (by omega) (by omega)) (by rw [qNotes_1]; omega) ((qNotes_ss _).mpr ⟨hs, hm⟩) (ha.tr (by rw [hrec]; exact qNotes_0 _)) (zl1_ne rfl rfl (zl1_ne rfl rfl h0)) (zl1_ne rfl rfl (zl1_ne rfl rfl h1)) (zl1_ne rfl rfl zl1_eq) zl1_eq (by omega)
set_option maxRecDepth 100000 in
set_option maxHeartbeats 0 in
theorem mm_shutsAt (ro : UInt32 → Nat × (Nat → Int32)) (nv np : Nat) (PA : Nat → Nat → Int32) (W : qW) (L : qLog) (I : Nat → Nat → Int32) (G : Nat → Nat → Int64) (A : Nat → Nat → Int32) (B : Nat → Nat → Int64) (K : Int) (u : Int32) (hR : mRS nv np PA W L I G A B) (hp : MPa nv np PA) (hW : wInv nv 10000 K PA W) (hK0 : 0 ≤ K) (hK : K ≤ 199000000) (hn : L.1 < 900000000) (u0 : 0 ≤ (Int32.toInt64 u).toInt) (u1 : (Int32.toInt64 u).toInt ≤ 10000) (hrec : I 52 22 = 0) : zWp ro 171 0 [(0, .ref 52), (1, .int u)] [] (hS I G A B) 0 0 (fun r h1 => ∃ I2 G2 A2 B2, h1 = hS I2 G2 A2 B2 ∧ KQ fSt pSt I G A B I2 G2 A2 B2 ∧ qShP nv np PA K (Int32.toInt64 u) L (wSk nv np PA (I 52 41) (Int32.toInt64 u) 60 W) I2 G2 A2 B2 r) := by
  refine zw_aload_n 1 f171_0 rfl rfl ?_
  refine zw_iconst 0 2 f171_1 rfl (by decide +kernel) ?_
  refine zw_put _ 5 f171_2 rfl g171_186_12 (hb_52 _ _ _ _) rfl (Nat.le_of_ble_eq_true rfl) (by decide +kernel) (hi_52_42 _ _ _ _ _) ?_
  refine zw_iconst 1 6 f171_5 rfl (by decide +kernel) ?_
  refine zw_istore_n _ 7 f171_6 rfl (by decide +kernel) rfl ?_
  refine zw_iconst 0 8 f171_7 rfl (by decide +kernel) ?_
  refine zw_istore_n _ 9 f171_8 rfl (by decide +kernel) rfl ?_
  have R0 : mRS nv np PA W (L.1, L.2.1, L.2.2.1, L.2.2.2.1, L.2.2.2.2.1, 0) (upd2 I 52 42 0) G A B := ⟨hR.1, hR.2.1, hR.2.2.1, ⟨hR.2.2.2.1, hR.2.2.2.2.1, hR.2.2.2.2.2.1, hR.2.2.2.2.2.2.1, hR.2.2.2.2.2.2.2.1, rfl⟩⟩
  exact lmm_shutsAt ro nv np PA W L I G A B K u hR hp hW hK0 hK hn u0 u1 hrec 60 0 _ _ _ _ _ W _ (KQ.i rfl KQ.rf) R0 (hW.mo (by omega) (by omega)) (show L.1 ≤ _ by omega) rfl ⟨rfl, rfl, rfl, rfl⟩ (zl1_ne rfl rfl (zl1_ne rfl rfl rfl)) (zl1_ne rfl rfl (zl1_ne rfl rfl rfl)) (zl1_ne rfl rfl zl1_eq) zl1_eq rfl
