noncomputable def cI {α : Type} (p : Prop) (x y : α) : α := @ite α p (Classical.propDecidable p) x y
theorem cI_y {α : Type} {p : Prop} {x y : α} (h : p) : cI p x y = x := if_pos h
theorem cI_n {α : Type} {p : Prop} {x y : α} (h : ¬ p) : cI p x y = y := if_neg h
theorem sw_ne {a j : Int32} {n : Int} (h : a.toInt < 0 ∨ n < a.toInt) (hj : 0 ≤ j.toInt ∧ j.toInt ≤ n) : ¬ a = j := by
  intro e
  rw [e] at h
  omega
/-! ===== the trial: taking over, first shutting, tune, round ===== -/
theorem cpy_eq {α : Type} {f g F : Nat → α} {n : Nat} (h : f = F) (hj : ∀ j, n ≤ j → g j = F j) : va_cpy f g 0 0 n = F := by
  funext j
  unfold va_cpy
  by_cases c : j < n
  · rw [if_pos ⟨Nat.zero_le _, by omega⟩, h, Nat.zero_add, Nat.sub_zero]
  · rw [if_neg (fun q => c (by omega))]; exact hj j (by omega)
theorem cpy_cn {f g F : Nat → Int32} {n v : Nat} (h : v < n → f v = F v) (hj : n ≤ v → g v = F v) : va_cpy f g 0 0 n v = F v := by
  unfold va_cpy
  by_cases c : v < n
  · rw [if_pos ⟨Nat.zero_le _, by omega⟩, Nat.zero_add, Nat.sub_zero]; exact h c
  · rw [if_neg (fun q => c (by omega))]; exact hj (by omega)
/-- the trial's rows beyond their ends -/
def cJk (P62 : Nat → Int32) (A : Nat → Nat → Int32) (B : Nat → Nat → Int64) : Prop := (∀ j, 8 ≤ j → B 24 j = 0) ∧ (∀ j, 8 ≤ j → A 25 j = 0) ∧ ∀ j, 14 ≤ j → A 26 j = P62 j
def fTk (k j : Nat) : Bool := decide (k = 23)
def pTk (k : Nat) : Bool := decide (24 ≤ k ∧ k ≤ 26)
def fFs (k j : Nat) : Bool := decide (k = 22 ∨ k = 23)
def pFs (k : Nat) : Bool := decide (24 ≤ k ∧ k ≤ 32 ∧ ¬ k = 26)
def fTn (k j : Nat) : Bool := decide ((k = 0 ∧ j = 7) ∨ (22 ≤ k ∧ k ≤ 32) ∨ (38 ≤ k ∧ k ≤ 43))
def pTn (k : Nat) : Bool := decide ((24 ≤ k ∧ k ≤ 32) ∨ (38 ≤ k ∧ k ≤ 43))
def pRr (k : Nat) : Bool := decide (38 ≤ k ∧ k ≤ 43)
theorem fTk_Tn : ∀ k j, fTn k j = false → fTk k j = false := by
  intro k j h
  simp only [fTk, fTn, decide_eq_false_iff_not] at h ⊢
  omega
theorem pTk_Tn : ∀ k, pTn k = false → pTk k = false := by
  intro k h
  simp only [pTk, pTn, decide_eq_false_iff_not] at h ⊢
  omega
theorem fFs_Tn : ∀ k j, fTn k j = false → fFs k j = false := by
  intro k j h
  simp only [fFs, fTn, decide_eq_false_iff_not] at h ⊢
  omega
theorem pFs_Tn : ∀ k, pTn k = false → pFs k = false := by
  intro k h
  simp only [pFs, pTn, decide_eq_false_iff_not] at h ⊢
  omega
theorem fCs_Fs : ∀ k j, fFs k j = false → fCs 22 k j = false := by
  intro k j h
  simp only [fCs, fFs, decide_eq_false_iff_not] at h ⊢
  omega
theorem pCr_Fs : ∀ k, pFs k = false → pCr 22 k = false := by
  intro k h
  simp only [pCr, pFs, decide_eq_false_iff_not] at h ⊢
  omega
theorem fSe_Fs : ∀ k j, fFs k j = false → fSe 22 k j = false := by
  intro k j h
  simp only [fSe, fFs, decide_eq_false_iff_not] at h ⊢
  omega
theorem pSe_Fs : ∀ k, pFs k = false → pSe 22 k = false := by
  intro k h
  simp only [pSe, pFs, decide_eq_false_iff_not] at h ⊢
  omega
theorem mem_lA {e : List (Int32 × Int32)} {x : Int32 × Int32} : x ∈ e ↔ ∃ i, i < e.length ∧ lA e i = x := by
  constructor
  · intro h
    obtain ⟨i, hi, hx⟩ := List.mem_iff_getElem.mp h
    refine ⟨i, hi, ?_⟩
    unfold lA
    rw [List.getElem?_eq_getElem hi]
    exact hx
  · rintro ⟨i, hi, hx⟩
    unfold lA at hx
    rw [List.getElem?_eq_getElem hi] at hx
    have hx2 : e[i] = x := hx
    exact hx2 ▸ List.getElem_mem hi
theorem jk_of {nv np : Nat} {T K : Int} {Q : Nat → Nat → Int32} {W : qW} {I : Nat → Nat → Int32} {G : Nat → Nat → Int64} {A : Nat → Nat → Int32} {B : Nat → Nat → Int64} {P62 : Nat → Int32} (hR : cRS 22 nv np Q W I G A B) (hW : wInv nv T K Q W) (h8 : nv ≤ 8) (h26 : ∀ j, 14 ≤ j → Q 62 j = P62 j) : cJk P62 A B := by
  refine ⟨fun j hj => ?_, fun j hj => ?_, fun j hj => ?_⟩
  · rw [hR.2.2.2.1]; exact hW.1.1.2.2 j (by omega)
  · rw [hR.2.2.2.2.2.2 j (fun q => absurd q (by omega))]; exact hW.2.2.2.2 j hj
  · have e : A 26 = Q 62 := hR.2.1 62 (by omega) (by omega)
    rw [e]; exact h26 j hj
theorem MPa.px {nv np q : Nat} {P : Nat → Nat → Int32} {x : Int32} (h : MPa nv np P) (hx : 1 ≤ x.toInt ∧ x.toInt ≤ 20) : MPa nv np (PAx P q x) := h.x hx
theorem PAx_o {P : Nat → Nat → Int32} {q k : Nat} {x : Int32} (h : ¬ k = 62) : PAx P q x k = P k := if_neg h
theorem qOw.px {nv np q : Nat} {P : Nat → Nat → Int32} {x : Int32} (h : qOw nv np P) : qOw nv np (PAx P q x) := by
  unfold qOw
  rw [PAx_o (show ¬ (53 : Nat) = 62 by omega), PAx_o (show ¬ (57 : Nat) = 62 by omega), PAx_o (show ¬ (60 : Nat) = 62 by omega)]
  exact h
theorem KPkq {p : Nat → Bool} {I I1 : Nat → Nat → Int32} {G G1 : Nat → Nat → Int64} {A A1 : Nat → Nat → Int32} {B B1 : Nat → Nat → Int64} (h : KP p I G A B I1 G1 A1 B1) : KQ (fun k _ => p k) p I G A B I1 G1 A1 B1 := ⟨h.1, h.2.1, h.2.2.1, h.2.2.2⟩
set_option maxRecDepth 100000 in
set_option maxHeartbeats 0 in
theorem cx_takeOver (ro : UInt32 → Nat × (Nat → Int32)) (nv np : Nat) (P : Nat → Nat → Int32) (W : qW) (I : Nat → Nat → Int32) (G : Nat → Nat → Int64) (A : Nat → Nat → Int32) (B : Nat → Nat → Int64) (hR : cRS 11 nv np P W I G A B) (hz : ∀ j, 8 ≤ j → W.2.2.2.2.1 j = 0) (hcz : ∀ j, 8 ≤ j → W.2.2.2.2.2.2.2 j = 0) (hJ : cJk (P 62) A B) : zWp ro 42 0 [(0, .ref 23), (1, .ref 12)] [] (hS I G A B) 0 0 (fun r h1 => ∃ I2 G2 A2 B2, h1 = hS I2 G2 A2 B2 ∧ KQ fTk pTk I G A B I2 G2 A2 B2 ∧ cRS 22 nv np P W I2 G2 A2 B2 ∧ r = none) := by
  refine zw_aload_n 1 f42_0 rfl rfl ?_
  refine zw_aload_n 2 f42_1 rfl rfl ?_
  refine zw_getG (G 12 0) 5 f42_2 rfl g42_9_9 (hb_12 _ _ _ _) rfl rfl ?_
  refine zw_put _ 8 f42_5 rfl g42_9_9 (hb_23 _ _ _ _) rfl (Nat.le_of_ble_eq_true rfl) (by decide +kernel) (hg_23_0 _ _ _ _ _) ?_
  refine zw_aload_n 9 f42_8 rfl rfl ?_
  refine zw_aload_n 10 f42_9 rfl rfl ?_
  refine zw_getG (G 12 1) 13 f42_10 rfl g42_26_9 (hb_12 _ _ _ _) rfl rfl ?_
  refine zw_put _ 16 f42_13 rfl g42_26_9 (hb_23 _ _ _ _) rfl (Nat.le_of_ble_eq_true rfl) (by decide +kernel) (hg_23_1 _ _ _ _ _) ?_
  refine zw_aload_n 17 f42_16 rfl rfl ?_
  refine zw_aload_n 18 f42_17 rfl rfl ?_
  refine zw_getG (G 12 2) 21 f42_18 rfl g42_29_9 (hb_12 _ _ _ _) rfl rfl ?_
  refine zw_put _ 24 f42_21 rfl g42_29_9 (hb_23 _ _ _ _) rfl (Nat.le_of_ble_eq_true rfl) (by decide +kernel) (hg_23_2 _ _ _ _ _) ?_
  refine zw_aload_n 25 f42_24 rfl rfl ?_
  refine zw_aload_n 26 f42_25 rfl rfl ?_
  refine zw_getG (G 12 3) 29 f42_26 rfl g42_32_9 (hb_12 _ _ _ _) rfl rfl ?_
  refine zw_put _ 32 f42_29 rfl g42_32_9 (hb_23 _ _ _ _) rfl (Nat.le_of_ble_eq_true rfl) (by decide +kernel) (hg_23_3 _ _ _ _ _) ?_
  refine zw_aload_n 33 f42_32 rfl rfl ?_
  refine zw_aload_n 34 f42_33 rfl rfl ?_
  refine zw_getG (G 12 4) 37 f42_34 rfl g42_35_9 (hb_12 _ _ _ _) rfl rfl ?_
  refine zw_put _ 40 f42_37 rfl g42_35_9 (hb_23 _ _ _ _) rfl (Nat.le_of_ble_eq_true rfl) (by decide +kernel) (hg_23_4 _ _ _ _ _) ?_
  refine zw_aload_n 41 f42_40 rfl rfl ?_
  refine zw_aload_n 42 f42_41 rfl rfl ?_
  refine zw_getI (I 12 5) 45 f42_42 rfl g42_38_9 (hb_12 _ _ _ _) rfl rfl ?_
  refine zw_put _ 48 f42_45 rfl g42_38_9 (hb_23 _ _ _ _) rfl (Nat.le_of_ble_eq_true rfl) (by decide +kernel) (hi_23_5 _ _ _ _ _) ?_
  refine zw_aload_n 49 f42_48 rfl rfl ?_
  refine zw_aload_n 50 f42_49 rfl rfl ?_
  refine zw_getI (I 12 6) 53 f42_50 rfl g42_42_9 (hb_12 _ _ _ _) rfl rfl ?_
  refine zw_put _ 56 f42_53 rfl g42_42_9 (hb_23 _ _ _ _) rfl (Nat.le_of_ble_eq_true rfl) (by decide +kernel) (hi_23_6 _ _ _ _ _) ?_
  refine zw_aload_n 57 f42_56 rfl rfl ?_
  refine zw_getfield 60 f42_57 rfl g42_15_9 (hb_12 _ _ _ _) rfl ?_
  refine zw_iconst 0 61 f42_60 rfl (by decide +kernel) ?_
  refine zw_aload_n 62 f42_61 rfl rfl ?_
  refine zw_getfield 65 f42_62 rfl g42_15_9 (hb_23 _ _ _ _) rfl ?_
  refine zw_iconst 0 66 f42_65 rfl (by decide +kernel) ?_
  refine zw_bipush 8 68 f42_66 rfl (by decide +kernel) ?_
  refine zw_cpl _ 71 8 0 0 f42_68 rfl k42_45_99 (hb_13 _ _ _ _) (hb_24 _ _ _ _) (by decide +kernel) (by decide +kernel) (by decide +kernel) (by decide +kernel) (by decide +kernel) (by decide +kernel) (by decide +kernel) (by decide +kernel) (Nat.le_of_ble_eq_true rfl) (ha_24 _ _ _ _ _) ?_
  refine zw_aload_n 72 f42_71 rfl rfl ?_
  refine zw_getfield 75 f42_72 rfl g42_19_9 (hb_12 _ _ _ _) rfl ?_
  refine zw_iconst 0 76 f42_75 rfl (by decide +kernel) ?_
  refine zw_aload_n 77 f42_76 rfl rfl ?_
  refine zw_getfield 80 f42_77 rfl g42_19_9 (hb_23 _ _ _ _) rfl ?_
  refine zw_iconst 0 81 f42_80 rfl (by decide +kernel) ?_
  refine zw_bipush 8 83 f42_81 rfl (by decide +kernel) ?_
  refine zw_cpi _ 86 8 0 0 f42_83 rfl k42_45_99 (hb_14 _ _ _ _) (hb_25 _ _ _ _) (by decide +kernel) (by decide +kernel) (by decide +kernel) (by decide +kernel) (by decide +kernel) (by decide +kernel) (by decide +kernel) (by decide +kernel) (Nat.le_of_ble_eq_true rfl) (ha_25 _ _ _ _ _) ?_
  refine zw_aload_n 87 f42_86 rfl rfl ?_
  refine zw_getfield 90 f42_87 rfl g42_23_9 (hb_12 _ _ _ _) rfl ?_
  refine zw_iconst 0 91 f42_90 rfl (by decide +kernel) ?_
  refine zw_aload_n 92 f42_91 rfl rfl ?_
  refine zw_getfield 95 f42_92 rfl g42_23_9 (hb_23 _ _ _ _) rfl ?_
  refine zw_iconst 0 96 f42_95 rfl (by decide +kernel) ?_
  refine zw_bipush 14 98 f42_96 rfl (by decide +kernel) ?_
  refine zw_cpi _ 101 14 0 0 f42_98 rfl k42_45_99 (hb_15 _ _ _ _) (hb_26 _ _ _ _) (by decide +kernel) (by decide +kernel) (by decide +kernel) (by decide +kernel) (by decide +kernel) (by decide +kernel) (by decide +kernel) (by decide +kernel) (Nat.le_of_ble_eq_true rfl) (ha_26 _ _ _ _ _) ?_
  refine zw_vreturn f42_101 r42 u42 ?_
  exact ⟨_, _, _, _, rfl, (KQ.a rfl (KQ.a rfl (KQ.b rfl (KQ.i rfl (KQ.i rfl (KQ.g rfl (KQ.g rfl (KQ.g rfl (KQ.g rfl (KQ.g rfl KQ.rf)))))))))), ⟨⟨hR.1.1, hR.1.2⟩, PE.of10 (hR.2.1 53 (by omega) (by omega)) (hR.2.1 54 (by omega) (by omega)) (hR.2.1 55 (by omega) (by omega)) (hR.2.1 56 (by omega) (by omega)) (hR.2.1 57 (by omega) (by omega)) (hR.2.1 58 (by omega) (by omega)) (hR.2.1 59 (by omega) (by omega)) (hR.2.1 60 (by omega) (by omega)) (hR.2.1 61 (by omega) (by omega)) (cpy_eq (hR.2.1 62 (by omega) (by omega)) hJ.2.2), ⟨hR.2.2.1.1, hR.2.2.1.2.1, hR.2.2.1.2.2.1, hR.2.2.1.2.2.2⟩, cpy_eq hR.2.2.2.1 (fun j hj => (hJ.1 j hj).trans (hz j hj).symm), hR.2.2.2.2.1, hR.2.2.2.2.2.1, fun v hv => cpy_cn (fun _ => hR.2.2.2.2.2.2 v hv) (fun q => (hJ.2.1 v q).trans (hcz v q).symm)⟩, rfl⟩
set_option maxRecDepth 100000 in
set_option maxHeartbeats 0 in
theorem lcx_hh (ro : UInt32 → Nat × (Nat → Int32)) (I : Nat → Nat → Int32) (G : Nat → Nat → Int64) (A : Nat → Nat → Int32) (B : Nat → Nat → Int64) (ev : List (Int32 × Int32)) (x y : Int32) (hH : cHp 22 I A ev) (h8 : ev.length ≤ 8) : ∀ (n i : Nat) (ls : List (Nat × Value)), (∀ j, j < i → ¬ lA ev j = (x, y)) → zld ls 0 = some (.ref 22) → zld ls 1 = some (.int x) → zld ls 2 = some (.int y) → zld ls 3 = some (.int (nI i)) → i ≤ ev.length → ev.length + 1 ≤ i + n → zWp ro 76 2 ls [] (hS I G A B) 0 0 (fun r h1 => h1 = hS I G A B ∧ ((r = some (.int 1) ∧ (x, y) ∈ ev) ∨ (r = some (.int 0) ∧ ¬ (x, y) ∈ ev))) := by
  intro n
  induction n with
  | zero =>
    intro i ls _ _ _ _ _ a b
    exact absurd b (by omega)
  | succ n ih =>
    intro i ls hn h0 h1 h2 h3 hi1 hi2
    refine zw_iload_n 3 f76_2 rfl h3 ?_
    refine zw_aload_n 4 f76_3 rfl h0 ?_
    refine zw_getI (nI ev.length) 7 f76_4 rfl g76_161_10 (hb_22 _ _ _ _) rfl hH.1 ?_
    refine zw_ic_ge 10 44 f76_7 (by decide +kernel) rfl (fun hc1 => ?_) (fun hc1 => ?_)
    · have hn_hc1 : ev.length ≤ i := zn_ge (by omega) (by omega) hc1
      refine zw_iconst 0 45 f76_44 rfl (by decide +kernel) ?_
      refine zw_zreturn f76_45 r76 u76 (by decide +kernel) ?_
      refine ⟨rfl, Or.inr ⟨rfl, fun q => ?_⟩⟩
      obtain ⟨j, j1, j2⟩ := mem_lA.mp q
      exact hn j (by omega) j2
    · have hn_hc1 : i < ev.length := zn_lt (by omega) (by omega) hc1
      refine zw_iload_n 11 f76_10 rfl h3 ?_
      refine zw_bipush 8 13 f76_11 rfl (by decide +kernel) ?_
      refine zw_ic_ge 16 44 f76_13 (by decide +kernel) rfl (fun hc2 => ?_) (fun hc2 => ?_)
      · have hn_hc2 : 8 ≤ i := zn_ge (by omega) (by omega) hc2
        refine zw_iconst 0 45 f76_44 rfl (by decide +kernel) ?_
        refine zw_zreturn f76_45 r76 u76 (by decide +kernel) ?_
        refine ⟨rfl, Or.inr ⟨rfl, fun q => ?_⟩⟩
        obtain ⟨j, j1, j2⟩ := mem_lA.mp q
        exact hn j (by omega) j2
      · have hn_hc2 : i < 8 := zn_lt (by omega) (by omega) hc2
        refine zw_aload_n 17 f76_16 rfl h0 ?_
        refine zw_getfield 20 f76_17 rfl g76_31_10 (hb_22 _ _ _ _) rfl ?_
        refine zw_iload_n 21 f76_20 rfl h3 ?_
        refine zw_iaload i (lA ev i).1 22 f76_21 rfl (hb_31 _ _ _ _) (nI_clamp (by omega)) (nI_pos (by omega)) (by omega) (hH.2 i (by omega)).1 ?_
        refine zw_iload_n 23 f76_22 rfl h1 ?_
        refine zw_ic_ne 26 38 f76_23 (by decide +kernel) rfl (fun hc3 => ?_) (fun hc3 => ?_)
        · refine zw_iinc (nI (i + 1)) _ 41 f76_38 rfl h3 (by decide +kernel) (nI_1 _) rfl ?_
          refine zw_goto 2 f76_41 (by decide +kernel) ?_
          refine ih (i + 1) _ (fun j hj => ?_) (zl1_ne rfl rfl h0) (zl1_ne rfl rfl h1) (zl1_ne rfl rfl h2) zl1_eq (by omega) (by omega)
          by_cases q : j = i
          · rw [q]; exact (fun q => hc3 (congrArg Prod.fst q))
          · exact hn j (by omega)
        · refine zw_aload_n 27 f76_26 rfl h0 ?_
          refine zw_getfield 30 f76_27 rfl g76_34_10 (hb_22 _ _ _ _) rfl ?_
          refine zw_iload_n 31 f76_30 rfl h3 ?_
          refine zw_iaload i (lA ev i).2 32 f76_31 rfl (hb_32 _ _ _ _) (nI_clamp (by omega)) (nI_pos (by omega)) (by omega) (hH.2 i (by omega)).2 ?_
          refine zw_iload_n 33 f76_32 rfl h2 ?_
          refine zw_ic_ne 36 38 f76_33 (by decide +kernel) rfl (fun hc4 => ?_) (fun hc4 => ?_)
          · refine zw_iinc (nI (i + 1)) _ 41 f76_38 rfl h3 (by decide +kernel) (nI_1 _) rfl ?_
            refine zw_goto 2 f76_41 (by decide +kernel) ?_
            refine ih (i + 1) _ (fun j hj => ?_) (zl1_ne rfl rfl h0) (zl1_ne rfl rfl h1) (zl1_ne rfl rfl h2) zl1_eq (by omega) (by omega)
            by_cases q : j = i
            · rw [q]; exact (fun q => hc4 (congrArg Prod.snd q))
            · exact hn j (by omega)
          · refine zw_iconst 1 37 f76_36 rfl (by decide +kernel) ?_
            refine zw_zreturn f76_37 r76 u76 (by decide +kernel) ?_
            exact ⟨rfl, Or.inl ⟨rfl, mem_lA.mpr ⟨i, by omega, Prod.ext (Decidable.of_not_not hc3) (Decidable.of_not_not hc4)⟩⟩⟩
set_option maxRecDepth 100000 in
set_option maxHeartbeats 0 in
theorem cx_hh (ro : UInt32 → Nat × (Nat → Int32)) (I : Nat → Nat → Int32) (G : Nat → Nat → Int64) (A : Nat → Nat → Int32) (B : Nat → Nat → Int64) (ev : List (Int32 × Int32)) (x y : Int32) (hH : cHp 22 I A ev) (h8 : ev.length ≤ 8) : zWp ro 76 0 [(0, .ref 22), (1, .int x), (2, .int y)] [] (hS I G A B) 0 0 (fun r h1 => h1 = hS I G A B ∧ ((r = some (.int 1) ∧ (x, y) ∈ ev) ∨ (r = some (.int 0) ∧ ¬ (x, y) ∈ ev))) := by
  refine zw_iconst 0 1 f76_0 rfl (by decide +kernel) ?_
  refine zw_istore_n _ 2 f76_1 rfl (by decide +kernel) rfl ?_
  exact lcx_hh ro I G A B ev x y hH h8 (ev.length + 1) 0 _ (fun j hj => absurd hj (by omega)) (zl1_ne rfl rfl rfl) (zl1_ne rfl rfl rfl) (zl1_ne rfl rfl rfl) zl1_eq (by omega) (by omega)
set_option maxRecDepth 100000 in
set_option maxHeartbeats 0 in
theorem lcx_fs (ro : UInt32 → Nat × (Nat → Int32)) (nv np : Nat) (P : Nat → Nat → Int32) (W : qW) (K : Int) (ve u : Int32) (I : Nat → Nat → Int32) (G : Nat → Nat → Int64) (A : Nat → Nat → Int32) (B : Nat → Nat → Int64) (hR : cRS 22 nv np P W I G A B) (hp : MPa nv np P) (hq : qOw nv np P) (hW : wInv nv 10000 K P W) (hK0 : 0 ≤ K) (hK : K ≤ 199000000) (u0 : 0 ≤ (Int32.toInt64 u).toInt) (u1 : (Int32.toInt64 u).toInt ≤ 10000) : ∀ (n m : Nat) (ls : List (Nat × Value)) (I1 : Nat → Nat → Int32) (G1 : Nat → Nat → Int64) (A1 : Nat → Nat → Int32) (B1 : Nat → Nat → Int64) (W1 : qW), KQ fFs pFs I G A B I1 G1 A1 B1 → cRS 22 nv np P W1 I1 G1 A1 B1 → wInv nv 10000 (K + 1600 * m) P W1 → m + n = 60 → zld ls 0 = some (.ref 0) → zld ls 1 = some (.int ve) → zld ls 2 = some (.int u) → zld ls 3 = some (.int (nI m)) → zWp ro 108 2 ls [] (hS I1 G1 A1 B1) 0 0 (fun r h1 => ∃ I2 G2 A2 B2, h1 = hS I2 G2 A2 B2 ∧ KQ fFs pFs I G A B I2 G2 A2 B2 ∧ (∃ W2, cRS 22 nv np P W2 I2 G2 A2 B2 ∧ wInv nv 10000 (K + 96000) P W2) ∧ r = some (.int (cI ((wSk nv np P ve (Int32.toInt64 u) n W1).1 = true ∧ (wSk nv np P ve (Int32.toInt64 u) n W1).2.2.1 = (Int32.toInt64 u) * (wSk nv np P ve (Int32.toInt64 u) n W1).2.1) (1 : Int32) 0))) := by
  intro n
  induction n using Nat.strongRecOn with
  | _ n ih =>
    intro m ls I1 G1 A1 B1 W1 K0 hR1 hW1 hm h0 h1 h2 h3
    refine zw_iload_n 3 f108_2 rfl h3 ?_
    refine zw_bipush 60 5 f108_3 rfl (by decide +kernel) ?_
    refine zw_ic_ge 8 75 f108_5 (by decide +kernel) rfl (fun hc1 => ?_) (fun hc1 => ?_)
    · have hn_hc1 : 60 ≤ m := zn_ge (by omega) (by omega) hc1
      refine zw_iconst 0 76 f108_75 rfl (by decide +kernel) ?_
      refine zw_zreturn f108_76 r108 u108 (by decide +kernel) ?_
      have hn0 : n = 0 := by omega
      subst hn0
      have ea : cI ((wSk nv np P ve (Int32.toInt64 u) 0 W1).1 = true ∧ (wSk nv np P ve (Int32.toInt64 u) 0 W1).2.2.1 = (Int32.toInt64 u) * (wSk nv np P ve (Int32.toInt64 u) 0 W1).2.1) (1 : Int32) 0 = 0 := cI_n (fun q => absurd (show false = true from q.1) (by decide))
      exact ⟨_, _, _, _, rfl, K0, ⟨_, hR1, hW1.mo (by omega) (by omega)⟩, by rw [ea]⟩
    · have hn_hc1 : m < 60 := zn_lt (by omega) (by omega) hc1
      refine zw_aload_n 9 f108_8 rfl h0 ?_
      refine zw_getfield 12 f108_9 rfl g108_25_11 (hb_0 _ _ _ _) rfl ?_
      refine zw_virtual_v 15 0 0 [.ref 22] [(0, .ref 22)] f108_12 rfl n108_167 k108_167_10 rfl (hb_22 _ _ _ _) (by decide +kernel) (Nat.le_of_ble_eq_true rfl) rfl rfl (by decide +kernel) (by decide +kernel) rfl (Nat.le_of_ble_eq_true rfl) rfl ?_
      refine zWp.mono (cx_seek_22 ro nv np P W1 10000 (K + 1600 * m) _ _ _ _ hR1 hp hW1.2.1 hq hW1.1) ?_
      rintro r h1 ⟨I_s, G_s, A_s, B_s, rfl, K_s, hRt, hC, rfl⟩
      refine ⟨rfl, ?_⟩
      have hR2 := hR1.k K_s ⟨rfl, rfl⟩ (fCs_w 22) (pCr_w 22 (by omega))
      refine zw_aload_n 16 f108_15 rfl h0 ?_
      refine zw_getfield 19 f108_16 rfl g108_25_11 (hb_0 _ _ _ _) rfl ?_
      refine zw_virtual_i 22 0 0 [.ref 22] [(0, .ref 22)] f108_19 rfl n108_170 k108_170_10 rfl (hb_22 _ _ _ _) (by decide +kernel) (Nat.le_of_ble_eq_true rfl) rfl rfl (by decide +kernel) (by decide +kernel) rfl (Nat.le_of_ble_eq_true rfl) rfl ?_
      refine zw_aload_n 1 f58_0 rfl rfl ?_
      refine zw_getG (G_s 22 9) 4 f58_1 rfl g58_119_10 (hb_22 _ _ _ _) rfl rfl ?_
      refine zw_lconst 0 5 f58_4 rfl (by decide +kernel) ?_
      refine zw_lcmp (lg_cmp (G_s 22 9) 0) 6 f58_5 rfl rfl ?_
      refine zw_if_ne 9 13 f58_6 (by decide +kernel) rfl (fun hc2 => ?_) (fun hc2 => ?_)
      · refine zw_iconst 0 14 f58_13 rfl (by decide +kernel) ?_
        refine zw_zreturn f58_14 r58 u58 (by decide +kernel) ⟨_, rfl, ?_⟩
        refine zw_if_ne_f 25 46 f108_22 (by decide +kernel) rfl (by decide +kernel) ?_
        refine zw_aload_n 26 f108_25 rfl h0 ?_
        refine zw_getfield 29 f108_26 rfl g108_25_11 (hb_0 _ _ _ _) rfl ?_
        refine zw_iload_n 30 f108_29 rfl h2 ?_
        refine zw_virtual_i 33 0 0 [.ref 22, .int u] [(0, .ref 22), (1, .int u)] f108_30 rfl n108_174 k108_174_10 rfl (hb_22 _ _ _ _) (by decide +kernel) (Nat.le_of_ble_eq_true rfl) rfl rfl (by decide +kernel) (by decide +kernel) rfl (Nat.le_of_ble_eq_true rfl) rfl ?_
        refine zw_aload_n 1 f61_0 rfl rfl ?_
        refine zw_virtual_l 4 0 0 [.ref 22] [(0, .ref 22)] f61_1 rfl n61_154 k61_154_10 rfl (hb_22 _ _ _ _) (by decide +kernel) (Nat.le_of_ble_eq_true rfl) rfl rfl (by decide +kernel) (by decide +kernel) rfl (Nat.le_of_ble_eq_true rfl) rfl ?_
        refine zw_aload_n 1 f59_0 rfl rfl ?_
        refine zw_getfield 4 f59_1 rfl g59_12_10 (hb_22 _ _ _ _) rfl ?_
        refine zw_getG W1.2.1 7 f59_4 rfl g59_151_9 (hb_23 _ _ _ _) rfl hR2.2.2.1.2.1 ?_
        refine zw_aload_n 8 f59_7 rfl rfl ?_
        refine zw_getG (G_s 22 9) 11 f59_8 rfl g59_119_10 (hb_22 _ _ _ _) rfl rfl ?_
        refine zw_lmul (W1.2.1 * (G_s 22 9)) 12 f59_11 rfl rfl ?_
        refine zw_aload_n 13 f59_12 rfl rfl ?_
        refine zw_getG (G_s 22 8) 16 f59_13 rfl g59_116_10 (hb_22 _ _ _ _) rfl rfl ?_
        refine zw_ladd ((W1.2.1 * (G_s 22 9)) + (G_s 22 8)) 17 f59_16 rfl rfl ?_
        refine zw_lreturn f59_17 r59 u59 ⟨_, rfl, ?_⟩
        refine zw_iload_n 5 f61_4 rfl rfl ?_
        refine zw_i2l (Int32.toInt64 u) 6 f61_5 rfl rfl ?_
        refine zw_aload_n 7 f61_6 rfl rfl ?_
        refine zw_virtual_l 10 0 0 [.ref 22] [(0, .ref 22)] f61_7 rfl n61_158 k61_158_10 rfl (hb_22 _ _ _ _) (by decide +kernel) (Nat.le_of_ble_eq_true rfl) rfl rfl (by decide +kernel) (by decide +kernel) rfl (Nat.le_of_ble_eq_true rfl) rfl ?_
        refine zw_aload_n 1 f60_0 rfl rfl ?_
        refine zw_getfield 4 f60_1 rfl g60_12_10 (hb_22 _ _ _ _) rfl ?_
        refine zw_getG W1.1 7 f60_4 rfl g60_109_9 (hb_23 _ _ _ _) rfl hR2.2.2.1.1 ?_
        refine zw_aload_n 8 f60_7 rfl rfl ?_
        refine zw_getG (G_s 22 9) 11 f60_8 rfl g60_119_10 (hb_22 _ _ _ _) rfl rfl ?_
        refine zw_lmul (W1.1 * (G_s 22 9)) 12 f60_11 rfl rfl ?_
        refine zw_lreturn f60_12 r60 u60 ⟨_, rfl, ?_⟩
        refine zw_lmul ((Int32.toInt64 u) * (W1.1 * (G_s 22 9))) 11 f61_10 rfl rfl ?_
        refine zw_lcmp (lg_cmp ((W1.2.1 * (G_s 22 9)) + (G_s 22 8)) ((Int32.toInt64 u) * (W1.1 * (G_s 22 9)))) 12 f61_11 rfl rfl ?_
        refine zw_if_le 15 19 f61_12 (by decide +kernel) rfl (fun hc3 => ?_) (fun hc3 => ?_)
        · refine zw_iconst 0 20 f61_19 rfl (by decide +kernel) ?_
          refine zw_zreturn f61_20 r61 u61 (by decide +kernel) ⟨_, rfl, ?_⟩
          refine zw_if_ne_f 36 46 f108_33 (by decide +kernel) rfl (by decide +kernel) ?_
          refine zw_aload_n 37 f108_36 rfl h0 ?_
          refine zw_getfield 40 f108_37 rfl g108_25_11 (hb_0 _ _ _ _) rfl ?_
          refine zw_virtual_i 43 0 0 [.ref 22] [(0, .ref 22)] f108_40 rfl n108_184 k108_184_10 rfl (hb_22 _ _ _ _) (by decide +kernel) (Nat.le_of_ble_eq_true rfl) rfl rfl (by decide +kernel) (by decide +kernel) rfl (Nat.le_of_ble_eq_true rfl) rfl ?_
          obtain ⟨na, nb, hN⟩ := nx_of (cNx_n hC (fun q => hc2 ((lg_cmp_eq _ _).mpr q)))
          have hnb : ¬ ((Int32.toInt64 u) * W1.1 - W1.2.1) * nb < na * W1.1 := fun q => (Int64.not_lt.mpr ((lg_cmp_le _ _).mp hc3)) ((cBeh hp hW1.1 (by omega) hN hC u0 u1).mpr q)
          have hps := (wStep_pass (T := 10000) (T2 := 10000) hp hW1.1 (by omega) (by omega) (by omega) (Or.inr ⟨u0, u1, u1⟩) hN hnb).2.2.2
          refine zWp.mono (cx_step_22 ro nv np P W1 10000 10000 (K + 1600 * m) _ _ _ _ hR2 hp hW1.2.1 hW1.1 (by omega) (by omega) (by omega) hRt na nb hN hC hps) ?_
          rintro r h1 ⟨I_t, G_t, A_t, B_t, rfl, K_t, (⟨rfl, hpn, hR3, -⟩ | ⟨rfl, W2, hpn, hR3, hH3⟩)⟩
          · refine ⟨_, rfl, ?_⟩
            have hs1 : wStep nv np P (Int32.toInt64 u) W1 = (-1, W1, 0, 0, []) := wStep_n hN hnb hpn
            refine zw_if_ne_f 46 48 f108_43 (by decide +kernel) rfl (by decide +kernel) ?_
            refine zw_iconst 0 47 f108_46 rfl (by decide +kernel) ?_
            refine zw_zreturn f108_47 r108 u108 (by decide +kernel) ?_
            have hs0 : ¬ (wStep nv np P (Int32.toInt64 u) W1).1 = 1 := by rw [hs1]; show ¬ (-1 : Int32) = 1; decide
            have ea : cI ((wSk nv np P ve (Int32.toInt64 u) n W1).1 = true ∧ (wSk nv np P ve (Int32.toInt64 u) n W1).2.2.1 = (Int32.toInt64 u) * (wSk nv np P ve (Int32.toInt64 u) n W1).2.1) (1 : Int32) 0 = 0 := by
              cases n with
              | zero => exact cI_n (fun q => absurd (show false = true from q.1) (by decide))
              | succ n => rw [show wSk nv np P ve (Int32.toInt64 u) (n + 1) W1 = (false, W1) from if_neg hs0]; exact cI_n (fun q => absurd (show false = true from q.1) (by decide))
            exact ⟨_, _, _, _, rfl, (KQ.tr (KQ.tr K0 (KQ.wk K_s fCs_Fs pCr_Fs)) (KQ.wk K_t fSe_Fs pSe_Fs)), ⟨_, hR3, hW1.mo (by omega) (by omega)⟩, by rw [ea]⟩
          · refine ⟨_, rfl, ?_⟩
            have hw2 := hps W2 hpn
            have hb2 : wBo W2 := by unfold wBo; rw [hw2.2]; exact hW1.2.1
            have h8e := (mom_t hp hb2 hw2.1 (by omega) (by omega)).2.2
            have st := wStep_inv (T := 10000) (T2 := 10000) (u := (Int32.toInt64 u)) hp hW1 (by omega) (by omega) (by omega) (by omega) (Or.inr ⟨u0, u1, u1⟩)
            have hs1 : wStep nv np P (Int32.toInt64 u) W1 = (1, wMom nv P W2, W2.2.1, W2.1, wEv nv P W2) := wStep_y hN hnb hpn
            rw [hs1] at st
            obtain ⟨-, w3, -⟩ := st.resolve_left (fun q => q.elim (fun z => absurd (congrArg (fun y => y.1) z) (by show ¬ (1 : Int32) = 0; decide)) (fun z => absurd (congrArg (fun y => y.1) z) (by show ¬ (1 : Int32) = -1; decide)))
            refine zw_if_ne_t 48 f108_43 (by decide +kernel) (by decide +kernel) ?_
            refine zw_aload_n 49 f108_48 rfl h0 ?_
            refine zw_getfield 52 f108_49 rfl g108_25_11 (hb_0 _ _ _ _) rfl ?_
            refine zw_iconst 4 53 f108_52 rfl (by decide +kernel) ?_
            refine zw_iload_n 54 f108_53 rfl h1 ?_
            refine zw_virtual_i 57 0 0 [.ref 22, .int 4, .int ve] [(0, .ref 22), (1, .int 4), (2, .int ve)] f108_54 rfl n108_321 k108_321_10 rfl (hb_22 _ _ _ _) (by decide +kernel) (Nat.le_of_ble_eq_true rfl) rfl rfl (by decide +kernel) (by decide +kernel) rfl (Nat.le_of_ble_eq_true rfl) rfl ?_
            refine zWp.mono (cx_hh ro _ _ _ _ (wEv nv P W2) 4 ve hH3 h8e) ?_
            rintro r h1 ⟨rfl, (⟨rfl, hin⟩ | ⟨rfl, hin⟩)⟩
            · refine ⟨_, rfl, ?_⟩
              refine zw_if_eq_f 60 69 f108_57 (by decide +kernel) rfl (by decide +kernel) ?_
              refine zw_aload_n 61 f108_60 rfl h0 ?_
              refine zw_getfield 64 f108_61 rfl g108_25_11 (hb_0 _ _ _ _) rfl ?_
              refine zw_iload_n 65 f108_64 rfl h2 ?_
              refine zw_virtual_i 68 0 0 [.ref 22, .int u] [(0, .ref 22), (1, .int u)] f108_65 rfl n108_324 k108_324_10 rfl (hb_22 _ _ _ _) (by decide +kernel) (Nat.le_of_ble_eq_true rfl) rfl rfl (by decide +kernel) (by decide +kernel) rfl (Nat.le_of_ble_eq_true rfl) rfl ?_
              refine zw_aload_n 1 f63_0 rfl rfl ?_
              refine zw_getfield 4 f63_1 rfl g63_12_10 (hb_22 _ _ _ _) rfl ?_
              refine zw_getG (wMom nv P W2).2.1 7 f63_4 rfl g63_151_9 (hb_23 _ _ _ _) rfl hR3.2.2.1.2.1 ?_
              refine zw_iload_n 8 f63_7 rfl rfl ?_
              refine zw_i2l (Int32.toInt64 u) 9 f63_8 rfl rfl ?_
              refine zw_aload_n 10 f63_9 rfl rfl ?_
              refine zw_getfield 13 f63_10 rfl g63_12_10 (hb_22 _ _ _ _) rfl ?_
              refine zw_getG (wMom nv P W2).1 16 f63_13 rfl g63_109_9 (hb_23 _ _ _ _) rfl hR3.2.2.1.1 ?_
              refine zw_lmul ((Int32.toInt64 u) * (wMom nv P W2).1) 17 f63_16 rfl rfl ?_
              refine zw_lcmp (lg_cmp (wMom nv P W2).2.1 ((Int32.toInt64 u) * (wMom nv P W2).1)) 18 f63_17 rfl rfl ?_
              refine zw_if_ne 21 25 f63_18 (by decide +kernel) rfl (fun hc4 => ?_) (fun hc4 => ?_)
              · refine zw_iconst 0 26 f63_25 rfl (by decide +kernel) ?_
                refine zw_zreturn f63_26 r63 u63 (by decide +kernel) ⟨_, rfl, ?_⟩
                refine zw_zreturn f108_68 r108 u108 (by decide +kernel) ?_
                cases n with
                | zero => exact absurd hm (by omega)
                | succ n =>
                  have EG : wSk nv np P ve (Int32.toInt64 u) (n + 1) W1 = (true, wMom nv P W2) := by
                    rw [wSk, hs1]
                    exact (if_pos rfl).trans (if_pos hin)
                  have ea : cI ((wSk nv np P ve (Int32.toInt64 u) (n + 1) W1).1 = true ∧ (wSk nv np P ve (Int32.toInt64 u) (n + 1) W1).2.2.1 = (Int32.toInt64 u) * (wSk nv np P ve (Int32.toInt64 u) (n + 1) W1).2.1) (1 : Int32) 0 = 0 := by rw [EG]; exact cI_n (fun q => (fun q => hc4 ((lg_cmp_eq _ _).mpr q)) q.2)
                  exact ⟨_, _, _, _, rfl, (KQ.tr (KQ.tr K0 (KQ.wk K_s fCs_Fs pCr_Fs)) (KQ.wk K_t fSe_Fs pSe_Fs)), ⟨_, hR3, w3.mo (by omega) (by omega)⟩, by rw [ea]⟩
              · refine zw_iconst 1 22 f63_21 rfl (by decide +kernel) ?_
                refine zw_goto 26 f63_22 (by decide +kernel) ?_
                refine zw_zreturn f63_26 r63 u63 (by decide +kernel) ⟨_, rfl, ?_⟩
                refine zw_zreturn f108_68 r108 u108 (by decide +kernel) ?_
                cases n with
                | zero => exact absurd hm (by omega)
                | succ n =>
                  have EG : wSk nv np P ve (Int32.toInt64 u) (n + 1) W1 = (true, wMom nv P W2) := by
                    rw [wSk, hs1]
                    exact (if_pos rfl).trans (if_pos hin)
                  have ea : cI ((wSk nv np P ve (Int32.toInt64 u) (n + 1) W1).1 = true ∧ (wSk nv np P ve (Int32.toInt64 u) (n + 1) W1).2.2.1 = (Int32.toInt64 u) * (wSk nv np P ve (Int32.toInt64 u) (n + 1) W1).2.1) (1 : Int32) 0 = 1 := by rw [EG]; exact cI_y ⟨rfl, ((lg_cmp_eq _ _).mp (Decidable.of_not_not hc4))⟩
                  exact ⟨_, _, _, _, rfl, (KQ.tr (KQ.tr K0 (KQ.wk K_s fCs_Fs pCr_Fs)) (KQ.wk K_t fSe_Fs pSe_Fs)), ⟨_, hR3, w3.mo (by omega) (by omega)⟩, by rw [ea]⟩
            · refine ⟨_, rfl, ?_⟩
              refine zw_if_eq_t 69 f108_57 (by decide +kernel) (by decide +kernel) ?_
              refine zw_iinc (nI (m + 1)) _ 72 f108_69 rfl h3 (by decide +kernel) (nI_1 _) rfl ?_
              refine zw_goto 2 f108_72 (by decide +kernel) ?_
              cases n with
              | zero => exact absurd hm (by omega)
              | succ n =>
                have EG : wSk nv np P ve (Int32.toInt64 u) (n + 1) W1 = wSk nv np P ve (Int32.toInt64 u) n (wMom nv P W2) := by
                  rw [wSk, hs1]
                  exact (if_pos rfl).trans (if_neg hin)
                rw [EG]
                exact ih n (by omega) (m + 1) _ _ _ _ _ _ (KQ.tr (KQ.tr K0 (KQ.wk K_s fCs_Fs pCr_Fs)) (KQ.wk K_t fSe_Fs pSe_Fs)) hR3 (w3.mo (by omega) (by omega)) (by omega) (zl1_ne rfl rfl h0) (zl1_ne rfl rfl h1) (zl1_ne rfl rfl h2) zl1_eq
        · refine zw_iconst 1 16 f61_15 rfl (by decide +kernel) ?_
          refine zw_goto 20 f61_16 (by decide +kernel) ?_
          refine zw_zreturn f61_20 r61 u61 (by decide +kernel) ⟨_, rfl, ?_⟩
          refine zw_if_ne_t 46 f108_33 (by decide +kernel) (by decide +kernel) ?_
          refine zw_iconst 0 47 f108_46 rfl (by decide +kernel) ?_
          refine zw_zreturn f108_47 r108 u108 (by decide +kernel) ?_
          obtain ⟨na, nb, hN⟩ := nx_of (cNx_n hC (fun q => hc2 ((lg_cmp_eq _ _).mpr q)))
          have hs0 : ¬ (wStep nv np P (Int32.toInt64 u) W1).1 = 1 := by rw [wStep_b hN ((cBeh hp hW1.1 (by omega) hN hC u0 u1).mp (Int64.not_le.mp (fun q => hc3 ((lg_cmp_le _ _).mpr q))))]; show ¬ (0 : Int32) = 1; decide
          have ea : cI ((wSk nv np P ve (Int32.toInt64 u) n W1).1 = true ∧ (wSk nv np P ve (Int32.toInt64 u) n W1).2.2.1 = (Int32.toInt64 u) * (wSk nv np P ve (Int32.toInt64 u) n W1).2.1) (1 : Int32) 0 = 0 := by
            cases n with
            | zero => exact cI_n (fun q => absurd (show false = true from q.1) (by decide))
            | succ n => rw [show wSk nv np P ve (Int32.toInt64 u) (n + 1) W1 = (false, W1) from if_neg hs0]; exact cI_n (fun q => absurd (show false = true from q.1) (by decide))
          exact ⟨_, _, _, _, rfl, (KQ.tr K0 (KQ.wk K_s fCs_Fs pCr_Fs)), ⟨_, hR2, hW1.mo (by omega) (by omega)⟩, by rw [ea]⟩
      · refine zw_iconst 1 10 f58_9 rfl (by decide +kernel) ?_
        refine zw_goto 14 f58_10 (by decide +kernel) ?_
        refine zw_zreturn f58_14 r58 u58 (by decide +kernel) ⟨_, rfl, ?_⟩
        refine zw_if_ne_t 46 f108_22 (by decide +kernel) (by decide +kernel) ?_
        refine zw_iconst 0 47 f108_46 rfl (by decide +kernel) ?_
        refine zw_zreturn f108_47 r108 u108 (by decide +kernel) ?_
        have hs0 : ¬ (wStep nv np P (Int32.toInt64 u) W1).1 = 1 := by rw [wStep_r (cNx_r hC ((lg_cmp_eq _ _).mp (Decidable.of_not_not hc2)))]; show ¬ (0 : Int32) = 1; decide
        have ea : cI ((wSk nv np P ve (Int32.toInt64 u) n W1).1 = true ∧ (wSk nv np P ve (Int32.toInt64 u) n W1).2.2.1 = (Int32.toInt64 u) * (wSk nv np P ve (Int32.toInt64 u) n W1).2.1) (1 : Int32) 0 = 0 := by
          cases n with
          | zero => exact cI_n (fun q => absurd (show false = true from q.1) (by decide))
          | succ n => rw [show wSk nv np P ve (Int32.toInt64 u) (n + 1) W1 = (false, W1) from if_neg hs0]; exact cI_n (fun q => absurd (show false = true from q.1) (by decide))
        exact ⟨_, _, _, _, rfl, (KQ.tr K0 (KQ.wk K_s fCs_Fs pCr_Fs)), ⟨_, hR2, hW1.mo (by omega) (by omega)⟩, by rw [ea]⟩
set_option maxRecDepth 100000 in
set_option maxHeartbeats 0 in
theorem cx_fs (ro : UInt32 → Nat × (Nat → Int32)) (nv np : Nat) (P : Nat → Nat → Int32) (W : qW) (K : Int) (ve u : Int32) (I : Nat → Nat → Int32) (G : Nat → Nat → Int64) (A : Nat → Nat → Int32) (B : Nat → Nat → Int64) (hR : cRS 22 nv np P W I G A B) (hp : MPa nv np P) (hq : qOw nv np P) (hW : wInv nv 10000 K P W) (hK0 : 0 ≤ K) (hK : K ≤ 199000000) (u0 : 0 ≤ (Int32.toInt64 u).toInt) (u1 : (Int32.toInt64 u).toInt ≤ 10000) : zWp ro 108 0 [(0, .ref 0), (1, .int ve), (2, .int u)] [] (hS I G A B) 0 0 (fun r h1 => ∃ I2 G2 A2 B2, h1 = hS I2 G2 A2 B2 ∧ KQ fFs pFs I G A B I2 G2 A2 B2 ∧ (∃ W2, cRS 22 nv np P W2 I2 G2 A2 B2 ∧ wInv nv 10000 (K + 96000) P W2) ∧ r = some (.int (cI ((wSk nv np P ve (Int32.toInt64 u) 60 W).1 = true ∧ (wSk nv np P ve (Int32.toInt64 u) 60 W).2.2.1 = (Int32.toInt64 u) * (wSk nv np P ve (Int32.toInt64 u) 60 W).2.1) (1 : Int32) 0))) := by
  refine zw_iconst 0 1 f108_0 rfl (by decide +kernel) ?_
  refine zw_istore_n _ 2 f108_1 rfl (by decide +kernel) rfl ?_
  exact lcx_fs ro nv np P W K ve u I G A B hR hp hq hW hK0 hK u0 u1 60 0 _ _ _ _ _ W KQ.rf hR (hW.mo (by omega) (by omega)) (by omega) (zl1_ne rfl rfl rfl) (zl1_ne rfl rfl rfl) (zl1_ne rfl rfl rfl) zl1_eq
theorem wTu_u2 {nv np : Nat} {P : Nat → Nat → Int32} {W : qW} {q : Nat} {so : Int32} {u : Int64} : ∀ (m c : Nat) (o o2 : Option Nat), wTu nv np P W q so u m c o → wTu nv np P W q so u m c o2 → o = o2
  | 0, _, o, o2, h, h2 => h.trans h2.symm
  | m + 1, c, o, o2, h, h2 => by
    rcases h with ⟨a, e⟩ | ⟨a, e⟩
    · rcases h2 with ⟨b, f⟩ | ⟨b, f⟩
      · rw [e, f]
      · exact absurd a b
    · rcases h2 with ⟨b, f⟩ | ⟨b, f⟩
      · exact absurd b a
      · exact wTu_u2 m (c + 1) o o2 e f
theorem nI_px {c : Nat} (h1 : 1 ≤ c) (h2 : c ≤ 20) : 1 ≤ (nI c).toInt ∧ (nI c).toInt ≤ 20 := by rw [nI_toInt (by omega)]; omega
theorem rngv {x : Int32} (h1 : ¬ x < 1) (h2 : ¬ 20 < x) : x = nI x.toNatClampNeg ∧ 1 ≤ x.toNatClampNeg ∧ x.toNatClampNeg ≤ 20 := rng1 h1 h2
/-- what tune answers -/
def tuA (nv np : Nat) (P : Nat → Nat → Int32) (W : qW) (p lo hi ve wh a : Int32) : Prop := (¬ wTuG nv np P W p lo hi ve wh ∧ a = -1) ∨ (wTuG nv np P W p lo hi ve wh ∧ ∃ o, wTu nv np P W p.toNatClampNeg ve (Int32.toInt64 wh) (hi.toNatClampNeg + 1 - lo.toNatClampNeg) lo.toNatClampNeg o ∧ a = (wTuX o).2)
theorem tuA_u {nv np : Nat} {P : Nat → Nat → Int32} {W : qW} {p lo hi ve wh a a2 : Int32} (h : tuA nv np P W p lo hi ve wh a) (h2 : tuA nv np P W p lo hi ve wh a2) : a = a2 := by
  rcases h with ⟨n, e⟩ | ⟨y, o, t, e⟩
  · rcases h2 with ⟨-, f⟩ | ⟨y2, -⟩
    · rw [e, f]
    · exact absurd y2 n
  · rcases h2 with ⟨n2, -⟩ | ⟨-, o2, t2, f⟩
    · exact absurd y n2
    · rw [e, f, wTu_u2 _ _ _ _ t t2]
theorem tuA_of {nv np : Nat} {P : Nat → Nat → Int32} {W : qW} {p lo hi ve wh s a : Int32} (h : wTuR nv np P W p lo hi ve wh s a) : tuA nv np P W p lo hi ve wh a := by
  rcases h with ⟨n, -, e⟩ | ⟨y, o, t, e⟩
  · exact Or.inl ⟨n, e⟩
  · exact Or.inr ⟨y, o, t, congrArg Prod.snd e⟩
theorem n1_of {n : Nat} {a : Int32} (hn : n ≤ 14) (h : qV n a) : ¬ nI n - 1 < a := fun q => qV.n1 (by omega) q h
theorem lt1 {lo hi : Int32} (h : ¬ lo < 1) (h2 : hi < 1) : hi < lo := by
  rw [i32_lt] at h h2 ⊢
  omega
theorem p0q {n : Nat} {a : Int32} (hn : n ≤ 14) (h : qV n a) : ¬ a < 0 := fun q => qV.n0 (by omega) q h
set_option maxRecDepth 100000 in
set_option maxHeartbeats 0 in
theorem lcx_tune (ro : UInt32 → Nat × (Nat → Int32)) (nv np : Nat) (P : Nat → Nat → Int32) (W : qW) (K : Int) (p lo hi ve wh : Int32) (I : Nat → Nat → Int32) (G : Nat → Nat → Int64) (A : Nat → Nat → Int32) (B : Nat → Nat → Int64) (hR : cRS 11 nv np P W I G A B) (hp : MPa nv np P) (hq : qOw nv np P) (hW : wInv nv 10000 K P W) (hK0 : 0 ≤ K) (hK : K ≤ 198000000) (hJ : cJk (P 62) A B) (qp : qV np p) (qv : qV nv ve) (u0 : 0 ≤ (Int32.toInt64 wh).toInt) (u1 : (Int32.toInt64 wh).toInt ≤ 10000) (b : Nat) (hb : b ≤ 20) : ∀ (n c : Nat) (ls : List (Nat × Value)) (I1 : Nat → Nat → Int32) (G1 : Nat → Nat → Int64) (A1 : Nat → Nat → Int32) (B1 : Nat → Nat → Int64), KQ fTn pTn I G A B I1 G1 A1 B1 → cRS 11 nv np P W I1 G1 A1 B1 → cJk (P 62) A1 B1 → 1 ≤ c ∧ c ≤ 21 → 22 ≤ c + n → zld ls 0 = some (.ref 0) → zld ls 1 = some (.int p) → zld ls 3 = some (.int (nI b)) → zld ls 4 = some (.int ve) → zld ls 5 = some (.int wh) → zld ls 6 = some (.int (nI c)) → zWp ro 100 72 ls [] (hS I1 G1 A1 B1) 0 0 (fun r h1 => ∃ I2 G2 A2 B2, h1 = hS I2 G2 A2 B2 ∧ KQ fTn pTn I G A B I2 G2 A2 B2 ∧ cJk (P 62) A2 B2 ∧ ∃ o, wTu nv np P W p.toNatClampNeg ve (Int32.toInt64 wh) (b + 1 - c) c o ∧ r = some (.int (wTuX o).2)) := by
  have h8 := hp.1
  have h14 := hp.2.1
  intro n
  induction n with
  | zero =>
    intro c ls I1 G1 A1 B1 K0 hR1 hJ1 hc1 hc2 h0 h1 h3 h4 h5 h6
    exact absurd hc2 (by omega)
  | succ n ih =>
    intro c ls I1 G1 A1 B1 K0 hR1 hJ1 hc1 hc2 h0 h1 h3 h4 h5 h6
    refine zw_iload 74 f100_72 rfl h6 ?_
    refine zw_iload_n 75 f100_74 rfl h3 ?_
    refine zw_ic_gt 78 133 f100_75 (by decide +kernel) rfl (fun hc1 => ?_) (fun hc1 => ?_)
    · have hn_hc1 : b < c := zn_lt (by omega) (by omega) (Int32.not_le.mpr hc1)
      refine zw_aload_n 134 f100_133 rfl h0 ?_
      refine zw_iconst 3 135 f100_134 rfl (by decide +kernel) ?_
      refine zw_virtual_i 138 0 0 [.ref 0, .int 3] [(0, .ref 0), (1, .int 3)] f100_135 rfl n100_78 k100_78_11 rfl (hb_0 _ _ _ _) (by decide +kernel) (Nat.le_of_ble_eq_true rfl) rfl rfl (by decide +kernel) (by decide +kernel) rfl (Nat.le_of_ble_eq_true rfl) rfl ?_
      refine zw_aload_n 1 f105_0 rfl rfl ?_
      refine zw_iload_n 2 f105_1 rfl rfl ?_
      refine zw_put _ 5 f105_2 rfl g105_70_11 (hb_0 _ _ _ _) rfl (Nat.le_of_ble_eq_true rfl) (by decide +kernel) (hi_0_7 _ _ _ _ _) ?_
      refine zw_iconst (-1) 6 f105_5 rfl (by decide +kernel) ?_
      refine zw_ireturn f105_6 r105 u105 ⟨_, rfl, ?_⟩
      refine zw_ireturn f100_138 r100 u100 ?_
      refine ⟨_, _, _, _, rfl, (KQ.i rfl K0), hJ1, none, ?_, rfl⟩
      rw [show b + 1 - c = 0 by omega]
      exact (rfl : (none : Option Nat) = none)
    · have hn_hc1 : c ≤ b := zn_ge (by omega) (by omega) (Int32.not_lt.mp hc1)
      refine zw_aload_n 79 f100_78 rfl h0 ?_
      refine zw_getfield 82 f100_79 rfl g100_25_11 (hb_0 _ _ _ _) rfl ?_
      refine zw_getfield 85 f100_82 rfl g100_134_10 (hb_22 _ _ _ _) rfl ?_
      refine zw_aload_n 86 f100_85 rfl h0 ?_
      refine zw_getfield 89 f100_86 rfl g100_21_11 (hb_0 _ _ _ _) rfl ?_
      refine zw_getfield 92 f100_89 rfl g100_134_10 (hb_11 _ _ _ _) rfl ?_
      refine zw_virtual_v 95 0 0 [.ref 23, .ref 12] [(0, .ref 23), (1, .ref 12)] f100_92 rfl n100_269 k100_269_9 rfl (hb_23 _ _ _ _) (by decide +kernel) (Nat.le_of_ble_eq_true rfl) rfl rfl (by decide +kernel) (by decide +kernel) rfl (Nat.le_of_ble_eq_true rfl) rfl ?_
      refine zWp.mono (cx_takeOver ro nv np P W I1 G1 A1 B1 hR1 (fun j hj => hW.1.1.2.2 j (by omega)) hW.2.2.2.2 hJ1) ?_
      rintro r h1 ⟨I_t, G_t, A_t, B_t, rfl, K_t, hT, rfl⟩
      refine ⟨rfl, ?_⟩
      refine zw_aload_n 96 f100_95 rfl h0 ?_
      refine zw_getfield 99 f100_96 rfl g100_25_11 (hb_0 _ _ _ _) rfl ?_
      refine zw_getfield 102 f100_99 rfl g100_134_10 (hb_22 _ _ _ _) rfl ?_
      refine zw_getfield 105 f100_102 rfl g100_138_9 (hb_23 _ _ _ _) rfl ?_
      refine zw_iload_n 106 f100_105 rfl h1 ?_
      refine zw_iload 108 f100_106 rfl h6 ?_
      refine zw_ast p.toNatClampNeg _ 109 f100_108 rfl (hb_26 _ _ _ _) rfl (p0q hp.2.1 qp) (by have := qp.1; have := hp.2.1; omega) (ha_26 _ _ _ _ _) ?_
      refine zw_aload_n 110 f100_109 rfl h0 ?_
      refine zw_iload 112 f100_110 rfl h4 ?_
      refine zw_iload 114 f100_112 rfl h5 ?_
      refine zw_virtual_i 117 0 0 [.ref 0, .int ve, .int wh] [(0, .ref 0), (1, .int ve), (2, .int wh)] f100_114 rfl n100_282 k100_282_11 rfl (hb_0 _ _ _ _) (by decide +kernel) (Nat.le_of_ble_eq_true rfl) rfl rfl (by decide +kernel) (by decide +kernel) rfl (Nat.le_of_ble_eq_true rfl) rfl ?_
      have hx := nI_px (c := c) (by omega) (by omega)
      have hT2 : cRS 22 nv np (PAx P p.toNatClampNeg (nI c)) W I_t G_t (updA A_t 26 (upd (A_t 26) p.toNatClampNeg (nI c))) B_t := ⟨hT.1, PE.of10 (hT.2.1 53 (by omega) (by omega)) (hT.2.1 54 (by omega) (by omega)) (hT.2.1 55 (by omega) (by omega)) (hT.2.1 56 (by omega) (by omega)) (hT.2.1 57 (by omega) (by omega)) (hT.2.1 58 (by omega) (by omega)) (hT.2.1 59 (by omega) (by omega)) (hT.2.1 60 (by omega) (by omega)) (hT.2.1 61 (by omega) (by omega)) (congrArg (fun z => upd z p.toNatClampNeg (nI c)) ((hT.2.1 62 (by omega) (by omega)))), hT.2.2⟩
      refine zWp.mono (cx_fs ro nv np (PAx P p.toNatClampNeg (nI c)) W K ve wh _ _ _ _ hT2 (hp.px hx) hq.px (hW.pa (PAx_o (by omega))) hK0 (by omega) u0 u1) ?_
      rintro r h1 ⟨I_f, G_f, A_f, B_f, rfl, K_f, ⟨W2, hF, hW2⟩, rfl⟩
      have hJ2 : cJk (P 62) A_f B_f := jk_of hF hW2 hp.1 (fun j hj => show upd (P 62) p.toNatClampNeg (nI c) j = P 62 j from upd_o (by have := qp.1; omega))
      by_cases sh : wSh nv np (PAx P p.toNatClampNeg (nI c)) ve (Int32.toInt64 wh) W
      · rw [show cI ((wSk nv np (PAx P p.toNatClampNeg (nI c)) ve (Int32.toInt64 wh) 60 W).1 = true ∧ (wSk nv np (PAx P p.toNatClampNeg (nI c)) ve (Int32.toInt64 wh) 60 W).2.2.1 = (Int32.toInt64 wh) * (wSk nv np (PAx P p.toNatClampNeg (nI c)) ve (Int32.toInt64 wh) 60 W).2.1) (1 : Int32) 0 = 1 from cI_y sh]
        refine ⟨_, rfl, ?_⟩
        refine zw_if_eq_f 120 127 f100_117 (by decide +kernel) rfl (by decide +kernel) ?_
        refine zw_aload_n 121 f100_120 rfl h0 ?_
        refine zw_iload 123 f100_121 rfl h6 ?_
        refine zw_virtual_i 126 0 0 [.ref 0, .int (nI c)] [(0, .ref 0), (1, .int (nI c))] f100_123 rfl n100_181 k100_181_11 rfl (hb_0 _ _ _ _) (by decide +kernel) (Nat.le_of_ble_eq_true rfl) rfl rfl (by decide +kernel) (by decide +kernel) rfl (Nat.le_of_ble_eq_true rfl) rfl ?_
        refine zw_aload_n 1 f106_0 rfl rfl ?_
        refine zw_iconst 0 2 f106_1 rfl (by decide +kernel) ?_
        refine zw_put _ 5 f106_2 rfl g106_70_11 (hb_0 _ _ _ _) rfl (Nat.le_of_ble_eq_true rfl) (by decide +kernel) (hi_0_7 _ _ _ _ _) ?_
        refine zw_iload_n 6 f106_5 rfl rfl ?_
        refine zw_ireturn f106_6 r106 u106 ⟨_, rfl, ?_⟩
        refine zw_ireturn f100_126 r100 u100 ?_
        refine ⟨_, _, _, _, rfl, (KQ.i rfl (KQ.tr (KQ.a rfl (KQ.tr K0 (KQ.wk K_t fTk_Tn pTk_Tn))) (KQ.wk K_f fFs_Tn pFs_Tn))), hJ2, some c, ?_, rfl⟩
        rw [show b + 1 - c = (b - c) + 1 by omega]
        exact Or.inl ⟨sh, rfl⟩
      · rw [show cI ((wSk nv np (PAx P p.toNatClampNeg (nI c)) ve (Int32.toInt64 wh) 60 W).1 = true ∧ (wSk nv np (PAx P p.toNatClampNeg (nI c)) ve (Int32.toInt64 wh) 60 W).2.2.1 = (Int32.toInt64 wh) * (wSk nv np (PAx P p.toNatClampNeg (nI c)) ve (Int32.toInt64 wh) 60 W).2.1) (1 : Int32) 0 = 0 from cI_n sh]
        refine ⟨_, rfl, ?_⟩
        refine zw_if_eq_t 127 f100_117 (by decide +kernel) (by decide +kernel) ?_
        refine zw_iinc (nI (c + 1)) _ 130 f100_127 rfl h6 (by decide +kernel) (nI_1 _) rfl ?_
        refine zw_goto 72 f100_130 (by decide +kernel) ?_
        refine zWp.mono (ih (c + 1) _ _ _ _ _ (KQ.tr (KQ.a rfl (KQ.tr K0 (KQ.wk K_t fTk_Tn pTk_Tn))) (KQ.wk K_f fFs_Tn pFs_Tn)) (hR1.k (KQ.tr (KQ.wk K_t fTk_Tn pTk_Tn) (KQ.tr (KQ.a rfl KQ.rf) (KQ.wk K_f fFs_Tn pFs_Tn))) ⟨rfl, rfl⟩ (fun j h1 h2 => by simp only [fTn, decide_eq_false_iff_not]; omega) (fun k h1 h2 => by simp only [pTn, decide_eq_false_iff_not]; omega)) hJ2 ⟨by omega, by omega⟩ (by omega) (zl1_ne rfl rfl h0) (zl1_ne rfl rfl h1) (zl1_ne rfl rfl h3) (zl1_ne rfl rfl h4) (zl1_ne rfl rfl h5) zl1_eq) ?_
        rintro r h1 ⟨I2, G2, A2, B2, rfl, K2, j2, o, ho, rfl⟩
        refine ⟨_, _, _, _, rfl, K2, j2, o, ?_, rfl⟩
        rw [show b + 1 - c = (b + 1 - (c + 1)) + 1 by omega]
        exact Or.inr ⟨sh, ho⟩
set_option maxRecDepth 100000 in
set_option maxHeartbeats 0 in
theorem cx_tune (ro : UInt32 → Nat × (Nat → Int32)) (nv np : Nat) (P : Nat → Nat → Int32) (W : qW) (K : Int) (p lo hi ve wh : Int32) (I : Nat → Nat → Int32) (G : Nat → Nat → Int64) (A : Nat → Nat → Int32) (B : Nat → Nat → Int64) (hR : cRS 11 nv np P W I G A B) (hp : MPa nv np P) (hq : qOw nv np P) (hW : wInv nv 10000 K P W) (hK0 : 0 ≤ K) (hK : K ≤ 198000000) (hJ : cJk (P 62) A B) : zWp ro 100 0 [(0, .ref 0), (1, .int p), (2, .int lo), (3, .int hi), (4, .int ve), (5, .int wh)] [] (hS I G A B) 0 0 (fun r h1 => ∃ I2 G2 A2 B2, h1 = hS I2 G2 A2 B2 ∧ KQ fTn pTn I G A B I2 G2 A2 B2 ∧ cJk (P 62) A2 B2 ∧ ∃ a, tuA nv np P W p lo hi ve wh a ∧ r = some (.int a)) := by
  have h8 := hp.1
  have h14 := hp.2.1
  refine zw_aload_n 1 f100_0 rfl rfl ?_
  refine zw_getfield 4 f100_1 rfl g100_10_11 (hb_0 _ _ _ _) rfl ?_
  refine zw_iload_n 5 f100_4 rfl rfl ?_
  refine zw_virtual_i 8 0 0 [.ref 1, .int p] [(0, .ref 1), (1, .int p)] f100_5 rfl n100_109 k100_109_4 rfl (hb_1 _ _ _ _) (by decide +kernel) (Nat.le_of_ble_eq_true rfl) rfl rfl (by decide +kernel) (by decide +kernel) rfl (Nat.le_of_ble_eq_true rfl) rfl ?_
  refine zw_iload_n 1 f14_0 rfl rfl ?_
  refine zw_if_lt 4 22 f14_1 (by decide +kernel) rfl (fun hc1 => ?_) (fun hc1 => ?_)
  · refine zw_iconst 0 23 f14_22 rfl (by decide +kernel) ?_
    refine zw_zreturn f14_23 r14 u14 (by decide +kernel) ⟨_, rfl, ?_⟩
    refine zw_if_eq_t 63 f100_8 (by decide +kernel) (by decide +kernel) ?_
    refine zw_aload_n 64 f100_63 rfl rfl ?_
    refine zw_iconst 1 65 f100_64 rfl (by decide +kernel) ?_
    refine zw_virtual_i 68 0 0 [.ref 0, .int 1] [(0, .ref 0), (1, .int 1)] f100_65 rfl n100_78 k100_78_11 rfl (hb_0 _ _ _ _) (by decide +kernel) (Nat.le_of_ble_eq_true rfl) rfl rfl (by decide +kernel) (by decide +kernel) rfl (Nat.le_of_ble_eq_true rfl) rfl ?_
    refine zw_aload_n 1 f105_0 rfl rfl ?_
    refine zw_iload_n 2 f105_1 rfl rfl ?_
    refine zw_put _ 5 f105_2 rfl g105_70_11 (hb_0 _ _ _ _) rfl (Nat.le_of_ble_eq_true rfl) (by decide +kernel) (hi_0_7 _ _ _ _ _) ?_
    refine zw_iconst (-1) 6 f105_5 rfl (by decide +kernel) ?_
    refine zw_ireturn f105_6 r105 u105 ⟨_, rfl, ?_⟩
    refine zw_ireturn f100_68 r100 u100 ?_
    refine ⟨_, _, _, _, rfl, (KQ.i rfl KQ.rf), hJ, -1, Or.inl ⟨?_, rfl⟩, rfl⟩
    exact fun q => (qV.n0 (by omega) hc1) (qV.of (by have := hp.2.1; omega) q.1.1 q.1.2)
  · refine zw_iload_n 5 f14_4 rfl rfl ?_
    refine zw_aload_n 6 f14_5 rfl rfl ?_
    refine zw_getI (nI np) 9 f14_6 rfl g14_43_4 (hb_1 _ _ _ _) rfl hR.1.2 ?_
    refine zw_ic_ge 12 22 f14_9 (by decide +kernel) rfl (fun hc2 => ?_) (fun hc2 => ?_)
    · refine zw_iconst 0 23 f14_22 rfl (by decide +kernel) ?_
      refine zw_zreturn f14_23 r14 u14 (by decide +kernel) ⟨_, rfl, ?_⟩
      refine zw_if_eq_t 63 f100_8 (by decide +kernel) (by decide +kernel) ?_
      refine zw_aload_n 64 f100_63 rfl rfl ?_
      refine zw_iconst 1 65 f100_64 rfl (by decide +kernel) ?_
      refine zw_virtual_i 68 0 0 [.ref 0, .int 1] [(0, .ref 0), (1, .int 1)] f100_65 rfl n100_78 k100_78_11 rfl (hb_0 _ _ _ _) (by decide +kernel) (Nat.le_of_ble_eq_true rfl) rfl rfl (by decide +kernel) (by decide +kernel) rfl (Nat.le_of_ble_eq_true rfl) rfl ?_
      refine zw_aload_n 1 f105_0 rfl rfl ?_
      refine zw_iload_n 2 f105_1 rfl rfl ?_
      refine zw_put _ 5 f105_2 rfl g105_70_11 (hb_0 _ _ _ _) rfl (Nat.le_of_ble_eq_true rfl) (by decide +kernel) (hi_0_7 _ _ _ _ _) ?_
      refine zw_iconst (-1) 6 f105_5 rfl (by decide +kernel) ?_
      refine zw_ireturn f105_6 r105 u105 ⟨_, rfl, ?_⟩
      refine zw_ireturn f100_68 r100 u100 ?_
      refine ⟨_, _, _, _, rfl, (KQ.i rfl KQ.rf), hJ, -1, Or.inl ⟨?_, rfl⟩, rfl⟩
      exact fun q => (qV.n2 (by omega) hc2) (qV.of (by have := hp.2.1; omega) q.1.1 q.1.2)
    · refine zw_iload_n 13 f14_12 rfl rfl ?_
      refine zw_bipush 14 15 f14_13 rfl (by decide +kernel) ?_
      refine zw_ic_ge 18 22 f14_15 (by decide +kernel) rfl (fun hc3 => ?_) (fun hc3 => ?_)
      · refine zw_iconst 0 23 f14_22 rfl (by decide +kernel) ?_
        refine zw_zreturn f14_23 r14 u14 (by decide +kernel) ⟨_, rfl, ?_⟩
        refine zw_if_eq_t 63 f100_8 (by decide +kernel) (by decide +kernel) ?_
        refine zw_aload_n 64 f100_63 rfl rfl ?_
        refine zw_iconst 1 65 f100_64 rfl (by decide +kernel) ?_
        refine zw_virtual_i 68 0 0 [.ref 0, .int 1] [(0, .ref 0), (1, .int 1)] f100_65 rfl n100_78 k100_78_11 rfl (hb_0 _ _ _ _) (by decide +kernel) (Nat.le_of_ble_eq_true rfl) rfl rfl (by decide +kernel) (by decide +kernel) rfl (Nat.le_of_ble_eq_true rfl) rfl ?_
        refine zw_aload_n 1 f105_0 rfl rfl ?_
        refine zw_iload_n 2 f105_1 rfl rfl ?_
        refine zw_put _ 5 f105_2 rfl g105_70_11 (hb_0 _ _ _ _) rfl (Nat.le_of_ble_eq_true rfl) (by decide +kernel) (hi_0_7 _ _ _ _ _) ?_
        refine zw_iconst (-1) 6 f105_5 rfl (by decide +kernel) ?_
        refine zw_ireturn f105_6 r105 u105 ⟨_, rfl, ?_⟩
        refine zw_ireturn f100_68 r100 u100 ?_
        refine ⟨_, _, _, _, rfl, (KQ.i rfl KQ.rf), hJ, -1, Or.inl ⟨?_, rfl⟩, rfl⟩
        exact fun q => (qV.n3 (m := 14) (N := 14) (by omega) (by omega) (by decide) hc3) (qV.of (by have := hp.2.1; omega) q.1.1 q.1.2)
      · refine zw_iconst 1 19 f14_18 rfl (by decide +kernel) ?_
        refine zw_goto 23 f14_19 (by decide +kernel) ?_
        refine zw_zreturn f14_23 r14 u14 (by decide +kernel) ⟨_, rfl, ?_⟩
        refine zw_if_eq_f 11 63 f100_8 (by decide +kernel) rfl (by decide +kernel) ?_
        refine zw_iload_n 12 f100_11 rfl rfl ?_
        refine zw_iconst 1 13 f100_12 rfl (by decide +kernel) ?_
        refine zw_bipush 20 15 f100_13 rfl (by decide +kernel) ?_
        refine zw_static_i 18 0 0 [.int lo, .int 1, .int 20] [] [(0, .int lo), (1, .int 1), (2, .int 20)] f100_15 rfl k100_74_99 rfl (by decide +kernel) (Nat.le_of_ble_eq_true rfl) (Nat.le_of_ble_eq_true rfl) rfl rfl (by decide +kernel) (by decide +kernel) rfl (Nat.le_of_ble_eq_true rfl) rfl ?_
        refine zw_iload_n 1 f112_0 rfl rfl ?_
        refine zw_iload_n 2 f112_1 rfl rfl ?_
        refine zw_ic_lt 5 14 f112_2 (by decide +kernel) rfl (fun hc4 => ?_) (fun hc4 => ?_)
        · refine zw_iconst 0 15 f112_14 rfl (by decide +kernel) ?_
          refine zw_zreturn f112_15 r112 u112 (by decide +kernel) ⟨_, rfl, ?_⟩
          refine zw_if_eq_t 63 f100_18 (by decide +kernel) (by decide +kernel) ?_
          refine zw_aload_n 64 f100_63 rfl rfl ?_
          refine zw_iconst 1 65 f100_64 rfl (by decide +kernel) ?_
          refine zw_virtual_i 68 0 0 [.ref 0, .int 1] [(0, .ref 0), (1, .int 1)] f100_65 rfl n100_78 k100_78_11 rfl (hb_0 _ _ _ _) (by decide +kernel) (Nat.le_of_ble_eq_true rfl) rfl rfl (by decide +kernel) (by decide +kernel) rfl (Nat.le_of_ble_eq_true rfl) rfl ?_
          refine zw_aload_n 1 f105_0 rfl rfl ?_
          refine zw_iload_n 2 f105_1 rfl rfl ?_
          refine zw_put _ 5 f105_2 rfl g105_70_11 (hb_0 _ _ _ _) rfl (Nat.le_of_ble_eq_true rfl) (by decide +kernel) (hi_0_7 _ _ _ _ _) ?_
          refine zw_iconst (-1) 6 f105_5 rfl (by decide +kernel) ?_
          refine zw_ireturn f105_6 r105 u105 ⟨_, rfl, ?_⟩
          refine zw_ireturn f100_68 r100 u100 ?_
          refine ⟨_, _, _, _, rfl, (KQ.i rfl KQ.rf), hJ, -1, Or.inl ⟨?_, rfl⟩, rfl⟩
          exact fun q => q.2.1.1 hc4
        · refine zw_iload_n 6 f112_5 rfl rfl ?_
          refine zw_iload_n 7 f112_6 rfl rfl ?_
          refine zw_ic_gt 10 14 f112_7 (by decide +kernel) rfl (fun hc5 => ?_) (fun hc5 => ?_)
          · refine zw_iconst 0 15 f112_14 rfl (by decide +kernel) ?_
            refine zw_zreturn f112_15 r112 u112 (by decide +kernel) ⟨_, rfl, ?_⟩
            refine zw_if_eq_t 63 f100_18 (by decide +kernel) (by decide +kernel) ?_
            refine zw_aload_n 64 f100_63 rfl rfl ?_
            refine zw_iconst 1 65 f100_64 rfl (by decide +kernel) ?_
            refine zw_virtual_i 68 0 0 [.ref 0, .int 1] [(0, .ref 0), (1, .int 1)] f100_65 rfl n100_78 k100_78_11 rfl (hb_0 _ _ _ _) (by decide +kernel) (Nat.le_of_ble_eq_true rfl) rfl rfl (by decide +kernel) (by decide +kernel) rfl (Nat.le_of_ble_eq_true rfl) rfl ?_
            refine zw_aload_n 1 f105_0 rfl rfl ?_
            refine zw_iload_n 2 f105_1 rfl rfl ?_
            refine zw_put _ 5 f105_2 rfl g105_70_11 (hb_0 _ _ _ _) rfl (Nat.le_of_ble_eq_true rfl) (by decide +kernel) (hi_0_7 _ _ _ _ _) ?_
            refine zw_iconst (-1) 6 f105_5 rfl (by decide +kernel) ?_
            refine zw_ireturn f105_6 r105 u105 ⟨_, rfl, ?_⟩
            refine zw_ireturn f100_68 r100 u100 ?_
            refine ⟨_, _, _, _, rfl, (KQ.i rfl KQ.rf), hJ, -1, Or.inl ⟨?_, rfl⟩, rfl⟩
            exact fun q => q.2.1.2 hc5
          · refine zw_iconst 1 11 f112_10 rfl (by decide +kernel) ?_
            refine zw_goto 15 f112_11 (by decide +kernel) ?_
            refine zw_zreturn f112_15 r112 u112 (by decide +kernel) ⟨_, rfl, ?_⟩
            refine zw_if_eq_f 21 63 f100_18 (by decide +kernel) rfl (by decide +kernel) ?_
            refine zw_iload_n 22 f100_21 rfl rfl ?_
            refine zw_iconst 1 23 f100_22 rfl (by decide +kernel) ?_
            refine zw_bipush 20 25 f100_23 rfl (by decide +kernel) ?_
            refine zw_static_i 28 0 0 [.int hi, .int 1, .int 20] [] [(0, .int hi), (1, .int 1), (2, .int 20)] f100_25 rfl k100_74_99 rfl (by decide +kernel) (Nat.le_of_ble_eq_true rfl) (Nat.le_of_ble_eq_true rfl) rfl rfl (by decide +kernel) (by decide +kernel) rfl (Nat.le_of_ble_eq_true rfl) rfl ?_
            refine zw_iload_n 1 f112_0 rfl rfl ?_
            refine zw_iload_n 2 f112_1 rfl rfl ?_
            refine zw_ic_lt 5 14 f112_2 (by decide +kernel) rfl (fun hc6 => ?_) (fun hc6 => ?_)
            · refine zw_iconst 0 15 f112_14 rfl (by decide +kernel) ?_
              refine zw_zreturn f112_15 r112 u112 (by decide +kernel) ⟨_, rfl, ?_⟩
              refine zw_if_eq_t 63 f100_28 (by decide +kernel) (by decide +kernel) ?_
              refine zw_aload_n 64 f100_63 rfl rfl ?_
              refine zw_iconst 1 65 f100_64 rfl (by decide +kernel) ?_
              refine zw_virtual_i 68 0 0 [.ref 0, .int 1] [(0, .ref 0), (1, .int 1)] f100_65 rfl n100_78 k100_78_11 rfl (hb_0 _ _ _ _) (by decide +kernel) (Nat.le_of_ble_eq_true rfl) rfl rfl (by decide +kernel) (by decide +kernel) rfl (Nat.le_of_ble_eq_true rfl) rfl ?_
              refine zw_aload_n 1 f105_0 rfl rfl ?_
              refine zw_iload_n 2 f105_1 rfl rfl ?_
              refine zw_put _ 5 f105_2 rfl g105_70_11 (hb_0 _ _ _ _) rfl (Nat.le_of_ble_eq_true rfl) (by decide +kernel) (hi_0_7 _ _ _ _ _) ?_
              refine zw_iconst (-1) 6 f105_5 rfl (by decide +kernel) ?_
              refine zw_ireturn f105_6 r105 u105 ⟨_, rfl, ?_⟩
              refine zw_ireturn f100_68 r100 u100 ?_
              refine ⟨_, _, _, _, rfl, (KQ.i rfl KQ.rf), hJ, -1, Or.inl ⟨?_, rfl⟩, rfl⟩
              exact fun q => q.2.2.1.1 (lt1 q.2.1.1 hc6)
            · refine zw_iload_n 6 f112_5 rfl rfl ?_
              refine zw_iload_n 7 f112_6 rfl rfl ?_
              refine zw_ic_gt 10 14 f112_7 (by decide +kernel) rfl (fun hc7 => ?_) (fun hc7 => ?_)
              · refine zw_iconst 0 15 f112_14 rfl (by decide +kernel) ?_
                refine zw_zreturn f112_15 r112 u112 (by decide +kernel) ⟨_, rfl, ?_⟩
                refine zw_if_eq_t 63 f100_28 (by decide +kernel) (by decide +kernel) ?_
                refine zw_aload_n 64 f100_63 rfl rfl ?_
                refine zw_iconst 1 65 f100_64 rfl (by decide +kernel) ?_
                refine zw_virtual_i 68 0 0 [.ref 0, .int 1] [(0, .ref 0), (1, .int 1)] f100_65 rfl n100_78 k100_78_11 rfl (hb_0 _ _ _ _) (by decide +kernel) (Nat.le_of_ble_eq_true rfl) rfl rfl (by decide +kernel) (by decide +kernel) rfl (Nat.le_of_ble_eq_true rfl) rfl ?_
                refine zw_aload_n 1 f105_0 rfl rfl ?_
                refine zw_iload_n 2 f105_1 rfl rfl ?_
                refine zw_put _ 5 f105_2 rfl g105_70_11 (hb_0 _ _ _ _) rfl (Nat.le_of_ble_eq_true rfl) (by decide +kernel) (hi_0_7 _ _ _ _ _) ?_
                refine zw_iconst (-1) 6 f105_5 rfl (by decide +kernel) ?_
                refine zw_ireturn f105_6 r105 u105 ⟨_, rfl, ?_⟩
                refine zw_ireturn f100_68 r100 u100 ?_
                refine ⟨_, _, _, _, rfl, (KQ.i rfl KQ.rf), hJ, -1, Or.inl ⟨?_, rfl⟩, rfl⟩
                exact fun q => q.2.2.1.2 hc7
              · refine zw_iconst 1 11 f112_10 rfl (by decide +kernel) ?_
                refine zw_goto 15 f112_11 (by decide +kernel) ?_
                refine zw_zreturn f112_15 r112 u112 (by decide +kernel) ⟨_, rfl, ?_⟩
                refine zw_if_eq_f 31 63 f100_28 (by decide +kernel) rfl (by decide +kernel) ?_
                refine zw_aload_n 32 f100_31 rfl rfl ?_
                refine zw_getfield 35 f100_32 rfl g100_10_11 (hb_0 _ _ _ _) rfl ?_
                refine zw_iload 37 f100_35 rfl rfl ?_
                refine zw_virtual_i 40 0 0 [.ref 1, .int ve] [(0, .ref 1), (1, .int ve)] f100_37 rfl n100_100 k100_100_4 rfl (hb_1 _ _ _ _) (by decide +kernel) (Nat.le_of_ble_eq_true rfl) rfl rfl (by decide +kernel) (by decide +kernel) rfl (Nat.le_of_ble_eq_true rfl) rfl ?_
                refine zw_iload_n 1 f17_0 rfl rfl ?_
                refine zw_if_lt 4 22 f17_1 (by decide +kernel) rfl (fun hc8 => ?_) (fun hc8 => ?_)
                · refine zw_iconst 0 23 f17_22 rfl (by decide +kernel) ?_
                  refine zw_istore_n _ 24 f17_23 rfl (by decide +kernel) rfl ?_
                  refine zw_iload_n 25 f17_24 rfl zl1_eq ?_
                  refine zw_if_eq_t 52 f17_25 (by decide +kernel) (by decide +kernel) ?_
                  refine zw_iconst 0 53 f17_52 rfl (by decide +kernel) ?_
                  refine zw_zreturn f17_53 r17 u17 (by decide +kernel) ⟨_, rfl, ?_⟩
                  refine zw_if_eq_t 63 f100_40 (by decide +kernel) (by decide +kernel) ?_
                  refine zw_aload_n 64 f100_63 rfl rfl ?_
                  refine zw_iconst 1 65 f100_64 rfl (by decide +kernel) ?_
                  refine zw_virtual_i 68 0 0 [.ref 0, .int 1] [(0, .ref 0), (1, .int 1)] f100_65 rfl n100_78 k100_78_11 rfl (hb_0 _ _ _ _) (by decide +kernel) (Nat.le_of_ble_eq_true rfl) rfl rfl (by decide +kernel) (by decide +kernel) rfl (Nat.le_of_ble_eq_true rfl) rfl ?_
                  refine zw_aload_n 1 f105_0 rfl rfl ?_
                  refine zw_iload_n 2 f105_1 rfl rfl ?_
                  refine zw_put _ 5 f105_2 rfl g105_70_11 (hb_0 _ _ _ _) rfl (Nat.le_of_ble_eq_true rfl) (by decide +kernel) (hi_0_7 _ _ _ _ _) ?_
                  refine zw_iconst (-1) 6 f105_5 rfl (by decide +kernel) ?_
                  refine zw_ireturn f105_6 r105 u105 ⟨_, rfl, ?_⟩
                  refine zw_ireturn f100_68 r100 u100 ?_
                  refine ⟨_, _, _, _, rfl, (KQ.i rfl KQ.rf), hJ, -1, Or.inl ⟨?_, rfl⟩, rfl⟩
                  exact fun q => (qV.n0 (by omega) hc8) (qV.of (by have := hp.1; omega) q.2.2.2.1.1 q.2.2.2.1.2)
                · refine zw_iload_n 5 f17_4 rfl rfl ?_
                  refine zw_aload_n 6 f17_5 rfl rfl ?_
                  refine zw_getI (nI nv) 9 f17_6 rfl g17_39_4 (hb_1 _ _ _ _) rfl hR.1.1 ?_
                  refine zw_ic_ge 12 22 f17_9 (by decide +kernel) rfl (fun hc9 => ?_) (fun hc9 => ?_)
                  · refine zw_iconst 0 23 f17_22 rfl (by decide +kernel) ?_
                    refine zw_istore_n _ 24 f17_23 rfl (by decide +kernel) rfl ?_
                    refine zw_iload_n 25 f17_24 rfl zl1_eq ?_
                    refine zw_if_eq_t 52 f17_25 (by decide +kernel) (by decide +kernel) ?_
                    refine zw_iconst 0 53 f17_52 rfl (by decide +kernel) ?_
                    refine zw_zreturn f17_53 r17 u17 (by decide +kernel) ⟨_, rfl, ?_⟩
                    refine zw_if_eq_t 63 f100_40 (by decide +kernel) (by decide +kernel) ?_
                    refine zw_aload_n 64 f100_63 rfl rfl ?_
                    refine zw_iconst 1 65 f100_64 rfl (by decide +kernel) ?_
                    refine zw_virtual_i 68 0 0 [.ref 0, .int 1] [(0, .ref 0), (1, .int 1)] f100_65 rfl n100_78 k100_78_11 rfl (hb_0 _ _ _ _) (by decide +kernel) (Nat.le_of_ble_eq_true rfl) rfl rfl (by decide +kernel) (by decide +kernel) rfl (Nat.le_of_ble_eq_true rfl) rfl ?_
                    refine zw_aload_n 1 f105_0 rfl rfl ?_
                    refine zw_iload_n 2 f105_1 rfl rfl ?_
                    refine zw_put _ 5 f105_2 rfl g105_70_11 (hb_0 _ _ _ _) rfl (Nat.le_of_ble_eq_true rfl) (by decide +kernel) (hi_0_7 _ _ _ _ _) ?_
                    refine zw_iconst (-1) 6 f105_5 rfl (by decide +kernel) ?_
                    refine zw_ireturn f105_6 r105 u105 ⟨_, rfl, ?_⟩
                    refine zw_ireturn f100_68 r100 u100 ?_
                    refine ⟨_, _, _, _, rfl, (KQ.i rfl KQ.rf), hJ, -1, Or.inl ⟨?_, rfl⟩, rfl⟩
                    exact fun q => (qV.n2 (by omega) hc9) (qV.of (by have := hp.1; omega) q.2.2.2.1.1 q.2.2.2.1.2)
                  · refine zw_iload_n 13 f17_12 rfl rfl ?_
                    refine zw_bipush 8 15 f17_13 rfl (by decide +kernel) ?_
                    refine zw_ic_ge 18 22 f17_15 (by decide +kernel) rfl (fun hc10 => ?_) (fun hc10 => ?_)
                    · refine zw_iconst 0 23 f17_22 rfl (by decide +kernel) ?_
                      refine zw_istore_n _ 24 f17_23 rfl (by decide +kernel) rfl ?_
                      refine zw_iload_n 25 f17_24 rfl zl1_eq ?_
                      refine zw_if_eq_t 52 f17_25 (by decide +kernel) (by decide +kernel) ?_
                      refine zw_iconst 0 53 f17_52 rfl (by decide +kernel) ?_
                      refine zw_zreturn f17_53 r17 u17 (by decide +kernel) ⟨_, rfl, ?_⟩
                      refine zw_if_eq_t 63 f100_40 (by decide +kernel) (by decide +kernel) ?_
                      refine zw_aload_n 64 f100_63 rfl rfl ?_
                      refine zw_iconst 1 65 f100_64 rfl (by decide +kernel) ?_
                      refine zw_virtual_i 68 0 0 [.ref 0, .int 1] [(0, .ref 0), (1, .int 1)] f100_65 rfl n100_78 k100_78_11 rfl (hb_0 _ _ _ _) (by decide +kernel) (Nat.le_of_ble_eq_true rfl) rfl rfl (by decide +kernel) (by decide +kernel) rfl (Nat.le_of_ble_eq_true rfl) rfl ?_
                      refine zw_aload_n 1 f105_0 rfl rfl ?_
                      refine zw_iload_n 2 f105_1 rfl rfl ?_
                      refine zw_put _ 5 f105_2 rfl g105_70_11 (hb_0 _ _ _ _) rfl (Nat.le_of_ble_eq_true rfl) (by decide +kernel) (hi_0_7 _ _ _ _ _) ?_
                      refine zw_iconst (-1) 6 f105_5 rfl (by decide +kernel) ?_
                      refine zw_ireturn f105_6 r105 u105 ⟨_, rfl, ?_⟩
                      refine zw_ireturn f100_68 r100 u100 ?_
                      refine ⟨_, _, _, _, rfl, (KQ.i rfl KQ.rf), hJ, -1, Or.inl ⟨?_, rfl⟩, rfl⟩
                      exact fun q => (qV.n3 (m := 8) (N := 8) (by omega) (by omega) (by decide) hc10) (qV.of (by have := hp.1; omega) q.2.2.2.1.1 q.2.2.2.1.2)
                    · refine zw_iconst 1 19 f17_18 rfl (by decide +kernel) ?_
                      refine zw_goto 23 f17_19 (by decide +kernel) ?_
                      refine zw_istore_n _ 24 f17_23 rfl (by decide +kernel) rfl ?_
                      refine zw_iload_n 25 f17_24 rfl zl1_eq ?_
                      refine zw_if_eq_f 28 52 f17_25 (by decide +kernel) rfl (by decide +kernel) ?_
                      refine zw_aload_n 29 f17_28 rfl (zl1_ne rfl rfl rfl) ?_
                      refine zw_getfield 32 f17_29 rfl g17_9_4 (hb_1 _ _ _ _) rfl ?_
                      refine zw_iload_n 33 f17_32 rfl (zl1_ne rfl rfl rfl) ?_
                      refine zw_iaload ve.toNatClampNeg (P 53 ve.toNatClampNeg) 34 f17_33 rfl (hb_2 _ _ _ _) rfl hc8 (zix (by decide) hc8 hc10) (congrFun ((hR.2.1 53 (by omega) (by omega))) ve.toNatClampNeg) ?_
                      refine zw_iconst 3 35 f17_34 rfl (by decide +kernel) ?_
                      refine zw_ic_eq 38 48 f17_35 (by decide +kernel) rfl (fun hc11 => ?_) (fun hc11 => ?_)
                      · refine zw_iconst 1 49 f17_48 rfl (by decide +kernel) ?_
                        refine zw_goto 53 f17_49 (by decide +kernel) ?_
                        refine zw_zreturn f17_53 r17 u17 (by decide +kernel) ⟨_, rfl, ?_⟩
                        refine zw_if_eq_f 43 63 f100_40 (by decide +kernel) rfl (by decide +kernel) ?_
                        refine zw_iload 45 f100_43 rfl rfl ?_
                        refine zw_sipush 10000 48 f100_45 rfl (by decide +kernel) ?_
                        refine zw_ic_gt 51 63 f100_48 (by decide +kernel) rfl (fun hc12 => ?_) (fun hc12 => ?_)
                        · refine zw_aload_n 64 f100_63 rfl rfl ?_
                          refine zw_iconst 1 65 f100_64 rfl (by decide +kernel) ?_
                          refine zw_virtual_i 68 0 0 [.ref 0, .int 1] [(0, .ref 0), (1, .int 1)] f100_65 rfl n100_78 k100_78_11 rfl (hb_0 _ _ _ _) (by decide +kernel) (Nat.le_of_ble_eq_true rfl) rfl rfl (by decide +kernel) (by decide +kernel) rfl (Nat.le_of_ble_eq_true rfl) rfl ?_
                          refine zw_aload_n 1 f105_0 rfl rfl ?_
                          refine zw_iload_n 2 f105_1 rfl rfl ?_
                          refine zw_put _ 5 f105_2 rfl g105_70_11 (hb_0 _ _ _ _) rfl (Nat.le_of_ble_eq_true rfl) (by decide +kernel) (hi_0_7 _ _ _ _ _) ?_
                          refine zw_iconst (-1) 6 f105_5 rfl (by decide +kernel) ?_
                          refine zw_ireturn f105_6 r105 u105 ⟨_, rfl, ?_⟩
                          refine zw_ireturn f100_68 r100 u100 ?_
                          refine ⟨_, _, _, _, rfl, (KQ.i rfl KQ.rf), hJ, -1, Or.inl ⟨?_, rfl⟩, rfl⟩
                          exact fun q => q.2.2.2.2.2.1 hc12
                        · refine zw_aload_n 52 f100_51 rfl rfl ?_
                          refine zw_getfield 55 f100_52 rfl g100_21_11 (hb_0 _ _ _ _) rfl ?_
                          refine zw_iload 57 f100_55 rfl rfl ?_
                          refine zw_virtual_i 60 0 0 [.ref 11, .int wh] [(0, .ref 11), (1, .int wh)] f100_57 rfl n100_279 k100_279_10 rfl (hb_11 _ _ _ _) (by decide +kernel) (Nat.le_of_ble_eq_true rfl) rfl rfl (by decide +kernel) (by decide +kernel) rfl (Nat.le_of_ble_eq_true rfl) rfl ?_
                          refine zw_iload_n 1 f64_0 rfl rfl ?_
                          refine zw_i2l (Int32.toInt64 wh) 2 f64_1 rfl rfl ?_
                          refine zw_aload_n 3 f64_2 rfl rfl ?_
                          refine zw_getfield 6 f64_3 rfl g64_12_10 (hb_11 _ _ _ _) rfl ?_
                          refine zw_getG W.1 9 f64_6 rfl g64_109_9 (hb_12 _ _ _ _) rfl hR.2.2.1.1 ?_
                          refine zw_lmul ((Int32.toInt64 wh) * W.1) 10 f64_9 rfl rfl ?_
                          refine zw_aload_n 11 f64_10 rfl rfl ?_
                          refine zw_getfield 14 f64_11 rfl g64_12_10 (hb_11 _ _ _ _) rfl ?_
                          refine zw_getG W.2.1 17 f64_14 rfl g64_151_9 (hb_12 _ _ _ _) rfl hR.2.2.1.2.1 ?_
                          refine zw_lcmp (lg_cmp ((Int32.toInt64 wh) * W.1) W.2.1) 18 f64_17 rfl rfl ?_
                          refine zw_if_le 21 25 f64_18 (by decide +kernel) rfl (fun hc13 => ?_) (fun hc13 => ?_)
                          · refine zw_iconst 0 26 f64_25 rfl (by decide +kernel) ?_
                            refine zw_zreturn f64_26 r64 u64 (by decide +kernel) ⟨_, rfl, ?_⟩
                            refine zw_if_ne_f 63 69 f100_60 (by decide +kernel) rfl (by decide +kernel) ?_
                            refine zw_aload_n 64 f100_63 rfl rfl ?_
                            refine zw_iconst 1 65 f100_64 rfl (by decide +kernel) ?_
                            refine zw_virtual_i 68 0 0 [.ref 0, .int 1] [(0, .ref 0), (1, .int 1)] f100_65 rfl n100_78 k100_78_11 rfl (hb_0 _ _ _ _) (by decide +kernel) (Nat.le_of_ble_eq_true rfl) rfl rfl (by decide +kernel) (by decide +kernel) rfl (Nat.le_of_ble_eq_true rfl) rfl ?_
                            refine zw_aload_n 1 f105_0 rfl rfl ?_
                            refine zw_iload_n 2 f105_1 rfl rfl ?_
                            refine zw_put _ 5 f105_2 rfl g105_70_11 (hb_0 _ _ _ _) rfl (Nat.le_of_ble_eq_true rfl) (by decide +kernel) (hi_0_7 _ _ _ _ _) ?_
                            refine zw_iconst (-1) 6 f105_5 rfl (by decide +kernel) ?_
                            refine zw_ireturn f105_6 r105 u105 ⟨_, rfl, ?_⟩
                            refine zw_ireturn f100_68 r100 u100 ?_
                            refine ⟨_, _, _, _, rfl, (KQ.i rfl KQ.rf), hJ, -1, Or.inl ⟨?_, rfl⟩, rfl⟩
                            exact fun q => (Int64.not_lt.mpr ((lg_cmp_le _ _).mp hc13)) q.2.2.2.2.2.2
                          · refine zw_iconst 1 22 f64_21 rfl (by decide +kernel) ?_
                            refine zw_goto 26 f64_22 (by decide +kernel) ?_
                            refine zw_zreturn f64_26 r64 u64 (by decide +kernel) ⟨_, rfl, ?_⟩
                            refine zw_if_ne_t 69 f100_60 (by decide +kernel) (by decide +kernel) ?_
                            refine zw_iload_n 70 f100_69 rfl rfl ?_
                            refine zw_istore _ 72 f100_70 rfl (by decide +kernel) rfl ?_
                            obtain ⟨el, l1, l2⟩ := rngv hc4 hc5
                            obtain ⟨eh, m1, m2⟩ := rngv hc6 hc7
                            have qp := (qV.ofc (by omega) hc1 hc2)
                            have qv := (qV.ofc (by omega) hc8 hc9)
                            have cu := wTu_u hW.1 hc12 (Int64.not_le.mp (fun q => hc13 ((lg_cmp_le _ _).mpr q)))
                            refine zWp.mono (lcx_tune ro nv np P W K p lo hi ve wh I G A B hR hp hq hW hK0 hK hJ qp qv cu.1 cu.2 hi.toNatClampNeg m2 21 lo.toNatClampNeg _ _ _ _ _ KQ.rf hR hJ ⟨l1, by omega⟩ (by omega) (zl1_ne rfl rfl rfl) (zl1_ne rfl rfl rfl) (by rw [← eh]; exact (zl1_ne rfl rfl rfl)) (zl1_ne rfl rfl rfl) (zl1_ne rfl rfl rfl) (by rw [← el]; exact zl1_eq)) ?_
                            rintro r h1 ⟨I2, G2, A2, B2, rfl, K2, j2, o, ho, rfl⟩
                            refine ⟨_, _, _, _, rfl, K2, j2, _, ?_, rfl⟩
                            by_cases lh : hi < lo
                            · refine Or.inl ⟨fun q => q.2.2.1.1 lh, ?_⟩
                              have lh2 : hi.toNatClampNeg < lo.toNatClampNeg := by rw [el, eh, i32_lt, nI_toInt (by omega), nI_toInt (by omega)] at lh; omega
                              rw [show hi.toNatClampNeg + 1 - lo.toNatClampNeg = 0 by omega] at ho
                              rw [show o = none from ho]; rfl
                            · exact Or.inr ⟨⟨⟨hc1, (n1_of hp.2.1 qp)⟩, ⟨hc4, hc5⟩, ⟨lh, hc7⟩, ⟨hc8, (n1_of (Nat.le_trans hp.1 (by omega)) qv)⟩, (Or.inl hc11), hc12, (Int64.not_le.mp (fun q => hc13 ((lg_cmp_le _ _).mpr q)))⟩, o, ho, rfl⟩
                      · refine zw_aload_n 39 f17_38 rfl (zl1_ne rfl rfl rfl) ?_
                        refine zw_getfield 42 f17_39 rfl g17_9_4 (hb_1 _ _ _ _) rfl ?_
                        refine zw_iload_n 43 f17_42 rfl (zl1_ne rfl rfl rfl) ?_
                        refine zw_iaload ve.toNatClampNeg (P 53 ve.toNatClampNeg) 44 f17_43 rfl (hb_2 _ _ _ _) rfl hc8 (zix (by decide) hc8 hc10) (congrFun ((hR.2.1 53 (by omega) (by omega))) ve.toNatClampNeg) ?_
                        refine zw_iconst 4 45 f17_44 rfl (by decide +kernel) ?_
                        refine zw_ic_ne 48 52 f17_45 (by decide +kernel) rfl (fun hc14 => ?_) (fun hc14 => ?_)
                        · refine zw_iconst 0 53 f17_52 rfl (by decide +kernel) ?_
                          refine zw_zreturn f17_53 r17 u17 (by decide +kernel) ⟨_, rfl, ?_⟩
                          refine zw_if_eq_t 63 f100_40 (by decide +kernel) (by decide +kernel) ?_
                          refine zw_aload_n 64 f100_63 rfl rfl ?_
                          refine zw_iconst 1 65 f100_64 rfl (by decide +kernel) ?_
                          refine zw_virtual_i 68 0 0 [.ref 0, .int 1] [(0, .ref 0), (1, .int 1)] f100_65 rfl n100_78 k100_78_11 rfl (hb_0 _ _ _ _) (by decide +kernel) (Nat.le_of_ble_eq_true rfl) rfl rfl (by decide +kernel) (by decide +kernel) rfl (Nat.le_of_ble_eq_true rfl) rfl ?_
                          refine zw_aload_n 1 f105_0 rfl rfl ?_
                          refine zw_iload_n 2 f105_1 rfl rfl ?_
                          refine zw_put _ 5 f105_2 rfl g105_70_11 (hb_0 _ _ _ _) rfl (Nat.le_of_ble_eq_true rfl) (by decide +kernel) (hi_0_7 _ _ _ _ _) ?_
                          refine zw_iconst (-1) 6 f105_5 rfl (by decide +kernel) ?_
                          refine zw_ireturn f105_6 r105 u105 ⟨_, rfl, ?_⟩
                          refine zw_ireturn f100_68 r100 u100 ?_
                          refine ⟨_, _, _, _, rfl, (KQ.i rfl KQ.rf), hJ, -1, Or.inl ⟨?_, rfl⟩, rfl⟩
                          exact fun q => q.2.2.2.2.1.elim hc11 hc14
                        · refine zw_iconst 1 49 f17_48 rfl (by decide +kernel) ?_
                          refine zw_goto 53 f17_49 (by decide +kernel) ?_
                          refine zw_zreturn f17_53 r17 u17 (by decide +kernel) ⟨_, rfl, ?_⟩
                          refine zw_if_eq_f 43 63 f100_40 (by decide +kernel) rfl (by decide +kernel) ?_
                          refine zw_iload 45 f100_43 rfl rfl ?_
                          refine zw_sipush 10000 48 f100_45 rfl (by decide +kernel) ?_
                          refine zw_ic_gt 51 63 f100_48 (by decide +kernel) rfl (fun hc15 => ?_) (fun hc15 => ?_)
                          · refine zw_aload_n 64 f100_63 rfl rfl ?_
                            refine zw_iconst 1 65 f100_64 rfl (by decide +kernel) ?_
                            refine zw_virtual_i 68 0 0 [.ref 0, .int 1] [(0, .ref 0), (1, .int 1)] f100_65 rfl n100_78 k100_78_11 rfl (hb_0 _ _ _ _) (by decide +kernel) (Nat.le_of_ble_eq_true rfl) rfl rfl (by decide +kernel) (by decide +kernel) rfl (Nat.le_of_ble_eq_true rfl) rfl ?_
                            refine zw_aload_n 1 f105_0 rfl rfl ?_
                            refine zw_iload_n 2 f105_1 rfl rfl ?_
                            refine zw_put _ 5 f105_2 rfl g105_70_11 (hb_0 _ _ _ _) rfl (Nat.le_of_ble_eq_true rfl) (by decide +kernel) (hi_0_7 _ _ _ _ _) ?_
                            refine zw_iconst (-1) 6 f105_5 rfl (by decide +kernel) ?_
                            refine zw_ireturn f105_6 r105 u105 ⟨_, rfl, ?_⟩
                            refine zw_ireturn f100_68 r100 u100 ?_
                            refine ⟨_, _, _, _, rfl, (KQ.i rfl KQ.rf), hJ, -1, Or.inl ⟨?_, rfl⟩, rfl⟩
                            exact fun q => q.2.2.2.2.2.1 hc15
                          · refine zw_aload_n 52 f100_51 rfl rfl ?_
                            refine zw_getfield 55 f100_52 rfl g100_21_11 (hb_0 _ _ _ _) rfl ?_
                            refine zw_iload 57 f100_55 rfl rfl ?_
                            refine zw_virtual_i 60 0 0 [.ref 11, .int wh] [(0, .ref 11), (1, .int wh)] f100_57 rfl n100_279 k100_279_10 rfl (hb_11 _ _ _ _) (by decide +kernel) (Nat.le_of_ble_eq_true rfl) rfl rfl (by decide +kernel) (by decide +kernel) rfl (Nat.le_of_ble_eq_true rfl) rfl ?_
                            refine zw_iload_n 1 f64_0 rfl rfl ?_
                            refine zw_i2l (Int32.toInt64 wh) 2 f64_1 rfl rfl ?_
                            refine zw_aload_n 3 f64_2 rfl rfl ?_
                            refine zw_getfield 6 f64_3 rfl g64_12_10 (hb_11 _ _ _ _) rfl ?_
                            refine zw_getG W.1 9 f64_6 rfl g64_109_9 (hb_12 _ _ _ _) rfl hR.2.2.1.1 ?_
                            refine zw_lmul ((Int32.toInt64 wh) * W.1) 10 f64_9 rfl rfl ?_
                            refine zw_aload_n 11 f64_10 rfl rfl ?_
                            refine zw_getfield 14 f64_11 rfl g64_12_10 (hb_11 _ _ _ _) rfl ?_
                            refine zw_getG W.2.1 17 f64_14 rfl g64_151_9 (hb_12 _ _ _ _) rfl hR.2.2.1.2.1 ?_
                            refine zw_lcmp (lg_cmp ((Int32.toInt64 wh) * W.1) W.2.1) 18 f64_17 rfl rfl ?_
                            refine zw_if_le 21 25 f64_18 (by decide +kernel) rfl (fun hc16 => ?_) (fun hc16 => ?_)
                            · refine zw_iconst 0 26 f64_25 rfl (by decide +kernel) ?_
                              refine zw_zreturn f64_26 r64 u64 (by decide +kernel) ⟨_, rfl, ?_⟩
                              refine zw_if_ne_f 63 69 f100_60 (by decide +kernel) rfl (by decide +kernel) ?_
                              refine zw_aload_n 64 f100_63 rfl rfl ?_
                              refine zw_iconst 1 65 f100_64 rfl (by decide +kernel) ?_
                              refine zw_virtual_i 68 0 0 [.ref 0, .int 1] [(0, .ref 0), (1, .int 1)] f100_65 rfl n100_78 k100_78_11 rfl (hb_0 _ _ _ _) (by decide +kernel) (Nat.le_of_ble_eq_true rfl) rfl rfl (by decide +kernel) (by decide +kernel) rfl (Nat.le_of_ble_eq_true rfl) rfl ?_
                              refine zw_aload_n 1 f105_0 rfl rfl ?_
                              refine zw_iload_n 2 f105_1 rfl rfl ?_
                              refine zw_put _ 5 f105_2 rfl g105_70_11 (hb_0 _ _ _ _) rfl (Nat.le_of_ble_eq_true rfl) (by decide +kernel) (hi_0_7 _ _ _ _ _) ?_
                              refine zw_iconst (-1) 6 f105_5 rfl (by decide +kernel) ?_
                              refine zw_ireturn f105_6 r105 u105 ⟨_, rfl, ?_⟩
                              refine zw_ireturn f100_68 r100 u100 ?_
                              refine ⟨_, _, _, _, rfl, (KQ.i rfl KQ.rf), hJ, -1, Or.inl ⟨?_, rfl⟩, rfl⟩
                              exact fun q => (Int64.not_lt.mpr ((lg_cmp_le _ _).mp hc16)) q.2.2.2.2.2.2
                            · refine zw_iconst 1 22 f64_21 rfl (by decide +kernel) ?_
                              refine zw_goto 26 f64_22 (by decide +kernel) ?_
                              refine zw_zreturn f64_26 r64 u64 (by decide +kernel) ⟨_, rfl, ?_⟩
                              refine zw_if_ne_t 69 f100_60 (by decide +kernel) (by decide +kernel) ?_
                              refine zw_iload_n 70 f100_69 rfl rfl ?_
                              refine zw_istore _ 72 f100_70 rfl (by decide +kernel) rfl ?_
                              obtain ⟨el, l1, l2⟩ := rngv hc4 hc5
                              obtain ⟨eh, m1, m2⟩ := rngv hc6 hc7
                              have qp := (qV.ofc (by omega) hc1 hc2)
                              have qv := (qV.ofc (by omega) hc8 hc9)
                              have cu := wTu_u hW.1 hc15 (Int64.not_le.mp (fun q => hc16 ((lg_cmp_le _ _).mpr q)))
                              refine zWp.mono (lcx_tune ro nv np P W K p lo hi ve wh I G A B hR hp hq hW hK0 hK hJ qp qv cu.1 cu.2 hi.toNatClampNeg m2 21 lo.toNatClampNeg _ _ _ _ _ KQ.rf hR hJ ⟨l1, by omega⟩ (by omega) (zl1_ne rfl rfl rfl) (zl1_ne rfl rfl rfl) (by rw [← eh]; exact (zl1_ne rfl rfl rfl)) (zl1_ne rfl rfl rfl) (zl1_ne rfl rfl rfl) (by rw [← el]; exact zl1_eq)) ?_
                              rintro r h1 ⟨I2, G2, A2, B2, rfl, K2, j2, o, ho, rfl⟩
                              refine ⟨_, _, _, _, rfl, K2, j2, _, ?_, rfl⟩
                              by_cases lh : hi < lo
                              · refine Or.inl ⟨fun q => q.2.2.1.1 lh, ?_⟩
                                have lh2 : hi.toNatClampNeg < lo.toNatClampNeg := by rw [el, eh, i32_lt, nI_toInt (by omega), nI_toInt (by omega)] at lh; omega
                                rw [show hi.toNatClampNeg + 1 - lo.toNatClampNeg = 0 by omega] at ho
                                rw [show o = none from ho]; rfl
                              · exact Or.inr ⟨⟨⟨hc1, (n1_of hp.2.1 qp)⟩, ⟨hc4, hc5⟩, ⟨lh, hc7⟩, ⟨hc8, (n1_of (Nat.le_trans hp.1 (by omega)) qv)⟩, (Or.inr (Decidable.of_not_not hc14)), hc15, (Int64.not_le.mp (fun q => hc16 ((lg_cmp_le _ _).mpr q)))⟩, o, ho, rfl⟩
set_option maxRecDepth 100000 in
set_option maxHeartbeats 0 in
theorem er_X5_keep_38 (ro : UInt32 → Nat × (Nat → Int32)) (nv np cm : Nat) (I : Nat → Nat → Int32) (G : Nat → Nat → Int64) (A : Nat → Nat → Int32) (B : Nat → Nat → Int64) (hI : CV nv np cm I) (hcm : cm < 1000000000) (a : Nat) (ha : a < 151) : zWp ro 27 0 [(0, .ref 38), (1, .int (nI a)), (2, .ref 23)] [] (hS I G A B) 0 0 (zWv pRr nv np (cm + 0) I G A B zRt0) := by
  have hnv := hI.1.1.2
  have hnp := hI.1.2.1.2
  refine zw_iload_n 1 f27_0 rfl rfl ?_
  refine zw_if_lt 4 11 f27_1 (by decide +kernel) rfl (fun hc1 => ?_) (fun hc1 => ?_)
  · have hn_hc1 : a < 0 := zn_lt (by omega) (by omega) (Int32.not_le.mpr hc1)
    refine zw_vreturn f27_11 r27 u27 ?_
    exact ⟨_, _, _, _, rfl, KP.rf, CV.mono hI (by omega), rfl⟩
  · have hn_hc1 : 0 ≤ a := zn_ge (by omega) (by omega) (Int32.not_lt.mp hc1)
    refine zw_iload_n 5 f27_4 rfl rfl ?_
    refine zw_sipush 151 8 f27_5 rfl (by decide +kernel) ?_
    refine zw_ic_lt 11 12 f27_8 (by decide +kernel) rfl (fun hc2 => ?_) (fun hc2 => ?_)
    · have hn_hc2 : a < 151 := zn_lt (by omega) (by omega) (Int32.not_le.mpr hc2)
      refine zw_aload_n 13 f27_12 rfl rfl ?_
      refine zw_getfield 16 f27_13 rfl g27_11_5 (hb_38 _ _ _ _) rfl ?_
      refine zw_iload_n 17 f27_16 rfl rfl ?_
      refine zw_aload_n 18 f27_17 rfl rfl ?_
      refine zx_getG 21 f27_18 rfl g27_75_9 (hb_23 _ _ _ _) rfl (fun w3 hw3 => ?_)
      refine zw_lst a _ 22 f27_21 rfl (hb_39 _ _ _ _) (nI_clamp (by omega)) (nI_pos (by omega)) (by omega) (ha_39 _ _ _ _ _) ?_
      refine zw_aload_n 23 f27_22 rfl rfl ?_
      refine zw_getfield 26 f27_23 rfl g27_15_5 (hb_38 _ _ _ _) rfl ?_
      refine zw_iload_n 27 f27_26 rfl rfl ?_
      refine zw_aload_n 28 f27_27 rfl rfl ?_
      refine zx_getG 31 f27_28 rfl g27_80_9 (hb_23 _ _ _ _) rfl (fun w4 hw4 => ?_)
      refine zw_lst a _ 32 f27_31 rfl (hb_40 _ _ _ _) (nI_clamp (by omega)) (nI_pos (by omega)) (by omega) (ha_40 _ _ _ _ _) ?_
      refine zw_aload_n 33 f27_32 rfl rfl ?_
      refine zw_getfield 36 f27_33 rfl g27_18_5 (hb_38 _ _ _ _) rfl ?_
      refine zw_iload_n 37 f27_36 rfl rfl ?_
      refine zw_aload_n 38 f27_37 rfl rfl ?_
      refine zx_getI 41 f27_38 rfl g27_83_9 (hb_23 _ _ _ _) rfl (fun w5 hw5 => ?_)
      refine zw_ast a _ 42 f27_41 rfl (hb_41 _ _ _ _) (nI_clamp (by omega)) (nI_pos (by omega)) (by omega) (ha_41 _ _ _ _ _) ?_
      refine zw_aload_n 43 f27_42 rfl rfl ?_
      refine zw_getfield 46 f27_43 rfl g27_22_5 (hb_38 _ _ _ _) rfl ?_
      refine zw_iload_n 47 f27_46 rfl rfl ?_
      refine zw_aload_n 48 f27_47 rfl rfl ?_
      refine zx_getI 51 f27_48 rfl g27_86_9 (hb_23 _ _ _ _) rfl (fun w6 hw6 => ?_)
      refine zw_ast a _ 52 f27_51 rfl (hb_42 _ _ _ _) (nI_clamp (by omega)) (nI_pos (by omega)) (by omega) (ha_42 _ _ _ _ _) ?_
      refine zw_aload_n 53 f27_52 rfl rfl ?_
      refine zw_getfield 56 f27_53 rfl g27_89_9 (hb_23 _ _ _ _) rfl ?_
      refine zw_iconst 0 57 f27_56 rfl (by decide +kernel) ?_
      refine zw_aload_n 58 f27_57 rfl rfl ?_
      refine zw_getfield 61 f27_58 rfl g27_25_5 (hb_38 _ _ _ _) rfl ?_
      refine zw_iload_n 62 f27_61 rfl rfl ?_
      refine zw_bipush 8 64 f27_62 rfl (by decide +kernel) ?_
      refine zw_imul (nI (a * 8)) 65 f27_64 rfl (pk_mul _ _) ?_
      refine zw_bipush 8 67 f27_65 rfl (by decide +kernel) ?_
      refine zw_cpl _ 70 8 ((a * 8)) 0 f27_67 rfl k27_90_99 (hb_24 _ _ _ _) (hb_43 _ _ _ _) (by decide +kernel) (nI_clamp (by omega)) (by decide +kernel) (by decide +kernel) (nI_pos (by omega)) (by decide +kernel) (by decide +kernel) (by omega) (Nat.le_of_ble_eq_true rfl) (ha_43 _ _ _ _ _) ?_
      refine zw_vreturn f27_70 r27 u27 ?_
      exact ⟨_, _, _, _, rfl, (KP.b rfl (KP.a rfl (KP.a rfl (KP.b rfl (KP.b rfl KP.rf))))), CV.mono hI (by omega), rfl⟩
    · have hn_hc2 : 151 ≤ a := zn_ge (by omega) (by omega) (Int32.not_lt.mp hc2)
      refine zw_vreturn f27_11 r27 u27 ?_
      exact ⟨_, _, _, _, rfl, KP.rf, CV.mono hI (by omega), rfl⟩
set_option maxRecDepth 100000 in
set_option maxHeartbeats 0 in
theorem er_X5_tell_38 (ro : UInt32 → Nat × (Nat → Int32)) (nv np cm : Nat) (I : Nat → Nat → Int32) (G : Nat → Nat → Int64) (A : Nat → Nat → Int32) (B : Nat → Nat → Int64) (hI : CV nv np cm I) (hcm : cm < 1000000000) (a : Nat) (ha : a < 151) : zWp ro 30 0 [(0, .ref 38), (1, .int (nI a)), (2, .ref 23)] [] (hS I G A B) 0 0 (zWv pRr nv np (cm + 0) I G A B zRt0) := by
  have hnv := hI.1.1.2
  have hnp := hI.1.2.1.2
  refine zw_aload_n 1 f30_0 rfl rfl ?_
  refine zw_aload_n 2 f30_1 rfl rfl ?_
  refine zw_getfield 5 f30_2 rfl g30_15_5 (hb_38 _ _ _ _) rfl ?_
  refine zw_iload_n 6 f30_5 rfl rfl ?_
  refine zx_laload a 7 f30_6 rfl (hb_40 _ _ _ _) (nI_clamp (by omega)) (nI_pos (by omega)) (by omega) (fun w1 hw1 => ?_)
  refine zw_put _ 10 f30_7 rfl g30_55_5 (hb_38 _ _ _ _) rfl (Nat.le_of_ble_eq_true rfl) (by decide +kernel) (hg_38_5 _ _ _ _ _) ?_
  refine zw_aload_n 11 f30_10 rfl rfl ?_
  refine zw_aload_n 12 f30_11 rfl rfl ?_
  refine zw_getfield 15 f30_12 rfl g30_11_5 (hb_38 _ _ _ _) rfl ?_
  refine zw_iload_n 16 f30_15 rfl rfl ?_
  refine zx_laload a 17 f30_16 rfl (hb_39 _ _ _ _) (nI_clamp (by omega)) (nI_pos (by omega)) (by omega) (fun w2 hw2 => ?_)
  refine zw_put _ 20 f30_17 rfl g30_59_5 (hb_38 _ _ _ _) rfl (Nat.le_of_ble_eq_true rfl) (by decide +kernel) (hg_38_6 _ _ _ _ _) ?_
  refine zw_aload_n 21 f30_20 rfl rfl ?_
  refine zw_aload_n 22 f30_21 rfl rfl ?_
  refine zx_getG 25 f30_22 rfl g30_80_9 (hb_23 _ _ _ _) rfl (fun w3 hw3 => ?_)
  refine zw_aload_n 26 f30_25 rfl rfl ?_
  refine zw_getG w2 29 f30_26 rfl g30_59_5 (hb_38 _ _ _ _) rfl rfl ?_
  refine zx_lmul 30 f30_29 rfl (fun w4 hw4 => ?_)
  refine zw_aload_n 31 f30_30 rfl rfl ?_
  refine zw_getG w1 34 f30_31 rfl g30_55_5 (hb_38 _ _ _ _) rfl rfl ?_
  refine zw_aload_n 35 f30_34 rfl rfl ?_
  refine zx_getG 38 f30_35 rfl g30_75_9 (hb_23 _ _ _ _) rfl (fun w5 hw5 => ?_)
  refine zx_lmul 39 f30_38 rfl (fun w6 hw6 => ?_)
  refine zx_lsub 40 f30_39 rfl (fun w7 hw7 => ?_)
  refine zw_put _ 43 f30_40 rfl g30_69_5 (hb_38 _ _ _ _) rfl (Nat.le_of_ble_eq_true rfl) (by decide +kernel) (hg_38_7 _ _ _ _ _) ?_
  refine zw_aload_n 44 f30_43 rfl rfl ?_
  refine zw_aload_n 45 f30_44 rfl rfl ?_
  refine zw_getG w5 48 f30_45 rfl g30_75_9 (hb_23 _ _ _ _) rfl hw5 ?_
  refine zw_aload_n 49 f30_48 rfl rfl ?_
  refine zw_getG w2 52 f30_49 rfl g30_59_5 (hb_38 _ _ _ _) rfl rfl ?_
  refine zx_lmul 53 f30_52 rfl (fun w8 hw8 => ?_)
  refine zw_put _ 56 f30_53 rfl g30_72_5 (hb_38 _ _ _ _) rfl (Nat.le_of_ble_eq_true rfl) (by decide +kernel) (hg_38_8 _ _ _ _ _) ?_
  refine zw_vreturn f30_56 r30 u30 ?_
  exact ⟨_, _, _, _, rfl, (KP.g rfl (KP.g rfl (KP.g rfl (KP.g rfl KP.rf)))), CV.mono hI (by omega), rfl⟩
theorem CV.q {nv np cm : Nat} {pf : Nat → Nat → Bool} {pa : Nat → Bool} {I I1 : Nat → Nat → Int32} {G G1 : Nat → Nat → Int64} {A A1 : Nat → Nat → Int32} {B B1 : Nat → Nat → Int64} (K : KQ pf pa I G A B I1 G1 A1 B1) (h1 : pf 1 0 = false) (h2 : pf 1 1 = false) (h3 : pf 11 12 = false) (h4 : pf 33 0 = false) (h5 : pf 44 4 = false) (h : CV nv np cm I) {a : Nat} (ha : a ≤ 8) (e : I1 22 12 = nI a) : CV nv np cm I1 := by
  obtain ⟨⟨⟨a1, a2⟩, ⟨b1, b2⟩, ⟨c, c1, c2⟩, -⟩, ⟨d, d1, d2⟩, ⟨f, f1, f2⟩⟩ := h
  exact ⟨⟨⟨(K.1 1 0 h1).trans a1, a2⟩, ⟨(K.1 1 1 h2).trans b1, b2⟩, ⟨c, c1, (K.1 11 12 h3).trans c2⟩, ⟨a, ha, e⟩⟩, ⟨d, d1, (K.1 33 0 h4).trans d2⟩, ⟨f, f1, (K.1 44 4 h5).trans f2⟩⟩
theorem pass_far {nv np : Nat} {T T2 K : Int} {P : Nat → Nat → Int32} {W : qW} {na nb : Int64} (hp : MPa nv np P) (hW : wOk nv T K P W) (hT : T ≤ 40000) (hK0 : 0 ≤ K) (hK : K ≤ 200000000) (hN : wNx nv np P W = (0, na, nb)) (hT2 : T + 200 ≤ T2) : ∀ W1, wPass nv np P W na nb = some W1 → wOk nv T2 K P W1 ∧ W1.2.2.2.2.2 = W.2.2.2.2.2 := by
  obtain ⟨o, ⟨q, q1, q2, e⟩, ph⟩ := wNext_ph hp hW hN
  have hg : 1 ≤ W.1.toInt ∧ W.1.toInt ≤ 10000 := hW.1.1
  exact (wPass_ok (T := T) (T2 := T2) hp hW hT hK0 hK o.1 (by omega) q1 q2 e ph (wTm_200 hp hW hN hT2)).2.2
theorem mom_inv {nv np : Nat} {T K : Int} {P : Nat → Nat → Int32} {W W1 : qW} (hp : MPa nv np P) (hB : wBo W) (hZ : wZ W) (h1 : wOk nv T K P W1) (e : W1.2.2.2.2.2 = W.2.2.2.2.2) (hT : T ≤ 40000) (hK : K ≤ 200000000) : wBo W1 ∧ wInv nv T (K + 1600) P (wMom nv P W1) := by
  have b1 : wBo W1 := by unfold wBo; rw [e]; exact hB
  have z1 : wZ W1 := by unfold wZ; rw [e]; exact hZ
  have m := wMom_ok hp h1 b1 hT hK
  exact ⟨b1, m.1, m.2.1, wMom_z hp z1⟩
theorem pRr_f : ∀ k j, fTn k j = false → pRr k = false := by
  intro k j h
  simp only [fTn, pRr, decide_eq_false_iff_not] at h ⊢
  omega
theorem pRr_p : ∀ k, pTn k = false → pRr k = false := by
  intro k h
  simp only [pTn, pRr, decide_eq_false_iff_not] at h ⊢
  omega
theorem fCs_Tn : ∀ k j, fTn k j = false → fCs 22 k j = false := by
  intro k j h
  simp only [fCs, fTn, decide_eq_false_iff_not] at h ⊢
  omega
theorem pCr_Tn : ∀ k, pTn k = false → pCr 22 k = false := by
  intro k h
  simp only [pCr, pTn, decide_eq_false_iff_not] at h ⊢
  omega
theorem fSe_Tn : ∀ k j, fTn k j = false → fSe 22 k j = false := by
  intro k j h
  simp only [fSe, fTn, decide_eq_false_iff_not] at h ⊢
  omega
theorem pSe_Tn : ∀ k, pTn k = false → pSe 22 k = false := by
  intro k h
  simp only [pSe, pTn, decide_eq_false_iff_not] at h ⊢
  omega
set_option maxRecDepth 100000 in
set_option maxHeartbeats 0 in
theorem lcx_rs (ro : UInt32 → Nat × (Nat → Int32)) (nv np : Nat) (P : Nat → Nat → Int32) (W : qW) (K : Int) (cm : Nat) (I : Nat → Nat → Int32) (G : Nat → Nat → Int64) (A : Nat → Nat → Int32) (B : Nat → Nat → Int64) (hR : cRS 22 nv np P W I G A B) (hp : MPa nv np P) (hq : qOw nv np P) (hW : wInv nv 10000 K P W) (hK0 : 0 ≤ K) (hK : K ≤ 199000000) (hC : CV nv np cm I) (hcm : cm < 1000000000) : ∀ (n k : Nat) (ls : List (Nat × Value)) (I1 : Nat → Nat → Int32) (G1 : Nat → Nat → Int64) (A1 : Nat → Nat → Int32) (B1 : Nat → Nat → Int64) (W1 : qW), KQ fTn pTn I G A B I1 G1 A1 B1 → cRS 22 nv np P W1 I1 G1 A1 B1 → wInv nv (9800 + 200 * k : Int) (K + 1600 * k) P W1 → CV nv np cm I1 → 1 ≤ k → k ≤ 151 → k + n = 152 → zld ls 0 = some (.ref 38) → zld ls 1 = some (.ref 22) → zld ls 2 = some (.int (nI k)) → zWp ro 25 11 ls [] (hS I1 G1 A1 B1) 0 0 (fun r h1 => ∃ I2 G2 A2 B2, h1 = hS I2 G2 A2 B2 ∧ KQ fTn pTn I G A B I2 G2 A2 B2 ∧ (∃ W2 T2 K2, cRS 22 nv np P W2 I2 G2 A2 B2 ∧ wInv nv T2 K2 P W2) ∧ CV nv np cm I2 ∧ ∃ v : Int32, r = some (.int v)) := by
  intro n
  induction n with
  | zero =>
    intro k ls I1 G1 A1 B1 W1 _ _ _ _ _ a b
    exact absurd b (by omega)
  | succ n ih =>
    intro k ls I1 G1 A1 B1 W1 K0 hR1 hW1 hC1 hk1 hk2 hk3 h0 h1 h2
    refine zw_iload_n 12 f25_11 rfl h2 ?_
    refine zw_sipush 151 15 f25_12 rfl (by decide +kernel) ?_
    refine zw_ic_ge 18 82 f25_15 (by decide +kernel) rfl (fun hc1 => ?_) (fun hc1 => ?_)
    · have hn_hc1 : 151 ≤ k := zn_ge (by omega) (by omega) hc1
      refine zw_aload_n 83 f25_82 rfl h1 ?_
      refine zw_virtual_v 86 0 0 [.ref 22] [(0, .ref 22)] f25_83 rfl n25_38 k25_38_10 rfl (hb_22 _ _ _ _) (by decide +kernel) (Nat.le_of_ble_eq_true rfl) rfl rfl (by decide +kernel) (by decide +kernel) rfl (Nat.le_of_ble_eq_true rfl) rfl ?_
      refine zWp.mono (cx_seek_22 ro nv np P W1 _ _ _ _ _ _ hR1 hp hW1.2.1 hq hW1.1) ?_
      rintro r h1 ⟨I_s, G_s, A_s, B_s, rfl, K_s, hRt, hC_s, rfl⟩
      refine ⟨rfl, ?_⟩
      have R_s := hR1.k K_s ⟨rfl, rfl⟩ (fCs_w 22) (pCr_w 22 (by omega))
      obtain ⟨ah, ah1, ah2⟩ := hC1.1.2.2.2
      have V_s := CV.q K_s rfl rfl rfl rfl rfl hC1 ah1 ((K_s.1 22 12 rfl).trans ah2)
      refine zw_aload_n 87 f25_86 rfl h1 ?_
      refine zw_virtual_i 90 0 0 [.ref 22] [(0, .ref 22)] f25_87 rfl n25_41 k25_41_10 rfl (hb_22 _ _ _ _) (by decide +kernel) (Nat.le_of_ble_eq_true rfl) rfl rfl (by decide +kernel) (by decide +kernel) rfl (Nat.le_of_ble_eq_true rfl) rfl ?_
      refine zw_aload_n 1 f58_0 rfl rfl ?_
      refine zw_getG (G_s 22 9) 4 f58_1 rfl g58_119_10 (hb_22 _ _ _ _) rfl rfl ?_
      refine zw_lconst 0 5 f58_4 rfl (by decide +kernel) ?_
      refine zw_lcmp (lg_cmp (G_s 22 9) 0) 6 f58_5 rfl rfl ?_
      refine zw_if_ne 9 13 f58_6 (by decide +kernel) rfl (fun hc2 => ?_) (fun hc2 => ?_)
      · refine zw_iconst 0 14 f58_13 rfl (by decide +kernel) ?_
        refine zw_zreturn f58_14 r58 u58 (by decide +kernel) ⟨_, rfl, ?_⟩
        refine zw_if_eq_t 97 f25_90 (by decide +kernel) (by decide +kernel) ?_
        refine zw_bipush (-2) 99 f25_97 rfl (by decide +kernel) ?_
        refine zw_ireturn f25_99 r25 u25 ?_
        exact ⟨_, _, _, _, rfl, (KQ.tr K0 (KQ.wk K_s fCs_Tn pCr_Tn)), ⟨_, _, _, R_s, hW1⟩, V_s, _, rfl⟩
      · refine zw_iconst 1 10 f58_9 rfl (by decide +kernel) ?_
        refine zw_goto 14 f58_10 (by decide +kernel) ?_
        refine zw_zreturn f58_14 r58 u58 (by decide +kernel) ⟨_, rfl, ?_⟩
        refine zw_if_eq_f 93 97 f25_90 (by decide +kernel) rfl (by decide +kernel) ?_
        refine zw_iconst 0 94 f25_93 rfl (by decide +kernel) ?_
        refine zw_goto 99 f25_94 (by decide +kernel) ?_
        refine zw_ireturn f25_99 r25 u25 ?_
        exact ⟨_, _, _, _, rfl, (KQ.tr K0 (KQ.wk K_s fCs_Tn pCr_Tn)), ⟨_, _, _, R_s, hW1⟩, V_s, _, rfl⟩
    · have hn_hc1 : k < 151 := zn_lt (by omega) (by omega) hc1
      refine zw_aload_n 19 f25_18 rfl h1 ?_
      refine zw_virtual_v 22 0 0 [.ref 22] [(0, .ref 22)] f25_19 rfl n25_38 k25_38_10 rfl (hb_22 _ _ _ _) (by decide +kernel) (Nat.le_of_ble_eq_true rfl) rfl rfl (by decide +kernel) (by decide +kernel) rfl (Nat.le_of_ble_eq_true rfl) rfl ?_
      refine zWp.mono (cx_seek_22 ro nv np P W1 _ _ _ _ _ _ hR1 hp hW1.2.1 hq hW1.1) ?_
      rintro r h1 ⟨I_s, G_s, A_s, B_s, rfl, K_s, hRt, hC_s, rfl⟩
      refine ⟨rfl, ?_⟩
      have R_s := hR1.k K_s ⟨rfl, rfl⟩ (fCs_w 22) (pCr_w 22 (by omega))
      obtain ⟨ah, ah1, ah2⟩ := hC1.1.2.2.2
      have V_s := CV.q K_s rfl rfl rfl rfl rfl hC1 ah1 ((K_s.1 22 12 rfl).trans ah2)
      refine zw_aload_n 23 f25_22 rfl h1 ?_
      refine zw_virtual_i 26 0 0 [.ref 22] [(0, .ref 22)] f25_23 rfl n25_41 k25_41_10 rfl (hb_22 _ _ _ _) (by decide +kernel) (Nat.le_of_ble_eq_true rfl) rfl rfl (by decide +kernel) (by decide +kernel) rfl (Nat.le_of_ble_eq_true rfl) rfl ?_
      refine zw_aload_n 1 f58_0 rfl rfl ?_
      refine zw_getG (G_s 22 9) 4 f58_1 rfl g58_119_10 (hb_22 _ _ _ _) rfl rfl ?_
      refine zw_lconst 0 5 f58_4 rfl (by decide +kernel) ?_
      refine zw_lcmp (lg_cmp (G_s 22 9) 0) 6 f58_5 rfl rfl ?_
      refine zw_if_ne 9 13 f58_6 (by decide +kernel) rfl (fun hc3 => ?_) (fun hc3 => ?_)
      · refine zw_iconst 0 14 f58_13 rfl (by decide +kernel) ?_
        refine zw_zreturn f58_14 r58 u58 (by decide +kernel) ⟨_, rfl, ?_⟩
        refine zw_if_eq_t 31 f25_26 (by decide +kernel) (by decide +kernel) ?_
        refine zw_aload_n 32 f25_31 rfl h1 ?_
        refine zw_virtual_i 35 0 0 [.ref 22] [(0, .ref 22)] f25_32 rfl n25_45 k25_45_10 rfl (hb_22 _ _ _ _) (by decide +kernel) (Nat.le_of_ble_eq_true rfl) rfl rfl (by decide +kernel) (by decide +kernel) rfl (Nat.le_of_ble_eq_true rfl) rfl ?_
        obtain ⟨na, nb, hN⟩ := nx_of (cNx_n hC_s (fun q => hc3 ((lg_cmp_eq _ _).mpr q)))
        have hps := pass_far (T2 := (9800 + 200 * k : Int) + 200) hp hW1.1 (by omega) (by omega) (by omega) hN (Int.le_refl _)
        refine zWp.mono (cx_step_22 ro nv np P W1 (9800 + 200 * k : Int) ((9800 + 200 * k : Int) + 200) (K + 1600 * k) _ _ _ _ R_s hp hW1.2.1 hW1.1 (by omega) (by omega) (by omega) hRt na nb hN hC_s hps) ?_
        rintro r h1 ⟨I_t, G_t, A_t, B_t, rfl, K_t, (⟨rfl, hpn, R_t, H_t⟩ | ⟨rfl, W2, hpn, R_t, H_t⟩)⟩
        · refine ⟨_, rfl, ?_⟩
          have V_t := CV.q K_t rfl rfl rfl rfl rfl V_s (a := 0) (by omega) H_t.1
          refine zw_if_ne_f 38 41 f25_35 (by decide +kernel) rfl (by decide +kernel) ?_
          refine zw_bipush (-2) 40 f25_38 rfl (by decide +kernel) ?_
          refine zw_ireturn f25_40 r25 u25 ?_
          exact ⟨_, _, _, _, rfl, (KQ.tr (KQ.tr K0 (KQ.wk K_s fCs_Tn pCr_Tn)) (KQ.wk K_t fSe_Tn pSe_Tn)), ⟨_, _, _, R_t, hW1⟩, V_t, _, rfl⟩
        · refine ⟨_, rfl, ?_⟩
          have mi := mom_inv hp hW1.2.1 hW1.2.2 (hps W2 hpn).1 (hps W2 hpn).2 (by omega) (by omega)
          have h8e := (mom_t hp mi.1 (hps W2 hpn).1 (by omega) (by omega)).2.2
          have V_t := CV.q K_t rfl rfl rfl rfl rfl V_s h8e H_t.1
          refine zw_if_ne_t 41 f25_35 (by decide +kernel) (by decide +kernel) ?_
          refine zw_aload_n 42 f25_41 rfl h0 ?_
          refine zw_aload_n 43 f25_42 rfl h1 ?_
          refine zw_getfield 46 f25_43 rfl g25_28_10 (hb_22 _ _ _ _) rfl ?_
          refine zw_iload_n 47 f25_46 rfl h2 ?_
          refine zw_virtual_i 50 0 0 [.ref 38, .ref 23, .int (nI k)] [(0, .ref 38), (1, .ref 23), (2, .int (nI k))] f25_47 rfl n25_48 k25_48_5 rfl (hb_38 _ _ _ _) (by decide +kernel) (Nat.le_of_ble_eq_true rfl) rfl rfl (by decide +kernel) (by decide +kernel) rfl (Nat.le_of_ble_eq_true rfl) rfl ?_
          refine zWp.mono (cq_X5_firstLike_38 ro nv np cm _ _ _ _ V_t hcm (nI k)) ?_
          rintro r h1 ⟨rfl, v_l, rfl, (rfl | ⟨e_l, he_l, rfl⟩)⟩
          · refine ⟨_, rfl, ?_⟩
            refine zw_istore_n _ 51 f25_50 rfl (by decide +kernel) rfl ?_
            refine zw_iload_n 52 f25_51 rfl zl1_eq ?_
            refine zw_iconst (-1) 53 f25_52 rfl (by decide +kernel) ?_
            refine zw_ic_eq_t 67 f25_53 (by decide +kernel) (by decide +kernel) ?_
            refine zw_aload_n 68 f25_67 rfl (zl1_ne rfl rfl h0) ?_
            refine zw_iload_n 69 f25_68 rfl (zl1_ne rfl rfl h2) ?_
            refine zw_aload_n 70 f25_69 rfl (zl1_ne rfl rfl h1) ?_
            refine zw_getfield 73 f25_70 rfl g25_28_10 (hb_22 _ _ _ _) rfl ?_
            refine zw_virtual_v 76 0 0 [.ref 38, .int (nI k), .ref 23] [(0, .ref 38), (1, .int (nI k)), (2, .ref 23)] f25_73 rfl n25_34 k25_34_5 rfl (hb_38 _ _ _ _) (by decide +kernel) (Nat.le_of_ble_eq_true rfl) rfl rfl (by decide +kernel) (by decide +kernel) rfl (Nat.le_of_ble_eq_true rfl) rfl ?_
            refine zWp.mono (er_X5_keep_38 ro nv np cm _ _ _ _ V_t hcm k (by omega)) ?_
            rintro r h1 ⟨I_4, G_4, A_4, B_4, rfl, K_4, C_4, rfl⟩
            refine ⟨rfl, ?_⟩
            have R_4 := R_t.k (KPkq K_4) ⟨rfl, rfl⟩ (fun j _ _ => rfl) (fun k h1 h2 => by simp only [pRr, decide_eq_false_iff_not]; omega)
            refine zw_iinc (nI (k + 1)) _ 79 f25_76 rfl (zl1_ne rfl rfl h2) (by decide +kernel) (nI_1 _) rfl ?_
            refine zw_goto 11 f25_79 (by decide +kernel) ?_
            exact ih (k + 1) _ _ _ _ _ _ (KQ.tr (KQ.tr (KQ.tr K0 (KQ.wk K_s fCs_Tn pCr_Tn)) (KQ.wk K_t fSe_Tn pSe_Tn)) (KQ.wk (KPkq K_4) pRr_f pRr_p)) R_4 (mi.2.mo (by omega) (by omega)) C_4 (by omega) (by omega) (by omega) (zl1_ne rfl rfl (zl1_ne rfl rfl h0)) (zl1_ne rfl rfl (zl1_ne rfl rfl h1)) zl1_eq
          · refine ⟨_, rfl, ?_⟩
            refine zw_istore_n _ 51 f25_50 rfl (by decide +kernel) rfl ?_
            refine zw_iload_n 52 f25_51 rfl zl1_eq ?_
            refine zw_iconst (-1) 53 f25_52 rfl (by decide +kernel) ?_
            refine zw_ic_eq_f 56 67 f25_53 (by decide +kernel) rfl (nI_nem (by omega)) ?_
            refine zw_aload_n 57 f25_56 rfl (zl1_ne rfl rfl h0) ?_
            refine zw_iload_n 58 f25_57 rfl zl1_eq ?_
            refine zw_aload_n 59 f25_58 rfl (zl1_ne rfl rfl h1) ?_
            refine zw_getfield 62 f25_59 rfl g25_28_10 (hb_22 _ _ _ _) rfl ?_
            refine zw_virtual_v 65 0 0 [.ref 38, .int (nI e_l), .ref 23] [(0, .ref 38), (1, .int (nI e_l)), (2, .ref 23)] f25_62 rfl n25_52 k25_52_5 rfl (hb_38 _ _ _ _) (by decide +kernel) (Nat.le_of_ble_eq_true rfl) rfl rfl (by decide +kernel) (by decide +kernel) rfl (Nat.le_of_ble_eq_true rfl) rfl ?_
            refine zWp.mono (er_X5_tell_38 ro nv np cm _ _ _ _ V_t hcm e_l (by omega)) ?_
            rintro r h1 ⟨I_5, G_5, A_5, B_5, rfl, K_5, C_5, rfl⟩
            refine ⟨rfl, ?_⟩
            have R_5 := R_t.k (KPkq K_5) ⟨rfl, rfl⟩ (fun j _ _ => rfl) (fun k h1 h2 => by simp only [pRr, decide_eq_false_iff_not]; omega)
            refine zw_iconst 1 66 f25_65 rfl (by decide +kernel) ?_
            refine zw_ireturn f25_66 r25 u25 ?_
            exact ⟨_, _, _, _, rfl, (KQ.tr (KQ.tr (KQ.tr K0 (KQ.wk K_s fCs_Tn pCr_Tn)) (KQ.wk K_t fSe_Tn pSe_Tn)) (KQ.wk (KPkq K_5) pRr_f pRr_p)), ⟨_, _, _, R_5, mi.2⟩, C_5, _, rfl⟩
      · refine zw_iconst 1 10 f58_9 rfl (by decide +kernel) ?_
        refine zw_goto 14 f58_10 (by decide +kernel) ?_
        refine zw_zreturn f58_14 r58 u58 (by decide +kernel) ⟨_, rfl, ?_⟩
        refine zw_if_eq_f 29 31 f25_26 (by decide +kernel) rfl (by decide +kernel) ?_
        refine zw_iconst 0 30 f25_29 rfl (by decide +kernel) ?_
        refine zw_ireturn f25_30 r25 u25 ?_
        exact ⟨_, _, _, _, rfl, (KQ.tr K0 (KQ.wk K_s fCs_Tn pCr_Tn)), ⟨_, _, _, R_s, hW1⟩, V_s, _, rfl⟩
set_option maxRecDepth 100000 in
set_option maxHeartbeats 0 in
theorem cx_rs (ro : UInt32 → Nat × (Nat → Int32)) (nv np : Nat) (P : Nat → Nat → Int32) (W : qW) (K : Int) (cm : Nat) (I : Nat → Nat → Int32) (G : Nat → Nat → Int64) (A : Nat → Nat → Int32) (B : Nat → Nat → Int64) (hR : cRS 22 nv np P W I G A B) (hp : MPa nv np P) (hq : qOw nv np P) (hW : wInv nv 10000 K P W) (hK0 : 0 ≤ K) (hK : K ≤ 199000000) (hC : CV nv np cm I) (hcm : cm < 1000000000) : zWp ro 25 0 [(0, .ref 38), (1, .ref 22)] [] (hS I G A B) 0 0 (fun r h1 => ∃ I2 G2 A2 B2, h1 = hS I2 G2 A2 B2 ∧ KQ fTn pTn I G A B I2 G2 A2 B2 ∧ (∃ W2 T2 K2, cRS 22 nv np P W2 I2 G2 A2 B2 ∧ wInv nv T2 K2 P W2) ∧ CV nv np cm I2 ∧ ∃ v : Int32, r = some (.int v)) := by
  refine zw_aload_n 1 f25_0 rfl rfl ?_
  refine zw_iconst 0 2 f25_1 rfl (by decide +kernel) ?_
  refine zw_aload_n 3 f25_2 rfl rfl ?_
  refine zw_getfield 6 f25_3 rfl g25_28_10 (hb_22 _ _ _ _) rfl ?_
  refine zw_virtual_v 9 0 0 [.ref 38, .int 0, .ref 23] [(0, .ref 38), (1, .int 0), (2, .ref 23)] f25_6 rfl n25_34 k25_34_5 rfl (hb_38 _ _ _ _) (by decide +kernel) (Nat.le_of_ble_eq_true rfl) rfl rfl (by decide +kernel) (by decide +kernel) rfl (Nat.le_of_ble_eq_true rfl) rfl ?_
  refine zWp.mono (er_X5_keep_38 ro nv np cm _ _ _ _ hC hcm 0 (by omega)) ?_
  rintro r h1 ⟨I_1, G_1, A_1, B_1, rfl, K_1, C_1, rfl⟩
  refine ⟨rfl, ?_⟩
  have R_1 := hR.k (KPkq K_1) ⟨rfl, rfl⟩ (fun j _ _ => rfl) (fun k h1 h2 => by simp only [pRr, decide_eq_false_iff_not]; omega)
  refine zw_iconst 1 10 f25_9 rfl (by decide +kernel) ?_
  refine zw_istore_n _ 11 f25_10 rfl (by decide +kernel) rfl ?_
  exact lcx_rs ro nv np P W K cm I G A B hR hp hq hW hK0 hK hC hcm 151 1 _ _ _ _ _ W (KQ.tr KQ.rf (KQ.wk (KPkq K_1) pRr_f pRr_p)) R_1 (hW.mo (by omega) (by omega)) C_1 (by omega) (by omega) (by omega) (zl1_ne rfl rfl rfl) (zl1_ne rfl rfl rfl) zl1_eq
set_option maxRecDepth 100000 in
set_option maxHeartbeats 0 in
theorem cx_round (ro : UInt32 → Nat × (Nat → Int32)) (nv np : Nat) (P : Nat → Nat → Int32) (W : qW) (K : Int) (cm : Nat) (I : Nat → Nat → Int32) (G : Nat → Nat → Int64) (A : Nat → Nat → Int32) (B : Nat → Nat → Int64) (hR : cRS 11 nv np P W I G A B) (hp : MPa nv np P) (hq : qOw nv np P) (hW : wInv nv 10000 K P W) (hK0 : 0 ≤ K) (hK : K ≤ 199000000) (hC : CV nv np cm I) (hcm : cm < 1000000000) (hJ : cJk (P 62) A B) (a : Int32) : zWp ro 99 0 [(0, .ref 0), (1, .int a)] [] (hS I G A B) 0 0 (fun r h1 => ∃ I2 G2 A2 B2, h1 = hS I2 G2 A2 B2 ∧ KQ fTn pTn I G A B I2 G2 A2 B2 ∧ cJk (P 62) A2 B2 ∧ ∃ v : Int32, r = some (.int v)) := by
  refine zw_iload_n 1 f99_0 rfl rfl ?_
  refine zw_iconst 0 2 f99_1 rfl (by decide +kernel) ?_
  refine zw_iconst 4 3 f99_2 rfl (by decide +kernel) ?_
  refine zw_static_i 6 0 0 [.int a, .int 0, .int 4] [] [(0, .int a), (1, .int 0), (2, .int 4)] f99_3 rfl k99_74_99 rfl (by decide +kernel) (Nat.le_of_ble_eq_true rfl) (Nat.le_of_ble_eq_true rfl) rfl rfl (by decide +kernel) (by decide +kernel) rfl (Nat.le_of_ble_eq_true rfl) rfl ?_
  refine zw_iload_n 1 f112_0 rfl rfl ?_
  refine zw_iload_n 2 f112_1 rfl rfl ?_
  refine zw_ic_lt 5 14 f112_2 (by decide +kernel) rfl (fun hc1 => ?_) (fun hc1 => ?_)
  · refine zw_iconst 0 15 f112_14 rfl (by decide +kernel) ?_
    refine zw_zreturn f112_15 r112 u112 (by decide +kernel) ⟨_, rfl, ?_⟩
    refine zw_if_ne_f 9 11 f99_6 (by decide +kernel) rfl (by decide +kernel) ?_
    refine zw_iconst (-1) 10 f99_9 rfl (by decide +kernel) ?_
    refine zw_ireturn f99_10 r99 u99 ?_
    exact ⟨_, _, _, _, rfl, KQ.rf, hJ, _, rfl⟩
  · refine zw_iload_n 6 f112_5 rfl rfl ?_
    refine zw_iload_n 7 f112_6 rfl rfl ?_
    refine zw_ic_gt 10 14 f112_7 (by decide +kernel) rfl (fun hc2 => ?_) (fun hc2 => ?_)
    · refine zw_iconst 0 15 f112_14 rfl (by decide +kernel) ?_
      refine zw_zreturn f112_15 r112 u112 (by decide +kernel) ⟨_, rfl, ?_⟩
      refine zw_if_ne_f 9 11 f99_6 (by decide +kernel) rfl (by decide +kernel) ?_
      refine zw_iconst (-1) 10 f99_9 rfl (by decide +kernel) ?_
      refine zw_ireturn f99_10 r99 u99 ?_
      exact ⟨_, _, _, _, rfl, KQ.rf, hJ, _, rfl⟩
    · refine zw_iconst 1 11 f112_10 rfl (by decide +kernel) ?_
      refine zw_goto 15 f112_11 (by decide +kernel) ?_
      refine zw_zreturn f112_15 r112 u112 (by decide +kernel) ⟨_, rfl, ?_⟩
      refine zw_if_ne_t 11 f99_6 (by decide +kernel) (by decide +kernel) ?_
      refine zw_aload_n 12 f99_11 rfl rfl ?_
      refine zw_getfield 15 f99_12 rfl g99_25_11 (hb_0 _ _ _ _) rfl ?_
      refine zw_getfield 18 f99_15 rfl g99_134_10 (hb_22 _ _ _ _) rfl ?_
      refine zw_aload_n 19 f99_18 rfl rfl ?_
      refine zw_getfield 22 f99_19 rfl g99_21_11 (hb_0 _ _ _ _) rfl ?_
      refine zw_getfield 25 f99_22 rfl g99_134_10 (hb_11 _ _ _ _) rfl ?_
      refine zw_virtual_v 28 0 0 [.ref 23, .ref 12] [(0, .ref 23), (1, .ref 12)] f99_25 rfl n99_269 k99_269_9 rfl (hb_23 _ _ _ _) (by decide +kernel) (Nat.le_of_ble_eq_true rfl) rfl rfl (by decide +kernel) (by decide +kernel) rfl (Nat.le_of_ble_eq_true rfl) rfl ?_
      have h8 := hp.1
      refine zWp.mono (cx_takeOver ro nv np P W I G A B hR (fun j hj => hW.1.1.2.2 j (by omega)) hW.2.2.2.2 hJ) ?_
      rintro r h1 ⟨I_t, G_t, A_t, B_t, rfl, K_t, hT, rfl⟩
      refine ⟨rfl, ?_⟩
      obtain ⟨ah, ah1, ah2⟩ := hC.1.2.2.2
      have V_t := CV.q K_t rfl rfl rfl rfl rfl hC ah1 ((K_t.1 22 12 rfl).trans ah2)
      refine zw_aload_n 29 f99_28 rfl rfl ?_
      refine zw_getfield 32 f99_29 rfl g99_38_11 (hb_0 _ _ _ _) rfl ?_
      refine zw_aload_n 33 f99_32 rfl rfl ?_
      refine zw_getfield 36 f99_33 rfl g99_25_11 (hb_0 _ _ _ _) rfl ?_
      refine zw_virtual_i 39 0 0 [.ref 38, .ref 22] [(0, .ref 38), (1, .ref 22)] f99_36 rfl n99_273 k99_273_5 rfl (hb_38 _ _ _ _) (by decide +kernel) (Nat.le_of_ble_eq_true rfl) rfl rfl (by decide +kernel) (by decide +kernel) rfl (Nat.le_of_ble_eq_true rfl) rfl ?_
      refine zWp.mono (cx_rs ro nv np P W K cm _ _ _ _ hT hp hq hW hK0 hK V_t hcm) ?_
      rintro r h1 ⟨I_r, G_r, A_r, B_r, rfl, K_r, ⟨W2, T2, K2, hF, hW2⟩, V_r, v_r, rfl⟩
      refine ⟨_, rfl, ?_⟩
      have hJ2 : cJk (P 62) A_r B_r := jk_of hF hW2 hp.1 (fun _ _ => rfl)
      refine zw_istore_n _ 40 f99_39 rfl (by decide +kernel) rfl ?_
      refine zw_iload_n 41 f99_40 rfl (zl1_ne rfl rfl rfl) ?_
      refine zw_if_ne 44 46 f99_41 (by decide +kernel) rfl (fun hc3 => ?_) (fun hc3 => ?_)
      · refine zw_iload_n 47 f99_46 rfl zl1_eq ?_
        refine zw_iconst 1 48 f99_47 rfl (by decide +kernel) ?_
        refine zw_ic_ne 51 62 f99_48 (by decide +kernel) rfl (fun hc4 => ?_) (fun hc4 => ?_)
        · refine zw_iconst (-1) 63 f99_62 rfl (by decide +kernel) ?_
          refine zw_ireturn f99_63 r99 u99 ?_
          exact ⟨_, _, _, _, rfl, (KQ.tr (KQ.tr KQ.rf (KQ.wk K_t fTk_Tn pTk_Tn)) K_r), hJ2, _, rfl⟩
        · refine zw_aload_n 52 f99_51 rfl (zl1_ne rfl rfl rfl) ?_
          refine zw_getfield 55 f99_52 rfl g99_38_11 (hb_0 _ _ _ _) rfl ?_
          refine zw_iload_n 56 f99_55 rfl (zl1_ne rfl rfl rfl) ?_
          refine zw_virtual_i 59 0 0 [.ref 38, .int a] [(0, .ref 38), (1, .int a)] f99_56 rfl n99_277 k99_277_5 rfl (hb_38 _ _ _ _) (by decide +kernel) (Nat.le_of_ble_eq_true rfl) rfl rfl (by decide +kernel) (by decide +kernel) rfl (Nat.le_of_ble_eq_true rfl) rfl ?_
          refine zWp.mono (cq_X5_toldOf_38 ro nv np cm _ _ _ _ V_r hcm a) ?_
          rintro r h1 ⟨rfl, v_d, rfl⟩
          refine ⟨_, rfl, ?_⟩
          refine zw_goto 63 f99_59 (by decide +kernel) ?_
          refine zw_ireturn f99_63 r99 u99 ?_
          exact ⟨_, _, _, _, rfl, (KQ.tr (KQ.tr KQ.rf (KQ.wk K_t fTk_Tn pTk_Tn)) K_r), hJ2, _, rfl⟩
      · refine zw_iload_n 45 f99_44 rfl zl1_eq ?_
        refine zw_ireturn f99_45 r99 u99 ?_
        exact ⟨_, _, _, _, rfl, (KQ.tr (KQ.tr KQ.rf (KQ.wk K_t fTk_Tn pTk_Tn)) K_r), hJ2, _, rfl⟩
