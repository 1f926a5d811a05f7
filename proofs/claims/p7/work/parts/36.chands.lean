/-! ===== hands at the class: the plan ===== -/
/-- the class's plan at the reference's places -/
def cP (A : Nat → Nat → Int32) : Nat → Nat → Int32 := fun k => if k = 53 then A 2 else if k = 54 then A 3 else if k = 55 then A 4 else if k = 56 then A 5 else if k = 57 then A 6 else if k = 58 then A 7 else if k = 59 then A 8 else if k = 60 then A 9 else if k = 61 then A 10 else A 15
theorem PE.of10 {A PA : Nat → Nat → Int32} (h3 : A 53 = PA 53) (h4 : A 54 = PA 54) (h5 : A 55 = PA 55) (h6 : A 56 = PA 56) (h7 : A 57 = PA 57) (h8 : A 58 = PA 58) (h9 : A 59 = PA 59) (h0 : A 60 = PA 60) (h1 : A 61 = PA 61) (h2 : A 62 = PA 62) : PE A PA := by
  intro k k1 k2
  rcases (show k = 53 ∨ k = 54 ∨ k = 55 ∨ k = 56 ∨ k = 57 ∨ k = 58 ∨ k = 59 ∨ k = 60 ∨ k = 61 ∨ k = 62 by omega) with e | e | e | e | e | e | e | e | e | e <;> subst e
  · exact h3
  · exact h4
  · exact h5
  · exact h6
  · exact h7
  · exact h8
  · exact h9
  · exact h0
  · exact h1
  · exact h2
/-- kinds, a siphon's low mark -/
def qKd (nv : Nat) (P : Nat → Nat → Int32) : Prop := (∀ v, v < nv → qRg (P 53 v) 0 4) ∧ ∀ v, v < nv → P 53 v = 1 → P 56 v = 0
theorem k5 {x : Int32} (h : qRg x 0 4) : x = 0 ∨ x = 1 ∨ x = 2 ∨ x = 3 ∨ x = 4 := by
  have q := qRg.i (l := 0) (h := 4) (by decide) (by decide) h
  rcases (show x.toInt = 0 ∨ x.toInt = 1 ∨ x.toInt = 2 ∨ x.toInt = 3 ∨ x.toInt = 4 by omega) with e | e | e | e | e
  · exact Or.inl (Int32.toInt_inj.mp (e.trans (by decide)))
  · exact Or.inr (Or.inl (Int32.toInt_inj.mp (e.trans (by decide))))
  · exact Or.inr (Or.inr (Or.inl (Int32.toInt_inj.mp (e.trans (by decide)))))
  · exact Or.inr (Or.inr (Or.inr (Or.inl (Int32.toInt_inj.mp (e.trans (by decide))))))
  · exact Or.inr (Or.inr (Or.inr (Or.inr (Int32.toInt_inj.mp (e.trans (by decide))))))
theorem n45 {x : Int32} (h : ¬ 4 < x) : ¬ 5 ≤ x := by
  rw [i32_lt] at h
  rw [Int32.le_iff_toInt_le]
  have e1 : (4 : Int32).toInt = 4 := by decide
  have e2 : (5 : Int32).toInt = 5 := by decide
  omega
theorem k02 {x : Int32} (h : qRg x 0 4) (h1 : ¬ x = 1) (h3 : ¬ x = 3) (h4 : ¬ x = 4) (n0 : ¬ x = 0) (n2 : ¬ x = 2) : False := by
  rcases k5 h with e | e | e | e | e
  · exact n0 e
  · exact h1 e
  · exact n2 e
  · exact h3 e
  · exact h4 e
theorem kne {x a b : Int32} (h : x = a) (hab : ¬ a = b) : ¬ x = b := fun q => hab (h.symm.trans q)
theorem upd_sm {f : Nat → Int32} {k : Nat} {x : Int32} (h : f k = x) : f = upd f k x := by rw [← h, upd_id]
/-- what the class keeps of its plan -/
def cSt (nv np cm : Nat) (P : Nat → Nat → Int32) (I A : Nat → Nat → Int32) : Prop := CV nv np cm I ∧ PE (cP A) P
set_option maxRecDepth 100000 in
set_option maxHeartbeats 0 in
theorem cm_vessel (ro : UInt32 → Nat × (Nat → Int32)) (nv np cm : Nat) (I : Nat → Nat → Int32) (G : Nat → Nat → Int64) (A : Nat → Nat → Int32) (B : Nat → Nat → Int64) (hI : CV nv np cm I) (hcm : cm < 900000000) (hQ : qKd nv (cP A)) (a : Int32) (b : Int32) : zWp ro 78 0 [(0, .ref 0), (1, .int a), (2, .int b)] [] (hS I G A B) 0 0 (fun r h1 => ∃ I2 G2 A2 B2, h1 = hS I2 G2 A2 B2 ∧ KP pX I G A B I2 G2 A2 B2 ∧ ((¬ ok_vessel nv np (cP A) a b ∧ cSt nv np (cm + 8) (cP A) I2 A2 ∧ r = some (.int (-1))) ∨ (ok_vessel nv np (cP A) a b ∧ cSt (nv + 1) np (cm + 8) (updA (updA (updA (updA (updA (updA (updA (cP A) 53 (upd ((cP A) 53) nv a)) 54 (upd ((updA (cP A) 53 (upd ((cP A) 53) nv a)) 54) nv b)) 55 (upd ((updA (updA (cP A) 53 (upd ((cP A) 53) nv a)) 54 (upd ((updA (cP A) 53 (upd ((cP A) 53) nv a)) 54) nv b)) 55) nv (if a = 0 ∨ a = 2 then 0 else b))) 56 (upd ((updA (updA (updA (cP A) 53 (upd ((cP A) 53) nv a)) 54 (upd ((updA (cP A) 53 (upd ((cP A) 53) nv a)) 54) nv b)) 55 (upd ((updA (updA (cP A) 53 (upd ((cP A) 53) nv a)) 54 (upd ((updA (cP A) 53 (upd ((cP A) 53) nv a)) 54) nv b)) 55) nv (if a = 0 ∨ a = 2 then 0 else b))) 56) nv 0)) 57 (upd ((updA (updA (updA (updA (cP A) 53 (upd ((cP A) 53) nv a)) 54 (upd ((updA (cP A) 53 (upd ((cP A) 53) nv a)) 54) nv b)) 55 (upd ((updA (updA (cP A) 53 (upd ((cP A) 53) nv a)) 54 (upd ((updA (cP A) 53 (upd ((cP A) 53) nv a)) 54) nv b)) 55) nv (if a = 0 ∨ a = 2 then 0 else b))) 56 (upd ((updA (updA (updA (cP A) 53 (upd ((cP A) 53) nv a)) 54 (upd ((updA (cP A) 53 (upd ((cP A) 53) nv a)) 54) nv b)) 55 (upd ((updA (updA (cP A) 53 (upd ((cP A) 53) nv a)) 54 (upd ((updA (cP A) 53 (upd ((cP A) 53) nv a)) 54) nv b)) 55) nv (if a = 0 ∨ a = 2 then 0 else b))) 56) nv 0)) 57) nv (-1))) 58 (upd ((updA (updA (updA (updA (updA (cP A) 53 (upd ((cP A) 53) nv a)) 54 (upd ((updA (cP A) 53 (upd ((cP A) 53) nv a)) 54) nv b)) 55 (upd ((updA (updA (cP A) 53 (upd ((cP A) 53) nv a)) 54 (upd ((updA (cP A) 53 (upd ((cP A) 53) nv a)) 54) nv b)) 55) nv (if a = 0 ∨ a = 2 then 0 else b))) 56 (upd ((updA (updA (updA (cP A) 53 (upd ((cP A) 53) nv a)) 54 (upd ((updA (cP A) 53 (upd ((cP A) 53) nv a)) 54) nv b)) 55 (upd ((updA (updA (cP A) 53 (upd ((cP A) 53) nv a)) 54 (upd ((updA (cP A) 53 (upd ((cP A) 53) nv a)) 54) nv b)) 55) nv (if a = 0 ∨ a = 2 then 0 else b))) 56) nv 0)) 57 (upd ((updA (updA (updA (updA (cP A) 53 (upd ((cP A) 53) nv a)) 54 (upd ((updA (cP A) 53 (upd ((cP A) 53) nv a)) 54) nv b)) 55 (upd ((updA (updA (cP A) 53 (upd ((cP A) 53) nv a)) 54 (upd ((updA (cP A) 53 (upd ((cP A) 53) nv a)) 54) nv b)) 55) nv (if a = 0 ∨ a = 2 then 0 else b))) 56 (upd ((updA (updA (updA (cP A) 53 (upd ((cP A) 53) nv a)) 54 (upd ((updA (cP A) 53 (upd ((cP A) 53) nv a)) 54) nv b)) 55 (upd ((updA (updA (cP A) 53 (upd ((cP A) 53) nv a)) 54 (upd ((updA (cP A) 53 (upd ((cP A) 53) nv a)) 54) nv b)) 55) nv (if a = 0 ∨ a = 2 then 0 else b))) 56) nv 0)) 57) nv (-1))) 58) nv (-1))) 59 (upd ((updA (updA (updA (updA (updA (updA (cP A) 53 (upd ((cP A) 53) nv a)) 54 (upd ((updA (cP A) 53 (upd ((cP A) 53) nv a)) 54) nv b)) 55 (upd ((updA (updA (cP A) 53 (upd ((cP A) 53) nv a)) 54 (upd ((updA (cP A) 53 (upd ((cP A) 53) nv a)) 54) nv b)) 55) nv (if a = 0 ∨ a = 2 then 0 else b))) 56 (upd ((updA (updA (updA (cP A) 53 (upd ((cP A) 53) nv a)) 54 (upd ((updA (cP A) 53 (upd ((cP A) 53) nv a)) 54) nv b)) 55 (upd ((updA (updA (cP A) 53 (upd ((cP A) 53) nv a)) 54 (upd ((updA (cP A) 53 (upd ((cP A) 53) nv a)) 54) nv b)) 55) nv (if a = 0 ∨ a = 2 then 0 else b))) 56) nv 0)) 57 (upd ((updA (updA (updA (updA (cP A) 53 (upd ((cP A) 53) nv a)) 54 (upd ((updA (cP A) 53 (upd ((cP A) 53) nv a)) 54) nv b)) 55 (upd ((updA (updA (cP A) 53 (upd ((cP A) 53) nv a)) 54 (upd ((updA (cP A) 53 (upd ((cP A) 53) nv a)) 54) nv b)) 55) nv (if a = 0 ∨ a = 2 then 0 else b))) 56 (upd ((updA (updA (updA (cP A) 53 (upd ((cP A) 53) nv a)) 54 (upd ((updA (cP A) 53 (upd ((cP A) 53) nv a)) 54) nv b)) 55 (upd ((updA (updA (cP A) 53 (upd ((cP A) 53) nv a)) 54 (upd ((updA (cP A) 53 (upd ((cP A) 53) nv a)) 54) nv b)) 55) nv (if a = 0 ∨ a = 2 then 0 else b))) 56) nv 0)) 57) nv (-1))) 58 (upd ((updA (updA (updA (updA (updA (cP A) 53 (upd ((cP A) 53) nv a)) 54 (upd ((updA (cP A) 53 (upd ((cP A) 53) nv a)) 54) nv b)) 55 (upd ((updA (updA (cP A) 53 (upd ((cP A) 53) nv a)) 54 (upd ((updA (cP A) 53 (upd ((cP A) 53) nv a)) 54) nv b)) 55) nv (if a = 0 ∨ a = 2 then 0 else b))) 56 (upd ((updA (updA (updA (cP A) 53 (upd ((cP A) 53) nv a)) 54 (upd ((updA (cP A) 53 (upd ((cP A) 53) nv a)) 54) nv b)) 55 (upd ((updA (updA (cP A) 53 (upd ((cP A) 53) nv a)) 54 (upd ((updA (cP A) 53 (upd ((cP A) 53) nv a)) 54) nv b)) 55) nv (if a = 0 ∨ a = 2 then 0 else b))) 56) nv 0)) 57 (upd ((updA (updA (updA (updA (cP A) 53 (upd ((cP A) 53) nv a)) 54 (upd ((updA (cP A) 53 (upd ((cP A) 53) nv a)) 54) nv b)) 55 (upd ((updA (updA (cP A) 53 (upd ((cP A) 53) nv a)) 54 (upd ((updA (cP A) 53 (upd ((cP A) 53) nv a)) 54) nv b)) 55) nv (if a = 0 ∨ a = 2 then 0 else b))) 56 (upd ((updA (updA (updA (cP A) 53 (upd ((cP A) 53) nv a)) 54 (upd ((updA (cP A) 53 (upd ((cP A) 53) nv a)) 54) nv b)) 55 (upd ((updA (updA (cP A) 53 (upd ((cP A) 53) nv a)) 54 (upd ((updA (cP A) 53 (upd ((cP A) 53) nv a)) 54) nv b)) 55) nv (if a = 0 ∨ a = 2 then 0 else b))) 56) nv 0)) 57) nv (-1))) 58) nv (-1))) 59) nv (-1))) I2 A2 ∧ r = some (.int (nI nv))))) := by
  have h8 := hI.1.1.2
  have h14 := hI.1.2.1.2
  obtain ⟨t, ht, et⟩ := hI.2.2
  refine zw_iload_n 1 f78_0 rfl rfl ?_
  refine zw_iconst 0 2 f78_1 rfl (by decide +kernel) ?_
  refine zw_iconst 4 3 f78_2 rfl (by decide +kernel) ?_
  refine zw_static_i 6 0 0 [.int a, .int 0, .int 4] [] [(0, .int a), (1, .int 0), (2, .int 4)] f78_3 rfl k78_74_99 rfl (by decide +kernel) (Nat.le_of_ble_eq_true rfl) (Nat.le_of_ble_eq_true rfl) rfl rfl (by decide +kernel) (by decide +kernel) rfl (Nat.le_of_ble_eq_true rfl) rfl ?_
  refine zw_iload_n 1 f112_0 rfl rfl ?_
  refine zw_iload_n 2 f112_1 rfl rfl ?_
  refine zw_ic_lt 5 14 f112_2 (by decide +kernel) rfl (fun hc1 => ?_) (fun hc1 => ?_)
  · refine zw_iconst 0 15 f112_14 rfl (by decide +kernel) ?_
    refine zw_zreturn f112_15 r112 u112 (by decide +kernel) ⟨_, rfl, ?_⟩
    refine zw_if_eq_t 20 f78_6 (by decide +kernel) (by decide +kernel) ?_
    refine zw_aload_n 21 f78_20 rfl rfl ?_
    refine zw_iconst 1 22 f78_21 rfl (by decide +kernel) ?_
    refine zw_virtual_i 25 0 0 [.ref 0, .int 1] [(0, .ref 0), (1, .int 1)] f78_22 rfl n78_78 k78_78_11 rfl (hb_0 _ _ _ _) (by decide +kernel) (Nat.le_of_ble_eq_true rfl) rfl rfl (by decide +kernel) (by decide +kernel) rfl (Nat.le_of_ble_eq_true rfl) rfl ?_
    refine zw_aload_n 1 f105_0 rfl rfl ?_
    refine zw_iload_n 2 f105_1 rfl rfl ?_
    refine zw_put _ 5 f105_2 rfl g105_70_11 (hb_0 _ _ _ _) rfl (Nat.le_of_ble_eq_true rfl) (by decide +kernel) (hi_0_7 _ _ _ _ _) ?_
    refine zw_iconst (-1) 6 f105_5 rfl (by decide +kernel) ?_
    refine zw_ireturn f105_6 r105 u105 ⟨_, rfl, ?_⟩
    refine zw_ireturn f78_25 r78 u78 ?_
    exact ⟨_, _, _, _, rfl, (KP.i rfl KP.rf), Or.inl ⟨(fun q => (fun q => q.1 hc1) q.1), ⟨hI.mono (by omega), PE.rf⟩, rfl⟩⟩
  · refine zw_iload_n 6 f112_5 rfl rfl ?_
    refine zw_iload_n 7 f112_6 rfl rfl ?_
    refine zw_ic_gt 10 14 f112_7 (by decide +kernel) rfl (fun hc2 => ?_) (fun hc2 => ?_)
    · refine zw_iconst 0 15 f112_14 rfl (by decide +kernel) ?_
      refine zw_zreturn f112_15 r112 u112 (by decide +kernel) ⟨_, rfl, ?_⟩
      refine zw_if_eq_t 20 f78_6 (by decide +kernel) (by decide +kernel) ?_
      refine zw_aload_n 21 f78_20 rfl rfl ?_
      refine zw_iconst 1 22 f78_21 rfl (by decide +kernel) ?_
      refine zw_virtual_i 25 0 0 [.ref 0, .int 1] [(0, .ref 0), (1, .int 1)] f78_22 rfl n78_78 k78_78_11 rfl (hb_0 _ _ _ _) (by decide +kernel) (Nat.le_of_ble_eq_true rfl) rfl rfl (by decide +kernel) (by decide +kernel) rfl (Nat.le_of_ble_eq_true rfl) rfl ?_
      refine zw_aload_n 1 f105_0 rfl rfl ?_
      refine zw_iload_n 2 f105_1 rfl rfl ?_
      refine zw_put _ 5 f105_2 rfl g105_70_11 (hb_0 _ _ _ _) rfl (Nat.le_of_ble_eq_true rfl) (by decide +kernel) (hi_0_7 _ _ _ _ _) ?_
      refine zw_iconst (-1) 6 f105_5 rfl (by decide +kernel) ?_
      refine zw_ireturn f105_6 r105 u105 ⟨_, rfl, ?_⟩
      refine zw_ireturn f78_25 r78 u78 ?_
      exact ⟨_, _, _, _, rfl, (KP.i rfl KP.rf), Or.inl ⟨(fun q => (fun q => q.2 hc2) q.1), ⟨hI.mono (by omega), PE.rf⟩, rfl⟩⟩
    · refine zw_iconst 1 11 f112_10 rfl (by decide +kernel) ?_
      refine zw_goto 15 f112_11 (by decide +kernel) ?_
      refine zw_zreturn f112_15 r112 u112 (by decide +kernel) ⟨_, rfl, ?_⟩
      refine zw_if_eq_f 9 20 f78_6 (by decide +kernel) rfl (by decide +kernel) ?_
      refine zw_iload_n 10 f78_9 rfl rfl ?_
      refine zw_iconst 1 11 f78_10 rfl (by decide +kernel) ?_
      refine zw_sipush 200 14 f78_11 rfl (by decide +kernel) ?_
      refine zw_static_i 17 0 0 [.int b, .int 1, .int 200] [] [(0, .int b), (1, .int 1), (2, .int 200)] f78_14 rfl k78_74_99 rfl (by decide +kernel) (Nat.le_of_ble_eq_true rfl) (Nat.le_of_ble_eq_true rfl) rfl rfl (by decide +kernel) (by decide +kernel) rfl (Nat.le_of_ble_eq_true rfl) rfl ?_
      refine zw_iload_n 1 f112_0 rfl rfl ?_
      refine zw_iload_n 2 f112_1 rfl rfl ?_
      refine zw_ic_lt 5 14 f112_2 (by decide +kernel) rfl (fun hc3 => ?_) (fun hc3 => ?_)
      · refine zw_iconst 0 15 f112_14 rfl (by decide +kernel) ?_
        refine zw_zreturn f112_15 r112 u112 (by decide +kernel) ⟨_, rfl, ?_⟩
        refine zw_if_ne_f 20 26 f78_17 (by decide +kernel) rfl (by decide +kernel) ?_
        refine zw_aload_n 21 f78_20 rfl rfl ?_
        refine zw_iconst 1 22 f78_21 rfl (by decide +kernel) ?_
        refine zw_virtual_i 25 0 0 [.ref 0, .int 1] [(0, .ref 0), (1, .int 1)] f78_22 rfl n78_78 k78_78_11 rfl (hb_0 _ _ _ _) (by decide +kernel) (Nat.le_of_ble_eq_true rfl) rfl rfl (by decide +kernel) (by decide +kernel) rfl (Nat.le_of_ble_eq_true rfl) rfl ?_
        refine zw_aload_n 1 f105_0 rfl rfl ?_
        refine zw_iload_n 2 f105_1 rfl rfl ?_
        refine zw_put _ 5 f105_2 rfl g105_70_11 (hb_0 _ _ _ _) rfl (Nat.le_of_ble_eq_true rfl) (by decide +kernel) (hi_0_7 _ _ _ _ _) ?_
        refine zw_iconst (-1) 6 f105_5 rfl (by decide +kernel) ?_
        refine zw_ireturn f105_6 r105 u105 ⟨_, rfl, ?_⟩
        refine zw_ireturn f78_25 r78 u78 ?_
        exact ⟨_, _, _, _, rfl, (KP.i rfl KP.rf), Or.inl ⟨(fun q => (fun q => q.1 hc3) q.2.1), ⟨hI.mono (by omega), PE.rf⟩, rfl⟩⟩
      · refine zw_iload_n 6 f112_5 rfl rfl ?_
        refine zw_iload_n 7 f112_6 rfl rfl ?_
        refine zw_ic_gt 10 14 f112_7 (by decide +kernel) rfl (fun hc4 => ?_) (fun hc4 => ?_)
        · refine zw_iconst 0 15 f112_14 rfl (by decide +kernel) ?_
          refine zw_zreturn f112_15 r112 u112 (by decide +kernel) ⟨_, rfl, ?_⟩
          refine zw_if_ne_f 20 26 f78_17 (by decide +kernel) rfl (by decide +kernel) ?_
          refine zw_aload_n 21 f78_20 rfl rfl ?_
          refine zw_iconst 1 22 f78_21 rfl (by decide +kernel) ?_
          refine zw_virtual_i 25 0 0 [.ref 0, .int 1] [(0, .ref 0), (1, .int 1)] f78_22 rfl n78_78 k78_78_11 rfl (hb_0 _ _ _ _) (by decide +kernel) (Nat.le_of_ble_eq_true rfl) rfl rfl (by decide +kernel) (by decide +kernel) rfl (Nat.le_of_ble_eq_true rfl) rfl ?_
          refine zw_aload_n 1 f105_0 rfl rfl ?_
          refine zw_iload_n 2 f105_1 rfl rfl ?_
          refine zw_put _ 5 f105_2 rfl g105_70_11 (hb_0 _ _ _ _) rfl (Nat.le_of_ble_eq_true rfl) (by decide +kernel) (hi_0_7 _ _ _ _ _) ?_
          refine zw_iconst (-1) 6 f105_5 rfl (by decide +kernel) ?_
          refine zw_ireturn f105_6 r105 u105 ⟨_, rfl, ?_⟩
          refine zw_ireturn f78_25 r78 u78 ?_
          exact ⟨_, _, _, _, rfl, (KP.i rfl KP.rf), Or.inl ⟨(fun q => (fun q => q.2 hc4) q.2.1), ⟨hI.mono (by omega), PE.rf⟩, rfl⟩⟩
        · refine zw_iconst 1 11 f112_10 rfl (by decide +kernel) ?_
          refine zw_goto 15 f112_11 (by decide +kernel) ?_
          refine zw_zreturn f112_15 r112 u112 (by decide +kernel) ⟨_, rfl, ?_⟩
          refine zw_if_ne_t 26 f78_17 (by decide +kernel) (by decide +kernel) ?_
          refine zw_aload_n 27 f78_26 rfl rfl ?_
          refine zw_getfield 30 f78_27 rfl g78_10_11 (hb_0 _ _ _ _) rfl ?_
          refine zw_iload_n 31 f78_30 rfl rfl ?_
          refine zw_iload_n 32 f78_31 rfl rfl ?_
          refine zw_virtual_i 35 0 0 [.ref 1, .int a, .int b] [(0, .ref 1), (1, .int a), (2, .int b)] f78_32 rfl n78_82 k78_82_4 rfl (hb_1 _ _ _ _) (by decide +kernel) (Nat.le_of_ble_eq_true rfl) rfl rfl (by decide +kernel) (by decide +kernel) rfl (Nat.le_of_ble_eq_true rfl) rfl ?_
          refine zw_aload_n 1 f20_0 rfl rfl ?_
          refine zw_getI (nI nv) 4 f20_1 rfl g20_39_4 (hb_1 _ _ _ _) rfl hI.1.1.1 ?_
          refine zw_istore_n _ 5 f20_4 rfl (by decide +kernel) rfl ?_
          refine zw_iload_n 6 f20_5 rfl zl1_eq ?_
          refine zw_bipush 8 8 f20_6 rfl (by decide +kernel) ?_
          refine zw_ic_lt 11 13 f20_8 (by decide +kernel) rfl (fun hc5 => ?_) (fun hc5 => ?_)
          · have hn_hc5 : nv < 8 := zn_lt (by omega) (by omega) (Int32.not_le.mpr hc5)
            refine zw_aload_n 14 f20_13 rfl (zl1_ne rfl rfl rfl) ?_
            refine zw_getfield 17 f20_14 rfl g20_9_4 (hb_1 _ _ _ _) rfl ?_
            refine zw_iload_n 18 f20_17 rfl zl1_eq ?_
            refine zw_iload_n 19 f20_18 rfl (zl1_ne rfl rfl rfl) ?_
            refine zw_ast nv _ 20 f20_19 rfl (hb_2 _ _ _ _) (nI_clamp (by omega)) (nI_pos (by omega)) (by omega) (ha_2 _ _ _ _ _) ?_
            refine zw_aload_n 21 f20_20 rfl (zl1_ne rfl rfl rfl) ?_
            refine zw_getfield 24 f20_21 rfl g20_15_4 (hb_1 _ _ _ _) rfl ?_
            refine zw_iload_n 25 f20_24 rfl zl1_eq ?_
            refine zw_iload_n 26 f20_25 rfl (zl1_ne rfl rfl rfl) ?_
            refine zw_ast nv _ 27 f20_26 rfl (hb_3 _ _ _ _) (nI_clamp (by omega)) (nI_pos (by omega)) (by omega) (ha_3 _ _ _ _ _) ?_
            refine zw_aload_n 28 f20_27 rfl (zl1_ne rfl rfl rfl) ?_
            refine zw_getfield 31 f20_28 rfl g20_18_4 (hb_1 _ _ _ _) rfl ?_
            refine zw_iload_n 32 f20_31 rfl zl1_eq ?_
            refine zw_iload_n 33 f20_32 rfl (zl1_ne rfl rfl rfl) ?_
            refine zw_if_eq 36 41 f20_33 (by decide +kernel) rfl (fun hc6 => ?_) (fun hc6 => ?_)
            · refine zw_iconst 0 42 f20_41 rfl (by decide +kernel) ?_
              refine zw_goto 46 f20_42 (by decide +kernel) ?_
              refine zw_ast nv _ 47 f20_46 rfl (hb_4 _ _ _ _) (nI_clamp (by omega)) (nI_pos (by omega)) (by omega) (ha_4 _ _ _ _ _) ?_
              refine zw_aload_n 48 f20_47 rfl (zl1_ne rfl rfl rfl) ?_
              refine zw_getfield 51 f20_48 rfl g20_21_4 (hb_1 _ _ _ _) rfl ?_
              refine zw_iload_n 52 f20_51 rfl zl1_eq ?_
              refine zw_iconst 0 53 f20_52 rfl (by decide +kernel) ?_
              refine zw_ast nv _ 54 f20_53 rfl (hb_5 _ _ _ _) (nI_clamp (by omega)) (nI_pos (by omega)) (by omega) (ha_5 _ _ _ _ _) ?_
              refine zw_aload_n 55 f20_54 rfl (zl1_ne rfl rfl rfl) ?_
              refine zw_getfield 58 f20_55 rfl g20_24_4 (hb_1 _ _ _ _) rfl ?_
              refine zw_iload_n 59 f20_58 rfl zl1_eq ?_
              refine zw_iconst (-1) 60 f20_59 rfl (by decide +kernel) ?_
              refine zw_ast nv _ 61 f20_60 rfl (hb_6 _ _ _ _) (nI_clamp (by omega)) (nI_pos (by omega)) (by omega) (ha_6 _ _ _ _ _) ?_
              refine zw_aload_n 62 f20_61 rfl (zl1_ne rfl rfl rfl) ?_
              refine zw_getfield 65 f20_62 rfl g20_27_4 (hb_1 _ _ _ _) rfl ?_
              refine zw_iload_n 66 f20_65 rfl zl1_eq ?_
              refine zw_iconst (-1) 67 f20_66 rfl (by decide +kernel) ?_
              refine zw_ast nv _ 68 f20_67 rfl (hb_7 _ _ _ _) (nI_clamp (by omega)) (nI_pos (by omega)) (by omega) (ha_7 _ _ _ _ _) ?_
              refine zw_aload_n 69 f20_68 rfl (zl1_ne rfl rfl rfl) ?_
              refine zw_getfield 72 f20_69 rfl g20_30_4 (hb_1 _ _ _ _) rfl ?_
              refine zw_iload_n 73 f20_72 rfl zl1_eq ?_
              refine zw_iconst (-1) 74 f20_73 rfl (by decide +kernel) ?_
              refine zw_ast nv _ 75 f20_74 rfl (hb_8 _ _ _ _) (nI_clamp (by omega)) (nI_pos (by omega)) (by omega) (ha_8 _ _ _ _ _) ?_
              refine zw_aload_n 76 f20_75 rfl (zl1_ne rfl rfl rfl) ?_
              refine zw_iload_n 77 f20_76 rfl zl1_eq ?_
              refine zw_iconst 1 78 f20_77 rfl (by decide +kernel) ?_
              refine zw_iadd (nI (nv + 1)) 79 f20_78 rfl (nI_add _ 1) ?_
              refine zw_put _ 82 f20_79 rfl g20_39_4 (hb_1 _ _ _ _) rfl (Nat.le_of_ble_eq_true rfl) (by decide +kernel) (hi_1_0 _ _ _ _ _) ?_
              refine zw_iload_n 83 f20_82 rfl zl1_eq ?_
              refine zw_ireturn f20_83 r20 u20 ⟨_, rfl, ?_⟩
              refine zw_istore_n _ 36 f78_35 rfl (by decide +kernel) rfl ?_
              refine zw_iload_n 37 f78_36 rfl zl1_eq ?_
              refine zw_iconst (-1) 38 f78_37 rfl (by decide +kernel) ?_
              refine zw_ic_ne_t 49 f78_38 (by decide +kernel) (nI_nem (by omega)) ?_
              refine zw_aload_n 50 f78_49 rfl (zl1_ne rfl rfl rfl) ?_
              refine zw_iload_n 51 f78_50 rfl zl1_eq ?_
              refine zw_virtual_i 54 0 0 [.ref 0, .int (nI nv)] [(0, .ref 0), (1, .int (nI nv))] f78_51 rfl n78_86 k78_86_11 rfl (hb_0 _ _ _ _) (by decide +kernel) (Nat.le_of_ble_eq_true rfl) rfl rfl (by decide +kernel) (by decide +kernel) rfl (Nat.le_of_ble_eq_true rfl) rfl ?_
              refine zw_aload_n 1 f107_0 rfl rfl ?_
              refine zw_getfield 4 f107_1 rfl g107_21_11 (hb_0 _ _ _ _) rfl ?_
              refine zw_virtual_v 7 0 0 [.ref 11] [(0, .ref 11)] f107_4 rfl n107_318 k107_318_10 rfl (hb_11 _ _ _ _) (by decide +kernel) (Nat.le_of_ble_eq_true rfl) rfl rfl (by decide +kernel) (by decide +kernel) rfl (Nat.le_of_ble_eq_true rfl) rfl ?_
              have hC_7 : CV (nv + 1) np cm (upd2 I 1 0 (nI (nv + 1))) := ⟨⟨⟨rfl, by omega⟩, hI.1.2⟩, hI.2⟩
              refine zWp.mono (ck_X10_settle_11 ro (nv + 1) np (upd2 I 1 0 (nI (nv + 1))) _ _ _ hC_7.1) ?_
              rintro r h1 ⟨I_7, G_7, A_7, B_7, rfl, K_7, C_7, rfl⟩
              refine ⟨rfl, ?_⟩
              have hV_7 : CV (nv + 1) np cm I_7 := CV.of (I := (upd2 I 1 0 (nI (nv + 1)))) hC_7 K_7 C_7
              refine zw_aload_n 8 f107_7 rfl rfl ?_
              refine zw_getfield 11 f107_8 rfl g107_31_11 (hb_0 _ _ _ _) rfl ?_
              refine zw_aload_n 12 f107_11 rfl rfl ?_
              refine zw_getfield 15 f107_12 rfl g107_21_11 (hb_0 _ _ _ _) rfl ?_
              refine zw_virtual_v 18 0 0 [.ref 33, .ref 11] [(0, .ref 33), (1, .ref 11)] f107_15 rfl n107_187 k107_187_3 rfl (hb_33 _ _ _ _) (by decide +kernel) (Nat.le_of_ble_eq_true rfl) rfl rfl (by decide +kernel) (by decide +kernel) rfl (Nat.le_of_ble_eq_true rfl) rfl ?_
              refine zWp.mono (cv_X3_take_33 ro (nv + 1) np cm _ _ _ _ hV_7 (by omega)) ?_
              rintro r h1 ⟨I_8, G_8, A_8, B_8, rfl, K_8, C_8, rfl⟩
              refine ⟨rfl, ?_⟩
              refine zw_aload_n 19 f107_18 rfl rfl ?_
              refine zw_iload_n 20 f107_19 rfl rfl ?_
              refine zw_virtual_i 23 0 0 [.ref 0, .int (nI nv)] [(0, .ref 0), (1, .int (nI nv))] f107_20 rfl n107_181 k107_181_11 rfl (hb_0 _ _ _ _) (by decide +kernel) (Nat.le_of_ble_eq_true rfl) rfl rfl (by decide +kernel) (by decide +kernel) rfl (Nat.le_of_ble_eq_true rfl) rfl ?_
              refine zw_aload_n 1 f106_0 rfl rfl ?_
              refine zw_iconst 0 2 f106_1 rfl (by decide +kernel) ?_
              refine zw_put _ 5 f106_2 rfl g106_70_11 (hb_0 _ _ _ _) rfl (Nat.le_of_ble_eq_true rfl) (by decide +kernel) (hi_0_7 _ _ _ _ _) ?_
              refine zw_iload_n 6 f106_5 rfl rfl ?_
              refine zw_ireturn f106_6 r106 u106 ⟨_, rfl, ?_⟩
              refine zw_ireturn f107_23 r107 u107 ⟨_, rfl, ?_⟩
              refine zw_ireturn f78_54 r78 u78 ?_
              exact ⟨_, _, _, _, rfl, (KP.i rfl (KP.tr (KP.tr (KP.i rfl (KP.a rfl (KP.a rfl (KP.a rfl (KP.a rfl (KP.a rfl (KP.a rfl (KP.a rfl KP.rf)))))))) (KP.wk K_7 (fun k h => pWN k (pNX k h)))) (KP.wk K_8 pNX))), Or.inr ⟨⟨⟨hc1, hc2⟩, ⟨hc3, hc4⟩, (by omega)⟩, ⟨C_8, PE.of10 ((K_8.2.2.1 2 rfl).trans (K_7.2.2.1 2 rfl)) ((K_8.2.2.1 3 rfl).trans (K_7.2.2.1 3 rfl)) (by rw [show (if a = 0 ∨ a = 2 then (0 : Int32) else b) = _ from if_pos (Or.inl hc6)]; exact ((K_8.2.2.1 4 rfl).trans (K_7.2.2.1 4 rfl))) ((K_8.2.2.1 5 rfl).trans (K_7.2.2.1 5 rfl)) ((K_8.2.2.1 6 rfl).trans (K_7.2.2.1 6 rfl)) ((K_8.2.2.1 7 rfl).trans (K_7.2.2.1 7 rfl)) ((K_8.2.2.1 8 rfl).trans (K_7.2.2.1 8 rfl)) ((K_8.2.2.1 9 rfl).trans (K_7.2.2.1 9 rfl)) ((K_8.2.2.1 10 rfl).trans (K_7.2.2.1 10 rfl)) ((K_8.2.2.1 15 rfl).trans (K_7.2.2.1 15 rfl))⟩, rfl⟩⟩
            · refine zw_iload_n 37 f20_36 rfl (zl1_ne rfl rfl rfl) ?_
              refine zw_iconst 2 38 f20_37 rfl (by decide +kernel) ?_
              refine zw_ic_ne 41 45 f20_38 (by decide +kernel) rfl (fun hc9 => ?_) (fun hc9 => ?_)
              · refine zw_iload_n 46 f20_45 rfl (zl1_ne rfl rfl rfl) ?_
                refine zw_ast nv _ 47 f20_46 rfl (hb_4 _ _ _ _) (nI_clamp (by omega)) (nI_pos (by omega)) (by omega) (ha_4 _ _ _ _ _) ?_
                refine zw_aload_n 48 f20_47 rfl (zl1_ne rfl rfl rfl) ?_
                refine zw_getfield 51 f20_48 rfl g20_21_4 (hb_1 _ _ _ _) rfl ?_
                refine zw_iload_n 52 f20_51 rfl zl1_eq ?_
                refine zw_iconst 0 53 f20_52 rfl (by decide +kernel) ?_
                refine zw_ast nv _ 54 f20_53 rfl (hb_5 _ _ _ _) (nI_clamp (by omega)) (nI_pos (by omega)) (by omega) (ha_5 _ _ _ _ _) ?_
                refine zw_aload_n 55 f20_54 rfl (zl1_ne rfl rfl rfl) ?_
                refine zw_getfield 58 f20_55 rfl g20_24_4 (hb_1 _ _ _ _) rfl ?_
                refine zw_iload_n 59 f20_58 rfl zl1_eq ?_
                refine zw_iconst (-1) 60 f20_59 rfl (by decide +kernel) ?_
                refine zw_ast nv _ 61 f20_60 rfl (hb_6 _ _ _ _) (nI_clamp (by omega)) (nI_pos (by omega)) (by omega) (ha_6 _ _ _ _ _) ?_
                refine zw_aload_n 62 f20_61 rfl (zl1_ne rfl rfl rfl) ?_
                refine zw_getfield 65 f20_62 rfl g20_27_4 (hb_1 _ _ _ _) rfl ?_
                refine zw_iload_n 66 f20_65 rfl zl1_eq ?_
                refine zw_iconst (-1) 67 f20_66 rfl (by decide +kernel) ?_
                refine zw_ast nv _ 68 f20_67 rfl (hb_7 _ _ _ _) (nI_clamp (by omega)) (nI_pos (by omega)) (by omega) (ha_7 _ _ _ _ _) ?_
                refine zw_aload_n 69 f20_68 rfl (zl1_ne rfl rfl rfl) ?_
                refine zw_getfield 72 f20_69 rfl g20_30_4 (hb_1 _ _ _ _) rfl ?_
                refine zw_iload_n 73 f20_72 rfl zl1_eq ?_
                refine zw_iconst (-1) 74 f20_73 rfl (by decide +kernel) ?_
                refine zw_ast nv _ 75 f20_74 rfl (hb_8 _ _ _ _) (nI_clamp (by omega)) (nI_pos (by omega)) (by omega) (ha_8 _ _ _ _ _) ?_
                refine zw_aload_n 76 f20_75 rfl (zl1_ne rfl rfl rfl) ?_
                refine zw_iload_n 77 f20_76 rfl zl1_eq ?_
                refine zw_iconst 1 78 f20_77 rfl (by decide +kernel) ?_
                refine zw_iadd (nI (nv + 1)) 79 f20_78 rfl (nI_add _ 1) ?_
                refine zw_put _ 82 f20_79 rfl g20_39_4 (hb_1 _ _ _ _) rfl (Nat.le_of_ble_eq_true rfl) (by decide +kernel) (hi_1_0 _ _ _ _ _) ?_
                refine zw_iload_n 83 f20_82 rfl zl1_eq ?_
                refine zw_ireturn f20_83 r20 u20 ⟨_, rfl, ?_⟩
                refine zw_istore_n _ 36 f78_35 rfl (by decide +kernel) rfl ?_
                refine zw_iload_n 37 f78_36 rfl zl1_eq ?_
                refine zw_iconst (-1) 38 f78_37 rfl (by decide +kernel) ?_
                refine zw_ic_ne_t 49 f78_38 (by decide +kernel) (nI_nem (by omega)) ?_
                refine zw_aload_n 50 f78_49 rfl (zl1_ne rfl rfl rfl) ?_
                refine zw_iload_n 51 f78_50 rfl zl1_eq ?_
                refine zw_virtual_i 54 0 0 [.ref 0, .int (nI nv)] [(0, .ref 0), (1, .int (nI nv))] f78_51 rfl n78_86 k78_86_11 rfl (hb_0 _ _ _ _) (by decide +kernel) (Nat.le_of_ble_eq_true rfl) rfl rfl (by decide +kernel) (by decide +kernel) rfl (Nat.le_of_ble_eq_true rfl) rfl ?_
                refine zw_aload_n 1 f107_0 rfl rfl ?_
                refine zw_getfield 4 f107_1 rfl g107_21_11 (hb_0 _ _ _ _) rfl ?_
                refine zw_virtual_v 7 0 0 [.ref 11] [(0, .ref 11)] f107_4 rfl n107_318 k107_318_10 rfl (hb_11 _ _ _ _) (by decide +kernel) (Nat.le_of_ble_eq_true rfl) rfl rfl (by decide +kernel) (by decide +kernel) rfl (Nat.le_of_ble_eq_true rfl) rfl ?_
                have hC_10 : CV (nv + 1) np cm (upd2 I 1 0 (nI (nv + 1))) := ⟨⟨⟨rfl, by omega⟩, hI.1.2⟩, hI.2⟩
                refine zWp.mono (ck_X10_settle_11 ro (nv + 1) np (upd2 I 1 0 (nI (nv + 1))) _ _ _ hC_10.1) ?_
                rintro r h1 ⟨I_10, G_10, A_10, B_10, rfl, K_10, C_10, rfl⟩
                refine ⟨rfl, ?_⟩
                have hV_10 : CV (nv + 1) np cm I_10 := CV.of (I := (upd2 I 1 0 (nI (nv + 1)))) hC_10 K_10 C_10
                refine zw_aload_n 8 f107_7 rfl rfl ?_
                refine zw_getfield 11 f107_8 rfl g107_31_11 (hb_0 _ _ _ _) rfl ?_
                refine zw_aload_n 12 f107_11 rfl rfl ?_
                refine zw_getfield 15 f107_12 rfl g107_21_11 (hb_0 _ _ _ _) rfl ?_
                refine zw_virtual_v 18 0 0 [.ref 33, .ref 11] [(0, .ref 33), (1, .ref 11)] f107_15 rfl n107_187 k107_187_3 rfl (hb_33 _ _ _ _) (by decide +kernel) (Nat.le_of_ble_eq_true rfl) rfl rfl (by decide +kernel) (by decide +kernel) rfl (Nat.le_of_ble_eq_true rfl) rfl ?_
                refine zWp.mono (cv_X3_take_33 ro (nv + 1) np cm _ _ _ _ hV_10 (by omega)) ?_
                rintro r h1 ⟨I_11, G_11, A_11, B_11, rfl, K_11, C_11, rfl⟩
                refine ⟨rfl, ?_⟩
                refine zw_aload_n 19 f107_18 rfl rfl ?_
                refine zw_iload_n 20 f107_19 rfl rfl ?_
                refine zw_virtual_i 23 0 0 [.ref 0, .int (nI nv)] [(0, .ref 0), (1, .int (nI nv))] f107_20 rfl n107_181 k107_181_11 rfl (hb_0 _ _ _ _) (by decide +kernel) (Nat.le_of_ble_eq_true rfl) rfl rfl (by decide +kernel) (by decide +kernel) rfl (Nat.le_of_ble_eq_true rfl) rfl ?_
                refine zw_aload_n 1 f106_0 rfl rfl ?_
                refine zw_iconst 0 2 f106_1 rfl (by decide +kernel) ?_
                refine zw_put _ 5 f106_2 rfl g106_70_11 (hb_0 _ _ _ _) rfl (Nat.le_of_ble_eq_true rfl) (by decide +kernel) (hi_0_7 _ _ _ _ _) ?_
                refine zw_iload_n 6 f106_5 rfl rfl ?_
                refine zw_ireturn f106_6 r106 u106 ⟨_, rfl, ?_⟩
                refine zw_ireturn f107_23 r107 u107 ⟨_, rfl, ?_⟩
                refine zw_ireturn f78_54 r78 u78 ?_
                exact ⟨_, _, _, _, rfl, (KP.i rfl (KP.tr (KP.tr (KP.i rfl (KP.a rfl (KP.a rfl (KP.a rfl (KP.a rfl (KP.a rfl (KP.a rfl (KP.a rfl KP.rf)))))))) (KP.wk K_10 (fun k h => pWN k (pNX k h)))) (KP.wk K_11 pNX))), Or.inr ⟨⟨⟨hc1, hc2⟩, ⟨hc3, hc4⟩, (by omega)⟩, ⟨C_11, PE.of10 ((K_11.2.2.1 2 rfl).trans (K_10.2.2.1 2 rfl)) ((K_11.2.2.1 3 rfl).trans (K_10.2.2.1 3 rfl)) (by rw [show (if a = 0 ∨ a = 2 then (0 : Int32) else b) = _ from if_neg (fun q => q.elim hc6 hc9)]; exact ((K_11.2.2.1 4 rfl).trans (K_10.2.2.1 4 rfl))) ((K_11.2.2.1 5 rfl).trans (K_10.2.2.1 5 rfl)) ((K_11.2.2.1 6 rfl).trans (K_10.2.2.1 6 rfl)) ((K_11.2.2.1 7 rfl).trans (K_10.2.2.1 7 rfl)) ((K_11.2.2.1 8 rfl).trans (K_10.2.2.1 8 rfl)) ((K_11.2.2.1 9 rfl).trans (K_10.2.2.1 9 rfl)) ((K_11.2.2.1 10 rfl).trans (K_10.2.2.1 10 rfl)) ((K_11.2.2.1 15 rfl).trans (K_10.2.2.1 15 rfl))⟩, rfl⟩⟩
              · refine zw_iconst 0 42 f20_41 rfl (by decide +kernel) ?_
                refine zw_goto 46 f20_42 (by decide +kernel) ?_
                refine zw_ast nv _ 47 f20_46 rfl (hb_4 _ _ _ _) (nI_clamp (by omega)) (nI_pos (by omega)) (by omega) (ha_4 _ _ _ _ _) ?_
                refine zw_aload_n 48 f20_47 rfl (zl1_ne rfl rfl rfl) ?_
                refine zw_getfield 51 f20_48 rfl g20_21_4 (hb_1 _ _ _ _) rfl ?_
                refine zw_iload_n 52 f20_51 rfl zl1_eq ?_
                refine zw_iconst 0 53 f20_52 rfl (by decide +kernel) ?_
                refine zw_ast nv _ 54 f20_53 rfl (hb_5 _ _ _ _) (nI_clamp (by omega)) (nI_pos (by omega)) (by omega) (ha_5 _ _ _ _ _) ?_
                refine zw_aload_n 55 f20_54 rfl (zl1_ne rfl rfl rfl) ?_
                refine zw_getfield 58 f20_55 rfl g20_24_4 (hb_1 _ _ _ _) rfl ?_
                refine zw_iload_n 59 f20_58 rfl zl1_eq ?_
                refine zw_iconst (-1) 60 f20_59 rfl (by decide +kernel) ?_
                refine zw_ast nv _ 61 f20_60 rfl (hb_6 _ _ _ _) (nI_clamp (by omega)) (nI_pos (by omega)) (by omega) (ha_6 _ _ _ _ _) ?_
                refine zw_aload_n 62 f20_61 rfl (zl1_ne rfl rfl rfl) ?_
                refine zw_getfield 65 f20_62 rfl g20_27_4 (hb_1 _ _ _ _) rfl ?_
                refine zw_iload_n 66 f20_65 rfl zl1_eq ?_
                refine zw_iconst (-1) 67 f20_66 rfl (by decide +kernel) ?_
                refine zw_ast nv _ 68 f20_67 rfl (hb_7 _ _ _ _) (nI_clamp (by omega)) (nI_pos (by omega)) (by omega) (ha_7 _ _ _ _ _) ?_
                refine zw_aload_n 69 f20_68 rfl (zl1_ne rfl rfl rfl) ?_
                refine zw_getfield 72 f20_69 rfl g20_30_4 (hb_1 _ _ _ _) rfl ?_
                refine zw_iload_n 73 f20_72 rfl zl1_eq ?_
                refine zw_iconst (-1) 74 f20_73 rfl (by decide +kernel) ?_
                refine zw_ast nv _ 75 f20_74 rfl (hb_8 _ _ _ _) (nI_clamp (by omega)) (nI_pos (by omega)) (by omega) (ha_8 _ _ _ _ _) ?_
                refine zw_aload_n 76 f20_75 rfl (zl1_ne rfl rfl rfl) ?_
                refine zw_iload_n 77 f20_76 rfl zl1_eq ?_
                refine zw_iconst 1 78 f20_77 rfl (by decide +kernel) ?_
                refine zw_iadd (nI (nv + 1)) 79 f20_78 rfl (nI_add _ 1) ?_
                refine zw_put _ 82 f20_79 rfl g20_39_4 (hb_1 _ _ _ _) rfl (Nat.le_of_ble_eq_true rfl) (by decide +kernel) (hi_1_0 _ _ _ _ _) ?_
                refine zw_iload_n 83 f20_82 rfl zl1_eq ?_
                refine zw_ireturn f20_83 r20 u20 ⟨_, rfl, ?_⟩
                refine zw_istore_n _ 36 f78_35 rfl (by decide +kernel) rfl ?_
                refine zw_iload_n 37 f78_36 rfl zl1_eq ?_
                refine zw_iconst (-1) 38 f78_37 rfl (by decide +kernel) ?_
                refine zw_ic_ne_t 49 f78_38 (by decide +kernel) (nI_nem (by omega)) ?_
                refine zw_aload_n 50 f78_49 rfl (zl1_ne rfl rfl rfl) ?_
                refine zw_iload_n 51 f78_50 rfl zl1_eq ?_
                refine zw_virtual_i 54 0 0 [.ref 0, .int (nI nv)] [(0, .ref 0), (1, .int (nI nv))] f78_51 rfl n78_86 k78_86_11 rfl (hb_0 _ _ _ _) (by decide +kernel) (Nat.le_of_ble_eq_true rfl) rfl rfl (by decide +kernel) (by decide +kernel) rfl (Nat.le_of_ble_eq_true rfl) rfl ?_
                refine zw_aload_n 1 f107_0 rfl rfl ?_
                refine zw_getfield 4 f107_1 rfl g107_21_11 (hb_0 _ _ _ _) rfl ?_
                refine zw_virtual_v 7 0 0 [.ref 11] [(0, .ref 11)] f107_4 rfl n107_318 k107_318_10 rfl (hb_11 _ _ _ _) (by decide +kernel) (Nat.le_of_ble_eq_true rfl) rfl rfl (by decide +kernel) (by decide +kernel) rfl (Nat.le_of_ble_eq_true rfl) rfl ?_
                have hC_12 : CV (nv + 1) np cm (upd2 I 1 0 (nI (nv + 1))) := ⟨⟨⟨rfl, by omega⟩, hI.1.2⟩, hI.2⟩
                refine zWp.mono (ck_X10_settle_11 ro (nv + 1) np (upd2 I 1 0 (nI (nv + 1))) _ _ _ hC_12.1) ?_
                rintro r h1 ⟨I_12, G_12, A_12, B_12, rfl, K_12, C_12, rfl⟩
                refine ⟨rfl, ?_⟩
                have hV_12 : CV (nv + 1) np cm I_12 := CV.of (I := (upd2 I 1 0 (nI (nv + 1)))) hC_12 K_12 C_12
                refine zw_aload_n 8 f107_7 rfl rfl ?_
                refine zw_getfield 11 f107_8 rfl g107_31_11 (hb_0 _ _ _ _) rfl ?_
                refine zw_aload_n 12 f107_11 rfl rfl ?_
                refine zw_getfield 15 f107_12 rfl g107_21_11 (hb_0 _ _ _ _) rfl ?_
                refine zw_virtual_v 18 0 0 [.ref 33, .ref 11] [(0, .ref 33), (1, .ref 11)] f107_15 rfl n107_187 k107_187_3 rfl (hb_33 _ _ _ _) (by decide +kernel) (Nat.le_of_ble_eq_true rfl) rfl rfl (by decide +kernel) (by decide +kernel) rfl (Nat.le_of_ble_eq_true rfl) rfl ?_
                refine zWp.mono (cv_X3_take_33 ro (nv + 1) np cm _ _ _ _ hV_12 (by omega)) ?_
                rintro r h1 ⟨I_13, G_13, A_13, B_13, rfl, K_13, C_13, rfl⟩
                refine ⟨rfl, ?_⟩
                refine zw_aload_n 19 f107_18 rfl rfl ?_
                refine zw_iload_n 20 f107_19 rfl rfl ?_
                refine zw_virtual_i 23 0 0 [.ref 0, .int (nI nv)] [(0, .ref 0), (1, .int (nI nv))] f107_20 rfl n107_181 k107_181_11 rfl (hb_0 _ _ _ _) (by decide +kernel) (Nat.le_of_ble_eq_true rfl) rfl rfl (by decide +kernel) (by decide +kernel) rfl (Nat.le_of_ble_eq_true rfl) rfl ?_
                refine zw_aload_n 1 f106_0 rfl rfl ?_
                refine zw_iconst 0 2 f106_1 rfl (by decide +kernel) ?_
                refine zw_put _ 5 f106_2 rfl g106_70_11 (hb_0 _ _ _ _) rfl (Nat.le_of_ble_eq_true rfl) (by decide +kernel) (hi_0_7 _ _ _ _ _) ?_
                refine zw_iload_n 6 f106_5 rfl rfl ?_
                refine zw_ireturn f106_6 r106 u106 ⟨_, rfl, ?_⟩
                refine zw_ireturn f107_23 r107 u107 ⟨_, rfl, ?_⟩
                refine zw_ireturn f78_54 r78 u78 ?_
                exact ⟨_, _, _, _, rfl, (KP.i rfl (KP.tr (KP.tr (KP.i rfl (KP.a rfl (KP.a rfl (KP.a rfl (KP.a rfl (KP.a rfl (KP.a rfl (KP.a rfl KP.rf)))))))) (KP.wk K_12 (fun k h => pWN k (pNX k h)))) (KP.wk K_13 pNX))), Or.inr ⟨⟨⟨hc1, hc2⟩, ⟨hc3, hc4⟩, (by omega)⟩, ⟨C_13, PE.of10 ((K_13.2.2.1 2 rfl).trans (K_12.2.2.1 2 rfl)) ((K_13.2.2.1 3 rfl).trans (K_12.2.2.1 3 rfl)) (by rw [show (if a = 0 ∨ a = 2 then (0 : Int32) else b) = _ from if_pos (Or.inr (Decidable.of_not_not hc9))]; exact ((K_13.2.2.1 4 rfl).trans (K_12.2.2.1 4 rfl))) ((K_13.2.2.1 5 rfl).trans (K_12.2.2.1 5 rfl)) ((K_13.2.2.1 6 rfl).trans (K_12.2.2.1 6 rfl)) ((K_13.2.2.1 7 rfl).trans (K_12.2.2.1 7 rfl)) ((K_13.2.2.1 8 rfl).trans (K_12.2.2.1 8 rfl)) ((K_13.2.2.1 9 rfl).trans (K_12.2.2.1 9 rfl)) ((K_13.2.2.1 10 rfl).trans (K_12.2.2.1 10 rfl)) ((K_13.2.2.1 15 rfl).trans (K_12.2.2.1 15 rfl))⟩, rfl⟩⟩
          · have hn_hc5 : 8 ≤ nv := zn_ge (by omega) (by omega) (Int32.not_lt.mp hc5)
            refine zw_iconst (-1) 12 f20_11 rfl (by decide +kernel) ?_
            refine zw_ireturn f20_12 r20 u20 ⟨_, rfl, ?_⟩
            refine zw_istore_n _ 36 f78_35 rfl (by decide +kernel) rfl ?_
            refine zw_iload_n 37 f78_36 rfl zl1_eq ?_
            refine zw_iconst (-1) 38 f78_37 rfl (by decide +kernel) ?_
            refine zw_ic_ne_f 41 49 f78_38 (by decide +kernel) rfl (by decide +kernel) ?_
            refine zw_aload_n 42 f78_41 rfl (zl1_ne rfl rfl rfl) ?_
            refine zw_iconst 2 43 f78_42 rfl (by decide +kernel) ?_
            refine zw_virtual_i 46 0 0 [.ref 0, .int 2] [(0, .ref 0), (1, .int 2)] f78_43 rfl n78_78 k78_78_11 rfl (hb_0 _ _ _ _) (by decide +kernel) (Nat.le_of_ble_eq_true rfl) rfl rfl (by decide +kernel) (by decide +kernel) rfl (Nat.le_of_ble_eq_true rfl) rfl ?_
            refine zw_aload_n 1 f105_0 rfl rfl ?_
            refine zw_iload_n 2 f105_1 rfl rfl ?_
            refine zw_put _ 5 f105_2 rfl g105_70_11 (hb_0 _ _ _ _) rfl (Nat.le_of_ble_eq_true rfl) (by decide +kernel) (hi_0_7 _ _ _ _ _) ?_
            refine zw_iconst (-1) 6 f105_5 rfl (by decide +kernel) ?_
            refine zw_ireturn f105_6 r105 u105 ⟨_, rfl, ?_⟩
            refine zw_goto 54 f78_46 (by decide +kernel) ?_
            refine zw_ireturn f78_54 r78 u78 ?_
            exact ⟨_, _, _, _, rfl, (KP.i rfl KP.rf), Or.inl ⟨(fun q => (fun q => q (by omega)) q.2.2), ⟨hI.mono (by omega), PE.rf⟩, rfl⟩⟩
set_option maxRecDepth 100000 in
set_option maxHeartbeats 0 in
theorem cm_marks (ro : UInt32 → Nat × (Nat → Int32)) (nv np cm : Nat) (I : Nat → Nat → Int32) (G : Nat → Nat → Int64) (A : Nat → Nat → Int32) (B : Nat → Nat → Int64) (hI : CV nv np cm I) (hcm : cm < 900000000) (hQ : qKd nv (cP A)) (a : Int32) (b : Int32) (c : Int32) : zWp ro 79 0 [(0, .ref 0), (1, .int a), (2, .int b), (3, .int c)] [] (hS I G A B) 0 0 (fun r h1 => ∃ I2 G2 A2 B2, h1 = hS I2 G2 A2 B2 ∧ KP pX I G A B I2 G2 A2 B2 ∧ ((¬ ok_marks nv np (cP A) a b c ∧ cSt nv np (cm + 8) (cP A) I2 A2 ∧ r = some (.int (-1))) ∨ (ok_marks nv np (cP A) a b c ∧ cSt nv np (cm + 8) (updA (updA (cP A) 55 (upd ((cP A) 55) a.toNatClampNeg b)) 56 (upd ((updA (cP A) 55 (upd ((cP A) 55) a.toNatClampNeg b)) 56) a.toNatClampNeg (if cP A 53 a.toNatClampNeg = 1 then 0 else c))) I2 A2 ∧ r = some (.int 1)))) := by
  have h8 := hI.1.1.2
  have h14 := hI.1.2.1.2
  obtain ⟨t, ht, et⟩ := hI.2.2
  refine zw_aload_n 1 f79_0 rfl rfl ?_
  refine zw_getfield 4 f79_1 rfl g79_10_11 (hb_0 _ _ _ _) rfl ?_
  refine zw_iload_n 5 f79_4 rfl rfl ?_
  refine zw_virtual_i 8 0 0 [.ref 1, .int a] [(0, .ref 1), (1, .int a)] f79_5 rfl n79_89 k79_89_4 rfl (hb_1 _ _ _ _) (by decide +kernel) (Nat.le_of_ble_eq_true rfl) rfl rfl (by decide +kernel) (by decide +kernel) rfl (Nat.le_of_ble_eq_true rfl) rfl ?_
  refine zw_iload_n 1 f13_0 rfl rfl ?_
  refine zw_if_lt 4 22 f13_1 (by decide +kernel) rfl (fun hc1 => ?_) (fun hc1 => ?_)
  · refine zw_iconst 0 23 f13_22 rfl (by decide +kernel) ?_
    refine zw_zreturn f13_23 r13 u13 (by decide +kernel) ⟨_, rfl, ?_⟩
    refine zw_if_ne_f 11 17 f79_8 (by decide +kernel) rfl (by decide +kernel) ?_
    refine zw_aload_n 12 f79_11 rfl rfl ?_
    refine zw_iconst 1 13 f79_12 rfl (by decide +kernel) ?_
    refine zw_virtual_i 16 0 0 [.ref 0, .int 1] [(0, .ref 0), (1, .int 1)] f79_13 rfl n79_78 k79_78_11 rfl (hb_0 _ _ _ _) (by decide +kernel) (Nat.le_of_ble_eq_true rfl) rfl rfl (by decide +kernel) (by decide +kernel) rfl (Nat.le_of_ble_eq_true rfl) rfl ?_
    refine zw_aload_n 1 f105_0 rfl rfl ?_
    refine zw_iload_n 2 f105_1 rfl rfl ?_
    refine zw_put _ 5 f105_2 rfl g105_70_11 (hb_0 _ _ _ _) rfl (Nat.le_of_ble_eq_true rfl) (by decide +kernel) (hi_0_7 _ _ _ _ _) ?_
    refine zw_iconst (-1) 6 f105_5 rfl (by decide +kernel) ?_
    refine zw_ireturn f105_6 r105 u105 ⟨_, rfl, ?_⟩
    refine zw_ireturn f79_16 r79 u79 ?_
    exact ⟨_, _, _, _, rfl, (KP.i rfl KP.rf), Or.inl ⟨(fun q => (qV.n0 (by omega) hc1) q.1), ⟨hI.mono (by omega), PE.rf⟩, rfl⟩⟩
  · refine zw_iload_n 5 f13_4 rfl rfl ?_
    refine zw_aload_n 6 f13_5 rfl rfl ?_
    refine zw_getI (nI nv) 9 f13_6 rfl g13_39_4 (hb_1 _ _ _ _) rfl hI.1.1.1 ?_
    refine zw_ic_ge 12 22 f13_9 (by decide +kernel) rfl (fun hc2 => ?_) (fun hc2 => ?_)
    · refine zw_iconst 0 23 f13_22 rfl (by decide +kernel) ?_
      refine zw_zreturn f13_23 r13 u13 (by decide +kernel) ⟨_, rfl, ?_⟩
      refine zw_if_ne_f 11 17 f79_8 (by decide +kernel) rfl (by decide +kernel) ?_
      refine zw_aload_n 12 f79_11 rfl rfl ?_
      refine zw_iconst 1 13 f79_12 rfl (by decide +kernel) ?_
      refine zw_virtual_i 16 0 0 [.ref 0, .int 1] [(0, .ref 0), (1, .int 1)] f79_13 rfl n79_78 k79_78_11 rfl (hb_0 _ _ _ _) (by decide +kernel) (Nat.le_of_ble_eq_true rfl) rfl rfl (by decide +kernel) (by decide +kernel) rfl (Nat.le_of_ble_eq_true rfl) rfl ?_
      refine zw_aload_n 1 f105_0 rfl rfl ?_
      refine zw_iload_n 2 f105_1 rfl rfl ?_
      refine zw_put _ 5 f105_2 rfl g105_70_11 (hb_0 _ _ _ _) rfl (Nat.le_of_ble_eq_true rfl) (by decide +kernel) (hi_0_7 _ _ _ _ _) ?_
      refine zw_iconst (-1) 6 f105_5 rfl (by decide +kernel) ?_
      refine zw_ireturn f105_6 r105 u105 ⟨_, rfl, ?_⟩
      refine zw_ireturn f79_16 r79 u79 ?_
      exact ⟨_, _, _, _, rfl, (KP.i rfl KP.rf), Or.inl ⟨(fun q => (qV.n2 (by omega) hc2) q.1), ⟨hI.mono (by omega), PE.rf⟩, rfl⟩⟩
    · refine zw_iload_n 13 f13_12 rfl rfl ?_
      refine zw_bipush 8 15 f13_13 rfl (by decide +kernel) ?_
      refine zw_ic_ge 18 22 f13_15 (by decide +kernel) rfl (fun hc3 => ?_) (fun hc3 => ?_)
      · refine zw_iconst 0 23 f13_22 rfl (by decide +kernel) ?_
        refine zw_zreturn f13_23 r13 u13 (by decide +kernel) ⟨_, rfl, ?_⟩
        refine zw_if_ne_f 11 17 f79_8 (by decide +kernel) rfl (by decide +kernel) ?_
        refine zw_aload_n 12 f79_11 rfl rfl ?_
        refine zw_iconst 1 13 f79_12 rfl (by decide +kernel) ?_
        refine zw_virtual_i 16 0 0 [.ref 0, .int 1] [(0, .ref 0), (1, .int 1)] f79_13 rfl n79_78 k79_78_11 rfl (hb_0 _ _ _ _) (by decide +kernel) (Nat.le_of_ble_eq_true rfl) rfl rfl (by decide +kernel) (by decide +kernel) rfl (Nat.le_of_ble_eq_true rfl) rfl ?_
        refine zw_aload_n 1 f105_0 rfl rfl ?_
        refine zw_iload_n 2 f105_1 rfl rfl ?_
        refine zw_put _ 5 f105_2 rfl g105_70_11 (hb_0 _ _ _ _) rfl (Nat.le_of_ble_eq_true rfl) (by decide +kernel) (hi_0_7 _ _ _ _ _) ?_
        refine zw_iconst (-1) 6 f105_5 rfl (by decide +kernel) ?_
        refine zw_ireturn f105_6 r105 u105 ⟨_, rfl, ?_⟩
        refine zw_ireturn f79_16 r79 u79 ?_
        exact ⟨_, _, _, _, rfl, (KP.i rfl KP.rf), Or.inl ⟨(fun q => (qV.n3 (m := 8) (N := 8) (by omega) (by omega) (by decide) hc3) q.1), ⟨hI.mono (by omega), PE.rf⟩, rfl⟩⟩
      · refine zw_iconst 1 19 f13_18 rfl (by decide +kernel) ?_
        refine zw_goto 23 f13_19 (by decide +kernel) ?_
        refine zw_zreturn f13_23 r13 u13 (by decide +kernel) ⟨_, rfl, ?_⟩
        refine zw_if_ne_t 17 f79_8 (by decide +kernel) (by decide +kernel) ?_
        refine zw_aload_n 18 f79_17 rfl rfl ?_
        refine zw_getfield 21 f79_18 rfl g79_10_11 (hb_0 _ _ _ _) rfl ?_
        refine zw_iload_n 22 f79_21 rfl rfl ?_
        refine zw_virtual_i 25 0 0 [.ref 1, .int a] [(0, .ref 1), (1, .int a)] f79_22 rfl n79_93 k79_93_4 rfl (hb_1 _ _ _ _) (by decide +kernel) (Nat.le_of_ble_eq_true rfl) rfl rfl (by decide +kernel) (by decide +kernel) rfl (Nat.le_of_ble_eq_true rfl) rfl ?_
        refine zw_aload_n 1 f18_0 rfl rfl ?_
        refine zw_iload_n 2 f18_1 rfl rfl ?_
        refine zw_virtual_i 5 0 0 [.ref 1, .int a] [(0, .ref 1), (1, .int a)] f18_2 rfl n18_50 k18_50_4 rfl (hb_1 _ _ _ _) (by decide +kernel) (Nat.le_of_ble_eq_true rfl) rfl rfl (by decide +kernel) (by decide +kernel) rfl (Nat.le_of_ble_eq_true rfl) rfl ?_
        refine zw_iload_n 1 f15_0 rfl rfl ?_
        refine zw_if_lt_f 4 27 f15_1 (by decide +kernel) rfl hc1 ?_
        refine zw_iload_n 5 f15_4 rfl rfl ?_
        refine zw_aload_n 6 f15_5 rfl rfl ?_
        refine zw_getI (nI nv) 9 f15_6 rfl g15_39_4 (hb_1 _ _ _ _) rfl hI.1.1.1 ?_
        refine zw_ic_ge_f 12 27 f15_9 (by decide +kernel) rfl hc2 ?_
        refine zw_iload_n 13 f15_12 rfl rfl ?_
        refine zw_bipush 8 15 f15_13 rfl (by decide +kernel) ?_
        refine zw_ic_ge_f 18 27 f15_15 (by decide +kernel) rfl hc3 ?_
        refine zw_aload_n 19 f15_18 rfl rfl ?_
        refine zw_getfield 22 f15_19 rfl g15_9_4 (hb_1 _ _ _ _) rfl ?_
        refine zw_iload_n 23 f15_22 rfl rfl ?_
        refine zw_iaload a.toNatClampNeg (A 2 a.toNatClampNeg) 24 f15_23 rfl (hb_2 _ _ _ _) rfl hc1 (zix (by decide) hc1 hc3) rfl ?_
        refine zw_goto 28 f15_24 (by decide +kernel) ?_
        refine zw_ireturn f15_28 r15 u15 ⟨_, rfl, ?_⟩
        refine zw_iconst 1 6 f18_5 rfl (by decide +kernel) ?_
        refine zw_ic_eq 9 17 f18_6 (by decide +kernel) rfl (fun hc4 => ?_) (fun hc4 => ?_)
        · refine zw_iconst 1 18 f18_17 rfl (by decide +kernel) ?_
          refine zw_goto 22 f18_18 (by decide +kernel) ?_
          refine zw_zreturn f18_22 r18 u18 (by decide +kernel) ⟨_, rfl, ?_⟩
          refine zw_if_ne_t 34 f79_25 (by decide +kernel) (by decide +kernel) ?_
          refine zw_iload_n 35 f79_34 rfl rfl ?_
          refine zw_iconst 1 36 f79_35 rfl (by decide +kernel) ?_
          refine zw_aload_n 37 f79_36 rfl rfl ?_
          refine zw_getfield 40 f79_37 rfl g79_10_11 (hb_0 _ _ _ _) rfl ?_
          refine zw_getfield 43 f79_40 rfl g79_96_4 (hb_1 _ _ _ _) rfl ?_
          refine zw_iload_n 44 f79_43 rfl rfl ?_
          refine zw_iaload a.toNatClampNeg (A 3 a.toNatClampNeg) 45 f79_44 rfl (hb_3 _ _ _ _) rfl hc1 (zix (by decide) hc1 hc3) rfl ?_
          refine zw_static_i 48 0 0 [.int b, .int 1, .int (A 3 a.toNatClampNeg)] [] [(0, .int b), (1, .int 1), (2, .int (A 3 a.toNatClampNeg))] f79_45 rfl k79_74_99 rfl (by decide +kernel) (Nat.le_of_ble_eq_true rfl) (Nat.le_of_ble_eq_true rfl) rfl rfl (by decide +kernel) (by decide +kernel) rfl (Nat.le_of_ble_eq_true rfl) rfl ?_
          refine zw_iload_n 1 f112_0 rfl rfl ?_
          refine zw_iload_n 2 f112_1 rfl rfl ?_
          refine zw_ic_lt 5 14 f112_2 (by decide +kernel) rfl (fun hc5 => ?_) (fun hc5 => ?_)
          · refine zw_iconst 0 15 f112_14 rfl (by decide +kernel) ?_
            refine zw_zreturn f112_15 r112 u112 (by decide +kernel) ⟨_, rfl, ?_⟩
            refine zw_if_ne_f 51 57 f79_48 (by decide +kernel) rfl (by decide +kernel) ?_
            refine zw_aload_n 52 f79_51 rfl rfl ?_
            refine zw_iconst 1 53 f79_52 rfl (by decide +kernel) ?_
            refine zw_virtual_i 56 0 0 [.ref 0, .int 1] [(0, .ref 0), (1, .int 1)] f79_53 rfl n79_78 k79_78_11 rfl (hb_0 _ _ _ _) (by decide +kernel) (Nat.le_of_ble_eq_true rfl) rfl rfl (by decide +kernel) (by decide +kernel) rfl (Nat.le_of_ble_eq_true rfl) rfl ?_
            refine zw_aload_n 1 f105_0 rfl rfl ?_
            refine zw_iload_n 2 f105_1 rfl rfl ?_
            refine zw_put _ 5 f105_2 rfl g105_70_11 (hb_0 _ _ _ _) rfl (Nat.le_of_ble_eq_true rfl) (by decide +kernel) (hi_0_7 _ _ _ _ _) ?_
            refine zw_iconst (-1) 6 f105_5 rfl (by decide +kernel) ?_
            refine zw_ireturn f105_6 r105 u105 ⟨_, rfl, ?_⟩
            refine zw_ireturn f79_56 r79 u79 ?_
            exact ⟨_, _, _, _, rfl, (KP.i rfl KP.rf), Or.inl ⟨(fun q => (fun q => q.1 hc5) q.2.2.1), ⟨hI.mono (by omega), PE.rf⟩, rfl⟩⟩
          · refine zw_iload_n 6 f112_5 rfl rfl ?_
            refine zw_iload_n 7 f112_6 rfl rfl ?_
            refine zw_ic_gt 10 14 f112_7 (by decide +kernel) rfl (fun hc6 => ?_) (fun hc6 => ?_)
            · refine zw_iconst 0 15 f112_14 rfl (by decide +kernel) ?_
              refine zw_zreturn f112_15 r112 u112 (by decide +kernel) ⟨_, rfl, ?_⟩
              refine zw_if_ne_f 51 57 f79_48 (by decide +kernel) rfl (by decide +kernel) ?_
              refine zw_aload_n 52 f79_51 rfl rfl ?_
              refine zw_iconst 1 53 f79_52 rfl (by decide +kernel) ?_
              refine zw_virtual_i 56 0 0 [.ref 0, .int 1] [(0, .ref 0), (1, .int 1)] f79_53 rfl n79_78 k79_78_11 rfl (hb_0 _ _ _ _) (by decide +kernel) (Nat.le_of_ble_eq_true rfl) rfl rfl (by decide +kernel) (by decide +kernel) rfl (Nat.le_of_ble_eq_true rfl) rfl ?_
              refine zw_aload_n 1 f105_0 rfl rfl ?_
              refine zw_iload_n 2 f105_1 rfl rfl ?_
              refine zw_put _ 5 f105_2 rfl g105_70_11 (hb_0 _ _ _ _) rfl (Nat.le_of_ble_eq_true rfl) (by decide +kernel) (hi_0_7 _ _ _ _ _) ?_
              refine zw_iconst (-1) 6 f105_5 rfl (by decide +kernel) ?_
              refine zw_ireturn f105_6 r105 u105 ⟨_, rfl, ?_⟩
              refine zw_ireturn f79_56 r79 u79 ?_
              exact ⟨_, _, _, _, rfl, (KP.i rfl KP.rf), Or.inl ⟨(fun q => (fun q => q.2 hc6) q.2.2.1), ⟨hI.mono (by omega), PE.rf⟩, rfl⟩⟩
            · refine zw_iconst 1 11 f112_10 rfl (by decide +kernel) ?_
              refine zw_goto 15 f112_11 (by decide +kernel) ?_
              refine zw_zreturn f112_15 r112 u112 (by decide +kernel) ⟨_, rfl, ?_⟩
              refine zw_if_ne_t 57 f79_48 (by decide +kernel) (by decide +kernel) ?_
              refine zw_aload_n 58 f79_57 rfl rfl ?_
              refine zw_getfield 61 f79_58 rfl g79_10_11 (hb_0 _ _ _ _) rfl ?_
              refine zw_iload_n 62 f79_61 rfl rfl ?_
              refine zw_virtual_i 65 0 0 [.ref 1, .int a] [(0, .ref 1), (1, .int a)] f79_62 rfl n79_100 k79_100_4 rfl (hb_1 _ _ _ _) (by decide +kernel) (Nat.le_of_ble_eq_true rfl) rfl rfl (by decide +kernel) (by decide +kernel) rfl (Nat.le_of_ble_eq_true rfl) rfl ?_
              refine zw_iload_n 1 f17_0 rfl rfl ?_
              refine zw_if_lt_f 4 22 f17_1 (by decide +kernel) rfl hc1 ?_
              refine zw_iload_n 5 f17_4 rfl rfl ?_
              refine zw_aload_n 6 f17_5 rfl rfl ?_
              refine zw_getI (nI nv) 9 f17_6 rfl g17_39_4 (hb_1 _ _ _ _) rfl hI.1.1.1 ?_
              refine zw_ic_ge_f 12 22 f17_9 (by decide +kernel) rfl hc2 ?_
              refine zw_iload_n 13 f17_12 rfl rfl ?_
              refine zw_bipush 8 15 f17_13 rfl (by decide +kernel) ?_
              refine zw_ic_ge_f 18 22 f17_15 (by decide +kernel) rfl hc3 ?_
              refine zw_iconst 1 19 f17_18 rfl (by decide +kernel) ?_
              refine zw_goto 23 f17_19 (by decide +kernel) ?_
              refine zw_istore_n _ 24 f17_23 rfl (by decide +kernel) rfl ?_
              refine zw_iload_n 25 f17_24 rfl zl1_eq ?_
              refine zw_if_eq_f 28 52 f17_25 (by decide +kernel) rfl (by decide +kernel) ?_
              refine zw_aload_n 29 f17_28 rfl (zl1_ne rfl rfl rfl) ?_
              refine zw_getfield 32 f17_29 rfl g17_9_4 (hb_1 _ _ _ _) rfl ?_
              refine zw_iload_n 33 f17_32 rfl (zl1_ne rfl rfl rfl) ?_
              refine zw_iaload a.toNatClampNeg (A 2 a.toNatClampNeg) 34 f17_33 rfl (hb_2 _ _ _ _) rfl hc1 (zix (by decide) hc1 hc3) rfl ?_
              refine zw_iconst 3 35 f17_34 rfl (by decide +kernel) ?_
              refine zw_ic_eq 38 48 f17_35 (by decide +kernel) rfl (fun hc7 => ?_) (fun hc7 => ?_)
              · refine zw_iconst 1 49 f17_48 rfl (by decide +kernel) ?_
                refine zw_goto 53 f17_49 (by decide +kernel) ?_
                refine zw_zreturn f17_53 r17 u17 (by decide +kernel) ⟨_, rfl, ?_⟩
                refine zw_if_eq_f 68 95 f79_65 (by decide +kernel) rfl (by decide +kernel) ?_
                refine zw_iload_n 69 f79_68 rfl rfl ?_
                refine zw_iconst 0 70 f79_69 rfl (by decide +kernel) ?_
                refine zw_iload_n 71 f79_70 rfl rfl ?_
                refine zw_iconst 1 72 f79_71 rfl (by decide +kernel) ?_
                refine zw_isub (b - 1) 73 f79_72 rfl rfl ?_
                refine zw_static_i 76 0 0 [.int c, .int 0, .int (b - 1)] [] [(0, .int c), (1, .int 0), (2, .int (b - 1))] f79_73 rfl k79_74_99 rfl (by decide +kernel) (Nat.le_of_ble_eq_true rfl) (Nat.le_of_ble_eq_true rfl) rfl rfl (by decide +kernel) (by decide +kernel) rfl (Nat.le_of_ble_eq_true rfl) rfl ?_
                refine zw_iload_n 1 f112_0 rfl rfl ?_
                refine zw_iload_n 2 f112_1 rfl rfl ?_
                refine zw_ic_lt 5 14 f112_2 (by decide +kernel) rfl (fun hc8 => ?_) (fun hc8 => ?_)
                · refine zw_iconst 0 15 f112_14 rfl (by decide +kernel) ?_
                  refine zw_zreturn f112_15 r112 u112 (by decide +kernel) ⟨_, rfl, ?_⟩
                  refine zw_if_ne_f 79 85 f79_76 (by decide +kernel) rfl (by decide +kernel) ?_
                  refine zw_aload_n 80 f79_79 rfl rfl ?_
                  refine zw_iconst 1 81 f79_80 rfl (by decide +kernel) ?_
                  refine zw_virtual_i 84 0 0 [.ref 0, .int 1] [(0, .ref 0), (1, .int 1)] f79_81 rfl n79_78 k79_78_11 rfl (hb_0 _ _ _ _) (by decide +kernel) (Nat.le_of_ble_eq_true rfl) rfl rfl (by decide +kernel) (by decide +kernel) rfl (Nat.le_of_ble_eq_true rfl) rfl ?_
                  refine zw_aload_n 1 f105_0 rfl rfl ?_
                  refine zw_iload_n 2 f105_1 rfl rfl ?_
                  refine zw_put _ 5 f105_2 rfl g105_70_11 (hb_0 _ _ _ _) rfl (Nat.le_of_ble_eq_true rfl) (by decide +kernel) (hi_0_7 _ _ _ _ _) ?_
                  refine zw_iconst (-1) 6 f105_5 rfl (by decide +kernel) ?_
                  refine zw_ireturn f105_6 r105 u105 ⟨_, rfl, ?_⟩
                  refine zw_ireturn f79_84 r79 u79 ?_
                  exact ⟨_, _, _, _, rfl, (KP.i rfl KP.rf), Or.inl ⟨(fun q => (fun q => q.elim (kne hc7 (by decide)) (fun q => q.1 hc8)) q.2.2.2), ⟨hI.mono (by omega), PE.rf⟩, rfl⟩⟩
                · refine zw_iload_n 6 f112_5 rfl rfl ?_
                  refine zw_iload_n 7 f112_6 rfl rfl ?_
                  refine zw_ic_gt 10 14 f112_7 (by decide +kernel) rfl (fun hc9 => ?_) (fun hc9 => ?_)
                  · refine zw_iconst 0 15 f112_14 rfl (by decide +kernel) ?_
                    refine zw_zreturn f112_15 r112 u112 (by decide +kernel) ⟨_, rfl, ?_⟩
                    refine zw_if_ne_f 79 85 f79_76 (by decide +kernel) rfl (by decide +kernel) ?_
                    refine zw_aload_n 80 f79_79 rfl rfl ?_
                    refine zw_iconst 1 81 f79_80 rfl (by decide +kernel) ?_
                    refine zw_virtual_i 84 0 0 [.ref 0, .int 1] [(0, .ref 0), (1, .int 1)] f79_81 rfl n79_78 k79_78_11 rfl (hb_0 _ _ _ _) (by decide +kernel) (Nat.le_of_ble_eq_true rfl) rfl rfl (by decide +kernel) (by decide +kernel) rfl (Nat.le_of_ble_eq_true rfl) rfl ?_
                    refine zw_aload_n 1 f105_0 rfl rfl ?_
                    refine zw_iload_n 2 f105_1 rfl rfl ?_
                    refine zw_put _ 5 f105_2 rfl g105_70_11 (hb_0 _ _ _ _) rfl (Nat.le_of_ble_eq_true rfl) (by decide +kernel) (hi_0_7 _ _ _ _ _) ?_
                    refine zw_iconst (-1) 6 f105_5 rfl (by decide +kernel) ?_
                    refine zw_ireturn f105_6 r105 u105 ⟨_, rfl, ?_⟩
                    refine zw_ireturn f79_84 r79 u79 ?_
                    exact ⟨_, _, _, _, rfl, (KP.i rfl KP.rf), Or.inl ⟨(fun q => (fun q => q.elim (kne hc7 (by decide)) (fun q => q.2 hc9)) q.2.2.2), ⟨hI.mono (by omega), PE.rf⟩, rfl⟩⟩
                  · refine zw_iconst 1 11 f112_10 rfl (by decide +kernel) ?_
                    refine zw_goto 15 f112_11 (by decide +kernel) ?_
                    refine zw_zreturn f112_15 r112 u112 (by decide +kernel) ⟨_, rfl, ?_⟩
                    refine zw_if_ne_t 85 f79_76 (by decide +kernel) (by decide +kernel) ?_
                    refine zw_aload_n 86 f79_85 rfl rfl ?_
                    refine zw_getfield 89 f79_86 rfl g79_10_11 (hb_0 _ _ _ _) rfl ?_
                    refine zw_getfield 92 f79_89 rfl g79_103_4 (hb_1 _ _ _ _) rfl ?_
                    refine zw_iload_n 93 f79_92 rfl rfl ?_
                    refine zw_iload_n 94 f79_93 rfl rfl ?_
                    refine zw_ast a.toNatClampNeg _ 95 f79_94 rfl (hb_5 _ _ _ _) rfl hc1 (zix (by decide) hc1 hc3) (ha_5 _ _ _ _ _) ?_
                    refine zw_aload_n 96 f79_95 rfl rfl ?_
                    refine zw_getfield 99 f79_96 rfl g79_10_11 (hb_0 _ _ _ _) rfl ?_
                    refine zw_getfield 102 f79_99 rfl g79_106_4 (hb_1 _ _ _ _) rfl ?_
                    refine zw_iload_n 103 f79_102 rfl rfl ?_
                    refine zw_iload_n 104 f79_103 rfl rfl ?_
                    refine zw_ast a.toNatClampNeg _ 105 f79_104 rfl (hb_4 _ _ _ _) rfl hc1 (zix (by decide) hc1 hc3) (ha_4 _ _ _ _ _) ?_
                    refine zw_aload_n 106 f79_105 rfl rfl ?_
                    refine zw_iconst 1 107 f79_106 rfl (by decide +kernel) ?_
                    refine zw_virtual_i 110 0 0 [.ref 0, .int 1] [(0, .ref 0), (1, .int 1)] f79_107 rfl n79_86 k79_86_11 rfl (hb_0 _ _ _ _) (by decide +kernel) (Nat.le_of_ble_eq_true rfl) rfl rfl (by decide +kernel) (by decide +kernel) rfl (Nat.le_of_ble_eq_true rfl) rfl ?_
                    refine zw_aload_n 1 f107_0 rfl rfl ?_
                    refine zw_getfield 4 f107_1 rfl g107_21_11 (hb_0 _ _ _ _) rfl ?_
                    refine zw_virtual_v 7 0 0 [.ref 11] [(0, .ref 11)] f107_4 rfl n107_318 k107_318_10 rfl (hb_11 _ _ _ _) (by decide +kernel) (Nat.le_of_ble_eq_true rfl) rfl rfl (by decide +kernel) (by decide +kernel) rfl (Nat.le_of_ble_eq_true rfl) rfl ?_
                    have hC_10 : CV nv np cm I := hI
                    refine zWp.mono (ck_X10_settle_11 ro nv np I _ _ _ hC_10.1) ?_
                    rintro r h1 ⟨I_10, G_10, A_10, B_10, rfl, K_10, C_10, rfl⟩
                    refine ⟨rfl, ?_⟩
                    have hV_10 : CV nv np cm I_10 := CV.of (I := I) hC_10 K_10 C_10
                    refine zw_aload_n 8 f107_7 rfl rfl ?_
                    refine zw_getfield 11 f107_8 rfl g107_31_11 (hb_0 _ _ _ _) rfl ?_
                    refine zw_aload_n 12 f107_11 rfl rfl ?_
                    refine zw_getfield 15 f107_12 rfl g107_21_11 (hb_0 _ _ _ _) rfl ?_
                    refine zw_virtual_v 18 0 0 [.ref 33, .ref 11] [(0, .ref 33), (1, .ref 11)] f107_15 rfl n107_187 k107_187_3 rfl (hb_33 _ _ _ _) (by decide +kernel) (Nat.le_of_ble_eq_true rfl) rfl rfl (by decide +kernel) (by decide +kernel) rfl (Nat.le_of_ble_eq_true rfl) rfl ?_
                    refine zWp.mono (cv_X3_take_33 ro nv np cm _ _ _ _ hV_10 (by omega)) ?_
                    rintro r h1 ⟨I_11, G_11, A_11, B_11, rfl, K_11, C_11, rfl⟩
                    refine ⟨rfl, ?_⟩
                    refine zw_aload_n 19 f107_18 rfl rfl ?_
                    refine zw_iload_n 20 f107_19 rfl rfl ?_
                    refine zw_virtual_i 23 0 0 [.ref 0, .int 1] [(0, .ref 0), (1, .int 1)] f107_20 rfl n107_181 k107_181_11 rfl (hb_0 _ _ _ _) (by decide +kernel) (Nat.le_of_ble_eq_true rfl) rfl rfl (by decide +kernel) (by decide +kernel) rfl (Nat.le_of_ble_eq_true rfl) rfl ?_
                    refine zw_aload_n 1 f106_0 rfl rfl ?_
                    refine zw_iconst 0 2 f106_1 rfl (by decide +kernel) ?_
                    refine zw_put _ 5 f106_2 rfl g106_70_11 (hb_0 _ _ _ _) rfl (Nat.le_of_ble_eq_true rfl) (by decide +kernel) (hi_0_7 _ _ _ _ _) ?_
                    refine zw_iload_n 6 f106_5 rfl rfl ?_
                    refine zw_ireturn f106_6 r106 u106 ⟨_, rfl, ?_⟩
                    refine zw_ireturn f107_23 r107 u107 ⟨_, rfl, ?_⟩
                    refine zw_ireturn f79_110 r79 u79 ?_
                    exact ⟨_, _, _, _, rfl, (KP.i rfl (KP.tr (KP.tr (KP.a rfl (KP.a rfl KP.rf)) (KP.wk K_10 (fun k h => pWN k (pNX k h)))) (KP.wk K_11 pNX))), Or.inr ⟨⟨(qV.ofc (by omega) hc1 hc2), ⟨kne hc4 (by decide), kne hc4 (by decide)⟩, ⟨hc5, hc6⟩, (Or.inl hc4)⟩, ⟨C_11, PE.of10 ((K_11.2.2.1 2 rfl).trans (K_10.2.2.1 2 rfl)) ((K_11.2.2.1 3 rfl).trans (K_10.2.2.1 3 rfl)) ((K_11.2.2.1 4 rfl).trans (K_10.2.2.1 4 rfl)) (absurd hc7 (kne hc4 (by decide))) ((K_11.2.2.1 6 rfl).trans (K_10.2.2.1 6 rfl)) ((K_11.2.2.1 7 rfl).trans (K_10.2.2.1 7 rfl)) ((K_11.2.2.1 8 rfl).trans (K_10.2.2.1 8 rfl)) ((K_11.2.2.1 9 rfl).trans (K_10.2.2.1 9 rfl)) ((K_11.2.2.1 10 rfl).trans (K_10.2.2.1 10 rfl)) ((K_11.2.2.1 15 rfl).trans (K_10.2.2.1 15 rfl))⟩, rfl⟩⟩
              · refine zw_aload_n 39 f17_38 rfl (zl1_ne rfl rfl rfl) ?_
                refine zw_getfield 42 f17_39 rfl g17_9_4 (hb_1 _ _ _ _) rfl ?_
                refine zw_iload_n 43 f17_42 rfl (zl1_ne rfl rfl rfl) ?_
                refine zw_iaload a.toNatClampNeg (A 2 a.toNatClampNeg) 44 f17_43 rfl (hb_2 _ _ _ _) rfl hc1 (zix (by decide) hc1 hc3) rfl ?_
                refine zw_iconst 4 45 f17_44 rfl (by decide +kernel) ?_
                refine zw_ic_ne 48 52 f17_45 (by decide +kernel) rfl (fun hc12 => ?_) (fun hc12 => ?_)
                · refine zw_iconst 0 53 f17_52 rfl (by decide +kernel) ?_
                  refine zw_zreturn f17_53 r17 u17 (by decide +kernel) ⟨_, rfl, ?_⟩
                  refine zw_if_eq_t 95 f79_65 (by decide +kernel) (by decide +kernel) ?_
                  refine zw_aload_n 96 f79_95 rfl rfl ?_
                  refine zw_getfield 99 f79_96 rfl g79_10_11 (hb_0 _ _ _ _) rfl ?_
                  refine zw_getfield 102 f79_99 rfl g79_106_4 (hb_1 _ _ _ _) rfl ?_
                  refine zw_iload_n 103 f79_102 rfl rfl ?_
                  refine zw_iload_n 104 f79_103 rfl rfl ?_
                  refine zw_ast a.toNatClampNeg _ 105 f79_104 rfl (hb_4 _ _ _ _) rfl hc1 (zix (by decide) hc1 hc3) (ha_4 _ _ _ _ _) ?_
                  refine zw_aload_n 106 f79_105 rfl rfl ?_
                  refine zw_iconst 1 107 f79_106 rfl (by decide +kernel) ?_
                  refine zw_virtual_i 110 0 0 [.ref 0, .int 1] [(0, .ref 0), (1, .int 1)] f79_107 rfl n79_86 k79_86_11 rfl (hb_0 _ _ _ _) (by decide +kernel) (Nat.le_of_ble_eq_true rfl) rfl rfl (by decide +kernel) (by decide +kernel) rfl (Nat.le_of_ble_eq_true rfl) rfl ?_
                  refine zw_aload_n 1 f107_0 rfl rfl ?_
                  refine zw_getfield 4 f107_1 rfl g107_21_11 (hb_0 _ _ _ _) rfl ?_
                  refine zw_virtual_v 7 0 0 [.ref 11] [(0, .ref 11)] f107_4 rfl n107_318 k107_318_10 rfl (hb_11 _ _ _ _) (by decide +kernel) (Nat.le_of_ble_eq_true rfl) rfl rfl (by decide +kernel) (by decide +kernel) rfl (Nat.le_of_ble_eq_true rfl) rfl ?_
                  have hC_13 : CV nv np cm I := hI
                  refine zWp.mono (ck_X10_settle_11 ro nv np I _ _ _ hC_13.1) ?_
                  rintro r h1 ⟨I_13, G_13, A_13, B_13, rfl, K_13, C_13, rfl⟩
                  refine ⟨rfl, ?_⟩
                  have hV_13 : CV nv np cm I_13 := CV.of (I := I) hC_13 K_13 C_13
                  refine zw_aload_n 8 f107_7 rfl rfl ?_
                  refine zw_getfield 11 f107_8 rfl g107_31_11 (hb_0 _ _ _ _) rfl ?_
                  refine zw_aload_n 12 f107_11 rfl rfl ?_
                  refine zw_getfield 15 f107_12 rfl g107_21_11 (hb_0 _ _ _ _) rfl ?_
                  refine zw_virtual_v 18 0 0 [.ref 33, .ref 11] [(0, .ref 33), (1, .ref 11)] f107_15 rfl n107_187 k107_187_3 rfl (hb_33 _ _ _ _) (by decide +kernel) (Nat.le_of_ble_eq_true rfl) rfl rfl (by decide +kernel) (by decide +kernel) rfl (Nat.le_of_ble_eq_true rfl) rfl ?_
                  refine zWp.mono (cv_X3_take_33 ro nv np cm _ _ _ _ hV_13 (by omega)) ?_
                  rintro r h1 ⟨I_14, G_14, A_14, B_14, rfl, K_14, C_14, rfl⟩
                  refine ⟨rfl, ?_⟩
                  refine zw_aload_n 19 f107_18 rfl rfl ?_
                  refine zw_iload_n 20 f107_19 rfl rfl ?_
                  refine zw_virtual_i 23 0 0 [.ref 0, .int 1] [(0, .ref 0), (1, .int 1)] f107_20 rfl n107_181 k107_181_11 rfl (hb_0 _ _ _ _) (by decide +kernel) (Nat.le_of_ble_eq_true rfl) rfl rfl (by decide +kernel) (by decide +kernel) rfl (Nat.le_of_ble_eq_true rfl) rfl ?_
                  refine zw_aload_n 1 f106_0 rfl rfl ?_
                  refine zw_iconst 0 2 f106_1 rfl (by decide +kernel) ?_
                  refine zw_put _ 5 f106_2 rfl g106_70_11 (hb_0 _ _ _ _) rfl (Nat.le_of_ble_eq_true rfl) (by decide +kernel) (hi_0_7 _ _ _ _ _) ?_
                  refine zw_iload_n 6 f106_5 rfl rfl ?_
                  refine zw_ireturn f106_6 r106 u106 ⟨_, rfl, ?_⟩
                  refine zw_ireturn f107_23 r107 u107 ⟨_, rfl, ?_⟩
                  refine zw_ireturn f79_110 r79 u79 ?_
                  exact ⟨_, _, _, _, rfl, (KP.i rfl (KP.tr (KP.tr (KP.a rfl KP.rf) (KP.wk K_13 (fun k h => pWN k (pNX k h)))) (KP.wk K_14 pNX))), Or.inr ⟨⟨(qV.ofc (by omega) hc1 hc2), ⟨kne hc4 (by decide), kne hc4 (by decide)⟩, ⟨hc5, hc6⟩, (Or.inl hc4)⟩, ⟨C_14, PE.of10 ((K_14.2.2.1 2 rfl).trans (K_13.2.2.1 2 rfl)) ((K_14.2.2.1 3 rfl).trans (K_13.2.2.1 3 rfl)) ((K_14.2.2.1 4 rfl).trans (K_13.2.2.1 4 rfl)) (by rw [show (if cP A 53 a.toNatClampNeg = 1 then (0 : Int32) else c) = 0 from if_pos hc4]; exact (((K_14.2.2.1 5 rfl).trans (K_13.2.2.1 5 rfl))).trans (upd_sm (hQ.2 _ ((qV.ofc (by omega) hc1 hc2)).1 hc4))) ((K_14.2.2.1 6 rfl).trans (K_13.2.2.1 6 rfl)) ((K_14.2.2.1 7 rfl).trans (K_13.2.2.1 7 rfl)) ((K_14.2.2.1 8 rfl).trans (K_13.2.2.1 8 rfl)) ((K_14.2.2.1 9 rfl).trans (K_13.2.2.1 9 rfl)) ((K_14.2.2.1 10 rfl).trans (K_13.2.2.1 10 rfl)) ((K_14.2.2.1 15 rfl).trans (K_13.2.2.1 15 rfl))⟩, rfl⟩⟩
                · refine zw_iconst 1 49 f17_48 rfl (by decide +kernel) ?_
                  refine zw_goto 53 f17_49 (by decide +kernel) ?_
                  refine zw_zreturn f17_53 r17 u17 (by decide +kernel) ⟨_, rfl, ?_⟩
                  refine zw_if_eq_f 68 95 f79_65 (by decide +kernel) rfl (by decide +kernel) ?_
                  refine zw_iload_n 69 f79_68 rfl rfl ?_
                  refine zw_iconst 0 70 f79_69 rfl (by decide +kernel) ?_
                  refine zw_iload_n 71 f79_70 rfl rfl ?_
                  refine zw_iconst 1 72 f79_71 rfl (by decide +kernel) ?_
                  refine zw_isub (b - 1) 73 f79_72 rfl rfl ?_
                  refine zw_static_i 76 0 0 [.int c, .int 0, .int (b - 1)] [] [(0, .int c), (1, .int 0), (2, .int (b - 1))] f79_73 rfl k79_74_99 rfl (by decide +kernel) (Nat.le_of_ble_eq_true rfl) (Nat.le_of_ble_eq_true rfl) rfl rfl (by decide +kernel) (by decide +kernel) rfl (Nat.le_of_ble_eq_true rfl) rfl ?_
                  refine zw_iload_n 1 f112_0 rfl rfl ?_
                  refine zw_iload_n 2 f112_1 rfl rfl ?_
                  refine zw_ic_lt 5 14 f112_2 (by decide +kernel) rfl (fun hc15 => ?_) (fun hc15 => ?_)
                  · refine zw_iconst 0 15 f112_14 rfl (by decide +kernel) ?_
                    refine zw_zreturn f112_15 r112 u112 (by decide +kernel) ⟨_, rfl, ?_⟩
                    refine zw_if_ne_f 79 85 f79_76 (by decide +kernel) rfl (by decide +kernel) ?_
                    refine zw_aload_n 80 f79_79 rfl rfl ?_
                    refine zw_iconst 1 81 f79_80 rfl (by decide +kernel) ?_
                    refine zw_virtual_i 84 0 0 [.ref 0, .int 1] [(0, .ref 0), (1, .int 1)] f79_81 rfl n79_78 k79_78_11 rfl (hb_0 _ _ _ _) (by decide +kernel) (Nat.le_of_ble_eq_true rfl) rfl rfl (by decide +kernel) (by decide +kernel) rfl (Nat.le_of_ble_eq_true rfl) rfl ?_
                    refine zw_aload_n 1 f105_0 rfl rfl ?_
                    refine zw_iload_n 2 f105_1 rfl rfl ?_
                    refine zw_put _ 5 f105_2 rfl g105_70_11 (hb_0 _ _ _ _) rfl (Nat.le_of_ble_eq_true rfl) (by decide +kernel) (hi_0_7 _ _ _ _ _) ?_
                    refine zw_iconst (-1) 6 f105_5 rfl (by decide +kernel) ?_
                    refine zw_ireturn f105_6 r105 u105 ⟨_, rfl, ?_⟩
                    refine zw_ireturn f79_84 r79 u79 ?_
                    exact ⟨_, _, _, _, rfl, (KP.i rfl KP.rf), Or.inl ⟨(fun q => (fun q => q.elim (kne (Decidable.of_not_not hc12) (by decide)) (fun q => q.1 hc15)) q.2.2.2), ⟨hI.mono (by omega), PE.rf⟩, rfl⟩⟩
                  · refine zw_iload_n 6 f112_5 rfl rfl ?_
                    refine zw_iload_n 7 f112_6 rfl rfl ?_
                    refine zw_ic_gt 10 14 f112_7 (by decide +kernel) rfl (fun hc16 => ?_) (fun hc16 => ?_)
                    · refine zw_iconst 0 15 f112_14 rfl (by decide +kernel) ?_
                      refine zw_zreturn f112_15 r112 u112 (by decide +kernel) ⟨_, rfl, ?_⟩
                      refine zw_if_ne_f 79 85 f79_76 (by decide +kernel) rfl (by decide +kernel) ?_
                      refine zw_aload_n 80 f79_79 rfl rfl ?_
                      refine zw_iconst 1 81 f79_80 rfl (by decide +kernel) ?_
                      refine zw_virtual_i 84 0 0 [.ref 0, .int 1] [(0, .ref 0), (1, .int 1)] f79_81 rfl n79_78 k79_78_11 rfl (hb_0 _ _ _ _) (by decide +kernel) (Nat.le_of_ble_eq_true rfl) rfl rfl (by decide +kernel) (by decide +kernel) rfl (Nat.le_of_ble_eq_true rfl) rfl ?_
                      refine zw_aload_n 1 f105_0 rfl rfl ?_
                      refine zw_iload_n 2 f105_1 rfl rfl ?_
                      refine zw_put _ 5 f105_2 rfl g105_70_11 (hb_0 _ _ _ _) rfl (Nat.le_of_ble_eq_true rfl) (by decide +kernel) (hi_0_7 _ _ _ _ _) ?_
                      refine zw_iconst (-1) 6 f105_5 rfl (by decide +kernel) ?_
                      refine zw_ireturn f105_6 r105 u105 ⟨_, rfl, ?_⟩
                      refine zw_ireturn f79_84 r79 u79 ?_
                      exact ⟨_, _, _, _, rfl, (KP.i rfl KP.rf), Or.inl ⟨(fun q => (fun q => q.elim (kne (Decidable.of_not_not hc12) (by decide)) (fun q => q.2 hc16)) q.2.2.2), ⟨hI.mono (by omega), PE.rf⟩, rfl⟩⟩
                    · refine zw_iconst 1 11 f112_10 rfl (by decide +kernel) ?_
                      refine zw_goto 15 f112_11 (by decide +kernel) ?_
                      refine zw_zreturn f112_15 r112 u112 (by decide +kernel) ⟨_, rfl, ?_⟩
                      refine zw_if_ne_t 85 f79_76 (by decide +kernel) (by decide +kernel) ?_
                      refine zw_aload_n 86 f79_85 rfl rfl ?_
                      refine zw_getfield 89 f79_86 rfl g79_10_11 (hb_0 _ _ _ _) rfl ?_
                      refine zw_getfield 92 f79_89 rfl g79_103_4 (hb_1 _ _ _ _) rfl ?_
                      refine zw_iload_n 93 f79_92 rfl rfl ?_
                      refine zw_iload_n 94 f79_93 rfl rfl ?_
                      refine zw_ast a.toNatClampNeg _ 95 f79_94 rfl (hb_5 _ _ _ _) rfl hc1 (zix (by decide) hc1 hc3) (ha_5 _ _ _ _ _) ?_
                      refine zw_aload_n 96 f79_95 rfl rfl ?_
                      refine zw_getfield 99 f79_96 rfl g79_10_11 (hb_0 _ _ _ _) rfl ?_
                      refine zw_getfield 102 f79_99 rfl g79_106_4 (hb_1 _ _ _ _) rfl ?_
                      refine zw_iload_n 103 f79_102 rfl rfl ?_
                      refine zw_iload_n 104 f79_103 rfl rfl ?_
                      refine zw_ast a.toNatClampNeg _ 105 f79_104 rfl (hb_4 _ _ _ _) rfl hc1 (zix (by decide) hc1 hc3) (ha_4 _ _ _ _ _) ?_
                      refine zw_aload_n 106 f79_105 rfl rfl ?_
                      refine zw_iconst 1 107 f79_106 rfl (by decide +kernel) ?_
                      refine zw_virtual_i 110 0 0 [.ref 0, .int 1] [(0, .ref 0), (1, .int 1)] f79_107 rfl n79_86 k79_86_11 rfl (hb_0 _ _ _ _) (by decide +kernel) (Nat.le_of_ble_eq_true rfl) rfl rfl (by decide +kernel) (by decide +kernel) rfl (Nat.le_of_ble_eq_true rfl) rfl ?_
                      refine zw_aload_n 1 f107_0 rfl rfl ?_
                      refine zw_getfield 4 f107_1 rfl g107_21_11 (hb_0 _ _ _ _) rfl ?_
                      refine zw_virtual_v 7 0 0 [.ref 11] [(0, .ref 11)] f107_4 rfl n107_318 k107_318_10 rfl (hb_11 _ _ _ _) (by decide +kernel) (Nat.le_of_ble_eq_true rfl) rfl rfl (by decide +kernel) (by decide +kernel) rfl (Nat.le_of_ble_eq_true rfl) rfl ?_
                      have hC_17 : CV nv np cm I := hI
                      refine zWp.mono (ck_X10_settle_11 ro nv np I _ _ _ hC_17.1) ?_
                      rintro r h1 ⟨I_17, G_17, A_17, B_17, rfl, K_17, C_17, rfl⟩
                      refine ⟨rfl, ?_⟩
                      have hV_17 : CV nv np cm I_17 := CV.of (I := I) hC_17 K_17 C_17
                      refine zw_aload_n 8 f107_7 rfl rfl ?_
                      refine zw_getfield 11 f107_8 rfl g107_31_11 (hb_0 _ _ _ _) rfl ?_
                      refine zw_aload_n 12 f107_11 rfl rfl ?_
                      refine zw_getfield 15 f107_12 rfl g107_21_11 (hb_0 _ _ _ _) rfl ?_
                      refine zw_virtual_v 18 0 0 [.ref 33, .ref 11] [(0, .ref 33), (1, .ref 11)] f107_15 rfl n107_187 k107_187_3 rfl (hb_33 _ _ _ _) (by decide +kernel) (Nat.le_of_ble_eq_true rfl) rfl rfl (by decide +kernel) (by decide +kernel) rfl (Nat.le_of_ble_eq_true rfl) rfl ?_
                      refine zWp.mono (cv_X3_take_33 ro nv np cm _ _ _ _ hV_17 (by omega)) ?_
                      rintro r h1 ⟨I_18, G_18, A_18, B_18, rfl, K_18, C_18, rfl⟩
                      refine ⟨rfl, ?_⟩
                      refine zw_aload_n 19 f107_18 rfl rfl ?_
                      refine zw_iload_n 20 f107_19 rfl rfl ?_
                      refine zw_virtual_i 23 0 0 [.ref 0, .int 1] [(0, .ref 0), (1, .int 1)] f107_20 rfl n107_181 k107_181_11 rfl (hb_0 _ _ _ _) (by decide +kernel) (Nat.le_of_ble_eq_true rfl) rfl rfl (by decide +kernel) (by decide +kernel) rfl (Nat.le_of_ble_eq_true rfl) rfl ?_
                      refine zw_aload_n 1 f106_0 rfl rfl ?_
                      refine zw_iconst 0 2 f106_1 rfl (by decide +kernel) ?_
                      refine zw_put _ 5 f106_2 rfl g106_70_11 (hb_0 _ _ _ _) rfl (Nat.le_of_ble_eq_true rfl) (by decide +kernel) (hi_0_7 _ _ _ _ _) ?_
                      refine zw_iload_n 6 f106_5 rfl rfl ?_
                      refine zw_ireturn f106_6 r106 u106 ⟨_, rfl, ?_⟩
                      refine zw_ireturn f107_23 r107 u107 ⟨_, rfl, ?_⟩
                      refine zw_ireturn f79_110 r79 u79 ?_
                      exact ⟨_, _, _, _, rfl, (KP.i rfl (KP.tr (KP.tr (KP.a rfl (KP.a rfl KP.rf)) (KP.wk K_17 (fun k h => pWN k (pNX k h)))) (KP.wk K_18 pNX))), Or.inr ⟨⟨(qV.ofc (by omega) hc1 hc2), ⟨kne hc4 (by decide), kne hc4 (by decide)⟩, ⟨hc5, hc6⟩, (Or.inl hc4)⟩, ⟨C_18, PE.of10 ((K_18.2.2.1 2 rfl).trans (K_17.2.2.1 2 rfl)) ((K_18.2.2.1 3 rfl).trans (K_17.2.2.1 3 rfl)) ((K_18.2.2.1 4 rfl).trans (K_17.2.2.1 4 rfl)) (absurd (Decidable.of_not_not hc12) (kne hc4 (by decide))) ((K_18.2.2.1 6 rfl).trans (K_17.2.2.1 6 rfl)) ((K_18.2.2.1 7 rfl).trans (K_17.2.2.1 7 rfl)) ((K_18.2.2.1 8 rfl).trans (K_17.2.2.1 8 rfl)) ((K_18.2.2.1 9 rfl).trans (K_17.2.2.1 9 rfl)) ((K_18.2.2.1 10 rfl).trans (K_17.2.2.1 10 rfl)) ((K_18.2.2.1 15 rfl).trans (K_17.2.2.1 15 rfl))⟩, rfl⟩⟩
        · refine zw_aload_n 10 f18_9 rfl rfl ?_
          refine zw_iload_n 11 f18_10 rfl rfl ?_
          refine zw_virtual_i 14 0 0 [.ref 1, .int a] [(0, .ref 1), (1, .int a)] f18_11 rfl n18_54 k18_54_4 rfl (hb_1 _ _ _ _) (by decide +kernel) (Nat.le_of_ble_eq_true rfl) rfl rfl (by decide +kernel) (by decide +kernel) rfl (Nat.le_of_ble_eq_true rfl) rfl ?_
          refine zw_iload_n 1 f17_0 rfl rfl ?_
          refine zw_if_lt_f 4 22 f17_1 (by decide +kernel) rfl hc1 ?_
          refine zw_iload_n 5 f17_4 rfl rfl ?_
          refine zw_aload_n 6 f17_5 rfl rfl ?_
          refine zw_getI (nI nv) 9 f17_6 rfl g17_39_4 (hb_1 _ _ _ _) rfl hI.1.1.1 ?_
          refine zw_ic_ge_f 12 22 f17_9 (by decide +kernel) rfl hc2 ?_
          refine zw_iload_n 13 f17_12 rfl rfl ?_
          refine zw_bipush 8 15 f17_13 rfl (by decide +kernel) ?_
          refine zw_ic_ge_f 18 22 f17_15 (by decide +kernel) rfl hc3 ?_
          refine zw_iconst 1 19 f17_18 rfl (by decide +kernel) ?_
          refine zw_goto 23 f17_19 (by decide +kernel) ?_
          refine zw_istore_n _ 24 f17_23 rfl (by decide +kernel) rfl ?_
          refine zw_iload_n 25 f17_24 rfl zl1_eq ?_
          refine zw_if_eq_f 28 52 f17_25 (by decide +kernel) rfl (by decide +kernel) ?_
          refine zw_aload_n 29 f17_28 rfl (zl1_ne rfl rfl rfl) ?_
          refine zw_getfield 32 f17_29 rfl g17_9_4 (hb_1 _ _ _ _) rfl ?_
          refine zw_iload_n 33 f17_32 rfl (zl1_ne rfl rfl rfl) ?_
          refine zw_iaload a.toNatClampNeg (A 2 a.toNatClampNeg) 34 f17_33 rfl (hb_2 _ _ _ _) rfl hc1 (zix (by decide) hc1 hc3) rfl ?_
          refine zw_iconst 3 35 f17_34 rfl (by decide +kernel) ?_
          refine zw_ic_eq 38 48 f17_35 (by decide +kernel) rfl (fun hc19 => ?_) (fun hc19 => ?_)
          · refine zw_iconst 1 49 f17_48 rfl (by decide +kernel) ?_
            refine zw_goto 53 f17_49 (by decide +kernel) ?_
            refine zw_zreturn f17_53 r17 u17 (by decide +kernel) ⟨_, rfl, ?_⟩
            refine zw_if_eq_f 17 21 f18_14 (by decide +kernel) rfl (by decide +kernel) ?_
            refine zw_iconst 1 18 f18_17 rfl (by decide +kernel) ?_
            refine zw_goto 22 f18_18 (by decide +kernel) ?_
            refine zw_zreturn f18_22 r18 u18 (by decide +kernel) ⟨_, rfl, ?_⟩
            refine zw_if_ne_t 34 f79_25 (by decide +kernel) (by decide +kernel) ?_
            refine zw_iload_n 35 f79_34 rfl rfl ?_
            refine zw_iconst 1 36 f79_35 rfl (by decide +kernel) ?_
            refine zw_aload_n 37 f79_36 rfl rfl ?_
            refine zw_getfield 40 f79_37 rfl g79_10_11 (hb_0 _ _ _ _) rfl ?_
            refine zw_getfield 43 f79_40 rfl g79_96_4 (hb_1 _ _ _ _) rfl ?_
            refine zw_iload_n 44 f79_43 rfl rfl ?_
            refine zw_iaload a.toNatClampNeg (A 3 a.toNatClampNeg) 45 f79_44 rfl (hb_3 _ _ _ _) rfl hc1 (zix (by decide) hc1 hc3) rfl ?_
            refine zw_static_i 48 0 0 [.int b, .int 1, .int (A 3 a.toNatClampNeg)] [] [(0, .int b), (1, .int 1), (2, .int (A 3 a.toNatClampNeg))] f79_45 rfl k79_74_99 rfl (by decide +kernel) (Nat.le_of_ble_eq_true rfl) (Nat.le_of_ble_eq_true rfl) rfl rfl (by decide +kernel) (by decide +kernel) rfl (Nat.le_of_ble_eq_true rfl) rfl ?_
            refine zw_iload_n 1 f112_0 rfl rfl ?_
            refine zw_iload_n 2 f112_1 rfl rfl ?_
            refine zw_ic_lt 5 14 f112_2 (by decide +kernel) rfl (fun hc20 => ?_) (fun hc20 => ?_)
            · refine zw_iconst 0 15 f112_14 rfl (by decide +kernel) ?_
              refine zw_zreturn f112_15 r112 u112 (by decide +kernel) ⟨_, rfl, ?_⟩
              refine zw_if_ne_f 51 57 f79_48 (by decide +kernel) rfl (by decide +kernel) ?_
              refine zw_aload_n 52 f79_51 rfl rfl ?_
              refine zw_iconst 1 53 f79_52 rfl (by decide +kernel) ?_
              refine zw_virtual_i 56 0 0 [.ref 0, .int 1] [(0, .ref 0), (1, .int 1)] f79_53 rfl n79_78 k79_78_11 rfl (hb_0 _ _ _ _) (by decide +kernel) (Nat.le_of_ble_eq_true rfl) rfl rfl (by decide +kernel) (by decide +kernel) rfl (Nat.le_of_ble_eq_true rfl) rfl ?_
              refine zw_aload_n 1 f105_0 rfl rfl ?_
              refine zw_iload_n 2 f105_1 rfl rfl ?_
              refine zw_put _ 5 f105_2 rfl g105_70_11 (hb_0 _ _ _ _) rfl (Nat.le_of_ble_eq_true rfl) (by decide +kernel) (hi_0_7 _ _ _ _ _) ?_
              refine zw_iconst (-1) 6 f105_5 rfl (by decide +kernel) ?_
              refine zw_ireturn f105_6 r105 u105 ⟨_, rfl, ?_⟩
              refine zw_ireturn f79_56 r79 u79 ?_
              exact ⟨_, _, _, _, rfl, (KP.i rfl KP.rf), Or.inl ⟨(fun q => (fun q => q.1 hc20) q.2.2.1), ⟨hI.mono (by omega), PE.rf⟩, rfl⟩⟩
            · refine zw_iload_n 6 f112_5 rfl rfl ?_
              refine zw_iload_n 7 f112_6 rfl rfl ?_
              refine zw_ic_gt 10 14 f112_7 (by decide +kernel) rfl (fun hc21 => ?_) (fun hc21 => ?_)
              · refine zw_iconst 0 15 f112_14 rfl (by decide +kernel) ?_
                refine zw_zreturn f112_15 r112 u112 (by decide +kernel) ⟨_, rfl, ?_⟩
                refine zw_if_ne_f 51 57 f79_48 (by decide +kernel) rfl (by decide +kernel) ?_
                refine zw_aload_n 52 f79_51 rfl rfl ?_
                refine zw_iconst 1 53 f79_52 rfl (by decide +kernel) ?_
                refine zw_virtual_i 56 0 0 [.ref 0, .int 1] [(0, .ref 0), (1, .int 1)] f79_53 rfl n79_78 k79_78_11 rfl (hb_0 _ _ _ _) (by decide +kernel) (Nat.le_of_ble_eq_true rfl) rfl rfl (by decide +kernel) (by decide +kernel) rfl (Nat.le_of_ble_eq_true rfl) rfl ?_
                refine zw_aload_n 1 f105_0 rfl rfl ?_
                refine zw_iload_n 2 f105_1 rfl rfl ?_
                refine zw_put _ 5 f105_2 rfl g105_70_11 (hb_0 _ _ _ _) rfl (Nat.le_of_ble_eq_true rfl) (by decide +kernel) (hi_0_7 _ _ _ _ _) ?_
                refine zw_iconst (-1) 6 f105_5 rfl (by decide +kernel) ?_
                refine zw_ireturn f105_6 r105 u105 ⟨_, rfl, ?_⟩
                refine zw_ireturn f79_56 r79 u79 ?_
                exact ⟨_, _, _, _, rfl, (KP.i rfl KP.rf), Or.inl ⟨(fun q => (fun q => q.2 hc21) q.2.2.1), ⟨hI.mono (by omega), PE.rf⟩, rfl⟩⟩
              · refine zw_iconst 1 11 f112_10 rfl (by decide +kernel) ?_
                refine zw_goto 15 f112_11 (by decide +kernel) ?_
                refine zw_zreturn f112_15 r112 u112 (by decide +kernel) ⟨_, rfl, ?_⟩
                refine zw_if_ne_t 57 f79_48 (by decide +kernel) (by decide +kernel) ?_
                refine zw_aload_n 58 f79_57 rfl rfl ?_
                refine zw_getfield 61 f79_58 rfl g79_10_11 (hb_0 _ _ _ _) rfl ?_
                refine zw_iload_n 62 f79_61 rfl rfl ?_
                refine zw_virtual_i 65 0 0 [.ref 1, .int a] [(0, .ref 1), (1, .int a)] f79_62 rfl n79_100 k79_100_4 rfl (hb_1 _ _ _ _) (by decide +kernel) (Nat.le_of_ble_eq_true rfl) rfl rfl (by decide +kernel) (by decide +kernel) rfl (Nat.le_of_ble_eq_true rfl) rfl ?_
                refine zw_iload_n 1 f17_0 rfl rfl ?_
                refine zw_if_lt_f 4 22 f17_1 (by decide +kernel) rfl hc1 ?_
                refine zw_iload_n 5 f17_4 rfl rfl ?_
                refine zw_aload_n 6 f17_5 rfl rfl ?_
                refine zw_getI (nI nv) 9 f17_6 rfl g17_39_4 (hb_1 _ _ _ _) rfl hI.1.1.1 ?_
                refine zw_ic_ge_f 12 22 f17_9 (by decide +kernel) rfl hc2 ?_
                refine zw_iload_n 13 f17_12 rfl rfl ?_
                refine zw_bipush 8 15 f17_13 rfl (by decide +kernel) ?_
                refine zw_ic_ge_f 18 22 f17_15 (by decide +kernel) rfl hc3 ?_
                refine zw_iconst 1 19 f17_18 rfl (by decide +kernel) ?_
                refine zw_goto 23 f17_19 (by decide +kernel) ?_
                refine zw_istore_n _ 24 f17_23 rfl (by decide +kernel) rfl ?_
                refine zw_iload_n 25 f17_24 rfl zl1_eq ?_
                refine zw_if_eq_f 28 52 f17_25 (by decide +kernel) rfl (by decide +kernel) ?_
                refine zw_aload_n 29 f17_28 rfl (zl1_ne rfl rfl rfl) ?_
                refine zw_getfield 32 f17_29 rfl g17_9_4 (hb_1 _ _ _ _) rfl ?_
                refine zw_iload_n 33 f17_32 rfl (zl1_ne rfl rfl rfl) ?_
                refine zw_iaload a.toNatClampNeg (A 2 a.toNatClampNeg) 34 f17_33 rfl (hb_2 _ _ _ _) rfl hc1 (zix (by decide) hc1 hc3) rfl ?_
                refine zw_iconst 3 35 f17_34 rfl (by decide +kernel) ?_
                refine zw_ic_eq_t 48 f17_35 (by decide +kernel) hc19 ?_
                refine zw_iconst 1 49 f17_48 rfl (by decide +kernel) ?_
                refine zw_goto 53 f17_49 (by decide +kernel) ?_
                refine zw_zreturn f17_53 r17 u17 (by decide +kernel) ⟨_, rfl, ?_⟩
                refine zw_if_eq_f 68 95 f79_65 (by decide +kernel) rfl (by decide +kernel) ?_
                refine zw_iload_n 69 f79_68 rfl rfl ?_
                refine zw_iconst 0 70 f79_69 rfl (by decide +kernel) ?_
                refine zw_iload_n 71 f79_70 rfl rfl ?_
                refine zw_iconst 1 72 f79_71 rfl (by decide +kernel) ?_
                refine zw_isub (b - 1) 73 f79_72 rfl rfl ?_
                refine zw_static_i 76 0 0 [.int c, .int 0, .int (b - 1)] [] [(0, .int c), (1, .int 0), (2, .int (b - 1))] f79_73 rfl k79_74_99 rfl (by decide +kernel) (Nat.le_of_ble_eq_true rfl) (Nat.le_of_ble_eq_true rfl) rfl rfl (by decide +kernel) (by decide +kernel) rfl (Nat.le_of_ble_eq_true rfl) rfl ?_
                refine zw_iload_n 1 f112_0 rfl rfl ?_
                refine zw_iload_n 2 f112_1 rfl rfl ?_
                refine zw_ic_lt 5 14 f112_2 (by decide +kernel) rfl (fun hc22 => ?_) (fun hc22 => ?_)
                · refine zw_iconst 0 15 f112_14 rfl (by decide +kernel) ?_
                  refine zw_zreturn f112_15 r112 u112 (by decide +kernel) ⟨_, rfl, ?_⟩
                  refine zw_if_ne_f 79 85 f79_76 (by decide +kernel) rfl (by decide +kernel) ?_
                  refine zw_aload_n 80 f79_79 rfl rfl ?_
                  refine zw_iconst 1 81 f79_80 rfl (by decide +kernel) ?_
                  refine zw_virtual_i 84 0 0 [.ref 0, .int 1] [(0, .ref 0), (1, .int 1)] f79_81 rfl n79_78 k79_78_11 rfl (hb_0 _ _ _ _) (by decide +kernel) (Nat.le_of_ble_eq_true rfl) rfl rfl (by decide +kernel) (by decide +kernel) rfl (Nat.le_of_ble_eq_true rfl) rfl ?_
                  refine zw_aload_n 1 f105_0 rfl rfl ?_
                  refine zw_iload_n 2 f105_1 rfl rfl ?_
                  refine zw_put _ 5 f105_2 rfl g105_70_11 (hb_0 _ _ _ _) rfl (Nat.le_of_ble_eq_true rfl) (by decide +kernel) (hi_0_7 _ _ _ _ _) ?_
                  refine zw_iconst (-1) 6 f105_5 rfl (by decide +kernel) ?_
                  refine zw_ireturn f105_6 r105 u105 ⟨_, rfl, ?_⟩
                  refine zw_ireturn f79_84 r79 u79 ?_
                  exact ⟨_, _, _, _, rfl, (KP.i rfl KP.rf), Or.inl ⟨(fun q => (fun q => q.elim (kne hc19 (by decide)) (fun q => q.1 hc22)) q.2.2.2), ⟨hI.mono (by omega), PE.rf⟩, rfl⟩⟩
                · refine zw_iload_n 6 f112_5 rfl rfl ?_
                  refine zw_iload_n 7 f112_6 rfl rfl ?_
                  refine zw_ic_gt 10 14 f112_7 (by decide +kernel) rfl (fun hc23 => ?_) (fun hc23 => ?_)
                  · refine zw_iconst 0 15 f112_14 rfl (by decide +kernel) ?_
                    refine zw_zreturn f112_15 r112 u112 (by decide +kernel) ⟨_, rfl, ?_⟩
                    refine zw_if_ne_f 79 85 f79_76 (by decide +kernel) rfl (by decide +kernel) ?_
                    refine zw_aload_n 80 f79_79 rfl rfl ?_
                    refine zw_iconst 1 81 f79_80 rfl (by decide +kernel) ?_
                    refine zw_virtual_i 84 0 0 [.ref 0, .int 1] [(0, .ref 0), (1, .int 1)] f79_81 rfl n79_78 k79_78_11 rfl (hb_0 _ _ _ _) (by decide +kernel) (Nat.le_of_ble_eq_true rfl) rfl rfl (by decide +kernel) (by decide +kernel) rfl (Nat.le_of_ble_eq_true rfl) rfl ?_
                    refine zw_aload_n 1 f105_0 rfl rfl ?_
                    refine zw_iload_n 2 f105_1 rfl rfl ?_
                    refine zw_put _ 5 f105_2 rfl g105_70_11 (hb_0 _ _ _ _) rfl (Nat.le_of_ble_eq_true rfl) (by decide +kernel) (hi_0_7 _ _ _ _ _) ?_
                    refine zw_iconst (-1) 6 f105_5 rfl (by decide +kernel) ?_
                    refine zw_ireturn f105_6 r105 u105 ⟨_, rfl, ?_⟩
                    refine zw_ireturn f79_84 r79 u79 ?_
                    exact ⟨_, _, _, _, rfl, (KP.i rfl KP.rf), Or.inl ⟨(fun q => (fun q => q.elim (kne hc19 (by decide)) (fun q => q.2 hc23)) q.2.2.2), ⟨hI.mono (by omega), PE.rf⟩, rfl⟩⟩
                  · refine zw_iconst 1 11 f112_10 rfl (by decide +kernel) ?_
                    refine zw_goto 15 f112_11 (by decide +kernel) ?_
                    refine zw_zreturn f112_15 r112 u112 (by decide +kernel) ⟨_, rfl, ?_⟩
                    refine zw_if_ne_t 85 f79_76 (by decide +kernel) (by decide +kernel) ?_
                    refine zw_aload_n 86 f79_85 rfl rfl ?_
                    refine zw_getfield 89 f79_86 rfl g79_10_11 (hb_0 _ _ _ _) rfl ?_
                    refine zw_getfield 92 f79_89 rfl g79_103_4 (hb_1 _ _ _ _) rfl ?_
                    refine zw_iload_n 93 f79_92 rfl rfl ?_
                    refine zw_iload_n 94 f79_93 rfl rfl ?_
                    refine zw_ast a.toNatClampNeg _ 95 f79_94 rfl (hb_5 _ _ _ _) rfl hc1 (zix (by decide) hc1 hc3) (ha_5 _ _ _ _ _) ?_
                    refine zw_aload_n 96 f79_95 rfl rfl ?_
                    refine zw_getfield 99 f79_96 rfl g79_10_11 (hb_0 _ _ _ _) rfl ?_
                    refine zw_getfield 102 f79_99 rfl g79_106_4 (hb_1 _ _ _ _) rfl ?_
                    refine zw_iload_n 103 f79_102 rfl rfl ?_
                    refine zw_iload_n 104 f79_103 rfl rfl ?_
                    refine zw_ast a.toNatClampNeg _ 105 f79_104 rfl (hb_4 _ _ _ _) rfl hc1 (zix (by decide) hc1 hc3) (ha_4 _ _ _ _ _) ?_
                    refine zw_aload_n 106 f79_105 rfl rfl ?_
                    refine zw_iconst 1 107 f79_106 rfl (by decide +kernel) ?_
                    refine zw_virtual_i 110 0 0 [.ref 0, .int 1] [(0, .ref 0), (1, .int 1)] f79_107 rfl n79_86 k79_86_11 rfl (hb_0 _ _ _ _) (by decide +kernel) (Nat.le_of_ble_eq_true rfl) rfl rfl (by decide +kernel) (by decide +kernel) rfl (Nat.le_of_ble_eq_true rfl) rfl ?_
                    refine zw_aload_n 1 f107_0 rfl rfl ?_
                    refine zw_getfield 4 f107_1 rfl g107_21_11 (hb_0 _ _ _ _) rfl ?_
                    refine zw_virtual_v 7 0 0 [.ref 11] [(0, .ref 11)] f107_4 rfl n107_318 k107_318_10 rfl (hb_11 _ _ _ _) (by decide +kernel) (Nat.le_of_ble_eq_true rfl) rfl rfl (by decide +kernel) (by decide +kernel) rfl (Nat.le_of_ble_eq_true rfl) rfl ?_
                    have hC_24 : CV nv np cm I := hI
                    refine zWp.mono (ck_X10_settle_11 ro nv np I _ _ _ hC_24.1) ?_
                    rintro r h1 ⟨I_24, G_24, A_24, B_24, rfl, K_24, C_24, rfl⟩
                    refine ⟨rfl, ?_⟩
                    have hV_24 : CV nv np cm I_24 := CV.of (I := I) hC_24 K_24 C_24
                    refine zw_aload_n 8 f107_7 rfl rfl ?_
                    refine zw_getfield 11 f107_8 rfl g107_31_11 (hb_0 _ _ _ _) rfl ?_
                    refine zw_aload_n 12 f107_11 rfl rfl ?_
                    refine zw_getfield 15 f107_12 rfl g107_21_11 (hb_0 _ _ _ _) rfl ?_
                    refine zw_virtual_v 18 0 0 [.ref 33, .ref 11] [(0, .ref 33), (1, .ref 11)] f107_15 rfl n107_187 k107_187_3 rfl (hb_33 _ _ _ _) (by decide +kernel) (Nat.le_of_ble_eq_true rfl) rfl rfl (by decide +kernel) (by decide +kernel) rfl (Nat.le_of_ble_eq_true rfl) rfl ?_
                    refine zWp.mono (cv_X3_take_33 ro nv np cm _ _ _ _ hV_24 (by omega)) ?_
                    rintro r h1 ⟨I_25, G_25, A_25, B_25, rfl, K_25, C_25, rfl⟩
                    refine ⟨rfl, ?_⟩
                    refine zw_aload_n 19 f107_18 rfl rfl ?_
                    refine zw_iload_n 20 f107_19 rfl rfl ?_
                    refine zw_virtual_i 23 0 0 [.ref 0, .int 1] [(0, .ref 0), (1, .int 1)] f107_20 rfl n107_181 k107_181_11 rfl (hb_0 _ _ _ _) (by decide +kernel) (Nat.le_of_ble_eq_true rfl) rfl rfl (by decide +kernel) (by decide +kernel) rfl (Nat.le_of_ble_eq_true rfl) rfl ?_
                    refine zw_aload_n 1 f106_0 rfl rfl ?_
                    refine zw_iconst 0 2 f106_1 rfl (by decide +kernel) ?_
                    refine zw_put _ 5 f106_2 rfl g106_70_11 (hb_0 _ _ _ _) rfl (Nat.le_of_ble_eq_true rfl) (by decide +kernel) (hi_0_7 _ _ _ _ _) ?_
                    refine zw_iload_n 6 f106_5 rfl rfl ?_
                    refine zw_ireturn f106_6 r106 u106 ⟨_, rfl, ?_⟩
                    refine zw_ireturn f107_23 r107 u107 ⟨_, rfl, ?_⟩
                    refine zw_ireturn f79_110 r79 u79 ?_
                    exact ⟨_, _, _, _, rfl, (KP.i rfl (KP.tr (KP.tr (KP.a rfl (KP.a rfl KP.rf)) (KP.wk K_24 (fun k h => pWN k (pNX k h)))) (KP.wk K_25 pNX))), Or.inr ⟨⟨(qV.ofc (by omega) hc1 hc2), ⟨kne hc19 (by decide), kne hc19 (by decide)⟩, ⟨hc20, hc21⟩, (Or.inr ⟨hc22, hc23⟩)⟩, ⟨C_25, PE.of10 ((K_25.2.2.1 2 rfl).trans (K_24.2.2.1 2 rfl)) ((K_25.2.2.1 3 rfl).trans (K_24.2.2.1 3 rfl)) ((K_25.2.2.1 4 rfl).trans (K_24.2.2.1 4 rfl)) (by rw [show (if cP A 53 a.toNatClampNeg = 1 then (0 : Int32) else c) = c from if_neg (kne hc19 (by decide))]; exact ((K_25.2.2.1 5 rfl).trans (K_24.2.2.1 5 rfl))) ((K_25.2.2.1 6 rfl).trans (K_24.2.2.1 6 rfl)) ((K_25.2.2.1 7 rfl).trans (K_24.2.2.1 7 rfl)) ((K_25.2.2.1 8 rfl).trans (K_24.2.2.1 8 rfl)) ((K_25.2.2.1 9 rfl).trans (K_24.2.2.1 9 rfl)) ((K_25.2.2.1 10 rfl).trans (K_24.2.2.1 10 rfl)) ((K_25.2.2.1 15 rfl).trans (K_24.2.2.1 15 rfl))⟩, rfl⟩⟩
          · refine zw_aload_n 39 f17_38 rfl (zl1_ne rfl rfl rfl) ?_
            refine zw_getfield 42 f17_39 rfl g17_9_4 (hb_1 _ _ _ _) rfl ?_
            refine zw_iload_n 43 f17_42 rfl (zl1_ne rfl rfl rfl) ?_
            refine zw_iaload a.toNatClampNeg (A 2 a.toNatClampNeg) 44 f17_43 rfl (hb_2 _ _ _ _) rfl hc1 (zix (by decide) hc1 hc3) rfl ?_
            refine zw_iconst 4 45 f17_44 rfl (by decide +kernel) ?_
            refine zw_ic_ne 48 52 f17_45 (by decide +kernel) rfl (fun hc26 => ?_) (fun hc26 => ?_)
            · refine zw_iconst 0 53 f17_52 rfl (by decide +kernel) ?_
              refine zw_zreturn f17_53 r17 u17 (by decide +kernel) ⟨_, rfl, ?_⟩
              refine zw_if_eq_t 21 f18_14 (by decide +kernel) (by decide +kernel) ?_
              refine zw_iconst 0 22 f18_21 rfl (by decide +kernel) ?_
              refine zw_zreturn f18_22 r18 u18 (by decide +kernel) ⟨_, rfl, ?_⟩
              refine zw_if_ne_f 28 34 f79_25 (by decide +kernel) rfl (by decide +kernel) ?_
              refine zw_aload_n 29 f79_28 rfl rfl ?_
              refine zw_iconst 3 30 f79_29 rfl (by decide +kernel) ?_
              refine zw_virtual_i 33 0 0 [.ref 0, .int 3] [(0, .ref 0), (1, .int 3)] f79_30 rfl n79_78 k79_78_11 rfl (hb_0 _ _ _ _) (by decide +kernel) (Nat.le_of_ble_eq_true rfl) rfl rfl (by decide +kernel) (by decide +kernel) rfl (Nat.le_of_ble_eq_true rfl) rfl ?_
              refine zw_aload_n 1 f105_0 rfl rfl ?_
              refine zw_iload_n 2 f105_1 rfl rfl ?_
              refine zw_put _ 5 f105_2 rfl g105_70_11 (hb_0 _ _ _ _) rfl (Nat.le_of_ble_eq_true rfl) (by decide +kernel) (hi_0_7 _ _ _ _ _) ?_
              refine zw_iconst (-1) 6 f105_5 rfl (by decide +kernel) ?_
              refine zw_ireturn f105_6 r105 u105 ⟨_, rfl, ?_⟩
              refine zw_ireturn f79_33 r79 u79 ?_
              exact ⟨_, _, _, _, rfl, (KP.i rfl KP.rf), Or.inl ⟨(fun q => (fun q => k02 (hQ.1 a.toNatClampNeg ((qV.ofc (by omega) hc1 hc2)).1) hc4 hc19 hc26 q.1 q.2) q.2.1), ⟨hI.mono (by omega), PE.rf⟩, rfl⟩⟩
            · refine zw_iconst 1 49 f17_48 rfl (by decide +kernel) ?_
              refine zw_goto 53 f17_49 (by decide +kernel) ?_
              refine zw_zreturn f17_53 r17 u17 (by decide +kernel) ⟨_, rfl, ?_⟩
              refine zw_if_eq_f 17 21 f18_14 (by decide +kernel) rfl (by decide +kernel) ?_
              refine zw_iconst 1 18 f18_17 rfl (by decide +kernel) ?_
              refine zw_goto 22 f18_18 (by decide +kernel) ?_
              refine zw_zreturn f18_22 r18 u18 (by decide +kernel) ⟨_, rfl, ?_⟩
              refine zw_if_ne_t 34 f79_25 (by decide +kernel) (by decide +kernel) ?_
              refine zw_iload_n 35 f79_34 rfl rfl ?_
              refine zw_iconst 1 36 f79_35 rfl (by decide +kernel) ?_
              refine zw_aload_n 37 f79_36 rfl rfl ?_
              refine zw_getfield 40 f79_37 rfl g79_10_11 (hb_0 _ _ _ _) rfl ?_
              refine zw_getfield 43 f79_40 rfl g79_96_4 (hb_1 _ _ _ _) rfl ?_
              refine zw_iload_n 44 f79_43 rfl rfl ?_
              refine zw_iaload a.toNatClampNeg (A 3 a.toNatClampNeg) 45 f79_44 rfl (hb_3 _ _ _ _) rfl hc1 (zix (by decide) hc1 hc3) rfl ?_
              refine zw_static_i 48 0 0 [.int b, .int 1, .int (A 3 a.toNatClampNeg)] [] [(0, .int b), (1, .int 1), (2, .int (A 3 a.toNatClampNeg))] f79_45 rfl k79_74_99 rfl (by decide +kernel) (Nat.le_of_ble_eq_true rfl) (Nat.le_of_ble_eq_true rfl) rfl rfl (by decide +kernel) (by decide +kernel) rfl (Nat.le_of_ble_eq_true rfl) rfl ?_
              refine zw_iload_n 1 f112_0 rfl rfl ?_
              refine zw_iload_n 2 f112_1 rfl rfl ?_
              refine zw_ic_lt 5 14 f112_2 (by decide +kernel) rfl (fun hc27 => ?_) (fun hc27 => ?_)
              · refine zw_iconst 0 15 f112_14 rfl (by decide +kernel) ?_
                refine zw_zreturn f112_15 r112 u112 (by decide +kernel) ⟨_, rfl, ?_⟩
                refine zw_if_ne_f 51 57 f79_48 (by decide +kernel) rfl (by decide +kernel) ?_
                refine zw_aload_n 52 f79_51 rfl rfl ?_
                refine zw_iconst 1 53 f79_52 rfl (by decide +kernel) ?_
                refine zw_virtual_i 56 0 0 [.ref 0, .int 1] [(0, .ref 0), (1, .int 1)] f79_53 rfl n79_78 k79_78_11 rfl (hb_0 _ _ _ _) (by decide +kernel) (Nat.le_of_ble_eq_true rfl) rfl rfl (by decide +kernel) (by decide +kernel) rfl (Nat.le_of_ble_eq_true rfl) rfl ?_
                refine zw_aload_n 1 f105_0 rfl rfl ?_
                refine zw_iload_n 2 f105_1 rfl rfl ?_
                refine zw_put _ 5 f105_2 rfl g105_70_11 (hb_0 _ _ _ _) rfl (Nat.le_of_ble_eq_true rfl) (by decide +kernel) (hi_0_7 _ _ _ _ _) ?_
                refine zw_iconst (-1) 6 f105_5 rfl (by decide +kernel) ?_
                refine zw_ireturn f105_6 r105 u105 ⟨_, rfl, ?_⟩
                refine zw_ireturn f79_56 r79 u79 ?_
                exact ⟨_, _, _, _, rfl, (KP.i rfl KP.rf), Or.inl ⟨(fun q => (fun q => q.1 hc27) q.2.2.1), ⟨hI.mono (by omega), PE.rf⟩, rfl⟩⟩
              · refine zw_iload_n 6 f112_5 rfl rfl ?_
                refine zw_iload_n 7 f112_6 rfl rfl ?_
                refine zw_ic_gt 10 14 f112_7 (by decide +kernel) rfl (fun hc28 => ?_) (fun hc28 => ?_)
                · refine zw_iconst 0 15 f112_14 rfl (by decide +kernel) ?_
                  refine zw_zreturn f112_15 r112 u112 (by decide +kernel) ⟨_, rfl, ?_⟩
                  refine zw_if_ne_f 51 57 f79_48 (by decide +kernel) rfl (by decide +kernel) ?_
                  refine zw_aload_n 52 f79_51 rfl rfl ?_
                  refine zw_iconst 1 53 f79_52 rfl (by decide +kernel) ?_
                  refine zw_virtual_i 56 0 0 [.ref 0, .int 1] [(0, .ref 0), (1, .int 1)] f79_53 rfl n79_78 k79_78_11 rfl (hb_0 _ _ _ _) (by decide +kernel) (Nat.le_of_ble_eq_true rfl) rfl rfl (by decide +kernel) (by decide +kernel) rfl (Nat.le_of_ble_eq_true rfl) rfl ?_
                  refine zw_aload_n 1 f105_0 rfl rfl ?_
                  refine zw_iload_n 2 f105_1 rfl rfl ?_
                  refine zw_put _ 5 f105_2 rfl g105_70_11 (hb_0 _ _ _ _) rfl (Nat.le_of_ble_eq_true rfl) (by decide +kernel) (hi_0_7 _ _ _ _ _) ?_
                  refine zw_iconst (-1) 6 f105_5 rfl (by decide +kernel) ?_
                  refine zw_ireturn f105_6 r105 u105 ⟨_, rfl, ?_⟩
                  refine zw_ireturn f79_56 r79 u79 ?_
                  exact ⟨_, _, _, _, rfl, (KP.i rfl KP.rf), Or.inl ⟨(fun q => (fun q => q.2 hc28) q.2.2.1), ⟨hI.mono (by omega), PE.rf⟩, rfl⟩⟩
                · refine zw_iconst 1 11 f112_10 rfl (by decide +kernel) ?_
                  refine zw_goto 15 f112_11 (by decide +kernel) ?_
                  refine zw_zreturn f112_15 r112 u112 (by decide +kernel) ⟨_, rfl, ?_⟩
                  refine zw_if_ne_t 57 f79_48 (by decide +kernel) (by decide +kernel) ?_
                  refine zw_aload_n 58 f79_57 rfl rfl ?_
                  refine zw_getfield 61 f79_58 rfl g79_10_11 (hb_0 _ _ _ _) rfl ?_
                  refine zw_iload_n 62 f79_61 rfl rfl ?_
                  refine zw_virtual_i 65 0 0 [.ref 1, .int a] [(0, .ref 1), (1, .int a)] f79_62 rfl n79_100 k79_100_4 rfl (hb_1 _ _ _ _) (by decide +kernel) (Nat.le_of_ble_eq_true rfl) rfl rfl (by decide +kernel) (by decide +kernel) rfl (Nat.le_of_ble_eq_true rfl) rfl ?_
                  refine zw_iload_n 1 f17_0 rfl rfl ?_
                  refine zw_if_lt_f 4 22 f17_1 (by decide +kernel) rfl hc1 ?_
                  refine zw_iload_n 5 f17_4 rfl rfl ?_
                  refine zw_aload_n 6 f17_5 rfl rfl ?_
                  refine zw_getI (nI nv) 9 f17_6 rfl g17_39_4 (hb_1 _ _ _ _) rfl hI.1.1.1 ?_
                  refine zw_ic_ge_f 12 22 f17_9 (by decide +kernel) rfl hc2 ?_
                  refine zw_iload_n 13 f17_12 rfl rfl ?_
                  refine zw_bipush 8 15 f17_13 rfl (by decide +kernel) ?_
                  refine zw_ic_ge_f 18 22 f17_15 (by decide +kernel) rfl hc3 ?_
                  refine zw_iconst 1 19 f17_18 rfl (by decide +kernel) ?_
                  refine zw_goto 23 f17_19 (by decide +kernel) ?_
                  refine zw_istore_n _ 24 f17_23 rfl (by decide +kernel) rfl ?_
                  refine zw_iload_n 25 f17_24 rfl zl1_eq ?_
                  refine zw_if_eq_f 28 52 f17_25 (by decide +kernel) rfl (by decide +kernel) ?_
                  refine zw_aload_n 29 f17_28 rfl (zl1_ne rfl rfl rfl) ?_
                  refine zw_getfield 32 f17_29 rfl g17_9_4 (hb_1 _ _ _ _) rfl ?_
                  refine zw_iload_n 33 f17_32 rfl (zl1_ne rfl rfl rfl) ?_
                  refine zw_iaload a.toNatClampNeg (A 2 a.toNatClampNeg) 34 f17_33 rfl (hb_2 _ _ _ _) rfl hc1 (zix (by decide) hc1 hc3) rfl ?_
                  refine zw_iconst 3 35 f17_34 rfl (by decide +kernel) ?_
                  refine zw_ic_eq_f 38 48 f17_35 (by decide +kernel) rfl hc19 ?_
                  refine zw_aload_n 39 f17_38 rfl (zl1_ne rfl rfl rfl) ?_
                  refine zw_getfield 42 f17_39 rfl g17_9_4 (hb_1 _ _ _ _) rfl ?_
                  refine zw_iload_n 43 f17_42 rfl (zl1_ne rfl rfl rfl) ?_
                  refine zw_iaload a.toNatClampNeg (A 2 a.toNatClampNeg) 44 f17_43 rfl (hb_2 _ _ _ _) rfl hc1 (zix (by decide) hc1 hc3) rfl ?_
                  refine zw_iconst 4 45 f17_44 rfl (by decide +kernel) ?_
                  refine zw_ic_ne_f 48 52 f17_45 (by decide +kernel) rfl hc26 ?_
                  refine zw_iconst 1 49 f17_48 rfl (by decide +kernel) ?_
                  refine zw_goto 53 f17_49 (by decide +kernel) ?_
                  refine zw_zreturn f17_53 r17 u17 (by decide +kernel) ⟨_, rfl, ?_⟩
                  refine zw_if_eq_f 68 95 f79_65 (by decide +kernel) rfl (by decide +kernel) ?_
                  refine zw_iload_n 69 f79_68 rfl rfl ?_
                  refine zw_iconst 0 70 f79_69 rfl (by decide +kernel) ?_
                  refine zw_iload_n 71 f79_70 rfl rfl ?_
                  refine zw_iconst 1 72 f79_71 rfl (by decide +kernel) ?_
                  refine zw_isub (b - 1) 73 f79_72 rfl rfl ?_
                  refine zw_static_i 76 0 0 [.int c, .int 0, .int (b - 1)] [] [(0, .int c), (1, .int 0), (2, .int (b - 1))] f79_73 rfl k79_74_99 rfl (by decide +kernel) (Nat.le_of_ble_eq_true rfl) (Nat.le_of_ble_eq_true rfl) rfl rfl (by decide +kernel) (by decide +kernel) rfl (Nat.le_of_ble_eq_true rfl) rfl ?_
                  refine zw_iload_n 1 f112_0 rfl rfl ?_
                  refine zw_iload_n 2 f112_1 rfl rfl ?_
                  refine zw_ic_lt 5 14 f112_2 (by decide +kernel) rfl (fun hc29 => ?_) (fun hc29 => ?_)
                  · refine zw_iconst 0 15 f112_14 rfl (by decide +kernel) ?_
                    refine zw_zreturn f112_15 r112 u112 (by decide +kernel) ⟨_, rfl, ?_⟩
                    refine zw_if_ne_f 79 85 f79_76 (by decide +kernel) rfl (by decide +kernel) ?_
                    refine zw_aload_n 80 f79_79 rfl rfl ?_
                    refine zw_iconst 1 81 f79_80 rfl (by decide +kernel) ?_
                    refine zw_virtual_i 84 0 0 [.ref 0, .int 1] [(0, .ref 0), (1, .int 1)] f79_81 rfl n79_78 k79_78_11 rfl (hb_0 _ _ _ _) (by decide +kernel) (Nat.le_of_ble_eq_true rfl) rfl rfl (by decide +kernel) (by decide +kernel) rfl (Nat.le_of_ble_eq_true rfl) rfl ?_
                    refine zw_aload_n 1 f105_0 rfl rfl ?_
                    refine zw_iload_n 2 f105_1 rfl rfl ?_
                    refine zw_put _ 5 f105_2 rfl g105_70_11 (hb_0 _ _ _ _) rfl (Nat.le_of_ble_eq_true rfl) (by decide +kernel) (hi_0_7 _ _ _ _ _) ?_
                    refine zw_iconst (-1) 6 f105_5 rfl (by decide +kernel) ?_
                    refine zw_ireturn f105_6 r105 u105 ⟨_, rfl, ?_⟩
                    refine zw_ireturn f79_84 r79 u79 ?_
                    exact ⟨_, _, _, _, rfl, (KP.i rfl KP.rf), Or.inl ⟨(fun q => (fun q => q.elim (kne (Decidable.of_not_not hc26) (by decide)) (fun q => q.1 hc29)) q.2.2.2), ⟨hI.mono (by omega), PE.rf⟩, rfl⟩⟩
                  · refine zw_iload_n 6 f112_5 rfl rfl ?_
                    refine zw_iload_n 7 f112_6 rfl rfl ?_
                    refine zw_ic_gt 10 14 f112_7 (by decide +kernel) rfl (fun hc30 => ?_) (fun hc30 => ?_)
                    · refine zw_iconst 0 15 f112_14 rfl (by decide +kernel) ?_
                      refine zw_zreturn f112_15 r112 u112 (by decide +kernel) ⟨_, rfl, ?_⟩
                      refine zw_if_ne_f 79 85 f79_76 (by decide +kernel) rfl (by decide +kernel) ?_
                      refine zw_aload_n 80 f79_79 rfl rfl ?_
                      refine zw_iconst 1 81 f79_80 rfl (by decide +kernel) ?_
                      refine zw_virtual_i 84 0 0 [.ref 0, .int 1] [(0, .ref 0), (1, .int 1)] f79_81 rfl n79_78 k79_78_11 rfl (hb_0 _ _ _ _) (by decide +kernel) (Nat.le_of_ble_eq_true rfl) rfl rfl (by decide +kernel) (by decide +kernel) rfl (Nat.le_of_ble_eq_true rfl) rfl ?_
                      refine zw_aload_n 1 f105_0 rfl rfl ?_
                      refine zw_iload_n 2 f105_1 rfl rfl ?_
                      refine zw_put _ 5 f105_2 rfl g105_70_11 (hb_0 _ _ _ _) rfl (Nat.le_of_ble_eq_true rfl) (by decide +kernel) (hi_0_7 _ _ _ _ _) ?_
                      refine zw_iconst (-1) 6 f105_5 rfl (by decide +kernel) ?_
                      refine zw_ireturn f105_6 r105 u105 ⟨_, rfl, ?_⟩
                      refine zw_ireturn f79_84 r79 u79 ?_
                      exact ⟨_, _, _, _, rfl, (KP.i rfl KP.rf), Or.inl ⟨(fun q => (fun q => q.elim (kne (Decidable.of_not_not hc26) (by decide)) (fun q => q.2 hc30)) q.2.2.2), ⟨hI.mono (by omega), PE.rf⟩, rfl⟩⟩
                    · refine zw_iconst 1 11 f112_10 rfl (by decide +kernel) ?_
                      refine zw_goto 15 f112_11 (by decide +kernel) ?_
                      refine zw_zreturn f112_15 r112 u112 (by decide +kernel) ⟨_, rfl, ?_⟩
                      refine zw_if_ne_t 85 f79_76 (by decide +kernel) (by decide +kernel) ?_
                      refine zw_aload_n 86 f79_85 rfl rfl ?_
                      refine zw_getfield 89 f79_86 rfl g79_10_11 (hb_0 _ _ _ _) rfl ?_
                      refine zw_getfield 92 f79_89 rfl g79_103_4 (hb_1 _ _ _ _) rfl ?_
                      refine zw_iload_n 93 f79_92 rfl rfl ?_
                      refine zw_iload_n 94 f79_93 rfl rfl ?_
                      refine zw_ast a.toNatClampNeg _ 95 f79_94 rfl (hb_5 _ _ _ _) rfl hc1 (zix (by decide) hc1 hc3) (ha_5 _ _ _ _ _) ?_
                      refine zw_aload_n 96 f79_95 rfl rfl ?_
                      refine zw_getfield 99 f79_96 rfl g79_10_11 (hb_0 _ _ _ _) rfl ?_
                      refine zw_getfield 102 f79_99 rfl g79_106_4 (hb_1 _ _ _ _) rfl ?_
                      refine zw_iload_n 103 f79_102 rfl rfl ?_
                      refine zw_iload_n 104 f79_103 rfl rfl ?_
                      refine zw_ast a.toNatClampNeg _ 105 f79_104 rfl (hb_4 _ _ _ _) rfl hc1 (zix (by decide) hc1 hc3) (ha_4 _ _ _ _ _) ?_
                      refine zw_aload_n 106 f79_105 rfl rfl ?_
                      refine zw_iconst 1 107 f79_106 rfl (by decide +kernel) ?_
                      refine zw_virtual_i 110 0 0 [.ref 0, .int 1] [(0, .ref 0), (1, .int 1)] f79_107 rfl n79_86 k79_86_11 rfl (hb_0 _ _ _ _) (by decide +kernel) (Nat.le_of_ble_eq_true rfl) rfl rfl (by decide +kernel) (by decide +kernel) rfl (Nat.le_of_ble_eq_true rfl) rfl ?_
                      refine zw_aload_n 1 f107_0 rfl rfl ?_
                      refine zw_getfield 4 f107_1 rfl g107_21_11 (hb_0 _ _ _ _) rfl ?_
                      refine zw_virtual_v 7 0 0 [.ref 11] [(0, .ref 11)] f107_4 rfl n107_318 k107_318_10 rfl (hb_11 _ _ _ _) (by decide +kernel) (Nat.le_of_ble_eq_true rfl) rfl rfl (by decide +kernel) (by decide +kernel) rfl (Nat.le_of_ble_eq_true rfl) rfl ?_
                      have hC_31 : CV nv np cm I := hI
                      refine zWp.mono (ck_X10_settle_11 ro nv np I _ _ _ hC_31.1) ?_
                      rintro r h1 ⟨I_31, G_31, A_31, B_31, rfl, K_31, C_31, rfl⟩
                      refine ⟨rfl, ?_⟩
                      have hV_31 : CV nv np cm I_31 := CV.of (I := I) hC_31 K_31 C_31
                      refine zw_aload_n 8 f107_7 rfl rfl ?_
                      refine zw_getfield 11 f107_8 rfl g107_31_11 (hb_0 _ _ _ _) rfl ?_
                      refine zw_aload_n 12 f107_11 rfl rfl ?_
                      refine zw_getfield 15 f107_12 rfl g107_21_11 (hb_0 _ _ _ _) rfl ?_
                      refine zw_virtual_v 18 0 0 [.ref 33, .ref 11] [(0, .ref 33), (1, .ref 11)] f107_15 rfl n107_187 k107_187_3 rfl (hb_33 _ _ _ _) (by decide +kernel) (Nat.le_of_ble_eq_true rfl) rfl rfl (by decide +kernel) (by decide +kernel) rfl (Nat.le_of_ble_eq_true rfl) rfl ?_
                      refine zWp.mono (cv_X3_take_33 ro nv np cm _ _ _ _ hV_31 (by omega)) ?_
                      rintro r h1 ⟨I_32, G_32, A_32, B_32, rfl, K_32, C_32, rfl⟩
                      refine ⟨rfl, ?_⟩
                      refine zw_aload_n 19 f107_18 rfl rfl ?_
                      refine zw_iload_n 20 f107_19 rfl rfl ?_
                      refine zw_virtual_i 23 0 0 [.ref 0, .int 1] [(0, .ref 0), (1, .int 1)] f107_20 rfl n107_181 k107_181_11 rfl (hb_0 _ _ _ _) (by decide +kernel) (Nat.le_of_ble_eq_true rfl) rfl rfl (by decide +kernel) (by decide +kernel) rfl (Nat.le_of_ble_eq_true rfl) rfl ?_
                      refine zw_aload_n 1 f106_0 rfl rfl ?_
                      refine zw_iconst 0 2 f106_1 rfl (by decide +kernel) ?_
                      refine zw_put _ 5 f106_2 rfl g106_70_11 (hb_0 _ _ _ _) rfl (Nat.le_of_ble_eq_true rfl) (by decide +kernel) (hi_0_7 _ _ _ _ _) ?_
                      refine zw_iload_n 6 f106_5 rfl rfl ?_
                      refine zw_ireturn f106_6 r106 u106 ⟨_, rfl, ?_⟩
                      refine zw_ireturn f107_23 r107 u107 ⟨_, rfl, ?_⟩
                      refine zw_ireturn f79_110 r79 u79 ?_
                      exact ⟨_, _, _, _, rfl, (KP.i rfl (KP.tr (KP.tr (KP.a rfl (KP.a rfl KP.rf)) (KP.wk K_31 (fun k h => pWN k (pNX k h)))) (KP.wk K_32 pNX))), Or.inr ⟨⟨(qV.ofc (by omega) hc1 hc2), ⟨kne (Decidable.of_not_not hc26) (by decide), kne (Decidable.of_not_not hc26) (by decide)⟩, ⟨hc27, hc28⟩, (Or.inr ⟨hc29, hc30⟩)⟩, ⟨C_32, PE.of10 ((K_32.2.2.1 2 rfl).trans (K_31.2.2.1 2 rfl)) ((K_32.2.2.1 3 rfl).trans (K_31.2.2.1 3 rfl)) ((K_32.2.2.1 4 rfl).trans (K_31.2.2.1 4 rfl)) (by rw [show (if cP A 53 a.toNatClampNeg = 1 then (0 : Int32) else c) = c from if_neg (kne (Decidable.of_not_not hc26) (by decide))]; exact ((K_32.2.2.1 5 rfl).trans (K_31.2.2.1 5 rfl))) ((K_32.2.2.1 6 rfl).trans (K_31.2.2.1 6 rfl)) ((K_32.2.2.1 7 rfl).trans (K_31.2.2.1 7 rfl)) ((K_32.2.2.1 8 rfl).trans (K_31.2.2.1 8 rfl)) ((K_32.2.2.1 9 rfl).trans (K_31.2.2.1 9 rfl)) ((K_32.2.2.1 10 rfl).trans (K_31.2.2.1 10 rfl)) ((K_32.2.2.1 15 rfl).trans (K_31.2.2.1 15 rfl))⟩, rfl⟩⟩
set_option maxRecDepth 100000 in
set_option maxHeartbeats 0 in
theorem cm_own (ro : UInt32 → Nat × (Nat → Int32)) (nv np cm : Nat) (I : Nat → Nat → Int32) (G : Nat → Nat → Int64) (A : Nat → Nat → Int32) (B : Nat → Nat → Int64) (hI : CV nv np cm I) (hcm : cm < 900000000) (hQ : qKd nv (cP A)) (a : Int32) (b : Int32) : zWp ro 80 0 [(0, .ref 0), (1, .int a), (2, .int b)] [] (hS I G A B) 0 0 (fun r h1 => ∃ I2 G2 A2 B2, h1 = hS I2 G2 A2 B2 ∧ KP pX I G A B I2 G2 A2 B2 ∧ ((¬ ok_own nv np (cP A) a b ∧ cSt nv np (cm + 8) (cP A) I2 A2 ∧ r = some (.int (-1))) ∨ (ok_own nv np (cP A) a b ∧ cSt nv np (cm + 8) (updA (cP A) 57 (upd ((cP A) 57) a.toNatClampNeg b)) I2 A2 ∧ r = some (.int 1)))) := by
  have h8 := hI.1.1.2
  have h14 := hI.1.2.1.2
  obtain ⟨t, ht, et⟩ := hI.2.2
  refine zw_aload_n 1 f80_0 rfl rfl ?_
  refine zw_getfield 4 f80_1 rfl g80_10_11 (hb_0 _ _ _ _) rfl ?_
  refine zw_iload_n 5 f80_4 rfl rfl ?_
  refine zw_virtual_i 8 0 0 [.ref 1, .int a] [(0, .ref 1), (1, .int a)] f80_5 rfl n80_89 k80_89_4 rfl (hb_1 _ _ _ _) (by decide +kernel) (Nat.le_of_ble_eq_true rfl) rfl rfl (by decide +kernel) (by decide +kernel) rfl (Nat.le_of_ble_eq_true rfl) rfl ?_
  refine zw_iload_n 1 f13_0 rfl rfl ?_
  refine zw_if_lt 4 22 f13_1 (by decide +kernel) rfl (fun hc1 => ?_) (fun hc1 => ?_)
  · refine zw_iconst 0 23 f13_22 rfl (by decide +kernel) ?_
    refine zw_zreturn f13_23 r13 u13 (by decide +kernel) ⟨_, rfl, ?_⟩
    refine zw_if_eq_t 22 f80_8 (by decide +kernel) (by decide +kernel) ?_
    refine zw_aload_n 23 f80_22 rfl rfl ?_
    refine zw_iconst 1 24 f80_23 rfl (by decide +kernel) ?_
    refine zw_virtual_i 27 0 0 [.ref 0, .int 1] [(0, .ref 0), (1, .int 1)] f80_24 rfl n80_78 k80_78_11 rfl (hb_0 _ _ _ _) (by decide +kernel) (Nat.le_of_ble_eq_true rfl) rfl rfl (by decide +kernel) (by decide +kernel) rfl (Nat.le_of_ble_eq_true rfl) rfl ?_
    refine zw_aload_n 1 f105_0 rfl rfl ?_
    refine zw_iload_n 2 f105_1 rfl rfl ?_
    refine zw_put _ 5 f105_2 rfl g105_70_11 (hb_0 _ _ _ _) rfl (Nat.le_of_ble_eq_true rfl) (by decide +kernel) (hi_0_7 _ _ _ _ _) ?_
    refine zw_iconst (-1) 6 f105_5 rfl (by decide +kernel) ?_
    refine zw_ireturn f105_6 r105 u105 ⟨_, rfl, ?_⟩
    refine zw_ireturn f80_27 r80 u80 ?_
    exact ⟨_, _, _, _, rfl, (KP.i rfl KP.rf), Or.inl ⟨(fun q => (qV.n0 (by omega) hc1) q.1), ⟨hI.mono (by omega), PE.rf⟩, rfl⟩⟩
  · refine zw_iload_n 5 f13_4 rfl rfl ?_
    refine zw_aload_n 6 f13_5 rfl rfl ?_
    refine zw_getI (nI nv) 9 f13_6 rfl g13_39_4 (hb_1 _ _ _ _) rfl hI.1.1.1 ?_
    refine zw_ic_ge 12 22 f13_9 (by decide +kernel) rfl (fun hc2 => ?_) (fun hc2 => ?_)
    · refine zw_iconst 0 23 f13_22 rfl (by decide +kernel) ?_
      refine zw_zreturn f13_23 r13 u13 (by decide +kernel) ⟨_, rfl, ?_⟩
      refine zw_if_eq_t 22 f80_8 (by decide +kernel) (by decide +kernel) ?_
      refine zw_aload_n 23 f80_22 rfl rfl ?_
      refine zw_iconst 1 24 f80_23 rfl (by decide +kernel) ?_
      refine zw_virtual_i 27 0 0 [.ref 0, .int 1] [(0, .ref 0), (1, .int 1)] f80_24 rfl n80_78 k80_78_11 rfl (hb_0 _ _ _ _) (by decide +kernel) (Nat.le_of_ble_eq_true rfl) rfl rfl (by decide +kernel) (by decide +kernel) rfl (Nat.le_of_ble_eq_true rfl) rfl ?_
      refine zw_aload_n 1 f105_0 rfl rfl ?_
      refine zw_iload_n 2 f105_1 rfl rfl ?_
      refine zw_put _ 5 f105_2 rfl g105_70_11 (hb_0 _ _ _ _) rfl (Nat.le_of_ble_eq_true rfl) (by decide +kernel) (hi_0_7 _ _ _ _ _) ?_
      refine zw_iconst (-1) 6 f105_5 rfl (by decide +kernel) ?_
      refine zw_ireturn f105_6 r105 u105 ⟨_, rfl, ?_⟩
      refine zw_ireturn f80_27 r80 u80 ?_
      exact ⟨_, _, _, _, rfl, (KP.i rfl KP.rf), Or.inl ⟨(fun q => (qV.n2 (by omega) hc2) q.1), ⟨hI.mono (by omega), PE.rf⟩, rfl⟩⟩
    · refine zw_iload_n 13 f13_12 rfl rfl ?_
      refine zw_bipush 8 15 f13_13 rfl (by decide +kernel) ?_
      refine zw_ic_ge 18 22 f13_15 (by decide +kernel) rfl (fun hc3 => ?_) (fun hc3 => ?_)
      · refine zw_iconst 0 23 f13_22 rfl (by decide +kernel) ?_
        refine zw_zreturn f13_23 r13 u13 (by decide +kernel) ⟨_, rfl, ?_⟩
        refine zw_if_eq_t 22 f80_8 (by decide +kernel) (by decide +kernel) ?_
        refine zw_aload_n 23 f80_22 rfl rfl ?_
        refine zw_iconst 1 24 f80_23 rfl (by decide +kernel) ?_
        refine zw_virtual_i 27 0 0 [.ref 0, .int 1] [(0, .ref 0), (1, .int 1)] f80_24 rfl n80_78 k80_78_11 rfl (hb_0 _ _ _ _) (by decide +kernel) (Nat.le_of_ble_eq_true rfl) rfl rfl (by decide +kernel) (by decide +kernel) rfl (Nat.le_of_ble_eq_true rfl) rfl ?_
        refine zw_aload_n 1 f105_0 rfl rfl ?_
        refine zw_iload_n 2 f105_1 rfl rfl ?_
        refine zw_put _ 5 f105_2 rfl g105_70_11 (hb_0 _ _ _ _) rfl (Nat.le_of_ble_eq_true rfl) (by decide +kernel) (hi_0_7 _ _ _ _ _) ?_
        refine zw_iconst (-1) 6 f105_5 rfl (by decide +kernel) ?_
        refine zw_ireturn f105_6 r105 u105 ⟨_, rfl, ?_⟩
        refine zw_ireturn f80_27 r80 u80 ?_
        exact ⟨_, _, _, _, rfl, (KP.i rfl KP.rf), Or.inl ⟨(fun q => (qV.n3 (m := 8) (N := 8) (by omega) (by omega) (by decide) hc3) q.1), ⟨hI.mono (by omega), PE.rf⟩, rfl⟩⟩
      · refine zw_iconst 1 19 f13_18 rfl (by decide +kernel) ?_
        refine zw_goto 23 f13_19 (by decide +kernel) ?_
        refine zw_zreturn f13_23 r13 u13 (by decide +kernel) ⟨_, rfl, ?_⟩
        refine zw_if_eq_f 11 22 f80_8 (by decide +kernel) rfl (by decide +kernel) ?_
        refine zw_aload_n 12 f80_11 rfl rfl ?_
        refine zw_getfield 15 f80_12 rfl g80_10_11 (hb_0 _ _ _ _) rfl ?_
        refine zw_iload_n 16 f80_15 rfl rfl ?_
        refine zw_virtual_i 19 0 0 [.ref 1, .int b] [(0, .ref 1), (1, .int b)] f80_16 rfl n80_109 k80_109_4 rfl (hb_1 _ _ _ _) (by decide +kernel) (Nat.le_of_ble_eq_true rfl) rfl rfl (by decide +kernel) (by decide +kernel) rfl (Nat.le_of_ble_eq_true rfl) rfl ?_
        refine zw_iload_n 1 f14_0 rfl rfl ?_
        refine zw_if_lt 4 22 f14_1 (by decide +kernel) rfl (fun hc4 => ?_) (fun hc4 => ?_)
        · refine zw_iconst 0 23 f14_22 rfl (by decide +kernel) ?_
          refine zw_zreturn f14_23 r14 u14 (by decide +kernel) ⟨_, rfl, ?_⟩
          refine zw_if_ne_f 22 28 f80_19 (by decide +kernel) rfl (by decide +kernel) ?_
          refine zw_aload_n 23 f80_22 rfl rfl ?_
          refine zw_iconst 1 24 f80_23 rfl (by decide +kernel) ?_
          refine zw_virtual_i 27 0 0 [.ref 0, .int 1] [(0, .ref 0), (1, .int 1)] f80_24 rfl n80_78 k80_78_11 rfl (hb_0 _ _ _ _) (by decide +kernel) (Nat.le_of_ble_eq_true rfl) rfl rfl (by decide +kernel) (by decide +kernel) rfl (Nat.le_of_ble_eq_true rfl) rfl ?_
          refine zw_aload_n 1 f105_0 rfl rfl ?_
          refine zw_iload_n 2 f105_1 rfl rfl ?_
          refine zw_put _ 5 f105_2 rfl g105_70_11 (hb_0 _ _ _ _) rfl (Nat.le_of_ble_eq_true rfl) (by decide +kernel) (hi_0_7 _ _ _ _ _) ?_
          refine zw_iconst (-1) 6 f105_5 rfl (by decide +kernel) ?_
          refine zw_ireturn f105_6 r105 u105 ⟨_, rfl, ?_⟩
          refine zw_ireturn f80_27 r80 u80 ?_
          exact ⟨_, _, _, _, rfl, (KP.i rfl KP.rf), Or.inl ⟨(fun q => (qV.n0 (by omega) hc4) q.2.1), ⟨hI.mono (by omega), PE.rf⟩, rfl⟩⟩
        · refine zw_iload_n 5 f14_4 rfl rfl ?_
          refine zw_aload_n 6 f14_5 rfl rfl ?_
          refine zw_getI (nI np) 9 f14_6 rfl g14_43_4 (hb_1 _ _ _ _) rfl hI.1.2.1.1 ?_
          refine zw_ic_ge 12 22 f14_9 (by decide +kernel) rfl (fun hc5 => ?_) (fun hc5 => ?_)
          · refine zw_iconst 0 23 f14_22 rfl (by decide +kernel) ?_
            refine zw_zreturn f14_23 r14 u14 (by decide +kernel) ⟨_, rfl, ?_⟩
            refine zw_if_ne_f 22 28 f80_19 (by decide +kernel) rfl (by decide +kernel) ?_
            refine zw_aload_n 23 f80_22 rfl rfl ?_
            refine zw_iconst 1 24 f80_23 rfl (by decide +kernel) ?_
            refine zw_virtual_i 27 0 0 [.ref 0, .int 1] [(0, .ref 0), (1, .int 1)] f80_24 rfl n80_78 k80_78_11 rfl (hb_0 _ _ _ _) (by decide +kernel) (Nat.le_of_ble_eq_true rfl) rfl rfl (by decide +kernel) (by decide +kernel) rfl (Nat.le_of_ble_eq_true rfl) rfl ?_
            refine zw_aload_n 1 f105_0 rfl rfl ?_
            refine zw_iload_n 2 f105_1 rfl rfl ?_
            refine zw_put _ 5 f105_2 rfl g105_70_11 (hb_0 _ _ _ _) rfl (Nat.le_of_ble_eq_true rfl) (by decide +kernel) (hi_0_7 _ _ _ _ _) ?_
            refine zw_iconst (-1) 6 f105_5 rfl (by decide +kernel) ?_
            refine zw_ireturn f105_6 r105 u105 ⟨_, rfl, ?_⟩
            refine zw_ireturn f80_27 r80 u80 ?_
            exact ⟨_, _, _, _, rfl, (KP.i rfl KP.rf), Or.inl ⟨(fun q => (qV.n2 (by omega) hc5) q.2.1), ⟨hI.mono (by omega), PE.rf⟩, rfl⟩⟩
          · refine zw_iload_n 13 f14_12 rfl rfl ?_
            refine zw_bipush 14 15 f14_13 rfl (by decide +kernel) ?_
            refine zw_ic_ge 18 22 f14_15 (by decide +kernel) rfl (fun hc6 => ?_) (fun hc6 => ?_)
            · refine zw_iconst 0 23 f14_22 rfl (by decide +kernel) ?_
              refine zw_zreturn f14_23 r14 u14 (by decide +kernel) ⟨_, rfl, ?_⟩
              refine zw_if_ne_f 22 28 f80_19 (by decide +kernel) rfl (by decide +kernel) ?_
              refine zw_aload_n 23 f80_22 rfl rfl ?_
              refine zw_iconst 1 24 f80_23 rfl (by decide +kernel) ?_
              refine zw_virtual_i 27 0 0 [.ref 0, .int 1] [(0, .ref 0), (1, .int 1)] f80_24 rfl n80_78 k80_78_11 rfl (hb_0 _ _ _ _) (by decide +kernel) (Nat.le_of_ble_eq_true rfl) rfl rfl (by decide +kernel) (by decide +kernel) rfl (Nat.le_of_ble_eq_true rfl) rfl ?_
              refine zw_aload_n 1 f105_0 rfl rfl ?_
              refine zw_iload_n 2 f105_1 rfl rfl ?_
              refine zw_put _ 5 f105_2 rfl g105_70_11 (hb_0 _ _ _ _) rfl (Nat.le_of_ble_eq_true rfl) (by decide +kernel) (hi_0_7 _ _ _ _ _) ?_
              refine zw_iconst (-1) 6 f105_5 rfl (by decide +kernel) ?_
              refine zw_ireturn f105_6 r105 u105 ⟨_, rfl, ?_⟩
              refine zw_ireturn f80_27 r80 u80 ?_
              exact ⟨_, _, _, _, rfl, (KP.i rfl KP.rf), Or.inl ⟨(fun q => (qV.n3 (m := 14) (N := 14) (by omega) (by omega) (by decide) hc6) q.2.1), ⟨hI.mono (by omega), PE.rf⟩, rfl⟩⟩
            · refine zw_iconst 1 19 f14_18 rfl (by decide +kernel) ?_
              refine zw_goto 23 f14_19 (by decide +kernel) ?_
              refine zw_zreturn f14_23 r14 u14 (by decide +kernel) ⟨_, rfl, ?_⟩
              refine zw_if_ne_t 28 f80_19 (by decide +kernel) (by decide +kernel) ?_
              refine zw_aload_n 29 f80_28 rfl rfl ?_
              refine zw_getfield 32 f80_29 rfl g80_10_11 (hb_0 _ _ _ _) rfl ?_
              refine zw_iload_n 33 f80_32 rfl rfl ?_
              refine zw_virtual_i 36 0 0 [.ref 1, .int a] [(0, .ref 1), (1, .int a)] f80_33 rfl n80_100 k80_100_4 rfl (hb_1 _ _ _ _) (by decide +kernel) (Nat.le_of_ble_eq_true rfl) rfl rfl (by decide +kernel) (by decide +kernel) rfl (Nat.le_of_ble_eq_true rfl) rfl ?_
              refine zw_iload_n 1 f17_0 rfl rfl ?_
              refine zw_if_lt_f 4 22 f17_1 (by decide +kernel) rfl hc1 ?_
              refine zw_iload_n 5 f17_4 rfl rfl ?_
              refine zw_aload_n 6 f17_5 rfl rfl ?_
              refine zw_getI (nI nv) 9 f17_6 rfl g17_39_4 (hb_1 _ _ _ _) rfl hI.1.1.1 ?_
              refine zw_ic_ge_f 12 22 f17_9 (by decide +kernel) rfl hc2 ?_
              refine zw_iload_n 13 f17_12 rfl rfl ?_
              refine zw_bipush 8 15 f17_13 rfl (by decide +kernel) ?_
              refine zw_ic_ge_f 18 22 f17_15 (by decide +kernel) rfl hc3 ?_
              refine zw_iconst 1 19 f17_18 rfl (by decide +kernel) ?_
              refine zw_goto 23 f17_19 (by decide +kernel) ?_
              refine zw_istore_n _ 24 f17_23 rfl (by decide +kernel) rfl ?_
              refine zw_iload_n 25 f17_24 rfl zl1_eq ?_
              refine zw_if_eq_f 28 52 f17_25 (by decide +kernel) rfl (by decide +kernel) ?_
              refine zw_aload_n 29 f17_28 rfl (zl1_ne rfl rfl rfl) ?_
              refine zw_getfield 32 f17_29 rfl g17_9_4 (hb_1 _ _ _ _) rfl ?_
              refine zw_iload_n 33 f17_32 rfl (zl1_ne rfl rfl rfl) ?_
              refine zw_iaload a.toNatClampNeg (A 2 a.toNatClampNeg) 34 f17_33 rfl (hb_2 _ _ _ _) rfl hc1 (zix (by decide) hc1 hc3) rfl ?_
              refine zw_iconst 3 35 f17_34 rfl (by decide +kernel) ?_
              refine zw_ic_eq 38 48 f17_35 (by decide +kernel) rfl (fun hc7 => ?_) (fun hc7 => ?_)
              · refine zw_iconst 1 49 f17_48 rfl (by decide +kernel) ?_
                refine zw_goto 53 f17_49 (by decide +kernel) ?_
                refine zw_zreturn f17_53 r17 u17 (by decide +kernel) ⟨_, rfl, ?_⟩
                refine zw_if_ne_t 64 f80_36 (by decide +kernel) (by decide +kernel) ?_
                refine zw_iconst 1 65 f80_64 rfl (by decide +kernel) ?_
                refine zw_goto 69 f80_65 (by decide +kernel) ?_
                refine zw_istore_n _ 70 f80_69 rfl (by decide +kernel) rfl ?_
                refine zw_iload_n 71 f80_70 rfl zl1_eq ?_
                refine zw_if_ne_t 80 f80_71 (by decide +kernel) (by decide +kernel) ?_
                refine zw_aload_n 81 f80_80 rfl (zl1_ne rfl rfl rfl) ?_
                refine zw_getfield 84 f80_81 rfl g80_10_11 (hb_0 _ _ _ _) rfl ?_
                refine zw_getfield 87 f80_84 rfl g80_118_4 (hb_1 _ _ _ _) rfl ?_
                refine zw_iload_n 88 f80_87 rfl (zl1_ne rfl rfl rfl) ?_
                refine zw_iload_n 89 f80_88 rfl (zl1_ne rfl rfl rfl) ?_
                refine zw_ast a.toNatClampNeg _ 90 f80_89 rfl (hb_6 _ _ _ _) rfl hc1 (zix (by decide) hc1 hc3) (ha_6 _ _ _ _ _) ?_
                refine zw_aload_n 91 f80_90 rfl (zl1_ne rfl rfl rfl) ?_
                refine zw_iconst 1 92 f80_91 rfl (by decide +kernel) ?_
                refine zw_virtual_i 95 0 0 [.ref 0, .int 1] [(0, .ref 0), (1, .int 1)] f80_92 rfl n80_86 k80_86_11 rfl (hb_0 _ _ _ _) (by decide +kernel) (Nat.le_of_ble_eq_true rfl) rfl rfl (by decide +kernel) (by decide +kernel) rfl (Nat.le_of_ble_eq_true rfl) rfl ?_
                refine zw_aload_n 1 f107_0 rfl rfl ?_
                refine zw_getfield 4 f107_1 rfl g107_21_11 (hb_0 _ _ _ _) rfl ?_
                refine zw_virtual_v 7 0 0 [.ref 11] [(0, .ref 11)] f107_4 rfl n107_318 k107_318_10 rfl (hb_11 _ _ _ _) (by decide +kernel) (Nat.le_of_ble_eq_true rfl) rfl rfl (by decide +kernel) (by decide +kernel) rfl (Nat.le_of_ble_eq_true rfl) rfl ?_
                have hC_8 : CV nv np cm I := hI
                refine zWp.mono (ck_X10_settle_11 ro nv np I _ _ _ hC_8.1) ?_
                rintro r h1 ⟨I_8, G_8, A_8, B_8, rfl, K_8, C_8, rfl⟩
                refine ⟨rfl, ?_⟩
                have hV_8 : CV nv np cm I_8 := CV.of (I := I) hC_8 K_8 C_8
                refine zw_aload_n 8 f107_7 rfl rfl ?_
                refine zw_getfield 11 f107_8 rfl g107_31_11 (hb_0 _ _ _ _) rfl ?_
                refine zw_aload_n 12 f107_11 rfl rfl ?_
                refine zw_getfield 15 f107_12 rfl g107_21_11 (hb_0 _ _ _ _) rfl ?_
                refine zw_virtual_v 18 0 0 [.ref 33, .ref 11] [(0, .ref 33), (1, .ref 11)] f107_15 rfl n107_187 k107_187_3 rfl (hb_33 _ _ _ _) (by decide +kernel) (Nat.le_of_ble_eq_true rfl) rfl rfl (by decide +kernel) (by decide +kernel) rfl (Nat.le_of_ble_eq_true rfl) rfl ?_
                refine zWp.mono (cv_X3_take_33 ro nv np cm _ _ _ _ hV_8 (by omega)) ?_
                rintro r h1 ⟨I_9, G_9, A_9, B_9, rfl, K_9, C_9, rfl⟩
                refine ⟨rfl, ?_⟩
                refine zw_aload_n 19 f107_18 rfl rfl ?_
                refine zw_iload_n 20 f107_19 rfl rfl ?_
                refine zw_virtual_i 23 0 0 [.ref 0, .int 1] [(0, .ref 0), (1, .int 1)] f107_20 rfl n107_181 k107_181_11 rfl (hb_0 _ _ _ _) (by decide +kernel) (Nat.le_of_ble_eq_true rfl) rfl rfl (by decide +kernel) (by decide +kernel) rfl (Nat.le_of_ble_eq_true rfl) rfl ?_
                refine zw_aload_n 1 f106_0 rfl rfl ?_
                refine zw_iconst 0 2 f106_1 rfl (by decide +kernel) ?_
                refine zw_put _ 5 f106_2 rfl g106_70_11 (hb_0 _ _ _ _) rfl (Nat.le_of_ble_eq_true rfl) (by decide +kernel) (hi_0_7 _ _ _ _ _) ?_
                refine zw_iload_n 6 f106_5 rfl rfl ?_
                refine zw_ireturn f106_6 r106 u106 ⟨_, rfl, ?_⟩
                refine zw_ireturn f107_23 r107 u107 ⟨_, rfl, ?_⟩
                refine zw_ireturn f80_95 r80 u80 ?_
                exact ⟨_, _, _, _, rfl, (KP.i rfl (KP.tr (KP.tr (KP.a rfl KP.rf) (KP.wk K_8 (fun k h => pWN k (pNX k h)))) (KP.wk K_9 pNX))), Or.inr ⟨⟨(qV.ofc (by omega) hc1 hc2), (qV.ofc (by omega) hc4 hc5), kne hc7 (by decide), kne hc7 (by decide), Or.inl (kne hc7 (by decide))⟩, ⟨C_9, PE.of10 ((K_9.2.2.1 2 rfl).trans (K_8.2.2.1 2 rfl)) ((K_9.2.2.1 3 rfl).trans (K_8.2.2.1 3 rfl)) ((K_9.2.2.1 4 rfl).trans (K_8.2.2.1 4 rfl)) ((K_9.2.2.1 5 rfl).trans (K_8.2.2.1 5 rfl)) ((K_9.2.2.1 6 rfl).trans (K_8.2.2.1 6 rfl)) ((K_9.2.2.1 7 rfl).trans (K_8.2.2.1 7 rfl)) ((K_9.2.2.1 8 rfl).trans (K_8.2.2.1 8 rfl)) ((K_9.2.2.1 9 rfl).trans (K_8.2.2.1 9 rfl)) ((K_9.2.2.1 10 rfl).trans (K_8.2.2.1 10 rfl)) ((K_9.2.2.1 15 rfl).trans (K_8.2.2.1 15 rfl))⟩, rfl⟩⟩
              · refine zw_aload_n 39 f17_38 rfl (zl1_ne rfl rfl rfl) ?_
                refine zw_getfield 42 f17_39 rfl g17_9_4 (hb_1 _ _ _ _) rfl ?_
                refine zw_iload_n 43 f17_42 rfl (zl1_ne rfl rfl rfl) ?_
                refine zw_iaload a.toNatClampNeg (A 2 a.toNatClampNeg) 44 f17_43 rfl (hb_2 _ _ _ _) rfl hc1 (zix (by decide) hc1 hc3) rfl ?_
                refine zw_iconst 4 45 f17_44 rfl (by decide +kernel) ?_
                refine zw_ic_ne 48 52 f17_45 (by decide +kernel) rfl (fun hc10 => ?_) (fun hc10 => ?_)
                · refine zw_iconst 0 53 f17_52 rfl (by decide +kernel) ?_
                  refine zw_zreturn f17_53 r17 u17 (by decide +kernel) ⟨_, rfl, ?_⟩
                  refine zw_if_ne_f 39 64 f80_36 (by decide +kernel) rfl (by decide +kernel) ?_
                  refine zw_aload_n 40 f80_39 rfl rfl ?_
                  refine zw_getfield 43 f80_40 rfl g80_10_11 (hb_0 _ _ _ _) rfl ?_
                  refine zw_iload_n 44 f80_43 rfl rfl ?_
                  refine zw_virtual_i 47 0 0 [.ref 1, .int a] [(0, .ref 1), (1, .int a)] f80_44 rfl n80_112 k80_112_4 rfl (hb_1 _ _ _ _) (by decide +kernel) (Nat.le_of_ble_eq_true rfl) rfl rfl (by decide +kernel) (by decide +kernel) rfl (Nat.le_of_ble_eq_true rfl) rfl ?_
                  refine zw_iload_n 1 f15_0 rfl rfl ?_
                  refine zw_if_lt_f 4 27 f15_1 (by decide +kernel) rfl hc1 ?_
                  refine zw_iload_n 5 f15_4 rfl rfl ?_
                  refine zw_aload_n 6 f15_5 rfl rfl ?_
                  refine zw_getI (nI nv) 9 f15_6 rfl g15_39_4 (hb_1 _ _ _ _) rfl hI.1.1.1 ?_
                  refine zw_ic_ge_f 12 27 f15_9 (by decide +kernel) rfl hc2 ?_
                  refine zw_iload_n 13 f15_12 rfl rfl ?_
                  refine zw_bipush 8 15 f15_13 rfl (by decide +kernel) ?_
                  refine zw_ic_ge_f 18 27 f15_15 (by decide +kernel) rfl hc3 ?_
                  refine zw_aload_n 19 f15_18 rfl rfl ?_
                  refine zw_getfield 22 f15_19 rfl g15_9_4 (hb_1 _ _ _ _) rfl ?_
                  refine zw_iload_n 23 f15_22 rfl rfl ?_
                  refine zw_iaload a.toNatClampNeg (A 2 a.toNatClampNeg) 24 f15_23 rfl (hb_2 _ _ _ _) rfl hc1 (zix (by decide) hc1 hc3) rfl ?_
                  refine zw_goto 28 f15_24 (by decide +kernel) ?_
                  refine zw_ireturn f15_28 r15 u15 ⟨_, rfl, ?_⟩
                  refine zw_iconst 1 48 f80_47 rfl (by decide +kernel) ?_
                  refine zw_ic_ne 51 68 f80_48 (by decide +kernel) rfl (fun hc11 => ?_) (fun hc11 => ?_)
                  · refine zw_iconst 0 69 f80_68 rfl (by decide +kernel) ?_
                    refine zw_istore_n _ 70 f80_69 rfl (by decide +kernel) rfl ?_
                    refine zw_iload_n 71 f80_70 rfl zl1_eq ?_
                    refine zw_if_ne_f 74 80 f80_71 (by decide +kernel) rfl (by decide +kernel) ?_
                    refine zw_aload_n 75 f80_74 rfl (zl1_ne rfl rfl rfl) ?_
                    refine zw_iconst 3 76 f80_75 rfl (by decide +kernel) ?_
                    refine zw_virtual_i 79 0 0 [.ref 0, .int 3] [(0, .ref 0), (1, .int 3)] f80_76 rfl n80_78 k80_78_11 rfl (hb_0 _ _ _ _) (by decide +kernel) (Nat.le_of_ble_eq_true rfl) rfl rfl (by decide +kernel) (by decide +kernel) rfl (Nat.le_of_ble_eq_true rfl) rfl ?_
                    refine zw_aload_n 1 f105_0 rfl rfl ?_
                    refine zw_iload_n 2 f105_1 rfl rfl ?_
                    refine zw_put _ 5 f105_2 rfl g105_70_11 (hb_0 _ _ _ _) rfl (Nat.le_of_ble_eq_true rfl) (by decide +kernel) (hi_0_7 _ _ _ _ _) ?_
                    refine zw_iconst (-1) 6 f105_5 rfl (by decide +kernel) ?_
                    refine zw_ireturn f105_6 r105 u105 ⟨_, rfl, ?_⟩
                    refine zw_ireturn f80_79 r80 u80 ?_
                    exact ⟨_, _, _, _, rfl, (KP.i rfl KP.rf), Or.inl ⟨(fun q => (fun q => k02 (hQ.1 a.toNatClampNeg ((qV.ofc (by omega) hc1 hc2)).1) hc11 hc7 hc10 q.1 q.2.1) q.2.2), ⟨hI.mono (by omega), PE.rf⟩, rfl⟩⟩
                  · refine zw_aload_n 52 f80_51 rfl rfl ?_
                    refine zw_getfield 55 f80_52 rfl g80_10_11 (hb_0 _ _ _ _) rfl ?_
                    refine zw_getfield 58 f80_55 rfl g80_115_4 (hb_1 _ _ _ _) rfl ?_
                    refine zw_iload_n 59 f80_58 rfl rfl ?_
                    refine zw_iaload b.toNatClampNeg (A 9 b.toNatClampNeg) 60 f80_59 rfl (hb_9 _ _ _ _) rfl hc4 (zix (by decide) hc4 hc6) rfl ?_
                    refine zw_iload_n 61 f80_60 rfl rfl ?_
                    refine zw_ic_ne 64 68 f80_61 (by decide +kernel) rfl (fun hc12 => ?_) (fun hc12 => ?_)
                    · refine zw_iconst 0 69 f80_68 rfl (by decide +kernel) ?_
                      refine zw_istore_n _ 70 f80_69 rfl (by decide +kernel) rfl ?_
                      refine zw_iload_n 71 f80_70 rfl zl1_eq ?_
                      refine zw_if_ne_f 74 80 f80_71 (by decide +kernel) rfl (by decide +kernel) ?_
                      refine zw_aload_n 75 f80_74 rfl (zl1_ne rfl rfl rfl) ?_
                      refine zw_iconst 3 76 f80_75 rfl (by decide +kernel) ?_
                      refine zw_virtual_i 79 0 0 [.ref 0, .int 3] [(0, .ref 0), (1, .int 3)] f80_76 rfl n80_78 k80_78_11 rfl (hb_0 _ _ _ _) (by decide +kernel) (Nat.le_of_ble_eq_true rfl) rfl rfl (by decide +kernel) (by decide +kernel) rfl (Nat.le_of_ble_eq_true rfl) rfl ?_
                      refine zw_aload_n 1 f105_0 rfl rfl ?_
                      refine zw_iload_n 2 f105_1 rfl rfl ?_
                      refine zw_put _ 5 f105_2 rfl g105_70_11 (hb_0 _ _ _ _) rfl (Nat.le_of_ble_eq_true rfl) (by decide +kernel) (hi_0_7 _ _ _ _ _) ?_
                      refine zw_iconst (-1) 6 f105_5 rfl (by decide +kernel) ?_
                      refine zw_ireturn f105_6 r105 u105 ⟨_, rfl, ?_⟩
                      refine zw_ireturn f80_79 r80 u80 ?_
                      exact ⟨_, _, _, _, rfl, (KP.i rfl KP.rf), Or.inl ⟨(fun q => (fun q => q.2.2.elim (fun z => z (Decidable.of_not_not hc11)) hc12) q.2.2), ⟨hI.mono (by omega), PE.rf⟩, rfl⟩⟩
                    · refine zw_iconst 1 65 f80_64 rfl (by decide +kernel) ?_
                      refine zw_goto 69 f80_65 (by decide +kernel) ?_
                      refine zw_istore_n _ 70 f80_69 rfl (by decide +kernel) rfl ?_
                      refine zw_iload_n 71 f80_70 rfl zl1_eq ?_
                      refine zw_if_ne_t 80 f80_71 (by decide +kernel) (by decide +kernel) ?_
                      refine zw_aload_n 81 f80_80 rfl (zl1_ne rfl rfl rfl) ?_
                      refine zw_getfield 84 f80_81 rfl g80_10_11 (hb_0 _ _ _ _) rfl ?_
                      refine zw_getfield 87 f80_84 rfl g80_118_4 (hb_1 _ _ _ _) rfl ?_
                      refine zw_iload_n 88 f80_87 rfl (zl1_ne rfl rfl rfl) ?_
                      refine zw_iload_n 89 f80_88 rfl (zl1_ne rfl rfl rfl) ?_
                      refine zw_ast a.toNatClampNeg _ 90 f80_89 rfl (hb_6 _ _ _ _) rfl hc1 (zix (by decide) hc1 hc3) (ha_6 _ _ _ _ _) ?_
                      refine zw_aload_n 91 f80_90 rfl (zl1_ne rfl rfl rfl) ?_
                      refine zw_iconst 1 92 f80_91 rfl (by decide +kernel) ?_
                      refine zw_virtual_i 95 0 0 [.ref 0, .int 1] [(0, .ref 0), (1, .int 1)] f80_92 rfl n80_86 k80_86_11 rfl (hb_0 _ _ _ _) (by decide +kernel) (Nat.le_of_ble_eq_true rfl) rfl rfl (by decide +kernel) (by decide +kernel) rfl (Nat.le_of_ble_eq_true rfl) rfl ?_
                      refine zw_aload_n 1 f107_0 rfl rfl ?_
                      refine zw_getfield 4 f107_1 rfl g107_21_11 (hb_0 _ _ _ _) rfl ?_
                      refine zw_virtual_v 7 0 0 [.ref 11] [(0, .ref 11)] f107_4 rfl n107_318 k107_318_10 rfl (hb_11 _ _ _ _) (by decide +kernel) (Nat.le_of_ble_eq_true rfl) rfl rfl (by decide +kernel) (by decide +kernel) rfl (Nat.le_of_ble_eq_true rfl) rfl ?_
                      have hC_13 : CV nv np cm I := hI
                      refine zWp.mono (ck_X10_settle_11 ro nv np I _ _ _ hC_13.1) ?_
                      rintro r h1 ⟨I_13, G_13, A_13, B_13, rfl, K_13, C_13, rfl⟩
                      refine ⟨rfl, ?_⟩
                      have hV_13 : CV nv np cm I_13 := CV.of (I := I) hC_13 K_13 C_13
                      refine zw_aload_n 8 f107_7 rfl rfl ?_
                      refine zw_getfield 11 f107_8 rfl g107_31_11 (hb_0 _ _ _ _) rfl ?_
                      refine zw_aload_n 12 f107_11 rfl rfl ?_
                      refine zw_getfield 15 f107_12 rfl g107_21_11 (hb_0 _ _ _ _) rfl ?_
                      refine zw_virtual_v 18 0 0 [.ref 33, .ref 11] [(0, .ref 33), (1, .ref 11)] f107_15 rfl n107_187 k107_187_3 rfl (hb_33 _ _ _ _) (by decide +kernel) (Nat.le_of_ble_eq_true rfl) rfl rfl (by decide +kernel) (by decide +kernel) rfl (Nat.le_of_ble_eq_true rfl) rfl ?_
                      refine zWp.mono (cv_X3_take_33 ro nv np cm _ _ _ _ hV_13 (by omega)) ?_
                      rintro r h1 ⟨I_14, G_14, A_14, B_14, rfl, K_14, C_14, rfl⟩
                      refine ⟨rfl, ?_⟩
                      refine zw_aload_n 19 f107_18 rfl rfl ?_
                      refine zw_iload_n 20 f107_19 rfl rfl ?_
                      refine zw_virtual_i 23 0 0 [.ref 0, .int 1] [(0, .ref 0), (1, .int 1)] f107_20 rfl n107_181 k107_181_11 rfl (hb_0 _ _ _ _) (by decide +kernel) (Nat.le_of_ble_eq_true rfl) rfl rfl (by decide +kernel) (by decide +kernel) rfl (Nat.le_of_ble_eq_true rfl) rfl ?_
                      refine zw_aload_n 1 f106_0 rfl rfl ?_
                      refine zw_iconst 0 2 f106_1 rfl (by decide +kernel) ?_
                      refine zw_put _ 5 f106_2 rfl g106_70_11 (hb_0 _ _ _ _) rfl (Nat.le_of_ble_eq_true rfl) (by decide +kernel) (hi_0_7 _ _ _ _ _) ?_
                      refine zw_iload_n 6 f106_5 rfl rfl ?_
                      refine zw_ireturn f106_6 r106 u106 ⟨_, rfl, ?_⟩
                      refine zw_ireturn f107_23 r107 u107 ⟨_, rfl, ?_⟩
                      refine zw_ireturn f80_95 r80 u80 ?_
                      exact ⟨_, _, _, _, rfl, (KP.i rfl (KP.tr (KP.tr (KP.a rfl KP.rf) (KP.wk K_13 (fun k h => pWN k (pNX k h)))) (KP.wk K_14 pNX))), Or.inr ⟨⟨(qV.ofc (by omega) hc1 hc2), (qV.ofc (by omega) hc4 hc5), kne (Decidable.of_not_not hc11) (by decide), kne (Decidable.of_not_not hc11) (by decide), Or.inr (Decidable.of_not_not hc12)⟩, ⟨C_14, PE.of10 ((K_14.2.2.1 2 rfl).trans (K_13.2.2.1 2 rfl)) ((K_14.2.2.1 3 rfl).trans (K_13.2.2.1 3 rfl)) ((K_14.2.2.1 4 rfl).trans (K_13.2.2.1 4 rfl)) ((K_14.2.2.1 5 rfl).trans (K_13.2.2.1 5 rfl)) ((K_14.2.2.1 6 rfl).trans (K_13.2.2.1 6 rfl)) ((K_14.2.2.1 7 rfl).trans (K_13.2.2.1 7 rfl)) ((K_14.2.2.1 8 rfl).trans (K_13.2.2.1 8 rfl)) ((K_14.2.2.1 9 rfl).trans (K_13.2.2.1 9 rfl)) ((K_14.2.2.1 10 rfl).trans (K_13.2.2.1 10 rfl)) ((K_14.2.2.1 15 rfl).trans (K_13.2.2.1 15 rfl))⟩, rfl⟩⟩
                · refine zw_iconst 1 49 f17_48 rfl (by decide +kernel) ?_
                  refine zw_goto 53 f17_49 (by decide +kernel) ?_
                  refine zw_zreturn f17_53 r17 u17 (by decide +kernel) ⟨_, rfl, ?_⟩
                  refine zw_if_ne_t 64 f80_36 (by decide +kernel) (by decide +kernel) ?_
                  refine zw_iconst 1 65 f80_64 rfl (by decide +kernel) ?_
                  refine zw_goto 69 f80_65 (by decide +kernel) ?_
                  refine zw_istore_n _ 70 f80_69 rfl (by decide +kernel) rfl ?_
                  refine zw_iload_n 71 f80_70 rfl zl1_eq ?_
                  refine zw_if_ne_t 80 f80_71 (by decide +kernel) (by decide +kernel) ?_
                  refine zw_aload_n 81 f80_80 rfl (zl1_ne rfl rfl rfl) ?_
                  refine zw_getfield 84 f80_81 rfl g80_10_11 (hb_0 _ _ _ _) rfl ?_
                  refine zw_getfield 87 f80_84 rfl g80_118_4 (hb_1 _ _ _ _) rfl ?_
                  refine zw_iload_n 88 f80_87 rfl (zl1_ne rfl rfl rfl) ?_
                  refine zw_iload_n 89 f80_88 rfl (zl1_ne rfl rfl rfl) ?_
                  refine zw_ast a.toNatClampNeg _ 90 f80_89 rfl (hb_6 _ _ _ _) rfl hc1 (zix (by decide) hc1 hc3) (ha_6 _ _ _ _ _) ?_
                  refine zw_aload_n 91 f80_90 rfl (zl1_ne rfl rfl rfl) ?_
                  refine zw_iconst 1 92 f80_91 rfl (by decide +kernel) ?_
                  refine zw_virtual_i 95 0 0 [.ref 0, .int 1] [(0, .ref 0), (1, .int 1)] f80_92 rfl n80_86 k80_86_11 rfl (hb_0 _ _ _ _) (by decide +kernel) (Nat.le_of_ble_eq_true rfl) rfl rfl (by decide +kernel) (by decide +kernel) rfl (Nat.le_of_ble_eq_true rfl) rfl ?_
                  refine zw_aload_n 1 f107_0 rfl rfl ?_
                  refine zw_getfield 4 f107_1 rfl g107_21_11 (hb_0 _ _ _ _) rfl ?_
                  refine zw_virtual_v 7 0 0 [.ref 11] [(0, .ref 11)] f107_4 rfl n107_318 k107_318_10 rfl (hb_11 _ _ _ _) (by decide +kernel) (Nat.le_of_ble_eq_true rfl) rfl rfl (by decide +kernel) (by decide +kernel) rfl (Nat.le_of_ble_eq_true rfl) rfl ?_
                  have hC_15 : CV nv np cm I := hI
                  refine zWp.mono (ck_X10_settle_11 ro nv np I _ _ _ hC_15.1) ?_
                  rintro r h1 ⟨I_15, G_15, A_15, B_15, rfl, K_15, C_15, rfl⟩
                  refine ⟨rfl, ?_⟩
                  have hV_15 : CV nv np cm I_15 := CV.of (I := I) hC_15 K_15 C_15
                  refine zw_aload_n 8 f107_7 rfl rfl ?_
                  refine zw_getfield 11 f107_8 rfl g107_31_11 (hb_0 _ _ _ _) rfl ?_
                  refine zw_aload_n 12 f107_11 rfl rfl ?_
                  refine zw_getfield 15 f107_12 rfl g107_21_11 (hb_0 _ _ _ _) rfl ?_
                  refine zw_virtual_v 18 0 0 [.ref 33, .ref 11] [(0, .ref 33), (1, .ref 11)] f107_15 rfl n107_187 k107_187_3 rfl (hb_33 _ _ _ _) (by decide +kernel) (Nat.le_of_ble_eq_true rfl) rfl rfl (by decide +kernel) (by decide +kernel) rfl (Nat.le_of_ble_eq_true rfl) rfl ?_
                  refine zWp.mono (cv_X3_take_33 ro nv np cm _ _ _ _ hV_15 (by omega)) ?_
                  rintro r h1 ⟨I_16, G_16, A_16, B_16, rfl, K_16, C_16, rfl⟩
                  refine ⟨rfl, ?_⟩
                  refine zw_aload_n 19 f107_18 rfl rfl ?_
                  refine zw_iload_n 20 f107_19 rfl rfl ?_
                  refine zw_virtual_i 23 0 0 [.ref 0, .int 1] [(0, .ref 0), (1, .int 1)] f107_20 rfl n107_181 k107_181_11 rfl (hb_0 _ _ _ _) (by decide +kernel) (Nat.le_of_ble_eq_true rfl) rfl rfl (by decide +kernel) (by decide +kernel) rfl (Nat.le_of_ble_eq_true rfl) rfl ?_
                  refine zw_aload_n 1 f106_0 rfl rfl ?_
                  refine zw_iconst 0 2 f106_1 rfl (by decide +kernel) ?_
                  refine zw_put _ 5 f106_2 rfl g106_70_11 (hb_0 _ _ _ _) rfl (Nat.le_of_ble_eq_true rfl) (by decide +kernel) (hi_0_7 _ _ _ _ _) ?_
                  refine zw_iload_n 6 f106_5 rfl rfl ?_
                  refine zw_ireturn f106_6 r106 u106 ⟨_, rfl, ?_⟩
                  refine zw_ireturn f107_23 r107 u107 ⟨_, rfl, ?_⟩
                  refine zw_ireturn f80_95 r80 u80 ?_
                  exact ⟨_, _, _, _, rfl, (KP.i rfl (KP.tr (KP.tr (KP.a rfl KP.rf) (KP.wk K_15 (fun k h => pWN k (pNX k h)))) (KP.wk K_16 pNX))), Or.inr ⟨⟨(qV.ofc (by omega) hc1 hc2), (qV.ofc (by omega) hc4 hc5), kne (Decidable.of_not_not hc10) (by decide), kne (Decidable.of_not_not hc10) (by decide), Or.inl (kne (Decidable.of_not_not hc10) (by decide))⟩, ⟨C_16, PE.of10 ((K_16.2.2.1 2 rfl).trans (K_15.2.2.1 2 rfl)) ((K_16.2.2.1 3 rfl).trans (K_15.2.2.1 3 rfl)) ((K_16.2.2.1 4 rfl).trans (K_15.2.2.1 4 rfl)) ((K_16.2.2.1 5 rfl).trans (K_15.2.2.1 5 rfl)) ((K_16.2.2.1 6 rfl).trans (K_15.2.2.1 6 rfl)) ((K_16.2.2.1 7 rfl).trans (K_15.2.2.1 7 rfl)) ((K_16.2.2.1 8 rfl).trans (K_15.2.2.1 8 rfl)) ((K_16.2.2.1 9 rfl).trans (K_15.2.2.1 9 rfl)) ((K_16.2.2.1 10 rfl).trans (K_15.2.2.1 10 rfl)) ((K_16.2.2.1 15 rfl).trans (K_15.2.2.1 15 rfl))⟩, rfl⟩⟩
set_option maxRecDepth 100000 in
set_option maxHeartbeats 0 in
theorem cm_tips (ro : UInt32 → Nat × (Nat → Int32)) (nv np cm : Nat) (I : Nat → Nat → Int32) (G : Nat → Nat → Int64) (A : Nat → Nat → Int32) (B : Nat → Nat → Int64) (hI : CV nv np cm I) (hcm : cm < 900000000) (hQ : qKd nv (cP A)) (a : Int32) (b : Int32) : zWp ro 81 0 [(0, .ref 0), (1, .int a), (2, .int b)] [] (hS I G A B) 0 0 (fun r h1 => ∃ I2 G2 A2 B2, h1 = hS I2 G2 A2 B2 ∧ KP pX I G A B I2 G2 A2 B2 ∧ ((¬ ok_tips nv np (cP A) a b ∧ cSt nv np (cm + 8) (cP A) I2 A2 ∧ r = some (.int (-1))) ∨ (ok_tips nv np (cP A) a b ∧ cSt nv np (cm + 8) (updA (cP A) 58 (upd ((cP A) 58) a.toNatClampNeg b)) I2 A2 ∧ r = some (.int 1)))) := by
  have h8 := hI.1.1.2
  have h14 := hI.1.2.1.2
  obtain ⟨t, ht, et⟩ := hI.2.2
  refine zw_aload_n 1 f81_0 rfl rfl ?_
  refine zw_getfield 4 f81_1 rfl g81_10_11 (hb_0 _ _ _ _) rfl ?_
  refine zw_iload_n 5 f81_4 rfl rfl ?_
  refine zw_virtual_i 8 0 0 [.ref 1, .int a] [(0, .ref 1), (1, .int a)] f81_5 rfl n81_89 k81_89_4 rfl (hb_1 _ _ _ _) (by decide +kernel) (Nat.le_of_ble_eq_true rfl) rfl rfl (by decide +kernel) (by decide +kernel) rfl (Nat.le_of_ble_eq_true rfl) rfl ?_
  refine zw_iload_n 1 f13_0 rfl rfl ?_
  refine zw_if_lt 4 22 f13_1 (by decide +kernel) rfl (fun hc1 => ?_) (fun hc1 => ?_)
  · refine zw_iconst 0 23 f13_22 rfl (by decide +kernel) ?_
    refine zw_zreturn f13_23 r13 u13 (by decide +kernel) ⟨_, rfl, ?_⟩
    refine zw_if_eq_t 23 f81_8 (by decide +kernel) (by decide +kernel) ?_
    refine zw_aload_n 24 f81_23 rfl rfl ?_
    refine zw_iconst 1 25 f81_24 rfl (by decide +kernel) ?_
    refine zw_virtual_i 28 0 0 [.ref 0, .int 1] [(0, .ref 0), (1, .int 1)] f81_25 rfl n81_78 k81_78_11 rfl (hb_0 _ _ _ _) (by decide +kernel) (Nat.le_of_ble_eq_true rfl) rfl rfl (by decide +kernel) (by decide +kernel) rfl (Nat.le_of_ble_eq_true rfl) rfl ?_
    refine zw_aload_n 1 f105_0 rfl rfl ?_
    refine zw_iload_n 2 f105_1 rfl rfl ?_
    refine zw_put _ 5 f105_2 rfl g105_70_11 (hb_0 _ _ _ _) rfl (Nat.le_of_ble_eq_true rfl) (by decide +kernel) (hi_0_7 _ _ _ _ _) ?_
    refine zw_iconst (-1) 6 f105_5 rfl (by decide +kernel) ?_
    refine zw_ireturn f105_6 r105 u105 ⟨_, rfl, ?_⟩
    refine zw_ireturn f81_28 r81 u81 ?_
    exact ⟨_, _, _, _, rfl, (KP.i rfl KP.rf), Or.inl ⟨(fun q => (qV.n0 (by omega) hc1) q.1), ⟨hI.mono (by omega), PE.rf⟩, rfl⟩⟩
  · refine zw_iload_n 5 f13_4 rfl rfl ?_
    refine zw_aload_n 6 f13_5 rfl rfl ?_
    refine zw_getI (nI nv) 9 f13_6 rfl g13_39_4 (hb_1 _ _ _ _) rfl hI.1.1.1 ?_
    refine zw_ic_ge 12 22 f13_9 (by decide +kernel) rfl (fun hc2 => ?_) (fun hc2 => ?_)
    · refine zw_iconst 0 23 f13_22 rfl (by decide +kernel) ?_
      refine zw_zreturn f13_23 r13 u13 (by decide +kernel) ⟨_, rfl, ?_⟩
      refine zw_if_eq_t 23 f81_8 (by decide +kernel) (by decide +kernel) ?_
      refine zw_aload_n 24 f81_23 rfl rfl ?_
      refine zw_iconst 1 25 f81_24 rfl (by decide +kernel) ?_
      refine zw_virtual_i 28 0 0 [.ref 0, .int 1] [(0, .ref 0), (1, .int 1)] f81_25 rfl n81_78 k81_78_11 rfl (hb_0 _ _ _ _) (by decide +kernel) (Nat.le_of_ble_eq_true rfl) rfl rfl (by decide +kernel) (by decide +kernel) rfl (Nat.le_of_ble_eq_true rfl) rfl ?_
      refine zw_aload_n 1 f105_0 rfl rfl ?_
      refine zw_iload_n 2 f105_1 rfl rfl ?_
      refine zw_put _ 5 f105_2 rfl g105_70_11 (hb_0 _ _ _ _) rfl (Nat.le_of_ble_eq_true rfl) (by decide +kernel) (hi_0_7 _ _ _ _ _) ?_
      refine zw_iconst (-1) 6 f105_5 rfl (by decide +kernel) ?_
      refine zw_ireturn f105_6 r105 u105 ⟨_, rfl, ?_⟩
      refine zw_ireturn f81_28 r81 u81 ?_
      exact ⟨_, _, _, _, rfl, (KP.i rfl KP.rf), Or.inl ⟨(fun q => (qV.n2 (by omega) hc2) q.1), ⟨hI.mono (by omega), PE.rf⟩, rfl⟩⟩
    · refine zw_iload_n 13 f13_12 rfl rfl ?_
      refine zw_bipush 8 15 f13_13 rfl (by decide +kernel) ?_
      refine zw_ic_ge 18 22 f13_15 (by decide +kernel) rfl (fun hc3 => ?_) (fun hc3 => ?_)
      · refine zw_iconst 0 23 f13_22 rfl (by decide +kernel) ?_
        refine zw_zreturn f13_23 r13 u13 (by decide +kernel) ⟨_, rfl, ?_⟩
        refine zw_if_eq_t 23 f81_8 (by decide +kernel) (by decide +kernel) ?_
        refine zw_aload_n 24 f81_23 rfl rfl ?_
        refine zw_iconst 1 25 f81_24 rfl (by decide +kernel) ?_
        refine zw_virtual_i 28 0 0 [.ref 0, .int 1] [(0, .ref 0), (1, .int 1)] f81_25 rfl n81_78 k81_78_11 rfl (hb_0 _ _ _ _) (by decide +kernel) (Nat.le_of_ble_eq_true rfl) rfl rfl (by decide +kernel) (by decide +kernel) rfl (Nat.le_of_ble_eq_true rfl) rfl ?_
        refine zw_aload_n 1 f105_0 rfl rfl ?_
        refine zw_iload_n 2 f105_1 rfl rfl ?_
        refine zw_put _ 5 f105_2 rfl g105_70_11 (hb_0 _ _ _ _) rfl (Nat.le_of_ble_eq_true rfl) (by decide +kernel) (hi_0_7 _ _ _ _ _) ?_
        refine zw_iconst (-1) 6 f105_5 rfl (by decide +kernel) ?_
        refine zw_ireturn f105_6 r105 u105 ⟨_, rfl, ?_⟩
        refine zw_ireturn f81_28 r81 u81 ?_
        exact ⟨_, _, _, _, rfl, (KP.i rfl KP.rf), Or.inl ⟨(fun q => (qV.n3 (m := 8) (N := 8) (by omega) (by omega) (by decide) hc3) q.1), ⟨hI.mono (by omega), PE.rf⟩, rfl⟩⟩
      · refine zw_iconst 1 19 f13_18 rfl (by decide +kernel) ?_
        refine zw_goto 23 f13_19 (by decide +kernel) ?_
        refine zw_zreturn f13_23 r13 u13 (by decide +kernel) ⟨_, rfl, ?_⟩
        refine zw_if_eq_f 11 23 f81_8 (by decide +kernel) rfl (by decide +kernel) ?_
        refine zw_aload_n 12 f81_11 rfl rfl ?_
        refine zw_getfield 15 f81_12 rfl g81_10_11 (hb_0 _ _ _ _) rfl ?_
        refine zw_iload_n 16 f81_15 rfl rfl ?_
        refine zw_iload_n 17 f81_16 rfl rfl ?_
        refine zw_virtual_i 20 0 0 [.ref 1, .int b, .int a] [(0, .ref 1), (1, .int b), (2, .int a)] f81_17 rfl n81_121 k81_121_4 rfl (hb_1 _ _ _ _) (by decide +kernel) (Nat.le_of_ble_eq_true rfl) rfl rfl (by decide +kernel) (by decide +kernel) rfl (Nat.le_of_ble_eq_true rfl) rfl ?_
        refine zw_iload_n 1 f19_0 rfl rfl ?_
        refine zw_iconst (-1) 2 f19_1 rfl (by decide +kernel) ?_
        refine zw_ic_eq 5 18 f19_2 (by decide +kernel) rfl (fun hc4 => ?_) (fun hc4 => ?_)
        · refine zw_iconst 1 19 f19_18 rfl (by decide +kernel) ?_
          refine zw_goto 23 f19_19 (by decide +kernel) ?_
          refine zw_zreturn f19_23 r19 u19 (by decide +kernel) ⟨_, rfl, ?_⟩
          refine zw_if_ne_t 29 f81_20 (by decide +kernel) (by decide +kernel) ?_
          refine zw_aload_n 30 f81_29 rfl rfl ?_
          refine zw_getfield 33 f81_30 rfl g81_10_11 (hb_0 _ _ _ _) rfl ?_
          refine zw_iload_n 34 f81_33 rfl rfl ?_
          refine zw_virtual_i 37 0 0 [.ref 1, .int a] [(0, .ref 1), (1, .int a)] f81_34 rfl n81_112 k81_112_4 rfl (hb_1 _ _ _ _) (by decide +kernel) (Nat.le_of_ble_eq_true rfl) rfl rfl (by decide +kernel) (by decide +kernel) rfl (Nat.le_of_ble_eq_true rfl) rfl ?_
          refine zw_iload_n 1 f15_0 rfl rfl ?_
          refine zw_if_lt_f 4 27 f15_1 (by decide +kernel) rfl hc1 ?_
          refine zw_iload_n 5 f15_4 rfl rfl ?_
          refine zw_aload_n 6 f15_5 rfl rfl ?_
          refine zw_getI (nI nv) 9 f15_6 rfl g15_39_4 (hb_1 _ _ _ _) rfl hI.1.1.1 ?_
          refine zw_ic_ge_f 12 27 f15_9 (by decide +kernel) rfl hc2 ?_
          refine zw_iload_n 13 f15_12 rfl rfl ?_
          refine zw_bipush 8 15 f15_13 rfl (by decide +kernel) ?_
          refine zw_ic_ge_f 18 27 f15_15 (by decide +kernel) rfl hc3 ?_
          refine zw_aload_n 19 f15_18 rfl rfl ?_
          refine zw_getfield 22 f15_19 rfl g15_9_4 (hb_1 _ _ _ _) rfl ?_
          refine zw_iload_n 23 f15_22 rfl rfl ?_
          refine zw_iaload a.toNatClampNeg (A 2 a.toNatClampNeg) 24 f15_23 rfl (hb_2 _ _ _ _) rfl hc1 (zix (by decide) hc1 hc3) rfl ?_
          refine zw_goto 28 f15_24 (by decide +kernel) ?_
          refine zw_ireturn f15_28 r15 u15 ⟨_, rfl, ?_⟩
          refine zw_iconst 2 38 f81_37 rfl (by decide +kernel) ?_
          refine zw_ic_eq 41 47 f81_38 (by decide +kernel) rfl (fun hc5 => ?_) (fun hc5 => ?_)
          · refine zw_aload_n 48 f81_47 rfl rfl ?_
            refine zw_getfield 51 f81_48 rfl g81_10_11 (hb_0 _ _ _ _) rfl ?_
            refine zw_getfield 54 f81_51 rfl g81_125_4 (hb_1 _ _ _ _) rfl ?_
            refine zw_iload_n 55 f81_54 rfl rfl ?_
            refine zw_iload_n 56 f81_55 rfl rfl ?_
            refine zw_ast a.toNatClampNeg _ 57 f81_56 rfl (hb_7 _ _ _ _) rfl hc1 (zix (by decide) hc1 hc3) (ha_7 _ _ _ _ _) ?_
            refine zw_aload_n 58 f81_57 rfl rfl ?_
            refine zw_iconst 1 59 f81_58 rfl (by decide +kernel) ?_
            refine zw_virtual_i 62 0 0 [.ref 0, .int 1] [(0, .ref 0), (1, .int 1)] f81_59 rfl n81_86 k81_86_11 rfl (hb_0 _ _ _ _) (by decide +kernel) (Nat.le_of_ble_eq_true rfl) rfl rfl (by decide +kernel) (by decide +kernel) rfl (Nat.le_of_ble_eq_true rfl) rfl ?_
            refine zw_aload_n 1 f107_0 rfl rfl ?_
            refine zw_getfield 4 f107_1 rfl g107_21_11 (hb_0 _ _ _ _) rfl ?_
            refine zw_virtual_v 7 0 0 [.ref 11] [(0, .ref 11)] f107_4 rfl n107_318 k107_318_10 rfl (hb_11 _ _ _ _) (by decide +kernel) (Nat.le_of_ble_eq_true rfl) rfl rfl (by decide +kernel) (by decide +kernel) rfl (Nat.le_of_ble_eq_true rfl) rfl ?_
            have hC_6 : CV nv np cm I := hI
            refine zWp.mono (ck_X10_settle_11 ro nv np I _ _ _ hC_6.1) ?_
            rintro r h1 ⟨I_6, G_6, A_6, B_6, rfl, K_6, C_6, rfl⟩
            refine ⟨rfl, ?_⟩
            have hV_6 : CV nv np cm I_6 := CV.of (I := I) hC_6 K_6 C_6
            refine zw_aload_n 8 f107_7 rfl rfl ?_
            refine zw_getfield 11 f107_8 rfl g107_31_11 (hb_0 _ _ _ _) rfl ?_
            refine zw_aload_n 12 f107_11 rfl rfl ?_
            refine zw_getfield 15 f107_12 rfl g107_21_11 (hb_0 _ _ _ _) rfl ?_
            refine zw_virtual_v 18 0 0 [.ref 33, .ref 11] [(0, .ref 33), (1, .ref 11)] f107_15 rfl n107_187 k107_187_3 rfl (hb_33 _ _ _ _) (by decide +kernel) (Nat.le_of_ble_eq_true rfl) rfl rfl (by decide +kernel) (by decide +kernel) rfl (Nat.le_of_ble_eq_true rfl) rfl ?_
            refine zWp.mono (cv_X3_take_33 ro nv np cm _ _ _ _ hV_6 (by omega)) ?_
            rintro r h1 ⟨I_7, G_7, A_7, B_7, rfl, K_7, C_7, rfl⟩
            refine ⟨rfl, ?_⟩
            refine zw_aload_n 19 f107_18 rfl rfl ?_
            refine zw_iload_n 20 f107_19 rfl rfl ?_
            refine zw_virtual_i 23 0 0 [.ref 0, .int 1] [(0, .ref 0), (1, .int 1)] f107_20 rfl n107_181 k107_181_11 rfl (hb_0 _ _ _ _) (by decide +kernel) (Nat.le_of_ble_eq_true rfl) rfl rfl (by decide +kernel) (by decide +kernel) rfl (Nat.le_of_ble_eq_true rfl) rfl ?_
            refine zw_aload_n 1 f106_0 rfl rfl ?_
            refine zw_iconst 0 2 f106_1 rfl (by decide +kernel) ?_
            refine zw_put _ 5 f106_2 rfl g106_70_11 (hb_0 _ _ _ _) rfl (Nat.le_of_ble_eq_true rfl) (by decide +kernel) (hi_0_7 _ _ _ _ _) ?_
            refine zw_iload_n 6 f106_5 rfl rfl ?_
            refine zw_ireturn f106_6 r106 u106 ⟨_, rfl, ?_⟩
            refine zw_ireturn f107_23 r107 u107 ⟨_, rfl, ?_⟩
            refine zw_ireturn f81_62 r81 u81 ?_
            exact ⟨_, _, _, _, rfl, (KP.i rfl (KP.tr (KP.tr (KP.a rfl KP.rf) (KP.wk K_6 (fun k h => pWN k (pNX k h)))) (KP.wk K_7 pNX))), Or.inr ⟨⟨(qV.ofc (by omega) hc1 hc2), (Or.inl hc4), hc5⟩, ⟨C_7, PE.of10 ((K_7.2.2.1 2 rfl).trans (K_6.2.2.1 2 rfl)) ((K_7.2.2.1 3 rfl).trans (K_6.2.2.1 3 rfl)) ((K_7.2.2.1 4 rfl).trans (K_6.2.2.1 4 rfl)) ((K_7.2.2.1 5 rfl).trans (K_6.2.2.1 5 rfl)) ((K_7.2.2.1 6 rfl).trans (K_6.2.2.1 6 rfl)) ((K_7.2.2.1 7 rfl).trans (K_6.2.2.1 7 rfl)) ((K_7.2.2.1 8 rfl).trans (K_6.2.2.1 8 rfl)) ((K_7.2.2.1 9 rfl).trans (K_6.2.2.1 9 rfl)) ((K_7.2.2.1 10 rfl).trans (K_6.2.2.1 10 rfl)) ((K_7.2.2.1 15 rfl).trans (K_6.2.2.1 15 rfl))⟩, rfl⟩⟩
          · refine zw_aload_n 42 f81_41 rfl rfl ?_
            refine zw_iconst 3 43 f81_42 rfl (by decide +kernel) ?_
            refine zw_virtual_i 46 0 0 [.ref 0, .int 3] [(0, .ref 0), (1, .int 3)] f81_43 rfl n81_78 k81_78_11 rfl (hb_0 _ _ _ _) (by decide +kernel) (Nat.le_of_ble_eq_true rfl) rfl rfl (by decide +kernel) (by decide +kernel) rfl (Nat.le_of_ble_eq_true rfl) rfl ?_
            refine zw_aload_n 1 f105_0 rfl rfl ?_
            refine zw_iload_n 2 f105_1 rfl rfl ?_
            refine zw_put _ 5 f105_2 rfl g105_70_11 (hb_0 _ _ _ _) rfl (Nat.le_of_ble_eq_true rfl) (by decide +kernel) (hi_0_7 _ _ _ _ _) ?_
            refine zw_iconst (-1) 6 f105_5 rfl (by decide +kernel) ?_
            refine zw_ireturn f105_6 r105 u105 ⟨_, rfl, ?_⟩
            refine zw_ireturn f81_46 r81 u81 ?_
            exact ⟨_, _, _, _, rfl, (KP.i rfl KP.rf), Or.inl ⟨(fun q => hc5 q.2.2), ⟨hI.mono (by omega), PE.rf⟩, rfl⟩⟩
        · refine zw_aload_n 6 f19_5 rfl rfl ?_
          refine zw_iload_n 7 f19_6 rfl rfl ?_
          refine zw_virtual_i 10 0 0 [.ref 1, .int b] [(0, .ref 1), (1, .int b)] f19_7 rfl n19_46 k19_46_4 rfl (hb_1 _ _ _ _) (by decide +kernel) (Nat.le_of_ble_eq_true rfl) rfl rfl (by decide +kernel) (by decide +kernel) rfl (Nat.le_of_ble_eq_true rfl) rfl ?_
          refine zw_iload_n 1 f13_0 rfl rfl ?_
          refine zw_if_lt 4 22 f13_1 (by decide +kernel) rfl (fun hc8 => ?_) (fun hc8 => ?_)
          · refine zw_iconst 0 23 f13_22 rfl (by decide +kernel) ?_
            refine zw_zreturn f13_23 r13 u13 (by decide +kernel) ⟨_, rfl, ?_⟩
            refine zw_if_eq_t 22 f19_10 (by decide +kernel) (by decide +kernel) ?_
            refine zw_iconst 0 23 f19_22 rfl (by decide +kernel) ?_
            refine zw_zreturn f19_23 r19 u19 (by decide +kernel) ⟨_, rfl, ?_⟩
            refine zw_if_ne_f 23 29 f81_20 (by decide +kernel) rfl (by decide +kernel) ?_
            refine zw_aload_n 24 f81_23 rfl rfl ?_
            refine zw_iconst 1 25 f81_24 rfl (by decide +kernel) ?_
            refine zw_virtual_i 28 0 0 [.ref 0, .int 1] [(0, .ref 0), (1, .int 1)] f81_25 rfl n81_78 k81_78_11 rfl (hb_0 _ _ _ _) (by decide +kernel) (Nat.le_of_ble_eq_true rfl) rfl rfl (by decide +kernel) (by decide +kernel) rfl (Nat.le_of_ble_eq_true rfl) rfl ?_
            refine zw_aload_n 1 f105_0 rfl rfl ?_
            refine zw_iload_n 2 f105_1 rfl rfl ?_
            refine zw_put _ 5 f105_2 rfl g105_70_11 (hb_0 _ _ _ _) rfl (Nat.le_of_ble_eq_true rfl) (by decide +kernel) (hi_0_7 _ _ _ _ _) ?_
            refine zw_iconst (-1) 6 f105_5 rfl (by decide +kernel) ?_
            refine zw_ireturn f105_6 r105 u105 ⟨_, rfl, ?_⟩
            refine zw_ireturn f81_28 r81 u81 ?_
            exact ⟨_, _, _, _, rfl, (KP.i rfl KP.rf), Or.inl ⟨(fun q => (fun q => q.elim hc4 (fun z => (qV.n0 (by omega) hc8) z.1)) q.2.1), ⟨hI.mono (by omega), PE.rf⟩, rfl⟩⟩
          · refine zw_iload_n 5 f13_4 rfl rfl ?_
            refine zw_aload_n 6 f13_5 rfl rfl ?_
            refine zw_getI (nI nv) 9 f13_6 rfl g13_39_4 (hb_1 _ _ _ _) rfl hI.1.1.1 ?_
            refine zw_ic_ge 12 22 f13_9 (by decide +kernel) rfl (fun hc9 => ?_) (fun hc9 => ?_)
            · refine zw_iconst 0 23 f13_22 rfl (by decide +kernel) ?_
              refine zw_zreturn f13_23 r13 u13 (by decide +kernel) ⟨_, rfl, ?_⟩
              refine zw_if_eq_t 22 f19_10 (by decide +kernel) (by decide +kernel) ?_
              refine zw_iconst 0 23 f19_22 rfl (by decide +kernel) ?_
              refine zw_zreturn f19_23 r19 u19 (by decide +kernel) ⟨_, rfl, ?_⟩
              refine zw_if_ne_f 23 29 f81_20 (by decide +kernel) rfl (by decide +kernel) ?_
              refine zw_aload_n 24 f81_23 rfl rfl ?_
              refine zw_iconst 1 25 f81_24 rfl (by decide +kernel) ?_
              refine zw_virtual_i 28 0 0 [.ref 0, .int 1] [(0, .ref 0), (1, .int 1)] f81_25 rfl n81_78 k81_78_11 rfl (hb_0 _ _ _ _) (by decide +kernel) (Nat.le_of_ble_eq_true rfl) rfl rfl (by decide +kernel) (by decide +kernel) rfl (Nat.le_of_ble_eq_true rfl) rfl ?_
              refine zw_aload_n 1 f105_0 rfl rfl ?_
              refine zw_iload_n 2 f105_1 rfl rfl ?_
              refine zw_put _ 5 f105_2 rfl g105_70_11 (hb_0 _ _ _ _) rfl (Nat.le_of_ble_eq_true rfl) (by decide +kernel) (hi_0_7 _ _ _ _ _) ?_
              refine zw_iconst (-1) 6 f105_5 rfl (by decide +kernel) ?_
              refine zw_ireturn f105_6 r105 u105 ⟨_, rfl, ?_⟩
              refine zw_ireturn f81_28 r81 u81 ?_
              exact ⟨_, _, _, _, rfl, (KP.i rfl KP.rf), Or.inl ⟨(fun q => (fun q => q.elim hc4 (fun z => (qV.n2 (by omega) hc9) z.1)) q.2.1), ⟨hI.mono (by omega), PE.rf⟩, rfl⟩⟩
            · refine zw_iload_n 13 f13_12 rfl rfl ?_
              refine zw_bipush 8 15 f13_13 rfl (by decide +kernel) ?_
              refine zw_ic_ge 18 22 f13_15 (by decide +kernel) rfl (fun hc10 => ?_) (fun hc10 => ?_)
              · refine zw_iconst 0 23 f13_22 rfl (by decide +kernel) ?_
                refine zw_zreturn f13_23 r13 u13 (by decide +kernel) ⟨_, rfl, ?_⟩
                refine zw_if_eq_t 22 f19_10 (by decide +kernel) (by decide +kernel) ?_
                refine zw_iconst 0 23 f19_22 rfl (by decide +kernel) ?_
                refine zw_zreturn f19_23 r19 u19 (by decide +kernel) ⟨_, rfl, ?_⟩
                refine zw_if_ne_f 23 29 f81_20 (by decide +kernel) rfl (by decide +kernel) ?_
                refine zw_aload_n 24 f81_23 rfl rfl ?_
                refine zw_iconst 1 25 f81_24 rfl (by decide +kernel) ?_
                refine zw_virtual_i 28 0 0 [.ref 0, .int 1] [(0, .ref 0), (1, .int 1)] f81_25 rfl n81_78 k81_78_11 rfl (hb_0 _ _ _ _) (by decide +kernel) (Nat.le_of_ble_eq_true rfl) rfl rfl (by decide +kernel) (by decide +kernel) rfl (Nat.le_of_ble_eq_true rfl) rfl ?_
                refine zw_aload_n 1 f105_0 rfl rfl ?_
                refine zw_iload_n 2 f105_1 rfl rfl ?_
                refine zw_put _ 5 f105_2 rfl g105_70_11 (hb_0 _ _ _ _) rfl (Nat.le_of_ble_eq_true rfl) (by decide +kernel) (hi_0_7 _ _ _ _ _) ?_
                refine zw_iconst (-1) 6 f105_5 rfl (by decide +kernel) ?_
                refine zw_ireturn f105_6 r105 u105 ⟨_, rfl, ?_⟩
                refine zw_ireturn f81_28 r81 u81 ?_
                exact ⟨_, _, _, _, rfl, (KP.i rfl KP.rf), Or.inl ⟨(fun q => (fun q => q.elim hc4 (fun z => (qV.n3 (m := 8) (N := 8) (by omega) (by omega) (by decide) hc10) z.1)) q.2.1), ⟨hI.mono (by omega), PE.rf⟩, rfl⟩⟩
              · refine zw_iconst 1 19 f13_18 rfl (by decide +kernel) ?_
                refine zw_goto 23 f13_19 (by decide +kernel) ?_
                refine zw_zreturn f13_23 r13 u13 (by decide +kernel) ⟨_, rfl, ?_⟩
                refine zw_if_eq_f 13 22 f19_10 (by decide +kernel) rfl (by decide +kernel) ?_
                refine zw_iload_n 14 f19_13 rfl rfl ?_
                refine zw_iload_n 15 f19_14 rfl rfl ?_
                refine zw_ic_le 18 22 f19_15 (by decide +kernel) rfl (fun hc11 => ?_) (fun hc11 => ?_)
                · refine zw_iconst 0 23 f19_22 rfl (by decide +kernel) ?_
                  refine zw_zreturn f19_23 r19 u19 (by decide +kernel) ⟨_, rfl, ?_⟩
                  refine zw_if_ne_f 23 29 f81_20 (by decide +kernel) rfl (by decide +kernel) ?_
                  refine zw_aload_n 24 f81_23 rfl rfl ?_
                  refine zw_iconst 1 25 f81_24 rfl (by decide +kernel) ?_
                  refine zw_virtual_i 28 0 0 [.ref 0, .int 1] [(0, .ref 0), (1, .int 1)] f81_25 rfl n81_78 k81_78_11 rfl (hb_0 _ _ _ _) (by decide +kernel) (Nat.le_of_ble_eq_true rfl) rfl rfl (by decide +kernel) (by decide +kernel) rfl (Nat.le_of_ble_eq_true rfl) rfl ?_
                  refine zw_aload_n 1 f105_0 rfl rfl ?_
                  refine zw_iload_n 2 f105_1 rfl rfl ?_
                  refine zw_put _ 5 f105_2 rfl g105_70_11 (hb_0 _ _ _ _) rfl (Nat.le_of_ble_eq_true rfl) (by decide +kernel) (hi_0_7 _ _ _ _ _) ?_
                  refine zw_iconst (-1) 6 f105_5 rfl (by decide +kernel) ?_
                  refine zw_ireturn f105_6 r105 u105 ⟨_, rfl, ?_⟩
                  refine zw_ireturn f81_28 r81 u81 ?_
                  exact ⟨_, _, _, _, rfl, (KP.i rfl KP.rf), Or.inl ⟨(fun q => (fun q => q.elim hc4 (fun z => z.2 hc11)) q.2.1), ⟨hI.mono (by omega), PE.rf⟩, rfl⟩⟩
                · refine zw_iconst 1 19 f19_18 rfl (by decide +kernel) ?_
                  refine zw_goto 23 f19_19 (by decide +kernel) ?_
                  refine zw_zreturn f19_23 r19 u19 (by decide +kernel) ⟨_, rfl, ?_⟩
                  refine zw_if_ne_t 29 f81_20 (by decide +kernel) (by decide +kernel) ?_
                  refine zw_aload_n 30 f81_29 rfl rfl ?_
                  refine zw_getfield 33 f81_30 rfl g81_10_11 (hb_0 _ _ _ _) rfl ?_
                  refine zw_iload_n 34 f81_33 rfl rfl ?_
                  refine zw_virtual_i 37 0 0 [.ref 1, .int a] [(0, .ref 1), (1, .int a)] f81_34 rfl n81_112 k81_112_4 rfl (hb_1 _ _ _ _) (by decide +kernel) (Nat.le_of_ble_eq_true rfl) rfl rfl (by decide +kernel) (by decide +kernel) rfl (Nat.le_of_ble_eq_true rfl) rfl ?_
                  refine zw_iload_n 1 f15_0 rfl rfl ?_
                  refine zw_if_lt_f 4 27 f15_1 (by decide +kernel) rfl hc1 ?_
                  refine zw_iload_n 5 f15_4 rfl rfl ?_
                  refine zw_aload_n 6 f15_5 rfl rfl ?_
                  refine zw_getI (nI nv) 9 f15_6 rfl g15_39_4 (hb_1 _ _ _ _) rfl hI.1.1.1 ?_
                  refine zw_ic_ge_f 12 27 f15_9 (by decide +kernel) rfl hc2 ?_
                  refine zw_iload_n 13 f15_12 rfl rfl ?_
                  refine zw_bipush 8 15 f15_13 rfl (by decide +kernel) ?_
                  refine zw_ic_ge_f 18 27 f15_15 (by decide +kernel) rfl hc3 ?_
                  refine zw_aload_n 19 f15_18 rfl rfl ?_
                  refine zw_getfield 22 f15_19 rfl g15_9_4 (hb_1 _ _ _ _) rfl ?_
                  refine zw_iload_n 23 f15_22 rfl rfl ?_
                  refine zw_iaload a.toNatClampNeg (A 2 a.toNatClampNeg) 24 f15_23 rfl (hb_2 _ _ _ _) rfl hc1 (zix (by decide) hc1 hc3) rfl ?_
                  refine zw_goto 28 f15_24 (by decide +kernel) ?_
                  refine zw_ireturn f15_28 r15 u15 ⟨_, rfl, ?_⟩
                  refine zw_iconst 2 38 f81_37 rfl (by decide +kernel) ?_
                  refine zw_ic_eq 41 47 f81_38 (by decide +kernel) rfl (fun hc12 => ?_) (fun hc12 => ?_)
                  · refine zw_aload_n 48 f81_47 rfl rfl ?_
                    refine zw_getfield 51 f81_48 rfl g81_10_11 (hb_0 _ _ _ _) rfl ?_
                    refine zw_getfield 54 f81_51 rfl g81_125_4 (hb_1 _ _ _ _) rfl ?_
                    refine zw_iload_n 55 f81_54 rfl rfl ?_
                    refine zw_iload_n 56 f81_55 rfl rfl ?_
                    refine zw_ast a.toNatClampNeg _ 57 f81_56 rfl (hb_7 _ _ _ _) rfl hc1 (zix (by decide) hc1 hc3) (ha_7 _ _ _ _ _) ?_
                    refine zw_aload_n 58 f81_57 rfl rfl ?_
                    refine zw_iconst 1 59 f81_58 rfl (by decide +kernel) ?_
                    refine zw_virtual_i 62 0 0 [.ref 0, .int 1] [(0, .ref 0), (1, .int 1)] f81_59 rfl n81_86 k81_86_11 rfl (hb_0 _ _ _ _) (by decide +kernel) (Nat.le_of_ble_eq_true rfl) rfl rfl (by decide +kernel) (by decide +kernel) rfl (Nat.le_of_ble_eq_true rfl) rfl ?_
                    refine zw_aload_n 1 f107_0 rfl rfl ?_
                    refine zw_getfield 4 f107_1 rfl g107_21_11 (hb_0 _ _ _ _) rfl ?_
                    refine zw_virtual_v 7 0 0 [.ref 11] [(0, .ref 11)] f107_4 rfl n107_318 k107_318_10 rfl (hb_11 _ _ _ _) (by decide +kernel) (Nat.le_of_ble_eq_true rfl) rfl rfl (by decide +kernel) (by decide +kernel) rfl (Nat.le_of_ble_eq_true rfl) rfl ?_
                    have hC_13 : CV nv np cm I := hI
                    refine zWp.mono (ck_X10_settle_11 ro nv np I _ _ _ hC_13.1) ?_
                    rintro r h1 ⟨I_13, G_13, A_13, B_13, rfl, K_13, C_13, rfl⟩
                    refine ⟨rfl, ?_⟩
                    have hV_13 : CV nv np cm I_13 := CV.of (I := I) hC_13 K_13 C_13
                    refine zw_aload_n 8 f107_7 rfl rfl ?_
                    refine zw_getfield 11 f107_8 rfl g107_31_11 (hb_0 _ _ _ _) rfl ?_
                    refine zw_aload_n 12 f107_11 rfl rfl ?_
                    refine zw_getfield 15 f107_12 rfl g107_21_11 (hb_0 _ _ _ _) rfl ?_
                    refine zw_virtual_v 18 0 0 [.ref 33, .ref 11] [(0, .ref 33), (1, .ref 11)] f107_15 rfl n107_187 k107_187_3 rfl (hb_33 _ _ _ _) (by decide +kernel) (Nat.le_of_ble_eq_true rfl) rfl rfl (by decide +kernel) (by decide +kernel) rfl (Nat.le_of_ble_eq_true rfl) rfl ?_
                    refine zWp.mono (cv_X3_take_33 ro nv np cm _ _ _ _ hV_13 (by omega)) ?_
                    rintro r h1 ⟨I_14, G_14, A_14, B_14, rfl, K_14, C_14, rfl⟩
                    refine ⟨rfl, ?_⟩
                    refine zw_aload_n 19 f107_18 rfl rfl ?_
                    refine zw_iload_n 20 f107_19 rfl rfl ?_
                    refine zw_virtual_i 23 0 0 [.ref 0, .int 1] [(0, .ref 0), (1, .int 1)] f107_20 rfl n107_181 k107_181_11 rfl (hb_0 _ _ _ _) (by decide +kernel) (Nat.le_of_ble_eq_true rfl) rfl rfl (by decide +kernel) (by decide +kernel) rfl (Nat.le_of_ble_eq_true rfl) rfl ?_
                    refine zw_aload_n 1 f106_0 rfl rfl ?_
                    refine zw_iconst 0 2 f106_1 rfl (by decide +kernel) ?_
                    refine zw_put _ 5 f106_2 rfl g106_70_11 (hb_0 _ _ _ _) rfl (Nat.le_of_ble_eq_true rfl) (by decide +kernel) (hi_0_7 _ _ _ _ _) ?_
                    refine zw_iload_n 6 f106_5 rfl rfl ?_
                    refine zw_ireturn f106_6 r106 u106 ⟨_, rfl, ?_⟩
                    refine zw_ireturn f107_23 r107 u107 ⟨_, rfl, ?_⟩
                    refine zw_ireturn f81_62 r81 u81 ?_
                    exact ⟨_, _, _, _, rfl, (KP.i rfl (KP.tr (KP.tr (KP.a rfl KP.rf) (KP.wk K_13 (fun k h => pWN k (pNX k h)))) (KP.wk K_14 pNX))), Or.inr ⟨⟨(qV.ofc (by omega) hc1 hc2), (Or.inr ⟨(qV.ofc (by omega) hc8 hc9), hc11⟩), hc12⟩, ⟨C_14, PE.of10 ((K_14.2.2.1 2 rfl).trans (K_13.2.2.1 2 rfl)) ((K_14.2.2.1 3 rfl).trans (K_13.2.2.1 3 rfl)) ((K_14.2.2.1 4 rfl).trans (K_13.2.2.1 4 rfl)) ((K_14.2.2.1 5 rfl).trans (K_13.2.2.1 5 rfl)) ((K_14.2.2.1 6 rfl).trans (K_13.2.2.1 6 rfl)) ((K_14.2.2.1 7 rfl).trans (K_13.2.2.1 7 rfl)) ((K_14.2.2.1 8 rfl).trans (K_13.2.2.1 8 rfl)) ((K_14.2.2.1 9 rfl).trans (K_13.2.2.1 9 rfl)) ((K_14.2.2.1 10 rfl).trans (K_13.2.2.1 10 rfl)) ((K_14.2.2.1 15 rfl).trans (K_13.2.2.1 15 rfl))⟩, rfl⟩⟩
                  · refine zw_aload_n 42 f81_41 rfl rfl ?_
                    refine zw_iconst 3 43 f81_42 rfl (by decide +kernel) ?_
                    refine zw_virtual_i 46 0 0 [.ref 0, .int 3] [(0, .ref 0), (1, .int 3)] f81_43 rfl n81_78 k81_78_11 rfl (hb_0 _ _ _ _) (by decide +kernel) (Nat.le_of_ble_eq_true rfl) rfl rfl (by decide +kernel) (by decide +kernel) rfl (Nat.le_of_ble_eq_true rfl) rfl ?_
                    refine zw_aload_n 1 f105_0 rfl rfl ?_
                    refine zw_iload_n 2 f105_1 rfl rfl ?_
                    refine zw_put _ 5 f105_2 rfl g105_70_11 (hb_0 _ _ _ _) rfl (Nat.le_of_ble_eq_true rfl) (by decide +kernel) (hi_0_7 _ _ _ _ _) ?_
                    refine zw_iconst (-1) 6 f105_5 rfl (by decide +kernel) ?_
                    refine zw_ireturn f105_6 r105 u105 ⟨_, rfl, ?_⟩
                    refine zw_ireturn f81_46 r81 u81 ?_
                    exact ⟨_, _, _, _, rfl, (KP.i rfl KP.rf), Or.inl ⟨(fun q => hc12 q.2.2), ⟨hI.mono (by omega), PE.rf⟩, rfl⟩⟩
set_option maxRecDepth 100000 in
set_option maxHeartbeats 0 in
theorem cm_over (ro : UInt32 → Nat × (Nat → Int32)) (nv np cm : Nat) (I : Nat → Nat → Int32) (G : Nat → Nat → Int64) (A : Nat → Nat → Int32) (B : Nat → Nat → Int64) (hI : CV nv np cm I) (hcm : cm < 900000000) (hQ : qKd nv (cP A)) (a : Int32) (b : Int32) : zWp ro 82 0 [(0, .ref 0), (1, .int a), (2, .int b)] [] (hS I G A B) 0 0 (fun r h1 => ∃ I2 G2 A2 B2, h1 = hS I2 G2 A2 B2 ∧ KP pX I G A B I2 G2 A2 B2 ∧ ((¬ ok_over nv np (cP A) a b ∧ cSt nv np (cm + 8) (cP A) I2 A2 ∧ r = some (.int (-1))) ∨ (ok_over nv np (cP A) a b ∧ cSt nv np (cm + 8) (updA (cP A) 59 (upd ((cP A) 59) a.toNatClampNeg b)) I2 A2 ∧ r = some (.int 1)))) := by
  have h8 := hI.1.1.2
  have h14 := hI.1.2.1.2
  obtain ⟨t, ht, et⟩ := hI.2.2
  refine zw_aload_n 1 f82_0 rfl rfl ?_
  refine zw_getfield 4 f82_1 rfl g82_10_11 (hb_0 _ _ _ _) rfl ?_
  refine zw_iload_n 5 f82_4 rfl rfl ?_
  refine zw_virtual_i 8 0 0 [.ref 1, .int a] [(0, .ref 1), (1, .int a)] f82_5 rfl n82_89 k82_89_4 rfl (hb_1 _ _ _ _) (by decide +kernel) (Nat.le_of_ble_eq_true rfl) rfl rfl (by decide +kernel) (by decide +kernel) rfl (Nat.le_of_ble_eq_true rfl) rfl ?_
  refine zw_iload_n 1 f13_0 rfl rfl ?_
  refine zw_if_lt 4 22 f13_1 (by decide +kernel) rfl (fun hc1 => ?_) (fun hc1 => ?_)
  · refine zw_iconst 0 23 f13_22 rfl (by decide +kernel) ?_
    refine zw_zreturn f13_23 r13 u13 (by decide +kernel) ⟨_, rfl, ?_⟩
    refine zw_if_eq_t 23 f82_8 (by decide +kernel) (by decide +kernel) ?_
    refine zw_aload_n 24 f82_23 rfl rfl ?_
    refine zw_iconst 1 25 f82_24 rfl (by decide +kernel) ?_
    refine zw_virtual_i 28 0 0 [.ref 0, .int 1] [(0, .ref 0), (1, .int 1)] f82_25 rfl n82_78 k82_78_11 rfl (hb_0 _ _ _ _) (by decide +kernel) (Nat.le_of_ble_eq_true rfl) rfl rfl (by decide +kernel) (by decide +kernel) rfl (Nat.le_of_ble_eq_true rfl) rfl ?_
    refine zw_aload_n 1 f105_0 rfl rfl ?_
    refine zw_iload_n 2 f105_1 rfl rfl ?_
    refine zw_put _ 5 f105_2 rfl g105_70_11 (hb_0 _ _ _ _) rfl (Nat.le_of_ble_eq_true rfl) (by decide +kernel) (hi_0_7 _ _ _ _ _) ?_
    refine zw_iconst (-1) 6 f105_5 rfl (by decide +kernel) ?_
    refine zw_ireturn f105_6 r105 u105 ⟨_, rfl, ?_⟩
    refine zw_ireturn f82_28 r82 u82 ?_
    exact ⟨_, _, _, _, rfl, (KP.i rfl KP.rf), Or.inl ⟨(fun q => (qV.n0 (by omega) hc1) q.1), ⟨hI.mono (by omega), PE.rf⟩, rfl⟩⟩
  · refine zw_iload_n 5 f13_4 rfl rfl ?_
    refine zw_aload_n 6 f13_5 rfl rfl ?_
    refine zw_getI (nI nv) 9 f13_6 rfl g13_39_4 (hb_1 _ _ _ _) rfl hI.1.1.1 ?_
    refine zw_ic_ge 12 22 f13_9 (by decide +kernel) rfl (fun hc2 => ?_) (fun hc2 => ?_)
    · refine zw_iconst 0 23 f13_22 rfl (by decide +kernel) ?_
      refine zw_zreturn f13_23 r13 u13 (by decide +kernel) ⟨_, rfl, ?_⟩
      refine zw_if_eq_t 23 f82_8 (by decide +kernel) (by decide +kernel) ?_
      refine zw_aload_n 24 f82_23 rfl rfl ?_
      refine zw_iconst 1 25 f82_24 rfl (by decide +kernel) ?_
      refine zw_virtual_i 28 0 0 [.ref 0, .int 1] [(0, .ref 0), (1, .int 1)] f82_25 rfl n82_78 k82_78_11 rfl (hb_0 _ _ _ _) (by decide +kernel) (Nat.le_of_ble_eq_true rfl) rfl rfl (by decide +kernel) (by decide +kernel) rfl (Nat.le_of_ble_eq_true rfl) rfl ?_
      refine zw_aload_n 1 f105_0 rfl rfl ?_
      refine zw_iload_n 2 f105_1 rfl rfl ?_
      refine zw_put _ 5 f105_2 rfl g105_70_11 (hb_0 _ _ _ _) rfl (Nat.le_of_ble_eq_true rfl) (by decide +kernel) (hi_0_7 _ _ _ _ _) ?_
      refine zw_iconst (-1) 6 f105_5 rfl (by decide +kernel) ?_
      refine zw_ireturn f105_6 r105 u105 ⟨_, rfl, ?_⟩
      refine zw_ireturn f82_28 r82 u82 ?_
      exact ⟨_, _, _, _, rfl, (KP.i rfl KP.rf), Or.inl ⟨(fun q => (qV.n2 (by omega) hc2) q.1), ⟨hI.mono (by omega), PE.rf⟩, rfl⟩⟩
    · refine zw_iload_n 13 f13_12 rfl rfl ?_
      refine zw_bipush 8 15 f13_13 rfl (by decide +kernel) ?_
      refine zw_ic_ge 18 22 f13_15 (by decide +kernel) rfl (fun hc3 => ?_) (fun hc3 => ?_)
      · refine zw_iconst 0 23 f13_22 rfl (by decide +kernel) ?_
        refine zw_zreturn f13_23 r13 u13 (by decide +kernel) ⟨_, rfl, ?_⟩
        refine zw_if_eq_t 23 f82_8 (by decide +kernel) (by decide +kernel) ?_
        refine zw_aload_n 24 f82_23 rfl rfl ?_
        refine zw_iconst 1 25 f82_24 rfl (by decide +kernel) ?_
        refine zw_virtual_i 28 0 0 [.ref 0, .int 1] [(0, .ref 0), (1, .int 1)] f82_25 rfl n82_78 k82_78_11 rfl (hb_0 _ _ _ _) (by decide +kernel) (Nat.le_of_ble_eq_true rfl) rfl rfl (by decide +kernel) (by decide +kernel) rfl (Nat.le_of_ble_eq_true rfl) rfl ?_
        refine zw_aload_n 1 f105_0 rfl rfl ?_
        refine zw_iload_n 2 f105_1 rfl rfl ?_
        refine zw_put _ 5 f105_2 rfl g105_70_11 (hb_0 _ _ _ _) rfl (Nat.le_of_ble_eq_true rfl) (by decide +kernel) (hi_0_7 _ _ _ _ _) ?_
        refine zw_iconst (-1) 6 f105_5 rfl (by decide +kernel) ?_
        refine zw_ireturn f105_6 r105 u105 ⟨_, rfl, ?_⟩
        refine zw_ireturn f82_28 r82 u82 ?_
        exact ⟨_, _, _, _, rfl, (KP.i rfl KP.rf), Or.inl ⟨(fun q => (qV.n3 (m := 8) (N := 8) (by omega) (by omega) (by decide) hc3) q.1), ⟨hI.mono (by omega), PE.rf⟩, rfl⟩⟩
      · refine zw_iconst 1 19 f13_18 rfl (by decide +kernel) ?_
        refine zw_goto 23 f13_19 (by decide +kernel) ?_
        refine zw_zreturn f13_23 r13 u13 (by decide +kernel) ⟨_, rfl, ?_⟩
        refine zw_if_eq_f 11 23 f82_8 (by decide +kernel) rfl (by decide +kernel) ?_
        refine zw_aload_n 12 f82_11 rfl rfl ?_
        refine zw_getfield 15 f82_12 rfl g82_10_11 (hb_0 _ _ _ _) rfl ?_
        refine zw_iload_n 16 f82_15 rfl rfl ?_
        refine zw_iload_n 17 f82_16 rfl rfl ?_
        refine zw_virtual_i 20 0 0 [.ref 1, .int b, .int a] [(0, .ref 1), (1, .int b), (2, .int a)] f82_17 rfl n82_121 k82_121_4 rfl (hb_1 _ _ _ _) (by decide +kernel) (Nat.le_of_ble_eq_true rfl) rfl rfl (by decide +kernel) (by decide +kernel) rfl (Nat.le_of_ble_eq_true rfl) rfl ?_
        refine zw_iload_n 1 f19_0 rfl rfl ?_
        refine zw_iconst (-1) 2 f19_1 rfl (by decide +kernel) ?_
        refine zw_ic_eq 5 18 f19_2 (by decide +kernel) rfl (fun hc4 => ?_) (fun hc4 => ?_)
        · refine zw_iconst 1 19 f19_18 rfl (by decide +kernel) ?_
          refine zw_goto 23 f19_19 (by decide +kernel) ?_
          refine zw_zreturn f19_23 r19 u19 (by decide +kernel) ⟨_, rfl, ?_⟩
          refine zw_if_ne_t 29 f82_20 (by decide +kernel) (by decide +kernel) ?_
          refine zw_aload_n 30 f82_29 rfl rfl ?_
          refine zw_getfield 33 f82_30 rfl g82_10_11 (hb_0 _ _ _ _) rfl ?_
          refine zw_getfield 36 f82_33 rfl g82_128_4 (hb_1 _ _ _ _) rfl ?_
          refine zw_iload_n 37 f82_36 rfl rfl ?_
          refine zw_iload_n 38 f82_37 rfl rfl ?_
          refine zw_ast a.toNatClampNeg _ 39 f82_38 rfl (hb_8 _ _ _ _) rfl hc1 (zix (by decide) hc1 hc3) (ha_8 _ _ _ _ _) ?_
          refine zw_aload_n 40 f82_39 rfl rfl ?_
          refine zw_iconst 1 41 f82_40 rfl (by decide +kernel) ?_
          refine zw_virtual_i 44 0 0 [.ref 0, .int 1] [(0, .ref 0), (1, .int 1)] f82_41 rfl n82_86 k82_86_11 rfl (hb_0 _ _ _ _) (by decide +kernel) (Nat.le_of_ble_eq_true rfl) rfl rfl (by decide +kernel) (by decide +kernel) rfl (Nat.le_of_ble_eq_true rfl) rfl ?_
          refine zw_aload_n 1 f107_0 rfl rfl ?_
          refine zw_getfield 4 f107_1 rfl g107_21_11 (hb_0 _ _ _ _) rfl ?_
          refine zw_virtual_v 7 0 0 [.ref 11] [(0, .ref 11)] f107_4 rfl n107_318 k107_318_10 rfl (hb_11 _ _ _ _) (by decide +kernel) (Nat.le_of_ble_eq_true rfl) rfl rfl (by decide +kernel) (by decide +kernel) rfl (Nat.le_of_ble_eq_true rfl) rfl ?_
          have hC_5 : CV nv np cm I := hI
          refine zWp.mono (ck_X10_settle_11 ro nv np I _ _ _ hC_5.1) ?_
          rintro r h1 ⟨I_5, G_5, A_5, B_5, rfl, K_5, C_5, rfl⟩
          refine ⟨rfl, ?_⟩
          have hV_5 : CV nv np cm I_5 := CV.of (I := I) hC_5 K_5 C_5
          refine zw_aload_n 8 f107_7 rfl rfl ?_
          refine zw_getfield 11 f107_8 rfl g107_31_11 (hb_0 _ _ _ _) rfl ?_
          refine zw_aload_n 12 f107_11 rfl rfl ?_
          refine zw_getfield 15 f107_12 rfl g107_21_11 (hb_0 _ _ _ _) rfl ?_
          refine zw_virtual_v 18 0 0 [.ref 33, .ref 11] [(0, .ref 33), (1, .ref 11)] f107_15 rfl n107_187 k107_187_3 rfl (hb_33 _ _ _ _) (by decide +kernel) (Nat.le_of_ble_eq_true rfl) rfl rfl (by decide +kernel) (by decide +kernel) rfl (Nat.le_of_ble_eq_true rfl) rfl ?_
          refine zWp.mono (cv_X3_take_33 ro nv np cm _ _ _ _ hV_5 (by omega)) ?_
          rintro r h1 ⟨I_6, G_6, A_6, B_6, rfl, K_6, C_6, rfl⟩
          refine ⟨rfl, ?_⟩
          refine zw_aload_n 19 f107_18 rfl rfl ?_
          refine zw_iload_n 20 f107_19 rfl rfl ?_
          refine zw_virtual_i 23 0 0 [.ref 0, .int 1] [(0, .ref 0), (1, .int 1)] f107_20 rfl n107_181 k107_181_11 rfl (hb_0 _ _ _ _) (by decide +kernel) (Nat.le_of_ble_eq_true rfl) rfl rfl (by decide +kernel) (by decide +kernel) rfl (Nat.le_of_ble_eq_true rfl) rfl ?_
          refine zw_aload_n 1 f106_0 rfl rfl ?_
          refine zw_iconst 0 2 f106_1 rfl (by decide +kernel) ?_
          refine zw_put _ 5 f106_2 rfl g106_70_11 (hb_0 _ _ _ _) rfl (Nat.le_of_ble_eq_true rfl) (by decide +kernel) (hi_0_7 _ _ _ _ _) ?_
          refine zw_iload_n 6 f106_5 rfl rfl ?_
          refine zw_ireturn f106_6 r106 u106 ⟨_, rfl, ?_⟩
          refine zw_ireturn f107_23 r107 u107 ⟨_, rfl, ?_⟩
          refine zw_ireturn f82_44 r82 u82 ?_
          exact ⟨_, _, _, _, rfl, (KP.i rfl (KP.tr (KP.tr (KP.a rfl KP.rf) (KP.wk K_5 (fun k h => pWN k (pNX k h)))) (KP.wk K_6 pNX))), Or.inr ⟨⟨(qV.ofc (by omega) hc1 hc2), (Or.inl hc4)⟩, ⟨C_6, PE.of10 ((K_6.2.2.1 2 rfl).trans (K_5.2.2.1 2 rfl)) ((K_6.2.2.1 3 rfl).trans (K_5.2.2.1 3 rfl)) ((K_6.2.2.1 4 rfl).trans (K_5.2.2.1 4 rfl)) ((K_6.2.2.1 5 rfl).trans (K_5.2.2.1 5 rfl)) ((K_6.2.2.1 6 rfl).trans (K_5.2.2.1 6 rfl)) ((K_6.2.2.1 7 rfl).trans (K_5.2.2.1 7 rfl)) ((K_6.2.2.1 8 rfl).trans (K_5.2.2.1 8 rfl)) ((K_6.2.2.1 9 rfl).trans (K_5.2.2.1 9 rfl)) ((K_6.2.2.1 10 rfl).trans (K_5.2.2.1 10 rfl)) ((K_6.2.2.1 15 rfl).trans (K_5.2.2.1 15 rfl))⟩, rfl⟩⟩
        · refine zw_aload_n 6 f19_5 rfl rfl ?_
          refine zw_iload_n 7 f19_6 rfl rfl ?_
          refine zw_virtual_i 10 0 0 [.ref 1, .int b] [(0, .ref 1), (1, .int b)] f19_7 rfl n19_46 k19_46_4 rfl (hb_1 _ _ _ _) (by decide +kernel) (Nat.le_of_ble_eq_true rfl) rfl rfl (by decide +kernel) (by decide +kernel) rfl (Nat.le_of_ble_eq_true rfl) rfl ?_
          refine zw_iload_n 1 f13_0 rfl rfl ?_
          refine zw_if_lt 4 22 f13_1 (by decide +kernel) rfl (fun hc7 => ?_) (fun hc7 => ?_)
          · refine zw_iconst 0 23 f13_22 rfl (by decide +kernel) ?_
            refine zw_zreturn f13_23 r13 u13 (by decide +kernel) ⟨_, rfl, ?_⟩
            refine zw_if_eq_t 22 f19_10 (by decide +kernel) (by decide +kernel) ?_
            refine zw_iconst 0 23 f19_22 rfl (by decide +kernel) ?_
            refine zw_zreturn f19_23 r19 u19 (by decide +kernel) ⟨_, rfl, ?_⟩
            refine zw_if_ne_f 23 29 f82_20 (by decide +kernel) rfl (by decide +kernel) ?_
            refine zw_aload_n 24 f82_23 rfl rfl ?_
            refine zw_iconst 1 25 f82_24 rfl (by decide +kernel) ?_
            refine zw_virtual_i 28 0 0 [.ref 0, .int 1] [(0, .ref 0), (1, .int 1)] f82_25 rfl n82_78 k82_78_11 rfl (hb_0 _ _ _ _) (by decide +kernel) (Nat.le_of_ble_eq_true rfl) rfl rfl (by decide +kernel) (by decide +kernel) rfl (Nat.le_of_ble_eq_true rfl) rfl ?_
            refine zw_aload_n 1 f105_0 rfl rfl ?_
            refine zw_iload_n 2 f105_1 rfl rfl ?_
            refine zw_put _ 5 f105_2 rfl g105_70_11 (hb_0 _ _ _ _) rfl (Nat.le_of_ble_eq_true rfl) (by decide +kernel) (hi_0_7 _ _ _ _ _) ?_
            refine zw_iconst (-1) 6 f105_5 rfl (by decide +kernel) ?_
            refine zw_ireturn f105_6 r105 u105 ⟨_, rfl, ?_⟩
            refine zw_ireturn f82_28 r82 u82 ?_
            exact ⟨_, _, _, _, rfl, (KP.i rfl KP.rf), Or.inl ⟨(fun q => (fun q => q.elim hc4 (fun z => (qV.n0 (by omega) hc7) z.1)) q.2), ⟨hI.mono (by omega), PE.rf⟩, rfl⟩⟩
          · refine zw_iload_n 5 f13_4 rfl rfl ?_
            refine zw_aload_n 6 f13_5 rfl rfl ?_
            refine zw_getI (nI nv) 9 f13_6 rfl g13_39_4 (hb_1 _ _ _ _) rfl hI.1.1.1 ?_
            refine zw_ic_ge 12 22 f13_9 (by decide +kernel) rfl (fun hc8 => ?_) (fun hc8 => ?_)
            · refine zw_iconst 0 23 f13_22 rfl (by decide +kernel) ?_
              refine zw_zreturn f13_23 r13 u13 (by decide +kernel) ⟨_, rfl, ?_⟩
              refine zw_if_eq_t 22 f19_10 (by decide +kernel) (by decide +kernel) ?_
              refine zw_iconst 0 23 f19_22 rfl (by decide +kernel) ?_
              refine zw_zreturn f19_23 r19 u19 (by decide +kernel) ⟨_, rfl, ?_⟩
              refine zw_if_ne_f 23 29 f82_20 (by decide +kernel) rfl (by decide +kernel) ?_
              refine zw_aload_n 24 f82_23 rfl rfl ?_
              refine zw_iconst 1 25 f82_24 rfl (by decide +kernel) ?_
              refine zw_virtual_i 28 0 0 [.ref 0, .int 1] [(0, .ref 0), (1, .int 1)] f82_25 rfl n82_78 k82_78_11 rfl (hb_0 _ _ _ _) (by decide +kernel) (Nat.le_of_ble_eq_true rfl) rfl rfl (by decide +kernel) (by decide +kernel) rfl (Nat.le_of_ble_eq_true rfl) rfl ?_
              refine zw_aload_n 1 f105_0 rfl rfl ?_
              refine zw_iload_n 2 f105_1 rfl rfl ?_
              refine zw_put _ 5 f105_2 rfl g105_70_11 (hb_0 _ _ _ _) rfl (Nat.le_of_ble_eq_true rfl) (by decide +kernel) (hi_0_7 _ _ _ _ _) ?_
              refine zw_iconst (-1) 6 f105_5 rfl (by decide +kernel) ?_
              refine zw_ireturn f105_6 r105 u105 ⟨_, rfl, ?_⟩
              refine zw_ireturn f82_28 r82 u82 ?_
              exact ⟨_, _, _, _, rfl, (KP.i rfl KP.rf), Or.inl ⟨(fun q => (fun q => q.elim hc4 (fun z => (qV.n2 (by omega) hc8) z.1)) q.2), ⟨hI.mono (by omega), PE.rf⟩, rfl⟩⟩
            · refine zw_iload_n 13 f13_12 rfl rfl ?_
              refine zw_bipush 8 15 f13_13 rfl (by decide +kernel) ?_
              refine zw_ic_ge 18 22 f13_15 (by decide +kernel) rfl (fun hc9 => ?_) (fun hc9 => ?_)
              · refine zw_iconst 0 23 f13_22 rfl (by decide +kernel) ?_
                refine zw_zreturn f13_23 r13 u13 (by decide +kernel) ⟨_, rfl, ?_⟩
                refine zw_if_eq_t 22 f19_10 (by decide +kernel) (by decide +kernel) ?_
                refine zw_iconst 0 23 f19_22 rfl (by decide +kernel) ?_
                refine zw_zreturn f19_23 r19 u19 (by decide +kernel) ⟨_, rfl, ?_⟩
                refine zw_if_ne_f 23 29 f82_20 (by decide +kernel) rfl (by decide +kernel) ?_
                refine zw_aload_n 24 f82_23 rfl rfl ?_
                refine zw_iconst 1 25 f82_24 rfl (by decide +kernel) ?_
                refine zw_virtual_i 28 0 0 [.ref 0, .int 1] [(0, .ref 0), (1, .int 1)] f82_25 rfl n82_78 k82_78_11 rfl (hb_0 _ _ _ _) (by decide +kernel) (Nat.le_of_ble_eq_true rfl) rfl rfl (by decide +kernel) (by decide +kernel) rfl (Nat.le_of_ble_eq_true rfl) rfl ?_
                refine zw_aload_n 1 f105_0 rfl rfl ?_
                refine zw_iload_n 2 f105_1 rfl rfl ?_
                refine zw_put _ 5 f105_2 rfl g105_70_11 (hb_0 _ _ _ _) rfl (Nat.le_of_ble_eq_true rfl) (by decide +kernel) (hi_0_7 _ _ _ _ _) ?_
                refine zw_iconst (-1) 6 f105_5 rfl (by decide +kernel) ?_
                refine zw_ireturn f105_6 r105 u105 ⟨_, rfl, ?_⟩
                refine zw_ireturn f82_28 r82 u82 ?_
                exact ⟨_, _, _, _, rfl, (KP.i rfl KP.rf), Or.inl ⟨(fun q => (fun q => q.elim hc4 (fun z => (qV.n3 (m := 8) (N := 8) (by omega) (by omega) (by decide) hc9) z.1)) q.2), ⟨hI.mono (by omega), PE.rf⟩, rfl⟩⟩
              · refine zw_iconst 1 19 f13_18 rfl (by decide +kernel) ?_
                refine zw_goto 23 f13_19 (by decide +kernel) ?_
                refine zw_zreturn f13_23 r13 u13 (by decide +kernel) ⟨_, rfl, ?_⟩
                refine zw_if_eq_f 13 22 f19_10 (by decide +kernel) rfl (by decide +kernel) ?_
                refine zw_iload_n 14 f19_13 rfl rfl ?_
                refine zw_iload_n 15 f19_14 rfl rfl ?_
                refine zw_ic_le 18 22 f19_15 (by decide +kernel) rfl (fun hc10 => ?_) (fun hc10 => ?_)
                · refine zw_iconst 0 23 f19_22 rfl (by decide +kernel) ?_
                  refine zw_zreturn f19_23 r19 u19 (by decide +kernel) ⟨_, rfl, ?_⟩
                  refine zw_if_ne_f 23 29 f82_20 (by decide +kernel) rfl (by decide +kernel) ?_
                  refine zw_aload_n 24 f82_23 rfl rfl ?_
                  refine zw_iconst 1 25 f82_24 rfl (by decide +kernel) ?_
                  refine zw_virtual_i 28 0 0 [.ref 0, .int 1] [(0, .ref 0), (1, .int 1)] f82_25 rfl n82_78 k82_78_11 rfl (hb_0 _ _ _ _) (by decide +kernel) (Nat.le_of_ble_eq_true rfl) rfl rfl (by decide +kernel) (by decide +kernel) rfl (Nat.le_of_ble_eq_true rfl) rfl ?_
                  refine zw_aload_n 1 f105_0 rfl rfl ?_
                  refine zw_iload_n 2 f105_1 rfl rfl ?_
                  refine zw_put _ 5 f105_2 rfl g105_70_11 (hb_0 _ _ _ _) rfl (Nat.le_of_ble_eq_true rfl) (by decide +kernel) (hi_0_7 _ _ _ _ _) ?_
                  refine zw_iconst (-1) 6 f105_5 rfl (by decide +kernel) ?_
                  refine zw_ireturn f105_6 r105 u105 ⟨_, rfl, ?_⟩
                  refine zw_ireturn f82_28 r82 u82 ?_
                  exact ⟨_, _, _, _, rfl, (KP.i rfl KP.rf), Or.inl ⟨(fun q => (fun q => q.elim hc4 (fun z => z.2 hc10)) q.2), ⟨hI.mono (by omega), PE.rf⟩, rfl⟩⟩
                · refine zw_iconst 1 19 f19_18 rfl (by decide +kernel) ?_
                  refine zw_goto 23 f19_19 (by decide +kernel) ?_
                  refine zw_zreturn f19_23 r19 u19 (by decide +kernel) ⟨_, rfl, ?_⟩
                  refine zw_if_ne_t 29 f82_20 (by decide +kernel) (by decide +kernel) ?_
                  refine zw_aload_n 30 f82_29 rfl rfl ?_
                  refine zw_getfield 33 f82_30 rfl g82_10_11 (hb_0 _ _ _ _) rfl ?_
                  refine zw_getfield 36 f82_33 rfl g82_128_4 (hb_1 _ _ _ _) rfl ?_
                  refine zw_iload_n 37 f82_36 rfl rfl ?_
                  refine zw_iload_n 38 f82_37 rfl rfl ?_
                  refine zw_ast a.toNatClampNeg _ 39 f82_38 rfl (hb_8 _ _ _ _) rfl hc1 (zix (by decide) hc1 hc3) (ha_8 _ _ _ _ _) ?_
                  refine zw_aload_n 40 f82_39 rfl rfl ?_
                  refine zw_iconst 1 41 f82_40 rfl (by decide +kernel) ?_
                  refine zw_virtual_i 44 0 0 [.ref 0, .int 1] [(0, .ref 0), (1, .int 1)] f82_41 rfl n82_86 k82_86_11 rfl (hb_0 _ _ _ _) (by decide +kernel) (Nat.le_of_ble_eq_true rfl) rfl rfl (by decide +kernel) (by decide +kernel) rfl (Nat.le_of_ble_eq_true rfl) rfl ?_
                  refine zw_aload_n 1 f107_0 rfl rfl ?_
                  refine zw_getfield 4 f107_1 rfl g107_21_11 (hb_0 _ _ _ _) rfl ?_
                  refine zw_virtual_v 7 0 0 [.ref 11] [(0, .ref 11)] f107_4 rfl n107_318 k107_318_10 rfl (hb_11 _ _ _ _) (by decide +kernel) (Nat.le_of_ble_eq_true rfl) rfl rfl (by decide +kernel) (by decide +kernel) rfl (Nat.le_of_ble_eq_true rfl) rfl ?_
                  have hC_11 : CV nv np cm I := hI
                  refine zWp.mono (ck_X10_settle_11 ro nv np I _ _ _ hC_11.1) ?_
                  rintro r h1 ⟨I_11, G_11, A_11, B_11, rfl, K_11, C_11, rfl⟩
                  refine ⟨rfl, ?_⟩
                  have hV_11 : CV nv np cm I_11 := CV.of (I := I) hC_11 K_11 C_11
                  refine zw_aload_n 8 f107_7 rfl rfl ?_
                  refine zw_getfield 11 f107_8 rfl g107_31_11 (hb_0 _ _ _ _) rfl ?_
                  refine zw_aload_n 12 f107_11 rfl rfl ?_
                  refine zw_getfield 15 f107_12 rfl g107_21_11 (hb_0 _ _ _ _) rfl ?_
                  refine zw_virtual_v 18 0 0 [.ref 33, .ref 11] [(0, .ref 33), (1, .ref 11)] f107_15 rfl n107_187 k107_187_3 rfl (hb_33 _ _ _ _) (by decide +kernel) (Nat.le_of_ble_eq_true rfl) rfl rfl (by decide +kernel) (by decide +kernel) rfl (Nat.le_of_ble_eq_true rfl) rfl ?_
                  refine zWp.mono (cv_X3_take_33 ro nv np cm _ _ _ _ hV_11 (by omega)) ?_
                  rintro r h1 ⟨I_12, G_12, A_12, B_12, rfl, K_12, C_12, rfl⟩
                  refine ⟨rfl, ?_⟩
                  refine zw_aload_n 19 f107_18 rfl rfl ?_
                  refine zw_iload_n 20 f107_19 rfl rfl ?_
                  refine zw_virtual_i 23 0 0 [.ref 0, .int 1] [(0, .ref 0), (1, .int 1)] f107_20 rfl n107_181 k107_181_11 rfl (hb_0 _ _ _ _) (by decide +kernel) (Nat.le_of_ble_eq_true rfl) rfl rfl (by decide +kernel) (by decide +kernel) rfl (Nat.le_of_ble_eq_true rfl) rfl ?_
                  refine zw_aload_n 1 f106_0 rfl rfl ?_
                  refine zw_iconst 0 2 f106_1 rfl (by decide +kernel) ?_
                  refine zw_put _ 5 f106_2 rfl g106_70_11 (hb_0 _ _ _ _) rfl (Nat.le_of_ble_eq_true rfl) (by decide +kernel) (hi_0_7 _ _ _ _ _) ?_
                  refine zw_iload_n 6 f106_5 rfl rfl ?_
                  refine zw_ireturn f106_6 r106 u106 ⟨_, rfl, ?_⟩
                  refine zw_ireturn f107_23 r107 u107 ⟨_, rfl, ?_⟩
                  refine zw_ireturn f82_44 r82 u82 ?_
                  exact ⟨_, _, _, _, rfl, (KP.i rfl (KP.tr (KP.tr (KP.a rfl KP.rf) (KP.wk K_11 (fun k h => pWN k (pNX k h)))) (KP.wk K_12 pNX))), Or.inr ⟨⟨(qV.ofc (by omega) hc1 hc2), (Or.inr ⟨(qV.ofc (by omega) hc7 hc8), hc10⟩)⟩, ⟨C_12, PE.of10 ((K_12.2.2.1 2 rfl).trans (K_11.2.2.1 2 rfl)) ((K_12.2.2.1 3 rfl).trans (K_11.2.2.1 3 rfl)) ((K_12.2.2.1 4 rfl).trans (K_11.2.2.1 4 rfl)) ((K_12.2.2.1 5 rfl).trans (K_11.2.2.1 5 rfl)) ((K_12.2.2.1 6 rfl).trans (K_11.2.2.1 6 rfl)) ((K_12.2.2.1 7 rfl).trans (K_11.2.2.1 7 rfl)) ((K_12.2.2.1 8 rfl).trans (K_11.2.2.1 8 rfl)) ((K_12.2.2.1 9 rfl).trans (K_11.2.2.1 9 rfl)) ((K_12.2.2.1 10 rfl).trans (K_11.2.2.1 10 rfl)) ((K_12.2.2.1 15 rfl).trans (K_11.2.2.1 15 rfl))⟩, rfl⟩⟩
set_option maxRecDepth 100000 in
set_option maxHeartbeats 0 in
theorem cm_pipe (ro : UInt32 → Nat × (Nat → Int32)) (nv np cm : Nat) (I : Nat → Nat → Int32) (G : Nat → Nat → Int64) (A : Nat → Nat → Int32) (B : Nat → Nat → Int64) (hI : CV nv np cm I) (hcm : cm < 900000000) (hQ : qKd nv (cP A)) (a : Int32) (b : Int32) (c : Int32) : zWp ro 83 0 [(0, .ref 0), (1, .int a), (2, .int b), (3, .int c)] [] (hS I G A B) 0 0 (fun r h1 => ∃ I2 G2 A2 B2, h1 = hS I2 G2 A2 B2 ∧ KP pX I G A B I2 G2 A2 B2 ∧ ((¬ ok_pipe nv np (cP A) a b c ∧ cSt nv np (cm + 8) (cP A) I2 A2 ∧ r = some (.int (-1))) ∨ (ok_pipe nv np (cP A) a b c ∧ cSt nv (np + 1) (cm + 8) (updA (updA (updA (cP A) 60 (upd ((cP A) 60) np a)) 61 (upd ((updA (cP A) 60 (upd ((cP A) 60) np a)) 61) np b)) 62 (upd ((updA (updA (cP A) 60 (upd ((cP A) 60) np a)) 61 (upd ((updA (cP A) 60 (upd ((cP A) 60) np a)) 61) np b)) 62) np c)) I2 A2 ∧ r = some (.int (nI np))))) := by
  have h8 := hI.1.1.2
  have h14 := hI.1.2.1.2
  obtain ⟨t, ht, et⟩ := hI.2.2
  refine zw_iload_n 1 f83_0 rfl rfl ?_
  refine zw_iconst (-1) 2 f83_1 rfl (by decide +kernel) ?_
  refine zw_ic_eq 5 16 f83_2 (by decide +kernel) rfl (fun hc1 => ?_) (fun hc1 => ?_)
  · refine zw_iconst 1 17 f83_16 rfl (by decide +kernel) ?_
    refine zw_goto 21 f83_17 (by decide +kernel) ?_
    refine zw_istore _ 23 f83_21 rfl (by decide +kernel) rfl ?_
    refine zw_iload_n 24 f83_23 rfl (zl1_ne rfl rfl rfl) ?_
    refine zw_iconst (-1) 25 f83_24 rfl (by decide +kernel) ?_
    refine zw_ic_ne_f 28 37 f83_25 (by decide +kernel) rfl (fun q => q hc1) ?_
    refine zw_iload_n 29 f83_28 rfl (zl1_ne rfl rfl rfl) ?_
    refine zw_iconst (-1) 30 f83_29 rfl (by decide +kernel) ?_
    refine zw_ic_ne 33 37 f83_30 (by decide +kernel) rfl (fun hc2 => ?_) (fun hc2 => ?_)
    · refine zw_iconst 0 38 f83_37 rfl (by decide +kernel) ?_
      refine zw_istore _ 40 f83_38 rfl (by decide +kernel) rfl ?_
      refine zw_iload 42 f83_40 rfl (zl1_ne rfl rfl zl1_eq) ?_
      refine zw_if_eq_f 45 72 f83_42 (by decide +kernel) rfl (by decide +kernel) ?_
      refine zw_iload 47 f83_45 rfl zl1_eq ?_
      refine zw_if_ne_f 50 72 f83_47 (by decide +kernel) rfl (by decide +kernel) ?_
      refine zw_aload_n 51 f83_50 rfl (zl1_ne rfl rfl (zl1_ne rfl rfl rfl)) ?_
      refine zw_getfield 54 f83_51 rfl g83_10_11 (hb_0 _ _ _ _) rfl ?_
      refine zw_iload_n 55 f83_54 rfl (zl1_ne rfl rfl (zl1_ne rfl rfl rfl)) ?_
      refine zw_iload_n 56 f83_55 rfl (zl1_ne rfl rfl (zl1_ne rfl rfl rfl)) ?_
      refine zw_virtual_i 59 0 0 [.ref 1, .int b, .int a] [(0, .ref 1), (1, .int b), (2, .int a)] f83_56 rfl n83_121 k83_121_4 rfl (hb_1 _ _ _ _) (by decide +kernel) (Nat.le_of_ble_eq_true rfl) rfl rfl (by decide +kernel) (by decide +kernel) rfl (Nat.le_of_ble_eq_true rfl) rfl ?_
      refine zw_iload_n 1 f19_0 rfl rfl ?_
      refine zw_iconst (-1) 2 f19_1 rfl (by decide +kernel) ?_
      refine zw_ic_eq_f 5 18 f19_2 (by decide +kernel) rfl hc2 ?_
      refine zw_aload_n 6 f19_5 rfl rfl ?_
      refine zw_iload_n 7 f19_6 rfl rfl ?_
      refine zw_virtual_i 10 0 0 [.ref 1, .int b] [(0, .ref 1), (1, .int b)] f19_7 rfl n19_46 k19_46_4 rfl (hb_1 _ _ _ _) (by decide +kernel) (Nat.le_of_ble_eq_true rfl) rfl rfl (by decide +kernel) (by decide +kernel) rfl (Nat.le_of_ble_eq_true rfl) rfl ?_
      refine zw_iload_n 1 f13_0 rfl rfl ?_
      refine zw_if_lt 4 22 f13_1 (by decide +kernel) rfl (fun hc3 => ?_) (fun hc3 => ?_)
      · refine zw_iconst 0 23 f13_22 rfl (by decide +kernel) ?_
        refine zw_zreturn f13_23 r13 u13 (by decide +kernel) ⟨_, rfl, ?_⟩
        refine zw_if_eq_t 22 f19_10 (by decide +kernel) (by decide +kernel) ?_
        refine zw_iconst 0 23 f19_22 rfl (by decide +kernel) ?_
        refine zw_zreturn f19_23 r19 u19 (by decide +kernel) ⟨_, rfl, ?_⟩
        refine zw_if_eq_t 72 f83_59 (by decide +kernel) (by decide +kernel) ?_
        refine zw_aload_n 73 f83_72 rfl (zl1_ne rfl rfl (zl1_ne rfl rfl rfl)) ?_
        refine zw_iconst 1 74 f83_73 rfl (by decide +kernel) ?_
        refine zw_virtual_i 77 0 0 [.ref 0, .int 1] [(0, .ref 0), (1, .int 1)] f83_74 rfl n83_78 k83_78_11 rfl (hb_0 _ _ _ _) (by decide +kernel) (Nat.le_of_ble_eq_true rfl) rfl rfl (by decide +kernel) (by decide +kernel) rfl (Nat.le_of_ble_eq_true rfl) rfl ?_
        refine zw_aload_n 1 f105_0 rfl rfl ?_
        refine zw_iload_n 2 f105_1 rfl rfl ?_
        refine zw_put _ 5 f105_2 rfl g105_70_11 (hb_0 _ _ _ _) rfl (Nat.le_of_ble_eq_true rfl) (by decide +kernel) (hi_0_7 _ _ _ _ _) ?_
        refine zw_iconst (-1) 6 f105_5 rfl (by decide +kernel) ?_
        refine zw_ireturn f105_6 r105 u105 ⟨_, rfl, ?_⟩
        refine zw_ireturn f83_77 r83 u83 ?_
        exact ⟨_, _, _, _, rfl, (KP.i rfl KP.rf), Or.inl ⟨(fun q => (fun q => q.elim hc2 (fun z => (qV.n0 (by omega) hc3) z.1)) q.2.1), ⟨hI.mono (by omega), PE.rf⟩, rfl⟩⟩
      · refine zw_iload_n 5 f13_4 rfl rfl ?_
        refine zw_aload_n 6 f13_5 rfl rfl ?_
        refine zw_getI (nI nv) 9 f13_6 rfl g13_39_4 (hb_1 _ _ _ _) rfl hI.1.1.1 ?_
        refine zw_ic_ge 12 22 f13_9 (by decide +kernel) rfl (fun hc4 => ?_) (fun hc4 => ?_)
        · refine zw_iconst 0 23 f13_22 rfl (by decide +kernel) ?_
          refine zw_zreturn f13_23 r13 u13 (by decide +kernel) ⟨_, rfl, ?_⟩
          refine zw_if_eq_t 22 f19_10 (by decide +kernel) (by decide +kernel) ?_
          refine zw_iconst 0 23 f19_22 rfl (by decide +kernel) ?_
          refine zw_zreturn f19_23 r19 u19 (by decide +kernel) ⟨_, rfl, ?_⟩
          refine zw_if_eq_t 72 f83_59 (by decide +kernel) (by decide +kernel) ?_
          refine zw_aload_n 73 f83_72 rfl (zl1_ne rfl rfl (zl1_ne rfl rfl rfl)) ?_
          refine zw_iconst 1 74 f83_73 rfl (by decide +kernel) ?_
          refine zw_virtual_i 77 0 0 [.ref 0, .int 1] [(0, .ref 0), (1, .int 1)] f83_74 rfl n83_78 k83_78_11 rfl (hb_0 _ _ _ _) (by decide +kernel) (Nat.le_of_ble_eq_true rfl) rfl rfl (by decide +kernel) (by decide +kernel) rfl (Nat.le_of_ble_eq_true rfl) rfl ?_
          refine zw_aload_n 1 f105_0 rfl rfl ?_
          refine zw_iload_n 2 f105_1 rfl rfl ?_
          refine zw_put _ 5 f105_2 rfl g105_70_11 (hb_0 _ _ _ _) rfl (Nat.le_of_ble_eq_true rfl) (by decide +kernel) (hi_0_7 _ _ _ _ _) ?_
          refine zw_iconst (-1) 6 f105_5 rfl (by decide +kernel) ?_
          refine zw_ireturn f105_6 r105 u105 ⟨_, rfl, ?_⟩
          refine zw_ireturn f83_77 r83 u83 ?_
          exact ⟨_, _, _, _, rfl, (KP.i rfl KP.rf), Or.inl ⟨(fun q => (fun q => q.elim hc2 (fun z => (qV.n2 (by omega) hc4) z.1)) q.2.1), ⟨hI.mono (by omega), PE.rf⟩, rfl⟩⟩
        · refine zw_iload_n 13 f13_12 rfl rfl ?_
          refine zw_bipush 8 15 f13_13 rfl (by decide +kernel) ?_
          refine zw_ic_ge 18 22 f13_15 (by decide +kernel) rfl (fun hc5 => ?_) (fun hc5 => ?_)
          · refine zw_iconst 0 23 f13_22 rfl (by decide +kernel) ?_
            refine zw_zreturn f13_23 r13 u13 (by decide +kernel) ⟨_, rfl, ?_⟩
            refine zw_if_eq_t 22 f19_10 (by decide +kernel) (by decide +kernel) ?_
            refine zw_iconst 0 23 f19_22 rfl (by decide +kernel) ?_
            refine zw_zreturn f19_23 r19 u19 (by decide +kernel) ⟨_, rfl, ?_⟩
            refine zw_if_eq_t 72 f83_59 (by decide +kernel) (by decide +kernel) ?_
            refine zw_aload_n 73 f83_72 rfl (zl1_ne rfl rfl (zl1_ne rfl rfl rfl)) ?_
            refine zw_iconst 1 74 f83_73 rfl (by decide +kernel) ?_
            refine zw_virtual_i 77 0 0 [.ref 0, .int 1] [(0, .ref 0), (1, .int 1)] f83_74 rfl n83_78 k83_78_11 rfl (hb_0 _ _ _ _) (by decide +kernel) (Nat.le_of_ble_eq_true rfl) rfl rfl (by decide +kernel) (by decide +kernel) rfl (Nat.le_of_ble_eq_true rfl) rfl ?_
            refine zw_aload_n 1 f105_0 rfl rfl ?_
            refine zw_iload_n 2 f105_1 rfl rfl ?_
            refine zw_put _ 5 f105_2 rfl g105_70_11 (hb_0 _ _ _ _) rfl (Nat.le_of_ble_eq_true rfl) (by decide +kernel) (hi_0_7 _ _ _ _ _) ?_
            refine zw_iconst (-1) 6 f105_5 rfl (by decide +kernel) ?_
            refine zw_ireturn f105_6 r105 u105 ⟨_, rfl, ?_⟩
            refine zw_ireturn f83_77 r83 u83 ?_
            exact ⟨_, _, _, _, rfl, (KP.i rfl KP.rf), Or.inl ⟨(fun q => (fun q => q.elim hc2 (fun z => (qV.n3 (m := 8) (N := 8) (by omega) (by omega) (by decide) hc5) z.1)) q.2.1), ⟨hI.mono (by omega), PE.rf⟩, rfl⟩⟩
          · refine zw_iconst 1 19 f13_18 rfl (by decide +kernel) ?_
            refine zw_goto 23 f13_19 (by decide +kernel) ?_
            refine zw_zreturn f13_23 r13 u13 (by decide +kernel) ⟨_, rfl, ?_⟩
            refine zw_if_eq_f 13 22 f19_10 (by decide +kernel) rfl (by decide +kernel) ?_
            refine zw_iload_n 14 f19_13 rfl rfl ?_
            refine zw_iload_n 15 f19_14 rfl rfl ?_
            refine zw_ic_le 18 22 f19_15 (by decide +kernel) rfl (fun hc6 => ?_) (fun hc6 => ?_)
            · refine zw_iconst 0 23 f19_22 rfl (by decide +kernel) ?_
              refine zw_zreturn f19_23 r19 u19 (by decide +kernel) ⟨_, rfl, ?_⟩
              refine zw_if_eq_t 72 f83_59 (by decide +kernel) (by decide +kernel) ?_
              refine zw_aload_n 73 f83_72 rfl (zl1_ne rfl rfl (zl1_ne rfl rfl rfl)) ?_
              refine zw_iconst 1 74 f83_73 rfl (by decide +kernel) ?_
              refine zw_virtual_i 77 0 0 [.ref 0, .int 1] [(0, .ref 0), (1, .int 1)] f83_74 rfl n83_78 k83_78_11 rfl (hb_0 _ _ _ _) (by decide +kernel) (Nat.le_of_ble_eq_true rfl) rfl rfl (by decide +kernel) (by decide +kernel) rfl (Nat.le_of_ble_eq_true rfl) rfl ?_
              refine zw_aload_n 1 f105_0 rfl rfl ?_
              refine zw_iload_n 2 f105_1 rfl rfl ?_
              refine zw_put _ 5 f105_2 rfl g105_70_11 (hb_0 _ _ _ _) rfl (Nat.le_of_ble_eq_true rfl) (by decide +kernel) (hi_0_7 _ _ _ _ _) ?_
              refine zw_iconst (-1) 6 f105_5 rfl (by decide +kernel) ?_
              refine zw_ireturn f105_6 r105 u105 ⟨_, rfl, ?_⟩
              refine zw_ireturn f83_77 r83 u83 ?_
              exact ⟨_, _, _, _, rfl, (KP.i rfl KP.rf), Or.inl ⟨(fun q => (fun q => q.elim hc2 (fun z => z.2 hc6)) q.2.1), ⟨hI.mono (by omega), PE.rf⟩, rfl⟩⟩
            · refine zw_iconst 1 19 f19_18 rfl (by decide +kernel) ?_
              refine zw_goto 23 f19_19 (by decide +kernel) ?_
              refine zw_zreturn f19_23 r19 u19 (by decide +kernel) ⟨_, rfl, ?_⟩
              refine zw_if_eq_f 62 72 f83_59 (by decide +kernel) rfl (by decide +kernel) ?_
              refine zw_iload_n 63 f83_62 rfl (zl1_ne rfl rfl (zl1_ne rfl rfl rfl)) ?_
              refine zw_iconst 1 64 f83_63 rfl (by decide +kernel) ?_
              refine zw_bipush 20 66 f83_64 rfl (by decide +kernel) ?_
              refine zw_static_i 69 0 0 [.int c, .int 1, .int 20] [] [(0, .int c), (1, .int 1), (2, .int 20)] f83_66 rfl k83_74_99 rfl (by decide +kernel) (Nat.le_of_ble_eq_true rfl) (Nat.le_of_ble_eq_true rfl) rfl rfl (by decide +kernel) (by decide +kernel) rfl (Nat.le_of_ble_eq_true rfl) rfl ?_
              refine zw_iload_n 1 f112_0 rfl rfl ?_
              refine zw_iload_n 2 f112_1 rfl rfl ?_
              refine zw_ic_lt 5 14 f112_2 (by decide +kernel) rfl (fun hc7 => ?_) (fun hc7 => ?_)
              · refine zw_iconst 0 15 f112_14 rfl (by decide +kernel) ?_
                refine zw_zreturn f112_15 r112 u112 (by decide +kernel) ⟨_, rfl, ?_⟩
                refine zw_if_ne_f 72 78 f83_69 (by decide +kernel) rfl (by decide +kernel) ?_
                refine zw_aload_n 73 f83_72 rfl (zl1_ne rfl rfl (zl1_ne rfl rfl rfl)) ?_
                refine zw_iconst 1 74 f83_73 rfl (by decide +kernel) ?_
                refine zw_virtual_i 77 0 0 [.ref 0, .int 1] [(0, .ref 0), (1, .int 1)] f83_74 rfl n83_78 k83_78_11 rfl (hb_0 _ _ _ _) (by decide +kernel) (Nat.le_of_ble_eq_true rfl) rfl rfl (by decide +kernel) (by decide +kernel) rfl (Nat.le_of_ble_eq_true rfl) rfl ?_
                refine zw_aload_n 1 f105_0 rfl rfl ?_
                refine zw_iload_n 2 f105_1 rfl rfl ?_
                refine zw_put _ 5 f105_2 rfl g105_70_11 (hb_0 _ _ _ _) rfl (Nat.le_of_ble_eq_true rfl) (by decide +kernel) (hi_0_7 _ _ _ _ _) ?_
                refine zw_iconst (-1) 6 f105_5 rfl (by decide +kernel) ?_
                refine zw_ireturn f105_6 r105 u105 ⟨_, rfl, ?_⟩
                refine zw_ireturn f83_77 r83 u83 ?_
                exact ⟨_, _, _, _, rfl, (KP.i rfl KP.rf), Or.inl ⟨(fun q => (fun q => q.1 hc7) q.2.2.2.1), ⟨hI.mono (by omega), PE.rf⟩, rfl⟩⟩
              · refine zw_iload_n 6 f112_5 rfl rfl ?_
                refine zw_iload_n 7 f112_6 rfl rfl ?_
                refine zw_ic_gt 10 14 f112_7 (by decide +kernel) rfl (fun hc8 => ?_) (fun hc8 => ?_)
                · refine zw_iconst 0 15 f112_14 rfl (by decide +kernel) ?_
                  refine zw_zreturn f112_15 r112 u112 (by decide +kernel) ⟨_, rfl, ?_⟩
                  refine zw_if_ne_f 72 78 f83_69 (by decide +kernel) rfl (by decide +kernel) ?_
                  refine zw_aload_n 73 f83_72 rfl (zl1_ne rfl rfl (zl1_ne rfl rfl rfl)) ?_
                  refine zw_iconst 1 74 f83_73 rfl (by decide +kernel) ?_
                  refine zw_virtual_i 77 0 0 [.ref 0, .int 1] [(0, .ref 0), (1, .int 1)] f83_74 rfl n83_78 k83_78_11 rfl (hb_0 _ _ _ _) (by decide +kernel) (Nat.le_of_ble_eq_true rfl) rfl rfl (by decide +kernel) (by decide +kernel) rfl (Nat.le_of_ble_eq_true rfl) rfl ?_
                  refine zw_aload_n 1 f105_0 rfl rfl ?_
                  refine zw_iload_n 2 f105_1 rfl rfl ?_
                  refine zw_put _ 5 f105_2 rfl g105_70_11 (hb_0 _ _ _ _) rfl (Nat.le_of_ble_eq_true rfl) (by decide +kernel) (hi_0_7 _ _ _ _ _) ?_
                  refine zw_iconst (-1) 6 f105_5 rfl (by decide +kernel) ?_
                  refine zw_ireturn f105_6 r105 u105 ⟨_, rfl, ?_⟩
                  refine zw_ireturn f83_77 r83 u83 ?_
                  exact ⟨_, _, _, _, rfl, (KP.i rfl KP.rf), Or.inl ⟨(fun q => (fun q => q.2 hc8) q.2.2.2.1), ⟨hI.mono (by omega), PE.rf⟩, rfl⟩⟩
                · refine zw_iconst 1 11 f112_10 rfl (by decide +kernel) ?_
                  refine zw_goto 15 f112_11 (by decide +kernel) ?_
                  refine zw_zreturn f112_15 r112 u112 (by decide +kernel) ⟨_, rfl, ?_⟩
                  refine zw_if_ne_t 78 f83_69 (by decide +kernel) (by decide +kernel) ?_
                  refine zw_aload_n 79 f83_78 rfl (zl1_ne rfl rfl (zl1_ne rfl rfl rfl)) ?_
                  refine zw_getfield 82 f83_79 rfl g83_10_11 (hb_0 _ _ _ _) rfl ?_
                  refine zw_iload_n 83 f83_82 rfl (zl1_ne rfl rfl (zl1_ne rfl rfl rfl)) ?_
                  refine zw_iload_n 84 f83_83 rfl (zl1_ne rfl rfl (zl1_ne rfl rfl rfl)) ?_
                  refine zw_virtual_i 87 0 0 [.ref 1, .int a, .int b] [(0, .ref 1), (1, .int a), (2, .int b)] f83_84 rfl n83_131 k83_131_4 rfl (hb_1 _ _ _ _) (by decide +kernel) (Nat.le_of_ble_eq_true rfl) rfl rfl (by decide +kernel) (by decide +kernel) rfl (Nat.le_of_ble_eq_true rfl) rfl ?_
                  refine zw_aload_n 1 f21_0 rfl rfl ?_
                  refine zw_getI (nI np) 4 f21_1 rfl g21_43_4 (hb_1 _ _ _ _) rfl hI.1.2.1.1 ?_
                  refine zw_istore_n _ 5 f21_4 rfl (by decide +kernel) rfl ?_
                  refine zw_iload_n 6 f21_5 rfl zl1_eq ?_
                  refine zw_bipush 14 8 f21_6 rfl (by decide +kernel) ?_
                  refine zw_ic_lt 11 13 f21_8 (by decide +kernel) rfl (fun hc9 => ?_) (fun hc9 => ?_)
                  · have hn_hc9 : np < 14 := zn_lt (by omega) (by omega) (Int32.not_le.mpr hc9)
                    refine zw_aload_n 14 f21_13 rfl (zl1_ne rfl rfl rfl) ?_
                    refine zw_getfield 17 f21_14 rfl g21_33_4 (hb_1 _ _ _ _) rfl ?_
                    refine zw_iload_n 18 f21_17 rfl zl1_eq ?_
                    refine zw_iload_n 19 f21_18 rfl (zl1_ne rfl rfl rfl) ?_
                    refine zw_ast np _ 20 f21_19 rfl (hb_9 _ _ _ _) (nI_clamp (by omega)) (nI_pos (by omega)) (by omega) (ha_9 _ _ _ _ _) ?_
                    refine zw_aload_n 21 f21_20 rfl (zl1_ne rfl rfl rfl) ?_
                    refine zw_getfield 24 f21_21 rfl g21_36_4 (hb_1 _ _ _ _) rfl ?_
                    refine zw_iload_n 25 f21_24 rfl zl1_eq ?_
                    refine zw_iload_n 26 f21_25 rfl (zl1_ne rfl rfl rfl) ?_
                    refine zw_ast np _ 27 f21_26 rfl (hb_10 _ _ _ _) (nI_clamp (by omega)) (nI_pos (by omega)) (by omega) (ha_10 _ _ _ _ _) ?_
                    refine zw_aload_n 28 f21_27 rfl (zl1_ne rfl rfl rfl) ?_
                    refine zw_iload_n 29 f21_28 rfl zl1_eq ?_
                    refine zw_iconst 1 30 f21_29 rfl (by decide +kernel) ?_
                    refine zw_iadd (nI (np + 1)) 31 f21_30 rfl (nI_add _ 1) ?_
                    refine zw_put _ 34 f21_31 rfl g21_43_4 (hb_1 _ _ _ _) rfl (Nat.le_of_ble_eq_true rfl) (by decide +kernel) (hi_1_1 _ _ _ _ _) ?_
                    refine zw_iload_n 35 f21_34 rfl zl1_eq ?_
                    refine zw_ireturn f21_35 r21 u21 ⟨_, rfl, ?_⟩
                    refine zw_istore _ 89 f83_87 rfl (by decide +kernel) rfl ?_
                    refine zw_iload 91 f83_89 rfl zl1_eq ?_
                    refine zw_iconst (-1) 92 f83_91 rfl (by decide +kernel) ?_
                    refine zw_ic_ne_t 101 f83_92 (by decide +kernel) (nI_nem (by omega)) ?_
                    refine zw_aload_n 102 f83_101 rfl (zl1_ne rfl rfl (zl1_ne rfl rfl (zl1_ne rfl rfl rfl))) ?_
                    refine zw_getfield 105 f83_102 rfl g83_21_11 (hb_0 _ _ _ _) rfl ?_
                    refine zw_getfield 108 f83_105 rfl g83_134_10 (hb_11 _ _ _ _) rfl ?_
                    refine zw_getfield 111 f83_108 rfl g83_138_9 (hb_12 _ _ _ _) rfl ?_
                    refine zw_iload 113 f83_111 rfl zl1_eq ?_
                    refine zw_iload_n 114 f83_113 rfl (zl1_ne rfl rfl (zl1_ne rfl rfl (zl1_ne rfl rfl rfl))) ?_
                    refine zw_ast np _ 115 f83_114 rfl (hb_15 _ _ _ _) (nI_clamp (by omega)) (nI_pos (by omega)) (by omega) (ha_15 _ _ _ _ _) ?_
                    refine zw_aload_n 116 f83_115 rfl (zl1_ne rfl rfl (zl1_ne rfl rfl (zl1_ne rfl rfl rfl))) ?_
                    refine zw_getfield 119 f83_116 rfl g83_21_11 (hb_0 _ _ _ _) rfl ?_
                    refine zw_getfield 122 f83_119 rfl g83_134_10 (hb_11 _ _ _ _) rfl ?_
                    refine zw_iload 124 f83_122 rfl zl1_eq ?_
                    refine zw_iconst 1 125 f83_124 rfl (by decide +kernel) ?_
                    refine zw_virtual_v 128 0 0 [.ref 12, .int (nI np), .int 1] [(0, .ref 12), (1, .int (nI np)), (2, .int 1)] f83_125 rfl n83_143 k83_143_9 rfl (hb_12 _ _ _ _) (by decide +kernel) (Nat.le_of_ble_eq_true rfl) rfl rfl (by decide +kernel) (by decide +kernel) rfl (Nat.le_of_ble_eq_true rfl) rfl ?_
                    refine zw_aload_n 1 f44_0 rfl rfl ?_
                    refine zw_iload_n 2 f44_1 rfl rfl ?_
                    refine zw_if_eq_f 5 16 f44_2 (by decide +kernel) rfl (by decide +kernel) ?_
                    refine zw_aload_n 6 f44_5 rfl rfl ?_
                    refine zw_getI (I 12 5) 9 f44_6 rfl g44_38_9 (hb_12 _ _ _ _) rfl rfl ?_
                    refine zw_iconst 1 10 f44_9 rfl (by decide +kernel) ?_
                    refine zw_iload_n 11 f44_10 rfl rfl ?_
                    refine zw_ishl (1 <<< ((nI np) &&& 31)) 12 f44_11 rfl rfl ?_
                    refine zw_ior ((I 12 5) ||| (1 <<< ((nI np) &&& 31))) 13 f44_12 rfl rfl ?_
                    refine zw_goto 26 f44_13 (by decide +kernel) ?_
                    refine zw_put _ 29 f44_26 rfl g44_38_9 (hb_12 _ _ _ _) rfl (Nat.le_of_ble_eq_true rfl) (by decide +kernel) (hi_12_5 _ _ _ _ _) ?_
                    refine zw_vreturn f44_29 r44 u44 ⟨rfl, ?_⟩
                    refine zw_aload_n 129 f83_128 rfl (zl1_ne rfl rfl (zl1_ne rfl rfl (zl1_ne rfl rfl rfl))) ?_
                    refine zw_iload 131 f83_129 rfl zl1_eq ?_
                    refine zw_virtual_i 134 0 0 [.ref 0, .int (nI np)] [(0, .ref 0), (1, .int (nI np))] f83_131 rfl n83_86 k83_86_11 rfl (hb_0 _ _ _ _) (by decide +kernel) (Nat.le_of_ble_eq_true rfl) rfl rfl (by decide +kernel) (by decide +kernel) rfl (Nat.le_of_ble_eq_true rfl) rfl ?_
                    refine zw_aload_n 1 f107_0 rfl rfl ?_
                    refine zw_getfield 4 f107_1 rfl g107_21_11 (hb_0 _ _ _ _) rfl ?_
                    refine zw_virtual_v 7 0 0 [.ref 11] [(0, .ref 11)] f107_4 rfl n107_318 k107_318_10 rfl (hb_11 _ _ _ _) (by decide +kernel) (Nat.le_of_ble_eq_true rfl) rfl rfl (by decide +kernel) (by decide +kernel) rfl (Nat.le_of_ble_eq_true rfl) rfl ?_
                    have hC_10 : CV nv (np + 1) cm (upd2 (upd2 I 1 1 (nI (np + 1))) 12 5 ((I 12 5) ||| (1 <<< ((nI np) &&& 31)))) := ⟨⟨hI.1.1, ⟨rfl, by omega⟩, hI.1.2.2⟩, hI.2⟩
                    refine zWp.mono (ck_X10_settle_11 ro nv (np + 1) (upd2 (upd2 I 1 1 (nI (np + 1))) 12 5 ((I 12 5) ||| (1 <<< ((nI np) &&& 31)))) _ _ _ hC_10.1) ?_
                    rintro r h1 ⟨I_10, G_10, A_10, B_10, rfl, K_10, C_10, rfl⟩
                    refine ⟨rfl, ?_⟩
                    have hV_10 : CV nv (np + 1) cm I_10 := CV.of (I := (upd2 (upd2 I 1 1 (nI (np + 1))) 12 5 ((I 12 5) ||| (1 <<< ((nI np) &&& 31))))) hC_10 K_10 C_10
                    refine zw_aload_n 8 f107_7 rfl rfl ?_
                    refine zw_getfield 11 f107_8 rfl g107_31_11 (hb_0 _ _ _ _) rfl ?_
                    refine zw_aload_n 12 f107_11 rfl rfl ?_
                    refine zw_getfield 15 f107_12 rfl g107_21_11 (hb_0 _ _ _ _) rfl ?_
                    refine zw_virtual_v 18 0 0 [.ref 33, .ref 11] [(0, .ref 33), (1, .ref 11)] f107_15 rfl n107_187 k107_187_3 rfl (hb_33 _ _ _ _) (by decide +kernel) (Nat.le_of_ble_eq_true rfl) rfl rfl (by decide +kernel) (by decide +kernel) rfl (Nat.le_of_ble_eq_true rfl) rfl ?_
                    refine zWp.mono (cv_X3_take_33 ro nv (np + 1) cm _ _ _ _ hV_10 (by omega)) ?_
                    rintro r h1 ⟨I_11, G_11, A_11, B_11, rfl, K_11, C_11, rfl⟩
                    refine ⟨rfl, ?_⟩
                    refine zw_aload_n 19 f107_18 rfl rfl ?_
                    refine zw_iload_n 20 f107_19 rfl rfl ?_
                    refine zw_virtual_i 23 0 0 [.ref 0, .int (nI np)] [(0, .ref 0), (1, .int (nI np))] f107_20 rfl n107_181 k107_181_11 rfl (hb_0 _ _ _ _) (by decide +kernel) (Nat.le_of_ble_eq_true rfl) rfl rfl (by decide +kernel) (by decide +kernel) rfl (Nat.le_of_ble_eq_true rfl) rfl ?_
                    refine zw_aload_n 1 f106_0 rfl rfl ?_
                    refine zw_iconst 0 2 f106_1 rfl (by decide +kernel) ?_
                    refine zw_put _ 5 f106_2 rfl g106_70_11 (hb_0 _ _ _ _) rfl (Nat.le_of_ble_eq_true rfl) (by decide +kernel) (hi_0_7 _ _ _ _ _) ?_
                    refine zw_iload_n 6 f106_5 rfl rfl ?_
                    refine zw_ireturn f106_6 r106 u106 ⟨_, rfl, ?_⟩
                    refine zw_ireturn f107_23 r107 u107 ⟨_, rfl, ?_⟩
                    refine zw_ireturn f83_134 r83 u83 ?_
                    exact ⟨_, _, _, _, rfl, (KP.i rfl (KP.tr (KP.tr (KP.i rfl (KP.a rfl (KP.i rfl (KP.a rfl (KP.a rfl KP.rf))))) (KP.wk K_10 (fun k h => pWN k (pNX k h)))) (KP.wk K_11 pNX))), Or.inr ⟨⟨(Or.inl hc1), (Or.inr ⟨(qV.ofc (by omega) hc3 hc4), hc6⟩), (fun q => hc2 q.2), ⟨hc7, hc8⟩, (by omega)⟩, ⟨C_11, PE.of10 ((K_11.2.2.1 2 rfl).trans (K_10.2.2.1 2 rfl)) ((K_11.2.2.1 3 rfl).trans (K_10.2.2.1 3 rfl)) ((K_11.2.2.1 4 rfl).trans (K_10.2.2.1 4 rfl)) ((K_11.2.2.1 5 rfl).trans (K_10.2.2.1 5 rfl)) ((K_11.2.2.1 6 rfl).trans (K_10.2.2.1 6 rfl)) ((K_11.2.2.1 7 rfl).trans (K_10.2.2.1 7 rfl)) ((K_11.2.2.1 8 rfl).trans (K_10.2.2.1 8 rfl)) ((K_11.2.2.1 9 rfl).trans (K_10.2.2.1 9 rfl)) ((K_11.2.2.1 10 rfl).trans (K_10.2.2.1 10 rfl)) ((K_11.2.2.1 15 rfl).trans (K_10.2.2.1 15 rfl))⟩, rfl⟩⟩
                  · have hn_hc9 : 14 ≤ np := zn_ge (by omega) (by omega) (Int32.not_lt.mp hc9)
                    refine zw_iconst (-1) 12 f21_11 rfl (by decide +kernel) ?_
                    refine zw_ireturn f21_12 r21 u21 ⟨_, rfl, ?_⟩
                    refine zw_istore _ 89 f83_87 rfl (by decide +kernel) rfl ?_
                    refine zw_iload 91 f83_89 rfl zl1_eq ?_
                    refine zw_iconst (-1) 92 f83_91 rfl (by decide +kernel) ?_
                    refine zw_ic_ne_f 95 101 f83_92 (by decide +kernel) rfl (by decide +kernel) ?_
                    refine zw_aload_n 96 f83_95 rfl (zl1_ne rfl rfl (zl1_ne rfl rfl (zl1_ne rfl rfl rfl))) ?_
                    refine zw_iconst 2 97 f83_96 rfl (by decide +kernel) ?_
                    refine zw_virtual_i 100 0 0 [.ref 0, .int 2] [(0, .ref 0), (1, .int 2)] f83_97 rfl n83_78 k83_78_11 rfl (hb_0 _ _ _ _) (by decide +kernel) (Nat.le_of_ble_eq_true rfl) rfl rfl (by decide +kernel) (by decide +kernel) rfl (Nat.le_of_ble_eq_true rfl) rfl ?_
                    refine zw_aload_n 1 f105_0 rfl rfl ?_
                    refine zw_iload_n 2 f105_1 rfl rfl ?_
                    refine zw_put _ 5 f105_2 rfl g105_70_11 (hb_0 _ _ _ _) rfl (Nat.le_of_ble_eq_true rfl) (by decide +kernel) (hi_0_7 _ _ _ _ _) ?_
                    refine zw_iconst (-1) 6 f105_5 rfl (by decide +kernel) ?_
                    refine zw_ireturn f105_6 r105 u105 ⟨_, rfl, ?_⟩
                    refine zw_ireturn f83_100 r83 u83 ?_
                    exact ⟨_, _, _, _, rfl, (KP.i rfl KP.rf), Or.inl ⟨(fun q => (fun q => q (by omega)) q.2.2.2.2), ⟨hI.mono (by omega), PE.rf⟩, rfl⟩⟩
    · refine zw_iconst 1 34 f83_33 rfl (by decide +kernel) ?_
      refine zw_goto 38 f83_34 (by decide +kernel) ?_
      refine zw_istore _ 40 f83_38 rfl (by decide +kernel) rfl ?_
      refine zw_iload 42 f83_40 rfl (zl1_ne rfl rfl zl1_eq) ?_
      refine zw_if_eq_f 45 72 f83_42 (by decide +kernel) rfl (by decide +kernel) ?_
      refine zw_iload 47 f83_45 rfl zl1_eq ?_
      refine zw_if_ne_t 72 f83_47 (by decide +kernel) (by decide +kernel) ?_
      refine zw_aload_n 73 f83_72 rfl (zl1_ne rfl rfl (zl1_ne rfl rfl rfl)) ?_
      refine zw_iconst 1 74 f83_73 rfl (by decide +kernel) ?_
      refine zw_virtual_i 77 0 0 [.ref 0, .int 1] [(0, .ref 0), (1, .int 1)] f83_74 rfl n83_78 k83_78_11 rfl (hb_0 _ _ _ _) (by decide +kernel) (Nat.le_of_ble_eq_true rfl) rfl rfl (by decide +kernel) (by decide +kernel) rfl (Nat.le_of_ble_eq_true rfl) rfl ?_
      refine zw_aload_n 1 f105_0 rfl rfl ?_
      refine zw_iload_n 2 f105_1 rfl rfl ?_
      refine zw_put _ 5 f105_2 rfl g105_70_11 (hb_0 _ _ _ _) rfl (Nat.le_of_ble_eq_true rfl) (by decide +kernel) (hi_0_7 _ _ _ _ _) ?_
      refine zw_iconst (-1) 6 f105_5 rfl (by decide +kernel) ?_
      refine zw_ireturn f105_6 r105 u105 ⟨_, rfl, ?_⟩
      refine zw_ireturn f83_77 r83 u83 ?_
      exact ⟨_, _, _, _, rfl, (KP.i rfl KP.rf), Or.inl ⟨(fun q => (fun q => q ⟨hc1, (Decidable.of_not_not hc2)⟩) q.2.2.1), ⟨hI.mono (by omega), PE.rf⟩, rfl⟩⟩
  · refine zw_aload_n 6 f83_5 rfl rfl ?_
    refine zw_getfield 9 f83_6 rfl g83_10_11 (hb_0 _ _ _ _) rfl ?_
    refine zw_iload_n 10 f83_9 rfl rfl ?_
    refine zw_virtual_i 13 0 0 [.ref 1, .int a] [(0, .ref 1), (1, .int a)] f83_10 rfl n83_89 k83_89_4 rfl (hb_1 _ _ _ _) (by decide +kernel) (Nat.le_of_ble_eq_true rfl) rfl rfl (by decide +kernel) (by decide +kernel) rfl (Nat.le_of_ble_eq_true rfl) rfl ?_
    refine zw_iload_n 1 f13_0 rfl rfl ?_
    refine zw_if_lt 4 22 f13_1 (by decide +kernel) rfl (fun hc12 => ?_) (fun hc12 => ?_)
    · refine zw_iconst 0 23 f13_22 rfl (by decide +kernel) ?_
      refine zw_zreturn f13_23 r13 u13 (by decide +kernel) ⟨_, rfl, ?_⟩
      refine zw_if_eq_t 20 f83_13 (by decide +kernel) (by decide +kernel) ?_
      refine zw_iconst 0 21 f83_20 rfl (by decide +kernel) ?_
      refine zw_istore _ 23 f83_21 rfl (by decide +kernel) rfl ?_
      refine zw_iload_n 24 f83_23 rfl (zl1_ne rfl rfl rfl) ?_
      refine zw_iconst (-1) 25 f83_24 rfl (by decide +kernel) ?_
      refine zw_ic_ne_t 37 f83_25 (by decide +kernel) hc1 ?_
      refine zw_iconst 0 38 f83_37 rfl (by decide +kernel) ?_
      refine zw_istore _ 40 f83_38 rfl (by decide +kernel) rfl ?_
      refine zw_iload 42 f83_40 rfl (zl1_ne rfl rfl zl1_eq) ?_
      refine zw_if_eq_t 72 f83_42 (by decide +kernel) (by decide +kernel) ?_
      refine zw_aload_n 73 f83_72 rfl (zl1_ne rfl rfl (zl1_ne rfl rfl rfl)) ?_
      refine zw_iconst 1 74 f83_73 rfl (by decide +kernel) ?_
      refine zw_virtual_i 77 0 0 [.ref 0, .int 1] [(0, .ref 0), (1, .int 1)] f83_74 rfl n83_78 k83_78_11 rfl (hb_0 _ _ _ _) (by decide +kernel) (Nat.le_of_ble_eq_true rfl) rfl rfl (by decide +kernel) (by decide +kernel) rfl (Nat.le_of_ble_eq_true rfl) rfl ?_
      refine zw_aload_n 1 f105_0 rfl rfl ?_
      refine zw_iload_n 2 f105_1 rfl rfl ?_
      refine zw_put _ 5 f105_2 rfl g105_70_11 (hb_0 _ _ _ _) rfl (Nat.le_of_ble_eq_true rfl) (by decide +kernel) (hi_0_7 _ _ _ _ _) ?_
      refine zw_iconst (-1) 6 f105_5 rfl (by decide +kernel) ?_
      refine zw_ireturn f105_6 r105 u105 ⟨_, rfl, ?_⟩
      refine zw_ireturn f83_77 r83 u83 ?_
      exact ⟨_, _, _, _, rfl, (KP.i rfl KP.rf), Or.inl ⟨(fun q => (fun q => q.elim hc1 (qV.n0 (by omega) hc12)) q.1), ⟨hI.mono (by omega), PE.rf⟩, rfl⟩⟩
    · refine zw_iload_n 5 f13_4 rfl rfl ?_
      refine zw_aload_n 6 f13_5 rfl rfl ?_
      refine zw_getI (nI nv) 9 f13_6 rfl g13_39_4 (hb_1 _ _ _ _) rfl hI.1.1.1 ?_
      refine zw_ic_ge 12 22 f13_9 (by decide +kernel) rfl (fun hc13 => ?_) (fun hc13 => ?_)
      · refine zw_iconst 0 23 f13_22 rfl (by decide +kernel) ?_
        refine zw_zreturn f13_23 r13 u13 (by decide +kernel) ⟨_, rfl, ?_⟩
        refine zw_if_eq_t 20 f83_13 (by decide +kernel) (by decide +kernel) ?_
        refine zw_iconst 0 21 f83_20 rfl (by decide +kernel) ?_
        refine zw_istore _ 23 f83_21 rfl (by decide +kernel) rfl ?_
        refine zw_iload_n 24 f83_23 rfl (zl1_ne rfl rfl rfl) ?_
        refine zw_iconst (-1) 25 f83_24 rfl (by decide +kernel) ?_
        refine zw_ic_ne_t 37 f83_25 (by decide +kernel) hc1 ?_
        refine zw_iconst 0 38 f83_37 rfl (by decide +kernel) ?_
        refine zw_istore _ 40 f83_38 rfl (by decide +kernel) rfl ?_
        refine zw_iload 42 f83_40 rfl (zl1_ne rfl rfl zl1_eq) ?_
        refine zw_if_eq_t 72 f83_42 (by decide +kernel) (by decide +kernel) ?_
        refine zw_aload_n 73 f83_72 rfl (zl1_ne rfl rfl (zl1_ne rfl rfl rfl)) ?_
        refine zw_iconst 1 74 f83_73 rfl (by decide +kernel) ?_
        refine zw_virtual_i 77 0 0 [.ref 0, .int 1] [(0, .ref 0), (1, .int 1)] f83_74 rfl n83_78 k83_78_11 rfl (hb_0 _ _ _ _) (by decide +kernel) (Nat.le_of_ble_eq_true rfl) rfl rfl (by decide +kernel) (by decide +kernel) rfl (Nat.le_of_ble_eq_true rfl) rfl ?_
        refine zw_aload_n 1 f105_0 rfl rfl ?_
        refine zw_iload_n 2 f105_1 rfl rfl ?_
        refine zw_put _ 5 f105_2 rfl g105_70_11 (hb_0 _ _ _ _) rfl (Nat.le_of_ble_eq_true rfl) (by decide +kernel) (hi_0_7 _ _ _ _ _) ?_
        refine zw_iconst (-1) 6 f105_5 rfl (by decide +kernel) ?_
        refine zw_ireturn f105_6 r105 u105 ⟨_, rfl, ?_⟩
        refine zw_ireturn f83_77 r83 u83 ?_
        exact ⟨_, _, _, _, rfl, (KP.i rfl KP.rf), Or.inl ⟨(fun q => (fun q => q.elim hc1 (qV.n2 (by omega) hc13)) q.1), ⟨hI.mono (by omega), PE.rf⟩, rfl⟩⟩
      · refine zw_iload_n 13 f13_12 rfl rfl ?_
        refine zw_bipush 8 15 f13_13 rfl (by decide +kernel) ?_
        refine zw_ic_ge 18 22 f13_15 (by decide +kernel) rfl (fun hc14 => ?_) (fun hc14 => ?_)
        · refine zw_iconst 0 23 f13_22 rfl (by decide +kernel) ?_
          refine zw_zreturn f13_23 r13 u13 (by decide +kernel) ⟨_, rfl, ?_⟩
          refine zw_if_eq_t 20 f83_13 (by decide +kernel) (by decide +kernel) ?_
          refine zw_iconst 0 21 f83_20 rfl (by decide +kernel) ?_
          refine zw_istore _ 23 f83_21 rfl (by decide +kernel) rfl ?_
          refine zw_iload_n 24 f83_23 rfl (zl1_ne rfl rfl rfl) ?_
          refine zw_iconst (-1) 25 f83_24 rfl (by decide +kernel) ?_
          refine zw_ic_ne_t 37 f83_25 (by decide +kernel) hc1 ?_
          refine zw_iconst 0 38 f83_37 rfl (by decide +kernel) ?_
          refine zw_istore _ 40 f83_38 rfl (by decide +kernel) rfl ?_
          refine zw_iload 42 f83_40 rfl (zl1_ne rfl rfl zl1_eq) ?_
          refine zw_if_eq_t 72 f83_42 (by decide +kernel) (by decide +kernel) ?_
          refine zw_aload_n 73 f83_72 rfl (zl1_ne rfl rfl (zl1_ne rfl rfl rfl)) ?_
          refine zw_iconst 1 74 f83_73 rfl (by decide +kernel) ?_
          refine zw_virtual_i 77 0 0 [.ref 0, .int 1] [(0, .ref 0), (1, .int 1)] f83_74 rfl n83_78 k83_78_11 rfl (hb_0 _ _ _ _) (by decide +kernel) (Nat.le_of_ble_eq_true rfl) rfl rfl (by decide +kernel) (by decide +kernel) rfl (Nat.le_of_ble_eq_true rfl) rfl ?_
          refine zw_aload_n 1 f105_0 rfl rfl ?_
          refine zw_iload_n 2 f105_1 rfl rfl ?_
          refine zw_put _ 5 f105_2 rfl g105_70_11 (hb_0 _ _ _ _) rfl (Nat.le_of_ble_eq_true rfl) (by decide +kernel) (hi_0_7 _ _ _ _ _) ?_
          refine zw_iconst (-1) 6 f105_5 rfl (by decide +kernel) ?_
          refine zw_ireturn f105_6 r105 u105 ⟨_, rfl, ?_⟩
          refine zw_ireturn f83_77 r83 u83 ?_
          exact ⟨_, _, _, _, rfl, (KP.i rfl KP.rf), Or.inl ⟨(fun q => (fun q => q.elim hc1 (qV.n3 (m := 8) (N := 8) (by omega) (by omega) (by decide) hc14)) q.1), ⟨hI.mono (by omega), PE.rf⟩, rfl⟩⟩
        · refine zw_iconst 1 19 f13_18 rfl (by decide +kernel) ?_
          refine zw_goto 23 f13_19 (by decide +kernel) ?_
          refine zw_zreturn f13_23 r13 u13 (by decide +kernel) ⟨_, rfl, ?_⟩
          refine zw_if_eq_f 16 20 f83_13 (by decide +kernel) rfl (by decide +kernel) ?_
          refine zw_iconst 1 17 f83_16 rfl (by decide +kernel) ?_
          refine zw_goto 21 f83_17 (by decide +kernel) ?_
          refine zw_istore _ 23 f83_21 rfl (by decide +kernel) rfl ?_
          refine zw_iload_n 24 f83_23 rfl (zl1_ne rfl rfl rfl) ?_
          refine zw_iconst (-1) 25 f83_24 rfl (by decide +kernel) ?_
          refine zw_ic_ne_t 37 f83_25 (by decide +kernel) hc1 ?_
          refine zw_iconst 0 38 f83_37 rfl (by decide +kernel) ?_
          refine zw_istore _ 40 f83_38 rfl (by decide +kernel) rfl ?_
          refine zw_iload 42 f83_40 rfl (zl1_ne rfl rfl zl1_eq) ?_
          refine zw_if_eq_f 45 72 f83_42 (by decide +kernel) rfl (by decide +kernel) ?_
          refine zw_iload 47 f83_45 rfl zl1_eq ?_
          refine zw_if_ne_f 50 72 f83_47 (by decide +kernel) rfl (by decide +kernel) ?_
          refine zw_aload_n 51 f83_50 rfl (zl1_ne rfl rfl (zl1_ne rfl rfl rfl)) ?_
          refine zw_getfield 54 f83_51 rfl g83_10_11 (hb_0 _ _ _ _) rfl ?_
          refine zw_iload_n 55 f83_54 rfl (zl1_ne rfl rfl (zl1_ne rfl rfl rfl)) ?_
          refine zw_iload_n 56 f83_55 rfl (zl1_ne rfl rfl (zl1_ne rfl rfl rfl)) ?_
          refine zw_virtual_i 59 0 0 [.ref 1, .int b, .int a] [(0, .ref 1), (1, .int b), (2, .int a)] f83_56 rfl n83_121 k83_121_4 rfl (hb_1 _ _ _ _) (by decide +kernel) (Nat.le_of_ble_eq_true rfl) rfl rfl (by decide +kernel) (by decide +kernel) rfl (Nat.le_of_ble_eq_true rfl) rfl ?_
          refine zw_iload_n 1 f19_0 rfl rfl ?_
          refine zw_iconst (-1) 2 f19_1 rfl (by decide +kernel) ?_
          refine zw_ic_eq 5 18 f19_2 (by decide +kernel) rfl (fun hc15 => ?_) (fun hc15 => ?_)
          · refine zw_iconst 1 19 f19_18 rfl (by decide +kernel) ?_
            refine zw_goto 23 f19_19 (by decide +kernel) ?_
            refine zw_zreturn f19_23 r19 u19 (by decide +kernel) ⟨_, rfl, ?_⟩
            refine zw_if_eq_f 62 72 f83_59 (by decide +kernel) rfl (by decide +kernel) ?_
            refine zw_iload_n 63 f83_62 rfl (zl1_ne rfl rfl (zl1_ne rfl rfl rfl)) ?_
            refine zw_iconst 1 64 f83_63 rfl (by decide +kernel) ?_
            refine zw_bipush 20 66 f83_64 rfl (by decide +kernel) ?_
            refine zw_static_i 69 0 0 [.int c, .int 1, .int 20] [] [(0, .int c), (1, .int 1), (2, .int 20)] f83_66 rfl k83_74_99 rfl (by decide +kernel) (Nat.le_of_ble_eq_true rfl) (Nat.le_of_ble_eq_true rfl) rfl rfl (by decide +kernel) (by decide +kernel) rfl (Nat.le_of_ble_eq_true rfl) rfl ?_
            refine zw_iload_n 1 f112_0 rfl rfl ?_
            refine zw_iload_n 2 f112_1 rfl rfl ?_
            refine zw_ic_lt 5 14 f112_2 (by decide +kernel) rfl (fun hc16 => ?_) (fun hc16 => ?_)
            · refine zw_iconst 0 15 f112_14 rfl (by decide +kernel) ?_
              refine zw_zreturn f112_15 r112 u112 (by decide +kernel) ⟨_, rfl, ?_⟩
              refine zw_if_ne_f 72 78 f83_69 (by decide +kernel) rfl (by decide +kernel) ?_
              refine zw_aload_n 73 f83_72 rfl (zl1_ne rfl rfl (zl1_ne rfl rfl rfl)) ?_
              refine zw_iconst 1 74 f83_73 rfl (by decide +kernel) ?_
              refine zw_virtual_i 77 0 0 [.ref 0, .int 1] [(0, .ref 0), (1, .int 1)] f83_74 rfl n83_78 k83_78_11 rfl (hb_0 _ _ _ _) (by decide +kernel) (Nat.le_of_ble_eq_true rfl) rfl rfl (by decide +kernel) (by decide +kernel) rfl (Nat.le_of_ble_eq_true rfl) rfl ?_
              refine zw_aload_n 1 f105_0 rfl rfl ?_
              refine zw_iload_n 2 f105_1 rfl rfl ?_
              refine zw_put _ 5 f105_2 rfl g105_70_11 (hb_0 _ _ _ _) rfl (Nat.le_of_ble_eq_true rfl) (by decide +kernel) (hi_0_7 _ _ _ _ _) ?_
              refine zw_iconst (-1) 6 f105_5 rfl (by decide +kernel) ?_
              refine zw_ireturn f105_6 r105 u105 ⟨_, rfl, ?_⟩
              refine zw_ireturn f83_77 r83 u83 ?_
              exact ⟨_, _, _, _, rfl, (KP.i rfl KP.rf), Or.inl ⟨(fun q => (fun q => q.1 hc16) q.2.2.2.1), ⟨hI.mono (by omega), PE.rf⟩, rfl⟩⟩
            · refine zw_iload_n 6 f112_5 rfl rfl ?_
              refine zw_iload_n 7 f112_6 rfl rfl ?_
              refine zw_ic_gt 10 14 f112_7 (by decide +kernel) rfl (fun hc17 => ?_) (fun hc17 => ?_)
              · refine zw_iconst 0 15 f112_14 rfl (by decide +kernel) ?_
                refine zw_zreturn f112_15 r112 u112 (by decide +kernel) ⟨_, rfl, ?_⟩
                refine zw_if_ne_f 72 78 f83_69 (by decide +kernel) rfl (by decide +kernel) ?_
                refine zw_aload_n 73 f83_72 rfl (zl1_ne rfl rfl (zl1_ne rfl rfl rfl)) ?_
                refine zw_iconst 1 74 f83_73 rfl (by decide +kernel) ?_
                refine zw_virtual_i 77 0 0 [.ref 0, .int 1] [(0, .ref 0), (1, .int 1)] f83_74 rfl n83_78 k83_78_11 rfl (hb_0 _ _ _ _) (by decide +kernel) (Nat.le_of_ble_eq_true rfl) rfl rfl (by decide +kernel) (by decide +kernel) rfl (Nat.le_of_ble_eq_true rfl) rfl ?_
                refine zw_aload_n 1 f105_0 rfl rfl ?_
                refine zw_iload_n 2 f105_1 rfl rfl ?_
                refine zw_put _ 5 f105_2 rfl g105_70_11 (hb_0 _ _ _ _) rfl (Nat.le_of_ble_eq_true rfl) (by decide +kernel) (hi_0_7 _ _ _ _ _) ?_
                refine zw_iconst (-1) 6 f105_5 rfl (by decide +kernel) ?_
                refine zw_ireturn f105_6 r105 u105 ⟨_, rfl, ?_⟩
                refine zw_ireturn f83_77 r83 u83 ?_
                exact ⟨_, _, _, _, rfl, (KP.i rfl KP.rf), Or.inl ⟨(fun q => (fun q => q.2 hc17) q.2.2.2.1), ⟨hI.mono (by omega), PE.rf⟩, rfl⟩⟩
              · refine zw_iconst 1 11 f112_10 rfl (by decide +kernel) ?_
                refine zw_goto 15 f112_11 (by decide +kernel) ?_
                refine zw_zreturn f112_15 r112 u112 (by decide +kernel) ⟨_, rfl, ?_⟩
                refine zw_if_ne_t 78 f83_69 (by decide +kernel) (by decide +kernel) ?_
                refine zw_aload_n 79 f83_78 rfl (zl1_ne rfl rfl (zl1_ne rfl rfl rfl)) ?_
                refine zw_getfield 82 f83_79 rfl g83_10_11 (hb_0 _ _ _ _) rfl ?_
                refine zw_iload_n 83 f83_82 rfl (zl1_ne rfl rfl (zl1_ne rfl rfl rfl)) ?_
                refine zw_iload_n 84 f83_83 rfl (zl1_ne rfl rfl (zl1_ne rfl rfl rfl)) ?_
                refine zw_virtual_i 87 0 0 [.ref 1, .int a, .int b] [(0, .ref 1), (1, .int a), (2, .int b)] f83_84 rfl n83_131 k83_131_4 rfl (hb_1 _ _ _ _) (by decide +kernel) (Nat.le_of_ble_eq_true rfl) rfl rfl (by decide +kernel) (by decide +kernel) rfl (Nat.le_of_ble_eq_true rfl) rfl ?_
                refine zw_aload_n 1 f21_0 rfl rfl ?_
                refine zw_getI (nI np) 4 f21_1 rfl g21_43_4 (hb_1 _ _ _ _) rfl hI.1.2.1.1 ?_
                refine zw_istore_n _ 5 f21_4 rfl (by decide +kernel) rfl ?_
                refine zw_iload_n 6 f21_5 rfl zl1_eq ?_
                refine zw_bipush 14 8 f21_6 rfl (by decide +kernel) ?_
                refine zw_ic_lt 11 13 f21_8 (by decide +kernel) rfl (fun hc18 => ?_) (fun hc18 => ?_)
                · have hn_hc18 : np < 14 := zn_lt (by omega) (by omega) (Int32.not_le.mpr hc18)
                  refine zw_aload_n 14 f21_13 rfl (zl1_ne rfl rfl rfl) ?_
                  refine zw_getfield 17 f21_14 rfl g21_33_4 (hb_1 _ _ _ _) rfl ?_
                  refine zw_iload_n 18 f21_17 rfl zl1_eq ?_
                  refine zw_iload_n 19 f21_18 rfl (zl1_ne rfl rfl rfl) ?_
                  refine zw_ast np _ 20 f21_19 rfl (hb_9 _ _ _ _) (nI_clamp (by omega)) (nI_pos (by omega)) (by omega) (ha_9 _ _ _ _ _) ?_
                  refine zw_aload_n 21 f21_20 rfl (zl1_ne rfl rfl rfl) ?_
                  refine zw_getfield 24 f21_21 rfl g21_36_4 (hb_1 _ _ _ _) rfl ?_
                  refine zw_iload_n 25 f21_24 rfl zl1_eq ?_
                  refine zw_iload_n 26 f21_25 rfl (zl1_ne rfl rfl rfl) ?_
                  refine zw_ast np _ 27 f21_26 rfl (hb_10 _ _ _ _) (nI_clamp (by omega)) (nI_pos (by omega)) (by omega) (ha_10 _ _ _ _ _) ?_
                  refine zw_aload_n 28 f21_27 rfl (zl1_ne rfl rfl rfl) ?_
                  refine zw_iload_n 29 f21_28 rfl zl1_eq ?_
                  refine zw_iconst 1 30 f21_29 rfl (by decide +kernel) ?_
                  refine zw_iadd (nI (np + 1)) 31 f21_30 rfl (nI_add _ 1) ?_
                  refine zw_put _ 34 f21_31 rfl g21_43_4 (hb_1 _ _ _ _) rfl (Nat.le_of_ble_eq_true rfl) (by decide +kernel) (hi_1_1 _ _ _ _ _) ?_
                  refine zw_iload_n 35 f21_34 rfl zl1_eq ?_
                  refine zw_ireturn f21_35 r21 u21 ⟨_, rfl, ?_⟩
                  refine zw_istore _ 89 f83_87 rfl (by decide +kernel) rfl ?_
                  refine zw_iload 91 f83_89 rfl zl1_eq ?_
                  refine zw_iconst (-1) 92 f83_91 rfl (by decide +kernel) ?_
                  refine zw_ic_ne_t 101 f83_92 (by decide +kernel) (nI_nem (by omega)) ?_
                  refine zw_aload_n 102 f83_101 rfl (zl1_ne rfl rfl (zl1_ne rfl rfl (zl1_ne rfl rfl rfl))) ?_
                  refine zw_getfield 105 f83_102 rfl g83_21_11 (hb_0 _ _ _ _) rfl ?_
                  refine zw_getfield 108 f83_105 rfl g83_134_10 (hb_11 _ _ _ _) rfl ?_
                  refine zw_getfield 111 f83_108 rfl g83_138_9 (hb_12 _ _ _ _) rfl ?_
                  refine zw_iload 113 f83_111 rfl zl1_eq ?_
                  refine zw_iload_n 114 f83_113 rfl (zl1_ne rfl rfl (zl1_ne rfl rfl (zl1_ne rfl rfl rfl))) ?_
                  refine zw_ast np _ 115 f83_114 rfl (hb_15 _ _ _ _) (nI_clamp (by omega)) (nI_pos (by omega)) (by omega) (ha_15 _ _ _ _ _) ?_
                  refine zw_aload_n 116 f83_115 rfl (zl1_ne rfl rfl (zl1_ne rfl rfl (zl1_ne rfl rfl rfl))) ?_
                  refine zw_getfield 119 f83_116 rfl g83_21_11 (hb_0 _ _ _ _) rfl ?_
                  refine zw_getfield 122 f83_119 rfl g83_134_10 (hb_11 _ _ _ _) rfl ?_
                  refine zw_iload 124 f83_122 rfl zl1_eq ?_
                  refine zw_iconst 1 125 f83_124 rfl (by decide +kernel) ?_
                  refine zw_virtual_v 128 0 0 [.ref 12, .int (nI np), .int 1] [(0, .ref 12), (1, .int (nI np)), (2, .int 1)] f83_125 rfl n83_143 k83_143_9 rfl (hb_12 _ _ _ _) (by decide +kernel) (Nat.le_of_ble_eq_true rfl) rfl rfl (by decide +kernel) (by decide +kernel) rfl (Nat.le_of_ble_eq_true rfl) rfl ?_
                  refine zw_aload_n 1 f44_0 rfl rfl ?_
                  refine zw_iload_n 2 f44_1 rfl rfl ?_
                  refine zw_if_eq_f 5 16 f44_2 (by decide +kernel) rfl (by decide +kernel) ?_
                  refine zw_aload_n 6 f44_5 rfl rfl ?_
                  refine zw_getI (I 12 5) 9 f44_6 rfl g44_38_9 (hb_12 _ _ _ _) rfl rfl ?_
                  refine zw_iconst 1 10 f44_9 rfl (by decide +kernel) ?_
                  refine zw_iload_n 11 f44_10 rfl rfl ?_
                  refine zw_ishl (1 <<< ((nI np) &&& 31)) 12 f44_11 rfl rfl ?_
                  refine zw_ior ((I 12 5) ||| (1 <<< ((nI np) &&& 31))) 13 f44_12 rfl rfl ?_
                  refine zw_goto 26 f44_13 (by decide +kernel) ?_
                  refine zw_put _ 29 f44_26 rfl g44_38_9 (hb_12 _ _ _ _) rfl (Nat.le_of_ble_eq_true rfl) (by decide +kernel) (hi_12_5 _ _ _ _ _) ?_
                  refine zw_vreturn f44_29 r44 u44 ⟨rfl, ?_⟩
                  refine zw_aload_n 129 f83_128 rfl (zl1_ne rfl rfl (zl1_ne rfl rfl (zl1_ne rfl rfl rfl))) ?_
                  refine zw_iload 131 f83_129 rfl zl1_eq ?_
                  refine zw_virtual_i 134 0 0 [.ref 0, .int (nI np)] [(0, .ref 0), (1, .int (nI np))] f83_131 rfl n83_86 k83_86_11 rfl (hb_0 _ _ _ _) (by decide +kernel) (Nat.le_of_ble_eq_true rfl) rfl rfl (by decide +kernel) (by decide +kernel) rfl (Nat.le_of_ble_eq_true rfl) rfl ?_
                  refine zw_aload_n 1 f107_0 rfl rfl ?_
                  refine zw_getfield 4 f107_1 rfl g107_21_11 (hb_0 _ _ _ _) rfl ?_
                  refine zw_virtual_v 7 0 0 [.ref 11] [(0, .ref 11)] f107_4 rfl n107_318 k107_318_10 rfl (hb_11 _ _ _ _) (by decide +kernel) (Nat.le_of_ble_eq_true rfl) rfl rfl (by decide +kernel) (by decide +kernel) rfl (Nat.le_of_ble_eq_true rfl) rfl ?_
                  have hC_19 : CV nv (np + 1) cm (upd2 (upd2 I 1 1 (nI (np + 1))) 12 5 ((I 12 5) ||| (1 <<< ((nI np) &&& 31)))) := ⟨⟨hI.1.1, ⟨rfl, by omega⟩, hI.1.2.2⟩, hI.2⟩
                  refine zWp.mono (ck_X10_settle_11 ro nv (np + 1) (upd2 (upd2 I 1 1 (nI (np + 1))) 12 5 ((I 12 5) ||| (1 <<< ((nI np) &&& 31)))) _ _ _ hC_19.1) ?_
                  rintro r h1 ⟨I_19, G_19, A_19, B_19, rfl, K_19, C_19, rfl⟩
                  refine ⟨rfl, ?_⟩
                  have hV_19 : CV nv (np + 1) cm I_19 := CV.of (I := (upd2 (upd2 I 1 1 (nI (np + 1))) 12 5 ((I 12 5) ||| (1 <<< ((nI np) &&& 31))))) hC_19 K_19 C_19
                  refine zw_aload_n 8 f107_7 rfl rfl ?_
                  refine zw_getfield 11 f107_8 rfl g107_31_11 (hb_0 _ _ _ _) rfl ?_
                  refine zw_aload_n 12 f107_11 rfl rfl ?_
                  refine zw_getfield 15 f107_12 rfl g107_21_11 (hb_0 _ _ _ _) rfl ?_
                  refine zw_virtual_v 18 0 0 [.ref 33, .ref 11] [(0, .ref 33), (1, .ref 11)] f107_15 rfl n107_187 k107_187_3 rfl (hb_33 _ _ _ _) (by decide +kernel) (Nat.le_of_ble_eq_true rfl) rfl rfl (by decide +kernel) (by decide +kernel) rfl (Nat.le_of_ble_eq_true rfl) rfl ?_
                  refine zWp.mono (cv_X3_take_33 ro nv (np + 1) cm _ _ _ _ hV_19 (by omega)) ?_
                  rintro r h1 ⟨I_20, G_20, A_20, B_20, rfl, K_20, C_20, rfl⟩
                  refine ⟨rfl, ?_⟩
                  refine zw_aload_n 19 f107_18 rfl rfl ?_
                  refine zw_iload_n 20 f107_19 rfl rfl ?_
                  refine zw_virtual_i 23 0 0 [.ref 0, .int (nI np)] [(0, .ref 0), (1, .int (nI np))] f107_20 rfl n107_181 k107_181_11 rfl (hb_0 _ _ _ _) (by decide +kernel) (Nat.le_of_ble_eq_true rfl) rfl rfl (by decide +kernel) (by decide +kernel) rfl (Nat.le_of_ble_eq_true rfl) rfl ?_
                  refine zw_aload_n 1 f106_0 rfl rfl ?_
                  refine zw_iconst 0 2 f106_1 rfl (by decide +kernel) ?_
                  refine zw_put _ 5 f106_2 rfl g106_70_11 (hb_0 _ _ _ _) rfl (Nat.le_of_ble_eq_true rfl) (by decide +kernel) (hi_0_7 _ _ _ _ _) ?_
                  refine zw_iload_n 6 f106_5 rfl rfl ?_
                  refine zw_ireturn f106_6 r106 u106 ⟨_, rfl, ?_⟩
                  refine zw_ireturn f107_23 r107 u107 ⟨_, rfl, ?_⟩
                  refine zw_ireturn f83_134 r83 u83 ?_
                  exact ⟨_, _, _, _, rfl, (KP.i rfl (KP.tr (KP.tr (KP.i rfl (KP.a rfl (KP.i rfl (KP.a rfl (KP.a rfl KP.rf))))) (KP.wk K_19 (fun k h => pWN k (pNX k h)))) (KP.wk K_20 pNX))), Or.inr ⟨⟨(Or.inr (qV.ofc (by omega) hc12 hc13)), (Or.inl hc15), (fun q => hc1 q.1), ⟨hc16, hc17⟩, (by omega)⟩, ⟨C_20, PE.of10 ((K_20.2.2.1 2 rfl).trans (K_19.2.2.1 2 rfl)) ((K_20.2.2.1 3 rfl).trans (K_19.2.2.1 3 rfl)) ((K_20.2.2.1 4 rfl).trans (K_19.2.2.1 4 rfl)) ((K_20.2.2.1 5 rfl).trans (K_19.2.2.1 5 rfl)) ((K_20.2.2.1 6 rfl).trans (K_19.2.2.1 6 rfl)) ((K_20.2.2.1 7 rfl).trans (K_19.2.2.1 7 rfl)) ((K_20.2.2.1 8 rfl).trans (K_19.2.2.1 8 rfl)) ((K_20.2.2.1 9 rfl).trans (K_19.2.2.1 9 rfl)) ((K_20.2.2.1 10 rfl).trans (K_19.2.2.1 10 rfl)) ((K_20.2.2.1 15 rfl).trans (K_19.2.2.1 15 rfl))⟩, rfl⟩⟩
                · have hn_hc18 : 14 ≤ np := zn_ge (by omega) (by omega) (Int32.not_lt.mp hc18)
                  refine zw_iconst (-1) 12 f21_11 rfl (by decide +kernel) ?_
                  refine zw_ireturn f21_12 r21 u21 ⟨_, rfl, ?_⟩
                  refine zw_istore _ 89 f83_87 rfl (by decide +kernel) rfl ?_
                  refine zw_iload 91 f83_89 rfl zl1_eq ?_
                  refine zw_iconst (-1) 92 f83_91 rfl (by decide +kernel) ?_
                  refine zw_ic_ne_f 95 101 f83_92 (by decide +kernel) rfl (by decide +kernel) ?_
                  refine zw_aload_n 96 f83_95 rfl (zl1_ne rfl rfl (zl1_ne rfl rfl (zl1_ne rfl rfl rfl))) ?_
                  refine zw_iconst 2 97 f83_96 rfl (by decide +kernel) ?_
                  refine zw_virtual_i 100 0 0 [.ref 0, .int 2] [(0, .ref 0), (1, .int 2)] f83_97 rfl n83_78 k83_78_11 rfl (hb_0 _ _ _ _) (by decide +kernel) (Nat.le_of_ble_eq_true rfl) rfl rfl (by decide +kernel) (by decide +kernel) rfl (Nat.le_of_ble_eq_true rfl) rfl ?_
                  refine zw_aload_n 1 f105_0 rfl rfl ?_
                  refine zw_iload_n 2 f105_1 rfl rfl ?_
                  refine zw_put _ 5 f105_2 rfl g105_70_11 (hb_0 _ _ _ _) rfl (Nat.le_of_ble_eq_true rfl) (by decide +kernel) (hi_0_7 _ _ _ _ _) ?_
                  refine zw_iconst (-1) 6 f105_5 rfl (by decide +kernel) ?_
                  refine zw_ireturn f105_6 r105 u105 ⟨_, rfl, ?_⟩
                  refine zw_ireturn f83_100 r83 u83 ?_
                  exact ⟨_, _, _, _, rfl, (KP.i rfl KP.rf), Or.inl ⟨(fun q => (fun q => q (by omega)) q.2.2.2.2), ⟨hI.mono (by omega), PE.rf⟩, rfl⟩⟩
          · refine zw_aload_n 6 f19_5 rfl rfl ?_
            refine zw_iload_n 7 f19_6 rfl rfl ?_
            refine zw_virtual_i 10 0 0 [.ref 1, .int b] [(0, .ref 1), (1, .int b)] f19_7 rfl n19_46 k19_46_4 rfl (hb_1 _ _ _ _) (by decide +kernel) (Nat.le_of_ble_eq_true rfl) rfl rfl (by decide +kernel) (by decide +kernel) rfl (Nat.le_of_ble_eq_true rfl) rfl ?_
            refine zw_iload_n 1 f13_0 rfl rfl ?_
            refine zw_if_lt 4 22 f13_1 (by decide +kernel) rfl (fun hc21 => ?_) (fun hc21 => ?_)
            · refine zw_iconst 0 23 f13_22 rfl (by decide +kernel) ?_
              refine zw_zreturn f13_23 r13 u13 (by decide +kernel) ⟨_, rfl, ?_⟩
              refine zw_if_eq_t 22 f19_10 (by decide +kernel) (by decide +kernel) ?_
              refine zw_iconst 0 23 f19_22 rfl (by decide +kernel) ?_
              refine zw_zreturn f19_23 r19 u19 (by decide +kernel) ⟨_, rfl, ?_⟩
              refine zw_if_eq_t 72 f83_59 (by decide +kernel) (by decide +kernel) ?_
              refine zw_aload_n 73 f83_72 rfl (zl1_ne rfl rfl (zl1_ne rfl rfl rfl)) ?_
              refine zw_iconst 1 74 f83_73 rfl (by decide +kernel) ?_
              refine zw_virtual_i 77 0 0 [.ref 0, .int 1] [(0, .ref 0), (1, .int 1)] f83_74 rfl n83_78 k83_78_11 rfl (hb_0 _ _ _ _) (by decide +kernel) (Nat.le_of_ble_eq_true rfl) rfl rfl (by decide +kernel) (by decide +kernel) rfl (Nat.le_of_ble_eq_true rfl) rfl ?_
              refine zw_aload_n 1 f105_0 rfl rfl ?_
              refine zw_iload_n 2 f105_1 rfl rfl ?_
              refine zw_put _ 5 f105_2 rfl g105_70_11 (hb_0 _ _ _ _) rfl (Nat.le_of_ble_eq_true rfl) (by decide +kernel) (hi_0_7 _ _ _ _ _) ?_
              refine zw_iconst (-1) 6 f105_5 rfl (by decide +kernel) ?_
              refine zw_ireturn f105_6 r105 u105 ⟨_, rfl, ?_⟩
              refine zw_ireturn f83_77 r83 u83 ?_
              exact ⟨_, _, _, _, rfl, (KP.i rfl KP.rf), Or.inl ⟨(fun q => (fun q => q.elim hc15 (fun z => (qV.n0 (by omega) hc21) z.1)) q.2.1), ⟨hI.mono (by omega), PE.rf⟩, rfl⟩⟩
            · refine zw_iload_n 5 f13_4 rfl rfl ?_
              refine zw_aload_n 6 f13_5 rfl rfl ?_
              refine zw_getI (nI nv) 9 f13_6 rfl g13_39_4 (hb_1 _ _ _ _) rfl hI.1.1.1 ?_
              refine zw_ic_ge 12 22 f13_9 (by decide +kernel) rfl (fun hc22 => ?_) (fun hc22 => ?_)
              · refine zw_iconst 0 23 f13_22 rfl (by decide +kernel) ?_
                refine zw_zreturn f13_23 r13 u13 (by decide +kernel) ⟨_, rfl, ?_⟩
                refine zw_if_eq_t 22 f19_10 (by decide +kernel) (by decide +kernel) ?_
                refine zw_iconst 0 23 f19_22 rfl (by decide +kernel) ?_
                refine zw_zreturn f19_23 r19 u19 (by decide +kernel) ⟨_, rfl, ?_⟩
                refine zw_if_eq_t 72 f83_59 (by decide +kernel) (by decide +kernel) ?_
                refine zw_aload_n 73 f83_72 rfl (zl1_ne rfl rfl (zl1_ne rfl rfl rfl)) ?_
                refine zw_iconst 1 74 f83_73 rfl (by decide +kernel) ?_
                refine zw_virtual_i 77 0 0 [.ref 0, .int 1] [(0, .ref 0), (1, .int 1)] f83_74 rfl n83_78 k83_78_11 rfl (hb_0 _ _ _ _) (by decide +kernel) (Nat.le_of_ble_eq_true rfl) rfl rfl (by decide +kernel) (by decide +kernel) rfl (Nat.le_of_ble_eq_true rfl) rfl ?_
                refine zw_aload_n 1 f105_0 rfl rfl ?_
                refine zw_iload_n 2 f105_1 rfl rfl ?_
                refine zw_put _ 5 f105_2 rfl g105_70_11 (hb_0 _ _ _ _) rfl (Nat.le_of_ble_eq_true rfl) (by decide +kernel) (hi_0_7 _ _ _ _ _) ?_
                refine zw_iconst (-1) 6 f105_5 rfl (by decide +kernel) ?_
                refine zw_ireturn f105_6 r105 u105 ⟨_, rfl, ?_⟩
                refine zw_ireturn f83_77 r83 u83 ?_
                exact ⟨_, _, _, _, rfl, (KP.i rfl KP.rf), Or.inl ⟨(fun q => (fun q => q.elim hc15 (fun z => (qV.n2 (by omega) hc22) z.1)) q.2.1), ⟨hI.mono (by omega), PE.rf⟩, rfl⟩⟩
              · refine zw_iload_n 13 f13_12 rfl rfl ?_
                refine zw_bipush 8 15 f13_13 rfl (by decide +kernel) ?_
                refine zw_ic_ge 18 22 f13_15 (by decide +kernel) rfl (fun hc23 => ?_) (fun hc23 => ?_)
                · refine zw_iconst 0 23 f13_22 rfl (by decide +kernel) ?_
                  refine zw_zreturn f13_23 r13 u13 (by decide +kernel) ⟨_, rfl, ?_⟩
                  refine zw_if_eq_t 22 f19_10 (by decide +kernel) (by decide +kernel) ?_
                  refine zw_iconst 0 23 f19_22 rfl (by decide +kernel) ?_
                  refine zw_zreturn f19_23 r19 u19 (by decide +kernel) ⟨_, rfl, ?_⟩
                  refine zw_if_eq_t 72 f83_59 (by decide +kernel) (by decide +kernel) ?_
                  refine zw_aload_n 73 f83_72 rfl (zl1_ne rfl rfl (zl1_ne rfl rfl rfl)) ?_
                  refine zw_iconst 1 74 f83_73 rfl (by decide +kernel) ?_
                  refine zw_virtual_i 77 0 0 [.ref 0, .int 1] [(0, .ref 0), (1, .int 1)] f83_74 rfl n83_78 k83_78_11 rfl (hb_0 _ _ _ _) (by decide +kernel) (Nat.le_of_ble_eq_true rfl) rfl rfl (by decide +kernel) (by decide +kernel) rfl (Nat.le_of_ble_eq_true rfl) rfl ?_
                  refine zw_aload_n 1 f105_0 rfl rfl ?_
                  refine zw_iload_n 2 f105_1 rfl rfl ?_
                  refine zw_put _ 5 f105_2 rfl g105_70_11 (hb_0 _ _ _ _) rfl (Nat.le_of_ble_eq_true rfl) (by decide +kernel) (hi_0_7 _ _ _ _ _) ?_
                  refine zw_iconst (-1) 6 f105_5 rfl (by decide +kernel) ?_
                  refine zw_ireturn f105_6 r105 u105 ⟨_, rfl, ?_⟩
                  refine zw_ireturn f83_77 r83 u83 ?_
                  exact ⟨_, _, _, _, rfl, (KP.i rfl KP.rf), Or.inl ⟨(fun q => (fun q => q.elim hc15 (fun z => (qV.n3 (m := 8) (N := 8) (by omega) (by omega) (by decide) hc23) z.1)) q.2.1), ⟨hI.mono (by omega), PE.rf⟩, rfl⟩⟩
                · refine zw_iconst 1 19 f13_18 rfl (by decide +kernel) ?_
                  refine zw_goto 23 f13_19 (by decide +kernel) ?_
                  refine zw_zreturn f13_23 r13 u13 (by decide +kernel) ⟨_, rfl, ?_⟩
                  refine zw_if_eq_f 13 22 f19_10 (by decide +kernel) rfl (by decide +kernel) ?_
                  refine zw_iload_n 14 f19_13 rfl rfl ?_
                  refine zw_iload_n 15 f19_14 rfl rfl ?_
                  refine zw_ic_le 18 22 f19_15 (by decide +kernel) rfl (fun hc24 => ?_) (fun hc24 => ?_)
                  · refine zw_iconst 0 23 f19_22 rfl (by decide +kernel) ?_
                    refine zw_zreturn f19_23 r19 u19 (by decide +kernel) ⟨_, rfl, ?_⟩
                    refine zw_if_eq_t 72 f83_59 (by decide +kernel) (by decide +kernel) ?_
                    refine zw_aload_n 73 f83_72 rfl (zl1_ne rfl rfl (zl1_ne rfl rfl rfl)) ?_
                    refine zw_iconst 1 74 f83_73 rfl (by decide +kernel) ?_
                    refine zw_virtual_i 77 0 0 [.ref 0, .int 1] [(0, .ref 0), (1, .int 1)] f83_74 rfl n83_78 k83_78_11 rfl (hb_0 _ _ _ _) (by decide +kernel) (Nat.le_of_ble_eq_true rfl) rfl rfl (by decide +kernel) (by decide +kernel) rfl (Nat.le_of_ble_eq_true rfl) rfl ?_
                    refine zw_aload_n 1 f105_0 rfl rfl ?_
                    refine zw_iload_n 2 f105_1 rfl rfl ?_
                    refine zw_put _ 5 f105_2 rfl g105_70_11 (hb_0 _ _ _ _) rfl (Nat.le_of_ble_eq_true rfl) (by decide +kernel) (hi_0_7 _ _ _ _ _) ?_
                    refine zw_iconst (-1) 6 f105_5 rfl (by decide +kernel) ?_
                    refine zw_ireturn f105_6 r105 u105 ⟨_, rfl, ?_⟩
                    refine zw_ireturn f83_77 r83 u83 ?_
                    exact ⟨_, _, _, _, rfl, (KP.i rfl KP.rf), Or.inl ⟨(fun q => (fun q => q.elim hc15 (fun z => z.2 hc24)) q.2.1), ⟨hI.mono (by omega), PE.rf⟩, rfl⟩⟩
                  · refine zw_iconst 1 19 f19_18 rfl (by decide +kernel) ?_
                    refine zw_goto 23 f19_19 (by decide +kernel) ?_
                    refine zw_zreturn f19_23 r19 u19 (by decide +kernel) ⟨_, rfl, ?_⟩
                    refine zw_if_eq_f 62 72 f83_59 (by decide +kernel) rfl (by decide +kernel) ?_
                    refine zw_iload_n 63 f83_62 rfl (zl1_ne rfl rfl (zl1_ne rfl rfl rfl)) ?_
                    refine zw_iconst 1 64 f83_63 rfl (by decide +kernel) ?_
                    refine zw_bipush 20 66 f83_64 rfl (by decide +kernel) ?_
                    refine zw_static_i 69 0 0 [.int c, .int 1, .int 20] [] [(0, .int c), (1, .int 1), (2, .int 20)] f83_66 rfl k83_74_99 rfl (by decide +kernel) (Nat.le_of_ble_eq_true rfl) (Nat.le_of_ble_eq_true rfl) rfl rfl (by decide +kernel) (by decide +kernel) rfl (Nat.le_of_ble_eq_true rfl) rfl ?_
                    refine zw_iload_n 1 f112_0 rfl rfl ?_
                    refine zw_iload_n 2 f112_1 rfl rfl ?_
                    refine zw_ic_lt 5 14 f112_2 (by decide +kernel) rfl (fun hc25 => ?_) (fun hc25 => ?_)
                    · refine zw_iconst 0 15 f112_14 rfl (by decide +kernel) ?_
                      refine zw_zreturn f112_15 r112 u112 (by decide +kernel) ⟨_, rfl, ?_⟩
                      refine zw_if_ne_f 72 78 f83_69 (by decide +kernel) rfl (by decide +kernel) ?_
                      refine zw_aload_n 73 f83_72 rfl (zl1_ne rfl rfl (zl1_ne rfl rfl rfl)) ?_
                      refine zw_iconst 1 74 f83_73 rfl (by decide +kernel) ?_
                      refine zw_virtual_i 77 0 0 [.ref 0, .int 1] [(0, .ref 0), (1, .int 1)] f83_74 rfl n83_78 k83_78_11 rfl (hb_0 _ _ _ _) (by decide +kernel) (Nat.le_of_ble_eq_true rfl) rfl rfl (by decide +kernel) (by decide +kernel) rfl (Nat.le_of_ble_eq_true rfl) rfl ?_
                      refine zw_aload_n 1 f105_0 rfl rfl ?_
                      refine zw_iload_n 2 f105_1 rfl rfl ?_
                      refine zw_put _ 5 f105_2 rfl g105_70_11 (hb_0 _ _ _ _) rfl (Nat.le_of_ble_eq_true rfl) (by decide +kernel) (hi_0_7 _ _ _ _ _) ?_
                      refine zw_iconst (-1) 6 f105_5 rfl (by decide +kernel) ?_
                      refine zw_ireturn f105_6 r105 u105 ⟨_, rfl, ?_⟩
                      refine zw_ireturn f83_77 r83 u83 ?_
                      exact ⟨_, _, _, _, rfl, (KP.i rfl KP.rf), Or.inl ⟨(fun q => (fun q => q.1 hc25) q.2.2.2.1), ⟨hI.mono (by omega), PE.rf⟩, rfl⟩⟩
                    · refine zw_iload_n 6 f112_5 rfl rfl ?_
                      refine zw_iload_n 7 f112_6 rfl rfl ?_
                      refine zw_ic_gt 10 14 f112_7 (by decide +kernel) rfl (fun hc26 => ?_) (fun hc26 => ?_)
                      · refine zw_iconst 0 15 f112_14 rfl (by decide +kernel) ?_
                        refine zw_zreturn f112_15 r112 u112 (by decide +kernel) ⟨_, rfl, ?_⟩
                        refine zw_if_ne_f 72 78 f83_69 (by decide +kernel) rfl (by decide +kernel) ?_
                        refine zw_aload_n 73 f83_72 rfl (zl1_ne rfl rfl (zl1_ne rfl rfl rfl)) ?_
                        refine zw_iconst 1 74 f83_73 rfl (by decide +kernel) ?_
                        refine zw_virtual_i 77 0 0 [.ref 0, .int 1] [(0, .ref 0), (1, .int 1)] f83_74 rfl n83_78 k83_78_11 rfl (hb_0 _ _ _ _) (by decide +kernel) (Nat.le_of_ble_eq_true rfl) rfl rfl (by decide +kernel) (by decide +kernel) rfl (Nat.le_of_ble_eq_true rfl) rfl ?_
                        refine zw_aload_n 1 f105_0 rfl rfl ?_
                        refine zw_iload_n 2 f105_1 rfl rfl ?_
                        refine zw_put _ 5 f105_2 rfl g105_70_11 (hb_0 _ _ _ _) rfl (Nat.le_of_ble_eq_true rfl) (by decide +kernel) (hi_0_7 _ _ _ _ _) ?_
                        refine zw_iconst (-1) 6 f105_5 rfl (by decide +kernel) ?_
                        refine zw_ireturn f105_6 r105 u105 ⟨_, rfl, ?_⟩
                        refine zw_ireturn f83_77 r83 u83 ?_
                        exact ⟨_, _, _, _, rfl, (KP.i rfl KP.rf), Or.inl ⟨(fun q => (fun q => q.2 hc26) q.2.2.2.1), ⟨hI.mono (by omega), PE.rf⟩, rfl⟩⟩
                      · refine zw_iconst 1 11 f112_10 rfl (by decide +kernel) ?_
                        refine zw_goto 15 f112_11 (by decide +kernel) ?_
                        refine zw_zreturn f112_15 r112 u112 (by decide +kernel) ⟨_, rfl, ?_⟩
                        refine zw_if_ne_t 78 f83_69 (by decide +kernel) (by decide +kernel) ?_
                        refine zw_aload_n 79 f83_78 rfl (zl1_ne rfl rfl (zl1_ne rfl rfl rfl)) ?_
                        refine zw_getfield 82 f83_79 rfl g83_10_11 (hb_0 _ _ _ _) rfl ?_
                        refine zw_iload_n 83 f83_82 rfl (zl1_ne rfl rfl (zl1_ne rfl rfl rfl)) ?_
                        refine zw_iload_n 84 f83_83 rfl (zl1_ne rfl rfl (zl1_ne rfl rfl rfl)) ?_
                        refine zw_virtual_i 87 0 0 [.ref 1, .int a, .int b] [(0, .ref 1), (1, .int a), (2, .int b)] f83_84 rfl n83_131 k83_131_4 rfl (hb_1 _ _ _ _) (by decide +kernel) (Nat.le_of_ble_eq_true rfl) rfl rfl (by decide +kernel) (by decide +kernel) rfl (Nat.le_of_ble_eq_true rfl) rfl ?_
                        refine zw_aload_n 1 f21_0 rfl rfl ?_
                        refine zw_getI (nI np) 4 f21_1 rfl g21_43_4 (hb_1 _ _ _ _) rfl hI.1.2.1.1 ?_
                        refine zw_istore_n _ 5 f21_4 rfl (by decide +kernel) rfl ?_
                        refine zw_iload_n 6 f21_5 rfl zl1_eq ?_
                        refine zw_bipush 14 8 f21_6 rfl (by decide +kernel) ?_
                        refine zw_ic_lt 11 13 f21_8 (by decide +kernel) rfl (fun hc27 => ?_) (fun hc27 => ?_)
                        · have hn_hc27 : np < 14 := zn_lt (by omega) (by omega) (Int32.not_le.mpr hc27)
                          refine zw_aload_n 14 f21_13 rfl (zl1_ne rfl rfl rfl) ?_
                          refine zw_getfield 17 f21_14 rfl g21_33_4 (hb_1 _ _ _ _) rfl ?_
                          refine zw_iload_n 18 f21_17 rfl zl1_eq ?_
                          refine zw_iload_n 19 f21_18 rfl (zl1_ne rfl rfl rfl) ?_
                          refine zw_ast np _ 20 f21_19 rfl (hb_9 _ _ _ _) (nI_clamp (by omega)) (nI_pos (by omega)) (by omega) (ha_9 _ _ _ _ _) ?_
                          refine zw_aload_n 21 f21_20 rfl (zl1_ne rfl rfl rfl) ?_
                          refine zw_getfield 24 f21_21 rfl g21_36_4 (hb_1 _ _ _ _) rfl ?_
                          refine zw_iload_n 25 f21_24 rfl zl1_eq ?_
                          refine zw_iload_n 26 f21_25 rfl (zl1_ne rfl rfl rfl) ?_
                          refine zw_ast np _ 27 f21_26 rfl (hb_10 _ _ _ _) (nI_clamp (by omega)) (nI_pos (by omega)) (by omega) (ha_10 _ _ _ _ _) ?_
                          refine zw_aload_n 28 f21_27 rfl (zl1_ne rfl rfl rfl) ?_
                          refine zw_iload_n 29 f21_28 rfl zl1_eq ?_
                          refine zw_iconst 1 30 f21_29 rfl (by decide +kernel) ?_
                          refine zw_iadd (nI (np + 1)) 31 f21_30 rfl (nI_add _ 1) ?_
                          refine zw_put _ 34 f21_31 rfl g21_43_4 (hb_1 _ _ _ _) rfl (Nat.le_of_ble_eq_true rfl) (by decide +kernel) (hi_1_1 _ _ _ _ _) ?_
                          refine zw_iload_n 35 f21_34 rfl zl1_eq ?_
                          refine zw_ireturn f21_35 r21 u21 ⟨_, rfl, ?_⟩
                          refine zw_istore _ 89 f83_87 rfl (by decide +kernel) rfl ?_
                          refine zw_iload 91 f83_89 rfl zl1_eq ?_
                          refine zw_iconst (-1) 92 f83_91 rfl (by decide +kernel) ?_
                          refine zw_ic_ne_t 101 f83_92 (by decide +kernel) (nI_nem (by omega)) ?_
                          refine zw_aload_n 102 f83_101 rfl (zl1_ne rfl rfl (zl1_ne rfl rfl (zl1_ne rfl rfl rfl))) ?_
                          refine zw_getfield 105 f83_102 rfl g83_21_11 (hb_0 _ _ _ _) rfl ?_
                          refine zw_getfield 108 f83_105 rfl g83_134_10 (hb_11 _ _ _ _) rfl ?_
                          refine zw_getfield 111 f83_108 rfl g83_138_9 (hb_12 _ _ _ _) rfl ?_
                          refine zw_iload 113 f83_111 rfl zl1_eq ?_
                          refine zw_iload_n 114 f83_113 rfl (zl1_ne rfl rfl (zl1_ne rfl rfl (zl1_ne rfl rfl rfl))) ?_
                          refine zw_ast np _ 115 f83_114 rfl (hb_15 _ _ _ _) (nI_clamp (by omega)) (nI_pos (by omega)) (by omega) (ha_15 _ _ _ _ _) ?_
                          refine zw_aload_n 116 f83_115 rfl (zl1_ne rfl rfl (zl1_ne rfl rfl (zl1_ne rfl rfl rfl))) ?_
                          refine zw_getfield 119 f83_116 rfl g83_21_11 (hb_0 _ _ _ _) rfl ?_
                          refine zw_getfield 122 f83_119 rfl g83_134_10 (hb_11 _ _ _ _) rfl ?_
                          refine zw_iload 124 f83_122 rfl zl1_eq ?_
                          refine zw_iconst 1 125 f83_124 rfl (by decide +kernel) ?_
                          refine zw_virtual_v 128 0 0 [.ref 12, .int (nI np), .int 1] [(0, .ref 12), (1, .int (nI np)), (2, .int 1)] f83_125 rfl n83_143 k83_143_9 rfl (hb_12 _ _ _ _) (by decide +kernel) (Nat.le_of_ble_eq_true rfl) rfl rfl (by decide +kernel) (by decide +kernel) rfl (Nat.le_of_ble_eq_true rfl) rfl ?_
                          refine zw_aload_n 1 f44_0 rfl rfl ?_
                          refine zw_iload_n 2 f44_1 rfl rfl ?_
                          refine zw_if_eq_f 5 16 f44_2 (by decide +kernel) rfl (by decide +kernel) ?_
                          refine zw_aload_n 6 f44_5 rfl rfl ?_
                          refine zw_getI (I 12 5) 9 f44_6 rfl g44_38_9 (hb_12 _ _ _ _) rfl rfl ?_
                          refine zw_iconst 1 10 f44_9 rfl (by decide +kernel) ?_
                          refine zw_iload_n 11 f44_10 rfl rfl ?_
                          refine zw_ishl (1 <<< ((nI np) &&& 31)) 12 f44_11 rfl rfl ?_
                          refine zw_ior ((I 12 5) ||| (1 <<< ((nI np) &&& 31))) 13 f44_12 rfl rfl ?_
                          refine zw_goto 26 f44_13 (by decide +kernel) ?_
                          refine zw_put _ 29 f44_26 rfl g44_38_9 (hb_12 _ _ _ _) rfl (Nat.le_of_ble_eq_true rfl) (by decide +kernel) (hi_12_5 _ _ _ _ _) ?_
                          refine zw_vreturn f44_29 r44 u44 ⟨rfl, ?_⟩
                          refine zw_aload_n 129 f83_128 rfl (zl1_ne rfl rfl (zl1_ne rfl rfl (zl1_ne rfl rfl rfl))) ?_
                          refine zw_iload 131 f83_129 rfl zl1_eq ?_
                          refine zw_virtual_i 134 0 0 [.ref 0, .int (nI np)] [(0, .ref 0), (1, .int (nI np))] f83_131 rfl n83_86 k83_86_11 rfl (hb_0 _ _ _ _) (by decide +kernel) (Nat.le_of_ble_eq_true rfl) rfl rfl (by decide +kernel) (by decide +kernel) rfl (Nat.le_of_ble_eq_true rfl) rfl ?_
                          refine zw_aload_n 1 f107_0 rfl rfl ?_
                          refine zw_getfield 4 f107_1 rfl g107_21_11 (hb_0 _ _ _ _) rfl ?_
                          refine zw_virtual_v 7 0 0 [.ref 11] [(0, .ref 11)] f107_4 rfl n107_318 k107_318_10 rfl (hb_11 _ _ _ _) (by decide +kernel) (Nat.le_of_ble_eq_true rfl) rfl rfl (by decide +kernel) (by decide +kernel) rfl (Nat.le_of_ble_eq_true rfl) rfl ?_
                          have hC_28 : CV nv (np + 1) cm (upd2 (upd2 I 1 1 (nI (np + 1))) 12 5 ((I 12 5) ||| (1 <<< ((nI np) &&& 31)))) := ⟨⟨hI.1.1, ⟨rfl, by omega⟩, hI.1.2.2⟩, hI.2⟩
                          refine zWp.mono (ck_X10_settle_11 ro nv (np + 1) (upd2 (upd2 I 1 1 (nI (np + 1))) 12 5 ((I 12 5) ||| (1 <<< ((nI np) &&& 31)))) _ _ _ hC_28.1) ?_
                          rintro r h1 ⟨I_28, G_28, A_28, B_28, rfl, K_28, C_28, rfl⟩
                          refine ⟨rfl, ?_⟩
                          have hV_28 : CV nv (np + 1) cm I_28 := CV.of (I := (upd2 (upd2 I 1 1 (nI (np + 1))) 12 5 ((I 12 5) ||| (1 <<< ((nI np) &&& 31))))) hC_28 K_28 C_28
                          refine zw_aload_n 8 f107_7 rfl rfl ?_
                          refine zw_getfield 11 f107_8 rfl g107_31_11 (hb_0 _ _ _ _) rfl ?_
                          refine zw_aload_n 12 f107_11 rfl rfl ?_
                          refine zw_getfield 15 f107_12 rfl g107_21_11 (hb_0 _ _ _ _) rfl ?_
                          refine zw_virtual_v 18 0 0 [.ref 33, .ref 11] [(0, .ref 33), (1, .ref 11)] f107_15 rfl n107_187 k107_187_3 rfl (hb_33 _ _ _ _) (by decide +kernel) (Nat.le_of_ble_eq_true rfl) rfl rfl (by decide +kernel) (by decide +kernel) rfl (Nat.le_of_ble_eq_true rfl) rfl ?_
                          refine zWp.mono (cv_X3_take_33 ro nv (np + 1) cm _ _ _ _ hV_28 (by omega)) ?_
                          rintro r h1 ⟨I_29, G_29, A_29, B_29, rfl, K_29, C_29, rfl⟩
                          refine ⟨rfl, ?_⟩
                          refine zw_aload_n 19 f107_18 rfl rfl ?_
                          refine zw_iload_n 20 f107_19 rfl rfl ?_
                          refine zw_virtual_i 23 0 0 [.ref 0, .int (nI np)] [(0, .ref 0), (1, .int (nI np))] f107_20 rfl n107_181 k107_181_11 rfl (hb_0 _ _ _ _) (by decide +kernel) (Nat.le_of_ble_eq_true rfl) rfl rfl (by decide +kernel) (by decide +kernel) rfl (Nat.le_of_ble_eq_true rfl) rfl ?_
                          refine zw_aload_n 1 f106_0 rfl rfl ?_
                          refine zw_iconst 0 2 f106_1 rfl (by decide +kernel) ?_
                          refine zw_put _ 5 f106_2 rfl g106_70_11 (hb_0 _ _ _ _) rfl (Nat.le_of_ble_eq_true rfl) (by decide +kernel) (hi_0_7 _ _ _ _ _) ?_
                          refine zw_iload_n 6 f106_5 rfl rfl ?_
                          refine zw_ireturn f106_6 r106 u106 ⟨_, rfl, ?_⟩
                          refine zw_ireturn f107_23 r107 u107 ⟨_, rfl, ?_⟩
                          refine zw_ireturn f83_134 r83 u83 ?_
                          exact ⟨_, _, _, _, rfl, (KP.i rfl (KP.tr (KP.tr (KP.i rfl (KP.a rfl (KP.i rfl (KP.a rfl (KP.a rfl KP.rf))))) (KP.wk K_28 (fun k h => pWN k (pNX k h)))) (KP.wk K_29 pNX))), Or.inr ⟨⟨(Or.inr (qV.ofc (by omega) hc12 hc13)), (Or.inr ⟨(qV.ofc (by omega) hc21 hc22), hc24⟩), (fun q => hc1 q.1), ⟨hc25, hc26⟩, (by omega)⟩, ⟨C_29, PE.of10 ((K_29.2.2.1 2 rfl).trans (K_28.2.2.1 2 rfl)) ((K_29.2.2.1 3 rfl).trans (K_28.2.2.1 3 rfl)) ((K_29.2.2.1 4 rfl).trans (K_28.2.2.1 4 rfl)) ((K_29.2.2.1 5 rfl).trans (K_28.2.2.1 5 rfl)) ((K_29.2.2.1 6 rfl).trans (K_28.2.2.1 6 rfl)) ((K_29.2.2.1 7 rfl).trans (K_28.2.2.1 7 rfl)) ((K_29.2.2.1 8 rfl).trans (K_28.2.2.1 8 rfl)) ((K_29.2.2.1 9 rfl).trans (K_28.2.2.1 9 rfl)) ((K_29.2.2.1 10 rfl).trans (K_28.2.2.1 10 rfl)) ((K_29.2.2.1 15 rfl).trans (K_28.2.2.1 15 rfl))⟩, rfl⟩⟩
                        · have hn_hc27 : 14 ≤ np := zn_ge (by omega) (by omega) (Int32.not_lt.mp hc27)
                          refine zw_iconst (-1) 12 f21_11 rfl (by decide +kernel) ?_
                          refine zw_ireturn f21_12 r21 u21 ⟨_, rfl, ?_⟩
                          refine zw_istore _ 89 f83_87 rfl (by decide +kernel) rfl ?_
                          refine zw_iload 91 f83_89 rfl zl1_eq ?_
                          refine zw_iconst (-1) 92 f83_91 rfl (by decide +kernel) ?_
                          refine zw_ic_ne_f 95 101 f83_92 (by decide +kernel) rfl (by decide +kernel) ?_
                          refine zw_aload_n 96 f83_95 rfl (zl1_ne rfl rfl (zl1_ne rfl rfl (zl1_ne rfl rfl rfl))) ?_
                          refine zw_iconst 2 97 f83_96 rfl (by decide +kernel) ?_
                          refine zw_virtual_i 100 0 0 [.ref 0, .int 2] [(0, .ref 0), (1, .int 2)] f83_97 rfl n83_78 k83_78_11 rfl (hb_0 _ _ _ _) (by decide +kernel) (Nat.le_of_ble_eq_true rfl) rfl rfl (by decide +kernel) (by decide +kernel) rfl (Nat.le_of_ble_eq_true rfl) rfl ?_
                          refine zw_aload_n 1 f105_0 rfl rfl ?_
                          refine zw_iload_n 2 f105_1 rfl rfl ?_
                          refine zw_put _ 5 f105_2 rfl g105_70_11 (hb_0 _ _ _ _) rfl (Nat.le_of_ble_eq_true rfl) (by decide +kernel) (hi_0_7 _ _ _ _ _) ?_
                          refine zw_iconst (-1) 6 f105_5 rfl (by decide +kernel) ?_
                          refine zw_ireturn f105_6 r105 u105 ⟨_, rfl, ?_⟩
                          refine zw_ireturn f83_100 r83 u83 ?_
                          exact ⟨_, _, _, _, rfl, (KP.i rfl KP.rf), Or.inl ⟨(fun q => (fun q => q (by omega)) q.2.2.2.2), ⟨hI.mono (by omega), PE.rf⟩, rfl⟩⟩
set_option maxRecDepth 100000 in
set_option maxHeartbeats 0 in
theorem cm_amount (ro : UInt32 → Nat × (Nat → Int32)) (nv np cm : Nat) (I : Nat → Nat → Int32) (G : Nat → Nat → Int64) (A : Nat → Nat → Int32) (B : Nat → Nat → Int64) (hI : CV nv np cm I) (hcm : cm < 900000000) (hQ : qKd nv (cP A)) (a : Int32) (b : Int32) : zWp ro 86 0 [(0, .ref 0), (1, .int a), (2, .int b)] [] (hS I G A B) 0 0 (fun r h1 => ∃ I2 G2 A2 B2, h1 = hS I2 G2 A2 B2 ∧ KP pX I G A B I2 G2 A2 B2 ∧ ((¬ ok_amount nv np (cP A) a b ∧ cSt nv np (cm + 8) (cP A) I2 A2 ∧ r = some (.int (-1))) ∨ (ok_amount nv np (cP A) a b ∧ cSt nv np (cm + 8) (updA (cP A) 62 (upd ((cP A) 62) a.toNatClampNeg b)) I2 A2 ∧ r = some (.int (cP A 62 a.toNatClampNeg))))) := by
  have h8 := hI.1.1.2
  have h14 := hI.1.2.1.2
  obtain ⟨t, ht, et⟩ := hI.2.2
  refine zw_aload_n 1 f86_0 rfl rfl ?_
  refine zw_getfield 4 f86_1 rfl g86_10_11 (hb_0 _ _ _ _) rfl ?_
  refine zw_iload_n 5 f86_4 rfl rfl ?_
  refine zw_virtual_i 8 0 0 [.ref 1, .int a] [(0, .ref 1), (1, .int a)] f86_5 rfl n86_109 k86_109_4 rfl (hb_1 _ _ _ _) (by decide +kernel) (Nat.le_of_ble_eq_true rfl) rfl rfl (by decide +kernel) (by decide +kernel) rfl (Nat.le_of_ble_eq_true rfl) rfl ?_
  refine zw_iload_n 1 f14_0 rfl rfl ?_
  refine zw_if_lt 4 22 f14_1 (by decide +kernel) rfl (fun hc1 => ?_) (fun hc1 => ?_)
  · refine zw_iconst 0 23 f14_22 rfl (by decide +kernel) ?_
    refine zw_zreturn f14_23 r14 u14 (by decide +kernel) ⟨_, rfl, ?_⟩
    refine zw_if_eq_t 21 f86_8 (by decide +kernel) (by decide +kernel) ?_
    refine zw_aload_n 22 f86_21 rfl rfl ?_
    refine zw_iconst 1 23 f86_22 rfl (by decide +kernel) ?_
    refine zw_virtual_i 26 0 0 [.ref 0, .int 1] [(0, .ref 0), (1, .int 1)] f86_23 rfl n86_78 k86_78_11 rfl (hb_0 _ _ _ _) (by decide +kernel) (Nat.le_of_ble_eq_true rfl) rfl rfl (by decide +kernel) (by decide +kernel) rfl (Nat.le_of_ble_eq_true rfl) rfl ?_
    refine zw_aload_n 1 f105_0 rfl rfl ?_
    refine zw_iload_n 2 f105_1 rfl rfl ?_
    refine zw_put _ 5 f105_2 rfl g105_70_11 (hb_0 _ _ _ _) rfl (Nat.le_of_ble_eq_true rfl) (by decide +kernel) (hi_0_7 _ _ _ _ _) ?_
    refine zw_iconst (-1) 6 f105_5 rfl (by decide +kernel) ?_
    refine zw_ireturn f105_6 r105 u105 ⟨_, rfl, ?_⟩
    refine zw_ireturn f86_26 r86 u86 ?_
    exact ⟨_, _, _, _, rfl, (KP.i rfl KP.rf), Or.inl ⟨(fun q => (qV.n0 (by omega) hc1) q.1), ⟨hI.mono (by omega), PE.rf⟩, rfl⟩⟩
  · refine zw_iload_n 5 f14_4 rfl rfl ?_
    refine zw_aload_n 6 f14_5 rfl rfl ?_
    refine zw_getI (nI np) 9 f14_6 rfl g14_43_4 (hb_1 _ _ _ _) rfl hI.1.2.1.1 ?_
    refine zw_ic_ge 12 22 f14_9 (by decide +kernel) rfl (fun hc2 => ?_) (fun hc2 => ?_)
    · refine zw_iconst 0 23 f14_22 rfl (by decide +kernel) ?_
      refine zw_zreturn f14_23 r14 u14 (by decide +kernel) ⟨_, rfl, ?_⟩
      refine zw_if_eq_t 21 f86_8 (by decide +kernel) (by decide +kernel) ?_
      refine zw_aload_n 22 f86_21 rfl rfl ?_
      refine zw_iconst 1 23 f86_22 rfl (by decide +kernel) ?_
      refine zw_virtual_i 26 0 0 [.ref 0, .int 1] [(0, .ref 0), (1, .int 1)] f86_23 rfl n86_78 k86_78_11 rfl (hb_0 _ _ _ _) (by decide +kernel) (Nat.le_of_ble_eq_true rfl) rfl rfl (by decide +kernel) (by decide +kernel) rfl (Nat.le_of_ble_eq_true rfl) rfl ?_
      refine zw_aload_n 1 f105_0 rfl rfl ?_
      refine zw_iload_n 2 f105_1 rfl rfl ?_
      refine zw_put _ 5 f105_2 rfl g105_70_11 (hb_0 _ _ _ _) rfl (Nat.le_of_ble_eq_true rfl) (by decide +kernel) (hi_0_7 _ _ _ _ _) ?_
      refine zw_iconst (-1) 6 f105_5 rfl (by decide +kernel) ?_
      refine zw_ireturn f105_6 r105 u105 ⟨_, rfl, ?_⟩
      refine zw_ireturn f86_26 r86 u86 ?_
      exact ⟨_, _, _, _, rfl, (KP.i rfl KP.rf), Or.inl ⟨(fun q => (qV.n2 (by omega) hc2) q.1), ⟨hI.mono (by omega), PE.rf⟩, rfl⟩⟩
    · refine zw_iload_n 13 f14_12 rfl rfl ?_
      refine zw_bipush 14 15 f14_13 rfl (by decide +kernel) ?_
      refine zw_ic_ge 18 22 f14_15 (by decide +kernel) rfl (fun hc3 => ?_) (fun hc3 => ?_)
      · refine zw_iconst 0 23 f14_22 rfl (by decide +kernel) ?_
        refine zw_zreturn f14_23 r14 u14 (by decide +kernel) ⟨_, rfl, ?_⟩
        refine zw_if_eq_t 21 f86_8 (by decide +kernel) (by decide +kernel) ?_
        refine zw_aload_n 22 f86_21 rfl rfl ?_
        refine zw_iconst 1 23 f86_22 rfl (by decide +kernel) ?_
        refine zw_virtual_i 26 0 0 [.ref 0, .int 1] [(0, .ref 0), (1, .int 1)] f86_23 rfl n86_78 k86_78_11 rfl (hb_0 _ _ _ _) (by decide +kernel) (Nat.le_of_ble_eq_true rfl) rfl rfl (by decide +kernel) (by decide +kernel) rfl (Nat.le_of_ble_eq_true rfl) rfl ?_
        refine zw_aload_n 1 f105_0 rfl rfl ?_
        refine zw_iload_n 2 f105_1 rfl rfl ?_
        refine zw_put _ 5 f105_2 rfl g105_70_11 (hb_0 _ _ _ _) rfl (Nat.le_of_ble_eq_true rfl) (by decide +kernel) (hi_0_7 _ _ _ _ _) ?_
        refine zw_iconst (-1) 6 f105_5 rfl (by decide +kernel) ?_
        refine zw_ireturn f105_6 r105 u105 ⟨_, rfl, ?_⟩
        refine zw_ireturn f86_26 r86 u86 ?_
        exact ⟨_, _, _, _, rfl, (KP.i rfl KP.rf), Or.inl ⟨(fun q => (qV.n3 (m := 14) (N := 14) (by omega) (by omega) (by decide) hc3) q.1), ⟨hI.mono (by omega), PE.rf⟩, rfl⟩⟩
      · refine zw_iconst 1 19 f14_18 rfl (by decide +kernel) ?_
        refine zw_goto 23 f14_19 (by decide +kernel) ?_
        refine zw_zreturn f14_23 r14 u14 (by decide +kernel) ⟨_, rfl, ?_⟩
        refine zw_if_eq_f 11 21 f86_8 (by decide +kernel) rfl (by decide +kernel) ?_
        refine zw_iload_n 12 f86_11 rfl rfl ?_
        refine zw_iconst 1 13 f86_12 rfl (by decide +kernel) ?_
        refine zw_bipush 20 15 f86_13 rfl (by decide +kernel) ?_
        refine zw_static_i 18 0 0 [.int b, .int 1, .int 20] [] [(0, .int b), (1, .int 1), (2, .int 20)] f86_15 rfl k86_74_99 rfl (by decide +kernel) (Nat.le_of_ble_eq_true rfl) (Nat.le_of_ble_eq_true rfl) rfl rfl (by decide +kernel) (by decide +kernel) rfl (Nat.le_of_ble_eq_true rfl) rfl ?_
        refine zw_iload_n 1 f112_0 rfl rfl ?_
        refine zw_iload_n 2 f112_1 rfl rfl ?_
        refine zw_ic_lt 5 14 f112_2 (by decide +kernel) rfl (fun hc4 => ?_) (fun hc4 => ?_)
        · refine zw_iconst 0 15 f112_14 rfl (by decide +kernel) ?_
          refine zw_zreturn f112_15 r112 u112 (by decide +kernel) ⟨_, rfl, ?_⟩
          refine zw_if_ne_f 21 27 f86_18 (by decide +kernel) rfl (by decide +kernel) ?_
          refine zw_aload_n 22 f86_21 rfl rfl ?_
          refine zw_iconst 1 23 f86_22 rfl (by decide +kernel) ?_
          refine zw_virtual_i 26 0 0 [.ref 0, .int 1] [(0, .ref 0), (1, .int 1)] f86_23 rfl n86_78 k86_78_11 rfl (hb_0 _ _ _ _) (by decide +kernel) (Nat.le_of_ble_eq_true rfl) rfl rfl (by decide +kernel) (by decide +kernel) rfl (Nat.le_of_ble_eq_true rfl) rfl ?_
          refine zw_aload_n 1 f105_0 rfl rfl ?_
          refine zw_iload_n 2 f105_1 rfl rfl ?_
          refine zw_put _ 5 f105_2 rfl g105_70_11 (hb_0 _ _ _ _) rfl (Nat.le_of_ble_eq_true rfl) (by decide +kernel) (hi_0_7 _ _ _ _ _) ?_
          refine zw_iconst (-1) 6 f105_5 rfl (by decide +kernel) ?_
          refine zw_ireturn f105_6 r105 u105 ⟨_, rfl, ?_⟩
          refine zw_ireturn f86_26 r86 u86 ?_
          exact ⟨_, _, _, _, rfl, (KP.i rfl KP.rf), Or.inl ⟨(fun q => (fun q => q.1 hc4) q.2), ⟨hI.mono (by omega), PE.rf⟩, rfl⟩⟩
        · refine zw_iload_n 6 f112_5 rfl rfl ?_
          refine zw_iload_n 7 f112_6 rfl rfl ?_
          refine zw_ic_gt 10 14 f112_7 (by decide +kernel) rfl (fun hc5 => ?_) (fun hc5 => ?_)
          · refine zw_iconst 0 15 f112_14 rfl (by decide +kernel) ?_
            refine zw_zreturn f112_15 r112 u112 (by decide +kernel) ⟨_, rfl, ?_⟩
            refine zw_if_ne_f 21 27 f86_18 (by decide +kernel) rfl (by decide +kernel) ?_
            refine zw_aload_n 22 f86_21 rfl rfl ?_
            refine zw_iconst 1 23 f86_22 rfl (by decide +kernel) ?_
            refine zw_virtual_i 26 0 0 [.ref 0, .int 1] [(0, .ref 0), (1, .int 1)] f86_23 rfl n86_78 k86_78_11 rfl (hb_0 _ _ _ _) (by decide +kernel) (Nat.le_of_ble_eq_true rfl) rfl rfl (by decide +kernel) (by decide +kernel) rfl (Nat.le_of_ble_eq_true rfl) rfl ?_
            refine zw_aload_n 1 f105_0 rfl rfl ?_
            refine zw_iload_n 2 f105_1 rfl rfl ?_
            refine zw_put _ 5 f105_2 rfl g105_70_11 (hb_0 _ _ _ _) rfl (Nat.le_of_ble_eq_true rfl) (by decide +kernel) (hi_0_7 _ _ _ _ _) ?_
            refine zw_iconst (-1) 6 f105_5 rfl (by decide +kernel) ?_
            refine zw_ireturn f105_6 r105 u105 ⟨_, rfl, ?_⟩
            refine zw_ireturn f86_26 r86 u86 ?_
            exact ⟨_, _, _, _, rfl, (KP.i rfl KP.rf), Or.inl ⟨(fun q => (fun q => q.2 hc5) q.2), ⟨hI.mono (by omega), PE.rf⟩, rfl⟩⟩
          · refine zw_iconst 1 11 f112_10 rfl (by decide +kernel) ?_
            refine zw_goto 15 f112_11 (by decide +kernel) ?_
            refine zw_zreturn f112_15 r112 u112 (by decide +kernel) ⟨_, rfl, ?_⟩
            refine zw_if_ne_t 27 f86_18 (by decide +kernel) (by decide +kernel) ?_
            refine zw_aload_n 28 f86_27 rfl rfl ?_
            refine zw_getfield 31 f86_28 rfl g86_21_11 (hb_0 _ _ _ _) rfl ?_
            refine zw_getfield 34 f86_31 rfl g86_134_10 (hb_11 _ _ _ _) rfl ?_
            refine zw_getfield 37 f86_34 rfl g86_138_9 (hb_12 _ _ _ _) rfl ?_
            refine zw_iload_n 38 f86_37 rfl rfl ?_
            refine zw_iaload a.toNatClampNeg (A 15 a.toNatClampNeg) 39 f86_38 rfl (hb_15 _ _ _ _) rfl hc1 (zix (by decide) hc1 hc3) rfl ?_
            refine zw_istore_n _ 40 f86_39 rfl (by decide +kernel) rfl ?_
            refine zw_aload_n 41 f86_40 rfl (zl1_ne rfl rfl rfl) ?_
            refine zw_getfield 44 f86_41 rfl g86_21_11 (hb_0 _ _ _ _) rfl ?_
            refine zw_getfield 47 f86_44 rfl g86_134_10 (hb_11 _ _ _ _) rfl ?_
            refine zw_getfield 50 f86_47 rfl g86_138_9 (hb_12 _ _ _ _) rfl ?_
            refine zw_iload_n 51 f86_50 rfl (zl1_ne rfl rfl rfl) ?_
            refine zw_iload_n 52 f86_51 rfl (zl1_ne rfl rfl rfl) ?_
            refine zw_ast a.toNatClampNeg _ 53 f86_52 rfl (hb_15 _ _ _ _) rfl hc1 (zix (by decide) hc1 hc3) (ha_15 _ _ _ _ _) ?_
            refine zw_aload_n 54 f86_53 rfl (zl1_ne rfl rfl rfl) ?_
            refine zw_iload_n 55 f86_54 rfl zl1_eq ?_
            refine zw_virtual_i 58 0 0 [.ref 0, .int (A 15 a.toNatClampNeg)] [(0, .ref 0), (1, .int (A 15 a.toNatClampNeg))] f86_55 rfl n86_86 k86_86_11 rfl (hb_0 _ _ _ _) (by decide +kernel) (Nat.le_of_ble_eq_true rfl) rfl rfl (by decide +kernel) (by decide +kernel) rfl (Nat.le_of_ble_eq_true rfl) rfl ?_
            refine zw_aload_n 1 f107_0 rfl rfl ?_
            refine zw_getfield 4 f107_1 rfl g107_21_11 (hb_0 _ _ _ _) rfl ?_
            refine zw_virtual_v 7 0 0 [.ref 11] [(0, .ref 11)] f107_4 rfl n107_318 k107_318_10 rfl (hb_11 _ _ _ _) (by decide +kernel) (Nat.le_of_ble_eq_true rfl) rfl rfl (by decide +kernel) (by decide +kernel) rfl (Nat.le_of_ble_eq_true rfl) rfl ?_
            have hC_6 : CV nv np cm I := hI
            refine zWp.mono (ck_X10_settle_11 ro nv np I _ _ _ hC_6.1) ?_
            rintro r h1 ⟨I_6, G_6, A_6, B_6, rfl, K_6, C_6, rfl⟩
            refine ⟨rfl, ?_⟩
            have hV_6 : CV nv np cm I_6 := CV.of (I := I) hC_6 K_6 C_6
            refine zw_aload_n 8 f107_7 rfl rfl ?_
            refine zw_getfield 11 f107_8 rfl g107_31_11 (hb_0 _ _ _ _) rfl ?_
            refine zw_aload_n 12 f107_11 rfl rfl ?_
            refine zw_getfield 15 f107_12 rfl g107_21_11 (hb_0 _ _ _ _) rfl ?_
            refine zw_virtual_v 18 0 0 [.ref 33, .ref 11] [(0, .ref 33), (1, .ref 11)] f107_15 rfl n107_187 k107_187_3 rfl (hb_33 _ _ _ _) (by decide +kernel) (Nat.le_of_ble_eq_true rfl) rfl rfl (by decide +kernel) (by decide +kernel) rfl (Nat.le_of_ble_eq_true rfl) rfl ?_
            refine zWp.mono (cv_X3_take_33 ro nv np cm _ _ _ _ hV_6 (by omega)) ?_
            rintro r h1 ⟨I_7, G_7, A_7, B_7, rfl, K_7, C_7, rfl⟩
            refine ⟨rfl, ?_⟩
            refine zw_aload_n 19 f107_18 rfl rfl ?_
            refine zw_iload_n 20 f107_19 rfl rfl ?_
            refine zw_virtual_i 23 0 0 [.ref 0, .int (A 15 a.toNatClampNeg)] [(0, .ref 0), (1, .int (A 15 a.toNatClampNeg))] f107_20 rfl n107_181 k107_181_11 rfl (hb_0 _ _ _ _) (by decide +kernel) (Nat.le_of_ble_eq_true rfl) rfl rfl (by decide +kernel) (by decide +kernel) rfl (Nat.le_of_ble_eq_true rfl) rfl ?_
            refine zw_aload_n 1 f106_0 rfl rfl ?_
            refine zw_iconst 0 2 f106_1 rfl (by decide +kernel) ?_
            refine zw_put _ 5 f106_2 rfl g106_70_11 (hb_0 _ _ _ _) rfl (Nat.le_of_ble_eq_true rfl) (by decide +kernel) (hi_0_7 _ _ _ _ _) ?_
            refine zw_iload_n 6 f106_5 rfl rfl ?_
            refine zw_ireturn f106_6 r106 u106 ⟨_, rfl, ?_⟩
            refine zw_ireturn f107_23 r107 u107 ⟨_, rfl, ?_⟩
            refine zw_ireturn f86_58 r86 u86 ?_
            exact ⟨_, _, _, _, rfl, (KP.i rfl (KP.tr (KP.tr (KP.a rfl KP.rf) (KP.wk K_6 (fun k h => pWN k (pNX k h)))) (KP.wk K_7 pNX))), Or.inr ⟨⟨(qV.ofc (by omega) hc1 hc2), ⟨hc4, hc5⟩⟩, ⟨C_7, PE.of10 ((K_7.2.2.1 2 rfl).trans (K_6.2.2.1 2 rfl)) ((K_7.2.2.1 3 rfl).trans (K_6.2.2.1 3 rfl)) ((K_7.2.2.1 4 rfl).trans (K_6.2.2.1 4 rfl)) ((K_7.2.2.1 5 rfl).trans (K_6.2.2.1 5 rfl)) ((K_7.2.2.1 6 rfl).trans (K_6.2.2.1 6 rfl)) ((K_7.2.2.1 7 rfl).trans (K_6.2.2.1 7 rfl)) ((K_7.2.2.1 8 rfl).trans (K_6.2.2.1 8 rfl)) ((K_7.2.2.1 9 rfl).trans (K_6.2.2.1 9 rfl)) ((K_7.2.2.1 10 rfl).trans (K_6.2.2.1 10 rfl)) ((K_7.2.2.1 15 rfl).trans (K_6.2.2.1 15 rfl))⟩, rfl⟩⟩
