theorem zl_cmp0 {y : Int64} {w : Int32} (h : lg_cmp y 0 = w) (hw : ¬ w = 0) : ¬ y = 0 := by
  intro q
  subst q
  exact hw (h.symm.trans (by decide))
theorem zl_sw (n : Nat) (hn : n < 100) (a : Int32) : (a.toInt < 0 ∨ (n : Int) < a.toInt) ∨ ∃ k : Nat, k ≤ n ∧ a = nI k := by
  by_cases h : a.toInt < 0 ∨ (n : Int) < a.toInt
  · exact Or.inl h
  · refine Or.inr ⟨a.toInt.toNat, by omega, ?_⟩
    apply Int32.toInt_inj.mp
    rw [nI_toInt (by omega)]
    omega
theorem zw_table_k {ro : UInt32 → Nat × (Nat → Int32)} {M pc : Nat} {ls : List (Nat × Value)} {st : List Value} {h : List va_E} {uc us : Nat} {post : Option Value → List va_E → Prop} {x : Int32} {d lo hi : Int} {offs : Array Int} {y : Int32} (off : Int) (q : Nat) (e : zf M pc = some (.tableswitch d lo hi offs)) (hx : x = y) (hc : ¬ (y.toInt < lo ∨ hi < y.toInt)) (hf : offs[(y.toInt - lo).toNat]? = some off) (hq : (pc : Int) + off = (q : Int)) (k : zWp ro M q ls st h uc us post) : zWp ro M pc ls (.int x :: st) h uc us post := by
  subst hx
  exact zw_table_i q e hc hf hq k
theorem zw_table_ko {ro : UInt32 → Nat × (Nat → Int32)} {M pc : Nat} {ls : List (Nat × Value)} {st : List Value} {h : List va_E} {uc us : Nat} {post : Option Value → List va_E → Prop} {x : Int32} {d lo hi : Int} {offs : Array Int} {y : Int32} (q : Nat) (e : zf M pc = some (.tableswitch d lo hi offs)) (hx : x = y) (hc : y.toInt < lo ∨ hi < y.toInt) (hq : (pc : Int) + d = (q : Int)) (k : zWp ro M q ls st h uc us post) : zWp ro M pc ls (.int x :: st) h uc us post := by
  subst hx
  exact zw_table_o q e hc hq k
theorem zw_lookup_k {ro : UInt32 → Nat × (Nat → Int32)} {M pc : Nat} {ls : List (Nat × Value)} {st : List Value} {h : List va_E} {uc us : Nat} {post : Option Value → List va_E → Prop} {x : Int32} {d off : Int} {ps : Array (Int × Int)} {y : Int32} (q : Nat) (e : zf M pc = some (.lookupswitch d ps)) (hx : x = y) (hs : (ps.toList.zip (ps.toList.drop 1)).all (fun (a, next) => a.1 < next.1) = true) (hf : Op.lookupswitch.offset ps.toList d y.toInt = off) (hq : (pc : Int) + off = (q : Int)) (k : zWp ro M q ls st h uc us post) : zWp ro M pc ls (.int x :: st) h uc us post := by
  subst hx
  exact zw_lookup q e hs hf hq k
theorem zl_lo {a : Int32} {lo hi : Int} (h : a.toInt < 0 ∨ hi < a.toInt) (hl : (0 : Int) ≤ lo) : a.toInt < lo ∨ hi < a.toInt := by omega
theorem zfitZ {v : Int32} (h : v = 0 ∨ v = 1) : zfit .boolean (.int v) = true := by
  rcases h with rfl | rfl <;> decide
theorem zl_m1 {a : Int32} (h : ¬ a < 0) : -1 < a := by
  rw [Int32.lt_iff_toInt_lt] at h ⊢
  have e1 : (-1 : Int32).toInt = -1 := by decide
  have e0 : (0 : Int32).toInt = 0 := by decide
  omega
set_option maxRecDepth 100000 in
set_option maxHeartbeats 0 in
theorem cp_X4_hasVessel (ro : UInt32 → Nat × (Nat → Int32)) (nv np : Nat) (I : Nat → Nat → Int32) (G : Nat → Nat → Int64) (A : Nat → Nat → Int32) (B : Nat → Nat → Int64) (hI : CI nv np I) (a : Int32) : zWp ro 13 0 [(0, .ref 1), (1, .int a)] [] (hS I G A B) 0 0 (fun r h1 => h1 = hS I G A B ∧ zRt2 r) := by
  have hnv := hI.1.2
  have hnp := hI.2.1.2
  refine zw_iload_n 1 f13_0 rfl rfl ?_
  refine zw_if_lt 4 22 f13_1 (by decide +kernel) rfl (fun hc1 => ?_) (fun hc1 => ?_)
  · refine zw_iconst 0 23 f13_22 rfl (by decide +kernel) ?_
    refine zw_zreturn f13_23 r13 u13 (by decide +kernel) ?_
    exact ⟨rfl, ⟨_, rfl, (by decide +kernel)⟩⟩
  · refine zw_iload_n 5 f13_4 rfl rfl ?_
    refine zw_aload_n 6 f13_5 rfl rfl ?_
    refine zw_getI (nI nv) 9 f13_6 rfl g13_39_4 (hb_1 _ _ _ _) rfl hI.1.1 ?_
    refine zw_ic_ge 12 22 f13_9 (by decide +kernel) rfl (fun hc2 => ?_) (fun hc2 => ?_)
    · refine zw_iconst 0 23 f13_22 rfl (by decide +kernel) ?_
      refine zw_zreturn f13_23 r13 u13 (by decide +kernel) ?_
      exact ⟨rfl, ⟨_, rfl, (by decide +kernel)⟩⟩
    · refine zw_iload_n 13 f13_12 rfl rfl ?_
      refine zw_bipush 8 15 f13_13 rfl (by decide +kernel) ?_
      refine zw_ic_ge 18 22 f13_15 (by decide +kernel) rfl (fun hc3 => ?_) (fun hc3 => ?_)
      · refine zw_iconst 0 23 f13_22 rfl (by decide +kernel) ?_
        refine zw_zreturn f13_23 r13 u13 (by decide +kernel) ?_
        exact ⟨rfl, ⟨_, rfl, (by decide +kernel)⟩⟩
      · refine zw_iconst 1 19 f13_18 rfl (by decide +kernel) ?_
        refine zw_goto 23 f13_19 (by decide +kernel) ?_
        refine zw_zreturn f13_23 r13 u13 (by decide +kernel) ?_
        exact ⟨rfl, ⟨_, rfl, (by decide +kernel)⟩⟩
set_option maxRecDepth 100000 in
set_option maxHeartbeats 0 in
theorem cp_X4_kindOf (ro : UInt32 → Nat × (Nat → Int32)) (nv np : Nat) (I : Nat → Nat → Int32) (G : Nat → Nat → Int64) (A : Nat → Nat → Int32) (B : Nat → Nat → Int64) (hI : CI nv np I) (a : Int32) : zWp ro 15 0 [(0, .ref 1), (1, .int a)] [] (hS I G A B) 0 0 (fun r h1 => h1 = hS I G A B ∧ zRt1 r) := by
  have hnv := hI.1.2
  have hnp := hI.2.1.2
  refine zw_iload_n 1 f15_0 rfl rfl ?_
  refine zw_if_lt 4 27 f15_1 (by decide +kernel) rfl (fun hc1 => ?_) (fun hc1 => ?_)
  · refine zw_iconst (-1) 28 f15_27 rfl (by decide +kernel) ?_
    refine zw_ireturn f15_28 r15 u15 ?_
    exact ⟨rfl, ⟨_, rfl⟩⟩
  · refine zw_iload_n 5 f15_4 rfl rfl ?_
    refine zw_aload_n 6 f15_5 rfl rfl ?_
    refine zw_getI (nI nv) 9 f15_6 rfl g15_39_4 (hb_1 _ _ _ _) rfl hI.1.1 ?_
    refine zw_ic_ge 12 27 f15_9 (by decide +kernel) rfl (fun hc2 => ?_) (fun hc2 => ?_)
    · refine zw_iconst (-1) 28 f15_27 rfl (by decide +kernel) ?_
      refine zw_ireturn f15_28 r15 u15 ?_
      exact ⟨rfl, ⟨_, rfl⟩⟩
    · refine zw_iload_n 13 f15_12 rfl rfl ?_
      refine zw_bipush 8 15 f15_13 rfl (by decide +kernel) ?_
      refine zw_ic_ge 18 27 f15_15 (by decide +kernel) rfl (fun hc3 => ?_) (fun hc3 => ?_)
      · refine zw_iconst (-1) 28 f15_27 rfl (by decide +kernel) ?_
        refine zw_ireturn f15_28 r15 u15 ?_
        exact ⟨rfl, ⟨_, rfl⟩⟩
      · refine zw_aload_n 19 f15_18 rfl rfl ?_
        refine zw_getfield 22 f15_19 rfl g15_9_4 (hb_1 _ _ _ _) rfl ?_
        refine zw_iload_n 23 f15_22 rfl rfl ?_
        refine zx_iaload a.toNatClampNeg 24 f15_23 rfl (hb_2 _ _ _ _) rfl hc1 (zix (by decide) hc1 hc3) (fun w4 hw4 => ?_)
        refine zw_goto 28 f15_24 (by decide +kernel) ?_
        refine zw_ireturn f15_28 r15 u15 ?_
        exact ⟨rfl, ⟨_, rfl⟩⟩
set_option maxRecDepth 100000 in
set_option maxHeartbeats 0 in
theorem cp_X4_isFloat (ro : UInt32 → Nat × (Nat → Int32)) (nv np : Nat) (I : Nat → Nat → Int32) (G : Nat → Nat → Int64) (A : Nat → Nat → Int32) (B : Nat → Nat → Int64) (hI : CI nv np I) (a : Int32) : zWp ro 17 0 [(0, .ref 1), (1, .int a)] [] (hS I G A B) 0 0 (fun r h1 => h1 = hS I G A B ∧ zRt2 r) := by
  have hnv := hI.1.2
  have hnp := hI.2.1.2
  refine zw_iload_n 1 f17_0 rfl rfl ?_
  refine zw_if_lt 4 22 f17_1 (by decide +kernel) rfl (fun hc1 => ?_) (fun hc1 => ?_)
  · refine zw_iconst 0 23 f17_22 rfl (by decide +kernel) ?_
    refine zw_istore_n _ 24 f17_23 rfl (by decide +kernel) rfl ?_
    refine zw_iload_n 25 f17_24 rfl zl1_eq ?_
    refine zw_if_eq_t 52 f17_25 (by decide +kernel) (by decide +kernel) ?_
    refine zw_iconst 0 53 f17_52 rfl (by decide +kernel) ?_
    refine zw_zreturn f17_53 r17 u17 (by decide +kernel) ?_
    exact ⟨rfl, ⟨_, rfl, (by decide +kernel)⟩⟩
  · refine zw_iload_n 5 f17_4 rfl rfl ?_
    refine zw_aload_n 6 f17_5 rfl rfl ?_
    refine zw_getI (nI nv) 9 f17_6 rfl g17_39_4 (hb_1 _ _ _ _) rfl hI.1.1 ?_
    refine zw_ic_ge 12 22 f17_9 (by decide +kernel) rfl (fun hc2 => ?_) (fun hc2 => ?_)
    · refine zw_iconst 0 23 f17_22 rfl (by decide +kernel) ?_
      refine zw_istore_n _ 24 f17_23 rfl (by decide +kernel) rfl ?_
      refine zw_iload_n 25 f17_24 rfl zl1_eq ?_
      refine zw_if_eq_t 52 f17_25 (by decide +kernel) (by decide +kernel) ?_
      refine zw_iconst 0 53 f17_52 rfl (by decide +kernel) ?_
      refine zw_zreturn f17_53 r17 u17 (by decide +kernel) ?_
      exact ⟨rfl, ⟨_, rfl, (by decide +kernel)⟩⟩
    · refine zw_iload_n 13 f17_12 rfl rfl ?_
      refine zw_bipush 8 15 f17_13 rfl (by decide +kernel) ?_
      refine zw_ic_ge 18 22 f17_15 (by decide +kernel) rfl (fun hc3 => ?_) (fun hc3 => ?_)
      · refine zw_iconst 0 23 f17_22 rfl (by decide +kernel) ?_
        refine zw_istore_n _ 24 f17_23 rfl (by decide +kernel) rfl ?_
        refine zw_iload_n 25 f17_24 rfl zl1_eq ?_
        refine zw_if_eq_t 52 f17_25 (by decide +kernel) (by decide +kernel) ?_
        refine zw_iconst 0 53 f17_52 rfl (by decide +kernel) ?_
        refine zw_zreturn f17_53 r17 u17 (by decide +kernel) ?_
        exact ⟨rfl, ⟨_, rfl, (by decide +kernel)⟩⟩
      · refine zw_iconst 1 19 f17_18 rfl (by decide +kernel) ?_
        refine zw_goto 23 f17_19 (by decide +kernel) ?_
        refine zw_istore_n _ 24 f17_23 rfl (by decide +kernel) rfl ?_
        refine zw_iload_n 25 f17_24 rfl zl1_eq ?_
        refine zw_if_eq_f 28 52 f17_25 (by decide +kernel) rfl (by decide +kernel) ?_
        refine zw_aload_n 29 f17_28 rfl (zl1_ne rfl rfl rfl) ?_
        refine zw_getfield 32 f17_29 rfl g17_9_4 (hb_1 _ _ _ _) rfl ?_
        refine zw_iload_n 33 f17_32 rfl (zl1_ne rfl rfl rfl) ?_
        refine zx_iaload a.toNatClampNeg 34 f17_33 rfl (hb_2 _ _ _ _) rfl hc1 (zix (by decide) hc1 hc3) (fun w4 hw4 => ?_)
        refine zw_iconst 3 35 f17_34 rfl (by decide +kernel) ?_
        refine zw_ic_eq 38 48 f17_35 (by decide +kernel) rfl (fun hc5 => ?_) (fun hc5 => ?_)
        · refine zw_iconst 1 49 f17_48 rfl (by decide +kernel) ?_
          refine zw_goto 53 f17_49 (by decide +kernel) ?_
          refine zw_zreturn f17_53 r17 u17 (by decide +kernel) ?_
          exact ⟨rfl, ⟨_, rfl, (by decide +kernel)⟩⟩
        · refine zw_aload_n 39 f17_38 rfl (zl1_ne rfl rfl rfl) ?_
          refine zw_getfield 42 f17_39 rfl g17_9_4 (hb_1 _ _ _ _) rfl ?_
          refine zw_iload_n 43 f17_42 rfl (zl1_ne rfl rfl rfl) ?_
          refine zx_iaload a.toNatClampNeg 44 f17_43 rfl (hb_2 _ _ _ _) rfl hc1 (zix (by decide) hc1 hc3) (fun w6 hw6 => ?_)
          refine zw_iconst 4 45 f17_44 rfl (by decide +kernel) ?_
          refine zw_ic_ne 48 52 f17_45 (by decide +kernel) rfl (fun hc7 => ?_) (fun hc7 => ?_)
          · refine zw_iconst 0 53 f17_52 rfl (by decide +kernel) ?_
            refine zw_zreturn f17_53 r17 u17 (by decide +kernel) ?_
            exact ⟨rfl, ⟨_, rfl, (by decide +kernel)⟩⟩
          · refine zw_iconst 1 49 f17_48 rfl (by decide +kernel) ?_
            refine zw_goto 53 f17_49 (by decide +kernel) ?_
            refine zw_zreturn f17_53 r17 u17 (by decide +kernel) ?_
            exact ⟨rfl, ⟨_, rfl, (by decide +kernel)⟩⟩
set_option maxRecDepth 100000 in
set_option maxHeartbeats 0 in
theorem cp_X4_siphonOf (ro : UInt32 → Nat × (Nat → Int32)) (nv np : Nat) (I : Nat → Nat → Int32) (G : Nat → Nat → Int64) (A : Nat → Nat → Int32) (B : Nat → Nat → Int64) (hI : CI nv np I) (a : Int32) : zWp ro 22 0 [(0, .ref 1), (1, .int a)] [] (hS I G A B) 0 0 (fun r h1 => h1 = hS I G A B ∧ zRt1 r) := by
  have hnv := hI.1.2
  have hnp := hI.2.1.2
  refine zw_iload_n 1 f22_0 rfl rfl ?_
  refine zw_if_lt 4 10 f22_1 (by decide +kernel) rfl (fun hc1 => ?_) (fun hc1 => ?_)
  · refine zw_iconst (-1) 11 f22_10 rfl (by decide +kernel) ?_
    refine zw_ireturn f22_11 r22 u22 ?_
    exact ⟨rfl, ⟨_, rfl⟩⟩
  · refine zw_iload_n 5 f22_4 rfl rfl ?_
    refine zw_bipush 14 7 f22_5 rfl (by decide +kernel) ?_
    refine zw_ic_lt 10 12 f22_7 (by decide +kernel) rfl (fun hc2 => ?_) (fun hc2 => ?_)
    · refine zw_aload_n 13 f22_12 rfl rfl ?_
      refine zw_getfield 16 f22_13 rfl g22_33_4 (hb_1 _ _ _ _) rfl ?_
      refine zw_iload_n 17 f22_16 rfl rfl ?_
      refine zx_iaload a.toNatClampNeg 18 f22_17 rfl (hb_9 _ _ _ _) rfl hc1 (zix (by decide) hc1 (Int32.not_le.mpr hc2)) (fun w3 hw3 => ?_)
      refine zw_istore_n _ 19 f22_18 rfl (by decide +kernel) rfl ?_
      refine zw_iload_n 20 f22_19 rfl zl1_eq ?_
      refine zw_if_lt 23 53 f22_20 (by decide +kernel) rfl (fun hc4 => ?_) (fun hc4 => ?_)
      · refine zw_iconst 0 54 f22_53 rfl (by decide +kernel) ?_
        refine zw_istore_n _ 55 f22_54 rfl (by decide +kernel) rfl ?_
        refine zw_iload_n 56 f22_55 rfl zl1_eq ?_
        refine zw_if_eq_t 63 f22_56 (by decide +kernel) (by decide +kernel) ?_
        refine zw_iconst (-1) 64 f22_63 rfl (by decide +kernel) ?_
        refine zw_ireturn f22_64 r22 u22 ?_
        exact ⟨rfl, ⟨_, rfl⟩⟩
      · refine zw_iload_n 24 f22_23 rfl zl1_eq ?_
        refine zw_bipush 8 26 f22_24 rfl (by decide +kernel) ?_
        refine zw_ic_ge 29 53 f22_26 (by decide +kernel) rfl (fun hc5 => ?_) (fun hc5 => ?_)
        · refine zw_iconst 0 54 f22_53 rfl (by decide +kernel) ?_
          refine zw_istore_n _ 55 f22_54 rfl (by decide +kernel) rfl ?_
          refine zw_iload_n 56 f22_55 rfl zl1_eq ?_
          refine zw_if_eq_t 63 f22_56 (by decide +kernel) (by decide +kernel) ?_
          refine zw_iconst (-1) 64 f22_63 rfl (by decide +kernel) ?_
          refine zw_ireturn f22_64 r22 u22 ?_
          exact ⟨rfl, ⟨_, rfl⟩⟩
        · refine zw_aload_n 30 f22_29 rfl (zl1_ne rfl rfl rfl) ?_
          refine zw_getfield 33 f22_30 rfl g22_9_4 (hb_1 _ _ _ _) rfl ?_
          refine zw_iload_n 34 f22_33 rfl zl1_eq ?_
          refine zx_iaload w3.toNatClampNeg 35 f22_34 rfl (hb_2 _ _ _ _) rfl hc4 (zix (by decide) hc4 hc5) (fun w6 hw6 => ?_)
          refine zw_iconst 1 36 f22_35 rfl (by decide +kernel) ?_
          refine zw_ic_ne 39 53 f22_36 (by decide +kernel) rfl (fun hc7 => ?_) (fun hc7 => ?_)
          · refine zw_iconst 0 54 f22_53 rfl (by decide +kernel) ?_
            refine zw_istore_n _ 55 f22_54 rfl (by decide +kernel) rfl ?_
            refine zw_iload_n 56 f22_55 rfl zl1_eq ?_
            refine zw_if_eq_t 63 f22_56 (by decide +kernel) (by decide +kernel) ?_
            refine zw_iconst (-1) 64 f22_63 rfl (by decide +kernel) ?_
            refine zw_ireturn f22_64 r22 u22 ?_
            exact ⟨rfl, ⟨_, rfl⟩⟩
          · refine zw_aload_n 40 f22_39 rfl (zl1_ne rfl rfl rfl) ?_
            refine zw_getfield 43 f22_40 rfl g22_24_4 (hb_1 _ _ _ _) rfl ?_
            refine zw_iload_n 44 f22_43 rfl zl1_eq ?_
            refine zx_iaload w3.toNatClampNeg 45 f22_44 rfl (hb_6 _ _ _ _) rfl hc4 (zix (by decide) hc4 hc5) (fun w8 hw8 => ?_)
            refine zw_iload_n 46 f22_45 rfl (zl1_ne rfl rfl rfl) ?_
            refine zw_ic_ne 49 53 f22_46 (by decide +kernel) rfl (fun hc9 => ?_) (fun hc9 => ?_)
            · refine zw_iconst 0 54 f22_53 rfl (by decide +kernel) ?_
              refine zw_istore_n _ 55 f22_54 rfl (by decide +kernel) rfl ?_
              refine zw_iload_n 56 f22_55 rfl zl1_eq ?_
              refine zw_if_eq_t 63 f22_56 (by decide +kernel) (by decide +kernel) ?_
              refine zw_iconst (-1) 64 f22_63 rfl (by decide +kernel) ?_
              refine zw_ireturn f22_64 r22 u22 ?_
              exact ⟨rfl, ⟨_, rfl⟩⟩
            · refine zw_iconst 1 50 f22_49 rfl (by decide +kernel) ?_
              refine zw_goto 54 f22_50 (by decide +kernel) ?_
              refine zw_istore_n _ 55 f22_54 rfl (by decide +kernel) rfl ?_
              refine zw_iload_n 56 f22_55 rfl zl1_eq ?_
              refine zw_if_eq_f 59 63 f22_56 (by decide +kernel) rfl (by decide +kernel) ?_
              refine zw_iload_n 60 f22_59 rfl (zl1_ne rfl rfl zl1_eq) ?_
              refine zw_goto 64 f22_60 (by decide +kernel) ?_
              refine zw_ireturn f22_64 r22 u22 ?_
              exact ⟨rfl, ⟨_, rfl⟩⟩
    · refine zw_iconst (-1) 11 f22_10 rfl (by decide +kernel) ?_
      refine zw_ireturn f22_11 r22 u22 ?_
      exact ⟨rfl, ⟨_, rfl⟩⟩
set_option maxRecDepth 100000 in
set_option maxHeartbeats 0 in
theorem cp_X9_isOpen_12 (ro : UInt32 → Nat × (Nat → Int32)) (nv np : Nat) (I : Nat → Nat → Int32) (G : Nat → Nat → Int64) (A : Nat → Nat → Int32) (B : Nat → Nat → Int64) (hI : CI nv np I) (a : Int32) : zWp ro 43 0 [(0, .ref 12), (1, .int a)] [] (hS I G A B) 0 0 (fun r h1 => h1 = hS I G A B ∧ zRt2 r) := by
  have hnv := hI.1.2
  have hnp := hI.2.1.2
  refine zw_aload_n 1 f43_0 rfl rfl ?_
  refine zx_getI 4 f43_1 rfl g43_38_9 (hb_12 _ _ _ _) rfl (fun w1 hw1 => ?_)
  refine zw_iload_n 5 f43_4 rfl rfl ?_
  refine zx_ishr 6 f43_5 rfl (fun w2 hw2 => ?_)
  refine zw_iconst 1 7 f43_6 rfl (by decide +kernel) ?_
  refine zx_iand 8 f43_7 rfl (fun w3 hw3 => ?_)
  refine zw_if_eq 11 15 f43_8 (by decide +kernel) rfl (fun hc4 => ?_) (fun hc4 => ?_)
  · refine zw_iconst 0 16 f43_15 rfl (by decide +kernel) ?_
    refine zw_zreturn f43_16 r43 u43 (by decide +kernel) ?_
    exact ⟨rfl, ⟨_, rfl, (by decide +kernel)⟩⟩
  · refine zw_iconst 1 12 f43_11 rfl (by decide +kernel) ?_
    refine zw_goto 16 f43_12 (by decide +kernel) ?_
    refine zw_zreturn f43_16 r43 u43 (by decide +kernel) ?_
    exact ⟨rfl, ⟨_, rfl, (by decide +kernel)⟩⟩
set_option maxRecDepth 100000 in
set_option maxHeartbeats 0 in
theorem cp_X9_isSiphoning_12 (ro : UInt32 → Nat × (Nat → Int32)) (nv np : Nat) (I : Nat → Nat → Int32) (G : Nat → Nat → Int64) (A : Nat → Nat → Int32) (B : Nat → Nat → Int64) (hI : CI nv np I) (a : Int32) : zWp ro 45 0 [(0, .ref 12), (1, .int a)] [] (hS I G A B) 0 0 (fun r h1 => h1 = hS I G A B ∧ zRt2 r) := by
  have hnv := hI.1.2
  have hnp := hI.2.1.2
  refine zw_aload_n 1 f45_0 rfl rfl ?_
  refine zx_getI 4 f45_1 rfl g45_42_9 (hb_12 _ _ _ _) rfl (fun w1 hw1 => ?_)
  refine zw_iload_n 5 f45_4 rfl rfl ?_
  refine zx_ishr 6 f45_5 rfl (fun w2 hw2 => ?_)
  refine zw_iconst 1 7 f45_6 rfl (by decide +kernel) ?_
  refine zx_iand 8 f45_7 rfl (fun w3 hw3 => ?_)
  refine zw_if_eq 11 15 f45_8 (by decide +kernel) rfl (fun hc4 => ?_) (fun hc4 => ?_)
  · refine zw_iconst 0 16 f45_15 rfl (by decide +kernel) ?_
    refine zw_zreturn f45_16 r45 u45 (by decide +kernel) ?_
    exact ⟨rfl, ⟨_, rfl, (by decide +kernel)⟩⟩
  · refine zw_iconst 1 12 f45_11 rfl (by decide +kernel) ?_
    refine zw_goto 16 f45_12 (by decide +kernel) ?_
    refine zw_zreturn f45_16 r45 u45 (by decide +kernel) ?_
    exact ⟨rfl, ⟨_, rfl, (by decide +kernel)⟩⟩
set_option maxRecDepth 100000 in
set_option maxHeartbeats 0 in
theorem ck_X9_setOpen_12 (ro : UInt32 → Nat × (Nat → Int32)) (nv np : Nat) (I : Nat → Nat → Int32) (G : Nat → Nat → Int64) (A : Nat → Nat → Int32) (B : Nat → Nat → Int64) (hI : CI nv np I) (a : Int32) (b : Int32) : zWp ro 44 0 [(0, .ref 12), (1, .int a), (2, .int b)] [] (hS I G A B) 0 0 (zWk pW nv np I G A B zRt0) := by
  have hnv := hI.1.2
  have hnp := hI.2.1.2
  refine zw_aload_n 1 f44_0 rfl rfl ?_
  refine zw_iload_n 2 f44_1 rfl rfl ?_
  refine zw_if_eq 5 16 f44_2 (by decide +kernel) rfl (fun hc1 => ?_) (fun hc1 => ?_)
  · refine zw_aload_n 17 f44_16 rfl rfl ?_
    refine zx_getI 20 f44_17 rfl g44_38_9 (hb_12 _ _ _ _) rfl (fun w2 hw2 => ?_)
    refine zw_iconst 1 21 f44_20 rfl (by decide +kernel) ?_
    refine zw_iload_n 22 f44_21 rfl rfl ?_
    refine zx_ishl 23 f44_22 rfl (fun w3 hw3 => ?_)
    refine zw_iconst (-1) 24 f44_23 rfl (by decide +kernel) ?_
    refine zx_ixor 25 f44_24 rfl (fun w4 hw4 => ?_)
    refine zx_iand 26 f44_25 rfl (fun w5 hw5 => ?_)
    refine zw_put _ 29 f44_26 rfl g44_38_9 (hb_12 _ _ _ _) rfl (Nat.le_of_ble_eq_true rfl) (by decide +kernel) (hi_12_5 _ _ _ _ _) ?_
    refine zw_vreturn f44_29 r44 u44 ?_
    exact ⟨_, _, _, _, rfl, (KP.i rfl KP.rf), hI, rfl⟩
  · refine zw_aload_n 6 f44_5 rfl rfl ?_
    refine zx_getI 9 f44_6 rfl g44_38_9 (hb_12 _ _ _ _) rfl (fun w6 hw6 => ?_)
    refine zw_iconst 1 10 f44_9 rfl (by decide +kernel) ?_
    refine zw_iload_n 11 f44_10 rfl rfl ?_
    refine zx_ishl 12 f44_11 rfl (fun w7 hw7 => ?_)
    refine zx_ior 13 f44_12 rfl (fun w8 hw8 => ?_)
    refine zw_goto 26 f44_13 (by decide +kernel) ?_
    refine zw_put _ 29 f44_26 rfl g44_38_9 (hb_12 _ _ _ _) rfl (Nat.le_of_ble_eq_true rfl) (by decide +kernel) (hi_12_5 _ _ _ _ _) ?_
    refine zw_vreturn f44_29 r44 u44 ?_
    exact ⟨_, _, _, _, rfl, (KP.i rfl KP.rf), hI, rfl⟩
set_option maxRecDepth 100000 in
set_option maxHeartbeats 0 in
theorem ck_X9_setSiphoning_12 (ro : UInt32 → Nat × (Nat → Int32)) (nv np : Nat) (I : Nat → Nat → Int32) (G : Nat → Nat → Int64) (A : Nat → Nat → Int32) (B : Nat → Nat → Int64) (hI : CI nv np I) (a : Int32) (b : Int32) : zWp ro 46 0 [(0, .ref 12), (1, .int a), (2, .int b)] [] (hS I G A B) 0 0 (zWk pW nv np I G A B zRt0) := by
  have hnv := hI.1.2
  have hnp := hI.2.1.2
  refine zw_aload_n 1 f46_0 rfl rfl ?_
  refine zw_iload_n 2 f46_1 rfl rfl ?_
  refine zw_if_eq 5 16 f46_2 (by decide +kernel) rfl (fun hc1 => ?_) (fun hc1 => ?_)
  · refine zw_aload_n 17 f46_16 rfl rfl ?_
    refine zx_getI 20 f46_17 rfl g46_42_9 (hb_12 _ _ _ _) rfl (fun w2 hw2 => ?_)
    refine zw_iconst 1 21 f46_20 rfl (by decide +kernel) ?_
    refine zw_iload_n 22 f46_21 rfl rfl ?_
    refine zx_ishl 23 f46_22 rfl (fun w3 hw3 => ?_)
    refine zw_iconst (-1) 24 f46_23 rfl (by decide +kernel) ?_
    refine zx_ixor 25 f46_24 rfl (fun w4 hw4 => ?_)
    refine zx_iand 26 f46_25 rfl (fun w5 hw5 => ?_)
    refine zw_put _ 29 f46_26 rfl g46_42_9 (hb_12 _ _ _ _) rfl (Nat.le_of_ble_eq_true rfl) (by decide +kernel) (hi_12_6 _ _ _ _ _) ?_
    refine zw_vreturn f46_29 r46 u46 ?_
    exact ⟨_, _, _, _, rfl, (KP.i rfl KP.rf), hI, rfl⟩
  · refine zw_aload_n 6 f46_5 rfl rfl ?_
    refine zx_getI 9 f46_6 rfl g46_42_9 (hb_12 _ _ _ _) rfl (fun w6 hw6 => ?_)
    refine zw_iconst 1 10 f46_9 rfl (by decide +kernel) ?_
    refine zw_iload_n 11 f46_10 rfl rfl ?_
    refine zx_ishl 12 f46_11 rfl (fun w7 hw7 => ?_)
    refine zx_ior 13 f46_12 rfl (fun w8 hw8 => ?_)
    refine zw_goto 26 f46_13 (by decide +kernel) ?_
    refine zw_put _ 29 f46_26 rfl g46_42_9 (hb_12 _ _ _ _) rfl (Nat.le_of_ble_eq_true rfl) (by decide +kernel) (hi_12_6 _ _ _ _ _) ?_
    refine zw_vreturn f46_29 r46 u46 ?_
    exact ⟨_, _, _, _, rfl, (KP.i rfl KP.rf), hI, rfl⟩
set_option maxRecDepth 100000 in
set_option maxHeartbeats 0 in
theorem cp_X9_isOpen_23 (ro : UInt32 → Nat × (Nat → Int32)) (nv np : Nat) (I : Nat → Nat → Int32) (G : Nat → Nat → Int64) (A : Nat → Nat → Int32) (B : Nat → Nat → Int64) (hI : CI nv np I) (a : Int32) : zWp ro 43 0 [(0, .ref 23), (1, .int a)] [] (hS I G A B) 0 0 (fun r h1 => h1 = hS I G A B ∧ zRt2 r) := by
  have hnv := hI.1.2
  have hnp := hI.2.1.2
  refine zw_aload_n 1 f43_0 rfl rfl ?_
  refine zx_getI 4 f43_1 rfl g43_38_9 (hb_23 _ _ _ _) rfl (fun w1 hw1 => ?_)
  refine zw_iload_n 5 f43_4 rfl rfl ?_
  refine zx_ishr 6 f43_5 rfl (fun w2 hw2 => ?_)
  refine zw_iconst 1 7 f43_6 rfl (by decide +kernel) ?_
  refine zx_iand 8 f43_7 rfl (fun w3 hw3 => ?_)
  refine zw_if_eq 11 15 f43_8 (by decide +kernel) rfl (fun hc4 => ?_) (fun hc4 => ?_)
  · refine zw_iconst 0 16 f43_15 rfl (by decide +kernel) ?_
    refine zw_zreturn f43_16 r43 u43 (by decide +kernel) ?_
    exact ⟨rfl, ⟨_, rfl, (by decide +kernel)⟩⟩
  · refine zw_iconst 1 12 f43_11 rfl (by decide +kernel) ?_
    refine zw_goto 16 f43_12 (by decide +kernel) ?_
    refine zw_zreturn f43_16 r43 u43 (by decide +kernel) ?_
    exact ⟨rfl, ⟨_, rfl, (by decide +kernel)⟩⟩
set_option maxRecDepth 100000 in
set_option maxHeartbeats 0 in
theorem cp_X9_isSiphoning_23 (ro : UInt32 → Nat × (Nat → Int32)) (nv np : Nat) (I : Nat → Nat → Int32) (G : Nat → Nat → Int64) (A : Nat → Nat → Int32) (B : Nat → Nat → Int64) (hI : CI nv np I) (a : Int32) : zWp ro 45 0 [(0, .ref 23), (1, .int a)] [] (hS I G A B) 0 0 (fun r h1 => h1 = hS I G A B ∧ zRt2 r) := by
  have hnv := hI.1.2
  have hnp := hI.2.1.2
  refine zw_aload_n 1 f45_0 rfl rfl ?_
  refine zx_getI 4 f45_1 rfl g45_42_9 (hb_23 _ _ _ _) rfl (fun w1 hw1 => ?_)
  refine zw_iload_n 5 f45_4 rfl rfl ?_
  refine zx_ishr 6 f45_5 rfl (fun w2 hw2 => ?_)
  refine zw_iconst 1 7 f45_6 rfl (by decide +kernel) ?_
  refine zx_iand 8 f45_7 rfl (fun w3 hw3 => ?_)
  refine zw_if_eq 11 15 f45_8 (by decide +kernel) rfl (fun hc4 => ?_) (fun hc4 => ?_)
  · refine zw_iconst 0 16 f45_15 rfl (by decide +kernel) ?_
    refine zw_zreturn f45_16 r45 u45 (by decide +kernel) ?_
    exact ⟨rfl, ⟨_, rfl, (by decide +kernel)⟩⟩
  · refine zw_iconst 1 12 f45_11 rfl (by decide +kernel) ?_
    refine zw_goto 16 f45_12 (by decide +kernel) ?_
    refine zw_zreturn f45_16 r45 u45 (by decide +kernel) ?_
    exact ⟨rfl, ⟨_, rfl, (by decide +kernel)⟩⟩
set_option maxRecDepth 100000 in
set_option maxHeartbeats 0 in
theorem ck_X9_setOpen_23 (ro : UInt32 → Nat × (Nat → Int32)) (nv np : Nat) (I : Nat → Nat → Int32) (G : Nat → Nat → Int64) (A : Nat → Nat → Int32) (B : Nat → Nat → Int64) (hI : CI nv np I) (a : Int32) (b : Int32) : zWp ro 44 0 [(0, .ref 23), (1, .int a), (2, .int b)] [] (hS I G A B) 0 0 (zWk pW nv np I G A B zRt0) := by
  have hnv := hI.1.2
  have hnp := hI.2.1.2
  refine zw_aload_n 1 f44_0 rfl rfl ?_
  refine zw_iload_n 2 f44_1 rfl rfl ?_
  refine zw_if_eq 5 16 f44_2 (by decide +kernel) rfl (fun hc1 => ?_) (fun hc1 => ?_)
  · refine zw_aload_n 17 f44_16 rfl rfl ?_
    refine zx_getI 20 f44_17 rfl g44_38_9 (hb_23 _ _ _ _) rfl (fun w2 hw2 => ?_)
    refine zw_iconst 1 21 f44_20 rfl (by decide +kernel) ?_
    refine zw_iload_n 22 f44_21 rfl rfl ?_
    refine zx_ishl 23 f44_22 rfl (fun w3 hw3 => ?_)
    refine zw_iconst (-1) 24 f44_23 rfl (by decide +kernel) ?_
    refine zx_ixor 25 f44_24 rfl (fun w4 hw4 => ?_)
    refine zx_iand 26 f44_25 rfl (fun w5 hw5 => ?_)
    refine zw_put _ 29 f44_26 rfl g44_38_9 (hb_23 _ _ _ _) rfl (Nat.le_of_ble_eq_true rfl) (by decide +kernel) (hi_23_5 _ _ _ _ _) ?_
    refine zw_vreturn f44_29 r44 u44 ?_
    exact ⟨_, _, _, _, rfl, (KP.i rfl KP.rf), hI, rfl⟩
  · refine zw_aload_n 6 f44_5 rfl rfl ?_
    refine zx_getI 9 f44_6 rfl g44_38_9 (hb_23 _ _ _ _) rfl (fun w6 hw6 => ?_)
    refine zw_iconst 1 10 f44_9 rfl (by decide +kernel) ?_
    refine zw_iload_n 11 f44_10 rfl rfl ?_
    refine zx_ishl 12 f44_11 rfl (fun w7 hw7 => ?_)
    refine zx_ior 13 f44_12 rfl (fun w8 hw8 => ?_)
    refine zw_goto 26 f44_13 (by decide +kernel) ?_
    refine zw_put _ 29 f44_26 rfl g44_38_9 (hb_23 _ _ _ _) rfl (Nat.le_of_ble_eq_true rfl) (by decide +kernel) (hi_23_5 _ _ _ _ _) ?_
    refine zw_vreturn f44_29 r44 u44 ?_
    exact ⟨_, _, _, _, rfl, (KP.i rfl KP.rf), hI, rfl⟩
set_option maxRecDepth 100000 in
set_option maxHeartbeats 0 in
theorem ck_X9_setSiphoning_23 (ro : UInt32 → Nat × (Nat → Int32)) (nv np : Nat) (I : Nat → Nat → Int32) (G : Nat → Nat → Int64) (A : Nat → Nat → Int32) (B : Nat → Nat → Int64) (hI : CI nv np I) (a : Int32) (b : Int32) : zWp ro 46 0 [(0, .ref 23), (1, .int a), (2, .int b)] [] (hS I G A B) 0 0 (zWk pW nv np I G A B zRt0) := by
  have hnv := hI.1.2
  have hnp := hI.2.1.2
  refine zw_aload_n 1 f46_0 rfl rfl ?_
  refine zw_iload_n 2 f46_1 rfl rfl ?_
  refine zw_if_eq 5 16 f46_2 (by decide +kernel) rfl (fun hc1 => ?_) (fun hc1 => ?_)
  · refine zw_aload_n 17 f46_16 rfl rfl ?_
    refine zx_getI 20 f46_17 rfl g46_42_9 (hb_23 _ _ _ _) rfl (fun w2 hw2 => ?_)
    refine zw_iconst 1 21 f46_20 rfl (by decide +kernel) ?_
    refine zw_iload_n 22 f46_21 rfl rfl ?_
    refine zx_ishl 23 f46_22 rfl (fun w3 hw3 => ?_)
    refine zw_iconst (-1) 24 f46_23 rfl (by decide +kernel) ?_
    refine zx_ixor 25 f46_24 rfl (fun w4 hw4 => ?_)
    refine zx_iand 26 f46_25 rfl (fun w5 hw5 => ?_)
    refine zw_put _ 29 f46_26 rfl g46_42_9 (hb_23 _ _ _ _) rfl (Nat.le_of_ble_eq_true rfl) (by decide +kernel) (hi_23_6 _ _ _ _ _) ?_
    refine zw_vreturn f46_29 r46 u46 ?_
    exact ⟨_, _, _, _, rfl, (KP.i rfl KP.rf), hI, rfl⟩
  · refine zw_aload_n 6 f46_5 rfl rfl ?_
    refine zx_getI 9 f46_6 rfl g46_42_9 (hb_23 _ _ _ _) rfl (fun w6 hw6 => ?_)
    refine zw_iconst 1 10 f46_9 rfl (by decide +kernel) ?_
    refine zw_iload_n 11 f46_10 rfl rfl ?_
    refine zx_ishl 12 f46_11 rfl (fun w7 hw7 => ?_)
    refine zx_ior 13 f46_12 rfl (fun w8 hw8 => ?_)
    refine zw_goto 26 f46_13 (by decide +kernel) ?_
    refine zw_put _ 29 f46_26 rfl g46_42_9 (hb_23 _ _ _ _) rfl (Nat.le_of_ble_eq_true rfl) (by decide +kernel) (hi_23_6 _ _ _ _ _) ?_
    refine zw_vreturn f46_29 r46 u46 ?_
    exact ⟨_, _, _, _, rfl, (KP.i rfl KP.rf), hI, rfl⟩
set_option maxRecDepth 100000 in
set_option maxHeartbeats 0 in
theorem cp_J9_min_7cf53 (ro : UInt32 → Nat × (Nat → Int32)) (nv np : Nat) (I : Nat → Nat → Int32) (G : Nat → Nat → Int64) (A : Nat → Nat → Int32) (B : Nat → Nat → Int64) (hI : CI nv np I) (a : Int32) (b : Int32) : zWp ro 187 0 [(0, .int a), (1, .int b)] [] (hS I G A B) 0 0 (fun r h1 => h1 = hS I G A B ∧ zRt1 r) := by
  have hnv := hI.1.2
  have hnp := hI.2.1.2
  refine zw_iload_n 1 f187_0 rfl rfl ?_
  refine zw_iload_n 2 f187_1 rfl rfl ?_
  refine zw_ic_gt 5 9 f187_2 (by decide +kernel) rfl (fun hc1 => ?_) (fun hc1 => ?_)
  · refine zw_iload_n 10 f187_9 rfl rfl ?_
    refine zw_ireturn f187_10 r187 u187 ?_
    exact ⟨rfl, ⟨_, rfl⟩⟩
  · refine zw_iload_n 6 f187_5 rfl rfl ?_
    refine zw_goto 10 f187_6 (by decide +kernel) ?_
    refine zw_ireturn f187_10 r187 u187 ?_
    exact ⟨rfl, ⟨_, rfl⟩⟩
set_option maxRecDepth 100000 in
set_option maxHeartbeats 0 in
theorem cp_J9_min_f86c9 (ro : UInt32 → Nat × (Nat → Int32)) (nv np : Nat) (I : Nat → Nat → Int32) (G : Nat → Nat → Int64) (A : Nat → Nat → Int32) (B : Nat → Nat → Int64) (hI : CI nv np I) (a : Int64) (b : Int64) : zWp ro 188 0 [(0, .long a), (2, .long b)] [] (hS I G A B) 0 0 (fun r h1 => h1 = hS I G A B ∧ zRt3 r) := by
  have hnv := hI.1.2
  have hnp := hI.2.1.2
  refine zw_lload_n 1 f188_0 rfl rfl ?_
  refine zw_lload_n 2 f188_1 rfl rfl ?_
  refine zx_lcmp 3 f188_2 rfl (fun w1 hw1 => ?_)
  refine zw_if_gt 6 10 f188_3 (by decide +kernel) rfl (fun hc2 => ?_) (fun hc2 => ?_)
  · refine zw_lload_n 11 f188_10 rfl rfl ?_
    refine zw_lreturn f188_11 r188 u188 ?_
    exact ⟨rfl, ⟨_, rfl⟩⟩
  · refine zw_lload_n 7 f188_6 rfl rfl ?_
    refine zw_goto 11 f188_7 (by decide +kernel) ?_
    refine zw_lreturn f188_11 r188 u188 ?_
    exact ⟨rfl, ⟨_, rfl⟩⟩
set_option maxRecDepth 100000 in
set_option maxHeartbeats 0 in
theorem lcp_X11_gcd_9 (ro : UInt32 → Nat × (Nat → Int32)) (nv np : Nat) (I : Nat → Nat → Int32) (G : Nat → Nat → Int64) (A : Nat → Nat → Int32) (B : Nat → Nat → Int64) (hI : CI nv np I) (a : Int64) (b : Int64) : ∀ (n k : Nat) (ls : List (Nat × Value)), ∀ (y4 : Int64) (y6 : Int64), True → zld ls 0 = some (.long a) → zld ls 2 = some (.long b) → zld ls 4 = some (.long y4) → zld ls 6 = some (.long y6) → zld ls 8 = some (.int (nI k)) → k ≤ 200 → 200 + 1 ≤ k + n → zWp ro 115 9 ls [] (hS I G A B) 0 0 (fun r h1 => h1 = hS I G A B ∧ zRt3 r) := by
  have hnv := hI.1.2
  have hnp := hI.2.1.2
  intro n
  induction n with
  | zero =>
    intro k ls y4 y6 _ hl0 hl2 hl4 hl6 hl8 h1 h2
    exact absurd h2 (by omega)
  | succ n ih =>
    intro k ls y4 y6 _ hl0 hl2 hl4 hl6 hl8 hk1 hk2
    refine zw_iload 11 f115_9 rfl hl8 ?_
    refine zw_sipush 200 14 f115_11 rfl (by decide +kernel) ?_
    refine zw_ic_ge 17 45 f115_14 (by decide +kernel) rfl (fun hc1 => ?_) (fun hc1 => ?_)
    · have hn_hc1 : 200 ≤ k := zn_ge (by omega) (by omega) hc1
      refine zw_lload 47 f115_45 rfl hl4 ?_
      refine zw_lconst 0 48 f115_47 rfl (by decide +kernel) ?_
      refine zx_lcmp 49 f115_48 rfl (fun w2 hw2 => ?_)
      refine zw_if_ne 52 56 f115_49 (by decide +kernel) rfl (fun hc3 => ?_) (fun hc3 => ?_)
      · refine zw_lload 58 f115_56 rfl hl4 ?_
        refine zw_lreturn f115_58 r115 u115 ?_
        exact ⟨rfl, ⟨_, rfl⟩⟩
      · refine zw_lconst 1 53 f115_52 rfl (by decide +kernel) ?_
        refine zw_goto 58 f115_53 (by decide +kernel) ?_
        refine zw_lreturn f115_58 r115 u115 ?_
        exact ⟨rfl, ⟨_, rfl⟩⟩
    · have hn_hc1 : k < 200 := zn_lt (by omega) (by omega) hc1
      refine zw_lload 19 f115_17 rfl hl6 ?_
      refine zw_lconst 0 20 f115_19 rfl (by decide +kernel) ?_
      refine zx_lcmp 21 f115_20 rfl (fun w4 hw4 => ?_)
      refine zw_if_eq 24 45 f115_21 (by decide +kernel) rfl (fun hc5 => ?_) (fun hc5 => ?_)
      · refine zw_lload 47 f115_45 rfl hl4 ?_
        refine zw_lconst 0 48 f115_47 rfl (by decide +kernel) ?_
        refine zx_lcmp 49 f115_48 rfl (fun w6 hw6 => ?_)
        refine zw_if_ne 52 56 f115_49 (by decide +kernel) rfl (fun hc7 => ?_) (fun hc7 => ?_)
        · refine zw_lload 58 f115_56 rfl hl4 ?_
          refine zw_lreturn f115_58 r115 u115 ?_
          exact ⟨rfl, ⟨_, rfl⟩⟩
        · refine zw_lconst 1 53 f115_52 rfl (by decide +kernel) ?_
          refine zw_goto 58 f115_53 (by decide +kernel) ?_
          refine zw_lreturn f115_58 r115 u115 ?_
          exact ⟨rfl, ⟨_, rfl⟩⟩
      · refine zw_lload 26 f115_24 rfl hl4 ?_
        refine zw_lload 28 f115_26 rfl hl6 ?_
        refine zx_lrem 29 f115_28 rfl (zl_cmp0 hw4 hc5) (fun w8 hw8 => ?_)
        refine zw_lstore _ 31 f115_29 rfl (by decide +kernel) rfl ?_
        refine zw_lload 33 f115_31 rfl (zl2_ne rfl rfl hl6) ?_
        refine zw_lstore _ 35 f115_33 rfl (by decide +kernel) rfl ?_
        refine zw_lload 37 f115_35 rfl (zl2_ne rfl rfl zl2_eq) ?_
        refine zw_lstore _ 39 f115_37 rfl (by decide +kernel) rfl ?_
        refine zw_iinc (nI (k + 1)) _ 42 f115_39 rfl (zl2_ne rfl rfl (zl2_ne rfl rfl (zl2_ne rfl rfl hl8))) (by decide +kernel) (nI_1 _) rfl ?_
        refine zw_goto 9 f115_42 (by decide +kernel) ?_
        exact ih ((k + 1)) _ y6 w8 trivial  (zl1_ne rfl rfl (zl2_ne rfl rfl (zl2_ne rfl rfl (zl2_ne rfl rfl hl0)))) (zl1_ne rfl rfl (zl2_ne rfl rfl (zl2_ne rfl rfl (zl2_ne rfl rfl hl2)))) (zl1_ne rfl rfl (zl2_ne rfl rfl zl2_eq)) (zl1_ne rfl rfl zl2_eq) zl1_eq (by omega) (by omega)
set_option maxRecDepth 100000 in
set_option maxHeartbeats 0 in
theorem cp_X11_gcd (ro : UInt32 → Nat × (Nat → Int32)) (nv np : Nat) (I : Nat → Nat → Int32) (G : Nat → Nat → Int64) (A : Nat → Nat → Int32) (B : Nat → Nat → Int64) (hI : CI nv np I) (a : Int64) (b : Int64) : zWp ro 115 0 [(0, .long a), (2, .long b)] [] (hS I G A B) 0 0 (fun r h1 => h1 = hS I G A B ∧ zRt3 r) := by
  have hnv := hI.1.2
  have hnp := hI.2.1.2
  refine zw_lload_n 1 f115_0 rfl rfl ?_
  refine zw_lstore _ 3 f115_1 rfl (by decide +kernel) rfl ?_
  refine zw_lload_n 4 f115_3 rfl (zl2_ne rfl rfl rfl) ?_
  refine zw_lstore _ 6 f115_4 rfl (by decide +kernel) rfl ?_
  refine zw_iconst 0 7 f115_6 rfl (by decide +kernel) ?_
  refine zw_istore _ 9 f115_7 rfl (by decide +kernel) rfl ?_
  exact lcp_X11_gcd_9 ro nv np I G A B hI a b (200 + 1) 0 _ a b trivial  (zl1_ne rfl rfl (zl2_ne rfl rfl (zl2_ne rfl rfl rfl))) (zl1_ne rfl rfl (zl2_ne rfl rfl (zl2_ne rfl rfl rfl))) (zl1_ne rfl rfl (zl2_ne rfl rfl zl2_eq)) (zl1_ne rfl rfl zl2_eq) (show zld _ _ = some (.int (nI 0)) from zl1_eq) (by omega) (by omega)
set_option maxRecDepth 100000 in
set_option maxHeartbeats 0 in
theorem cp_X11_above (ro : UInt32 → Nat × (Nat → Int32)) (nv np : Nat) (I : Nat → Nat → Int32) (G : Nat → Nat → Int64) (A : Nat → Nat → Int32) (B : Nat → Nat → Int64) (hI : CI nv np I) (a : Int64) (b : Int64) : zWp ro 116 0 [(0, .long a), (2, .long b)] [] (hS I G A B) 0 0 (fun r h1 => h1 = hS I G A B ∧ zRt3 r) := by
  have hnv := hI.1.2
  have hnp := hI.2.1.2
  refine zw_lload_n 1 f116_0 rfl rfl ?_
  refine zw_lload_n 2 f116_1 rfl rfl ?_
  refine zw_static_l 5 0 0 [.long a, .long b] [] [(0, .long a), (2, .long b)] f116_2 rfl k116_336_99 rfl (by decide +kernel) (Nat.le_of_ble_eq_true rfl) (Nat.le_of_ble_eq_true rfl) rfl rfl (by decide +kernel) (by decide +kernel) rfl (Nat.le_of_ble_eq_true rfl) rfl ?_
  refine zWp.mono (cp_X11_gcd ro nv np I _ _ _ hI a b) ?_
  rintro r h1 ⟨rfl, ⟨w1, rfl⟩⟩
  refine ⟨_, rfl, ?_⟩
  refine zw_lstore _ 7 f116_5 rfl (by decide +kernel) rfl ?_
  refine zw_lload 9 f116_7 rfl zl2_eq ?_
  refine zw_lconst 0 10 f116_9 rfl (by decide +kernel) ?_
  refine zx_lcmp 11 f116_10 rfl (fun w2 hw2 => ?_)
  refine zw_if_ne 14 18 f116_11 (by decide +kernel) rfl (fun hc3 => ?_) (fun hc3 => ?_)
  · refine zw_lload_n 19 f116_18 rfl (zl2_ne rfl rfl rfl) ?_
    refine zw_lload 21 f116_19 rfl zl2_eq ?_
    refine zx_ldiv 22 f116_21 rfl (zl_cmp0 hw2 hc3) (fun w4 hw4 => ?_)
    refine zw_lreturn f116_22 r116 u116 ?_
    exact ⟨rfl, ⟨_, rfl⟩⟩
  · refine zw_lload_n 15 f116_14 rfl (zl2_ne rfl rfl rfl) ?_
    refine zw_goto 22 f116_15 (by decide +kernel) ?_
    refine zw_lreturn f116_22 r116 u116 ?_
    exact ⟨rfl, ⟨_, rfl⟩⟩
set_option maxRecDepth 100000 in
set_option maxHeartbeats 0 in
theorem cp_X11_below (ro : UInt32 → Nat × (Nat → Int32)) (nv np : Nat) (I : Nat → Nat → Int32) (G : Nat → Nat → Int64) (A : Nat → Nat → Int32) (B : Nat → Nat → Int64) (hI : CI nv np I) (a : Int64) (b : Int64) : zWp ro 117 0 [(0, .long a), (2, .long b)] [] (hS I G A B) 0 0 (fun r h1 => h1 = hS I G A B ∧ zRt3 r) := by
  have hnv := hI.1.2
  have hnp := hI.2.1.2
  refine zw_lload_n 1 f117_0 rfl rfl ?_
  refine zw_lload_n 2 f117_1 rfl rfl ?_
  refine zw_static_l 5 0 0 [.long a, .long b] [] [(0, .long a), (2, .long b)] f117_2 rfl k117_336_99 rfl (by decide +kernel) (Nat.le_of_ble_eq_true rfl) (Nat.le_of_ble_eq_true rfl) rfl rfl (by decide +kernel) (by decide +kernel) rfl (Nat.le_of_ble_eq_true rfl) rfl ?_
  refine zWp.mono (cp_X11_gcd ro nv np I _ _ _ hI a b) ?_
  rintro r h1 ⟨rfl, ⟨w1, rfl⟩⟩
  refine ⟨_, rfl, ?_⟩
  refine zw_lstore _ 7 f117_5 rfl (by decide +kernel) rfl ?_
  refine zw_lload 9 f117_7 rfl zl2_eq ?_
  refine zw_lconst 0 10 f117_9 rfl (by decide +kernel) ?_
  refine zx_lcmp 11 f117_10 rfl (fun w2 hw2 => ?_)
  refine zw_if_ne 14 18 f117_11 (by decide +kernel) rfl (fun hc3 => ?_) (fun hc3 => ?_)
  · refine zw_lload_n 19 f117_18 rfl (zl2_ne rfl rfl rfl) ?_
    refine zw_lload 21 f117_19 rfl zl2_eq ?_
    refine zx_ldiv 22 f117_21 rfl (zl_cmp0 hw2 hc3) (fun w4 hw4 => ?_)
    refine zw_lreturn f117_22 r117 u117 ?_
    exact ⟨rfl, ⟨_, rfl⟩⟩
  · refine zw_lload_n 15 f117_14 rfl (zl2_ne rfl rfl rfl) ?_
    refine zw_goto 22 f117_15 (by decide +kernel) ?_
    refine zw_lreturn f117_22 r117 u117 ?_
    exact ⟨rfl, ⟨_, rfl⟩⟩
set_option maxRecDepth 100000 in
set_option maxHeartbeats 0 in
theorem cp_X11_part (ro : UInt32 → Nat × (Nat → Int32)) (nv np : Nat) (I : Nat → Nat → Int32) (G : Nat → Nat → Int64) (A : Nat → Nat → Int32) (B : Nat → Nat → Int64) (hI : CI nv np I) (a : Int64) (b : Int64) (c : Int32) : zWp ro 118 0 [(0, .long a), (2, .long b), (4, .int c)] [] (hS I G A B) 0 0 (fun r h1 => h1 = hS I G A B ∧ zRt3 r) := by
  have hnv := hI.1.2
  have hnp := hI.2.1.2
  refine zw_iload 2 f118_0 rfl rfl ?_
  refine zw_if_ne 5 13 f118_2 (by decide +kernel) rfl (fun hc1 => ?_) (fun hc1 => ?_)
  · refine zw_lload_n 14 f118_13 rfl rfl ?_
    refine zw_lload_n 15 f118_14 rfl rfl ?_
    refine zw_static_l 18 0 0 [.long a, .long b] [] [(0, .long a), (2, .long b)] f118_15 rfl k118_198_99 rfl (by decide +kernel) (Nat.le_of_ble_eq_true rfl) (Nat.le_of_ble_eq_true rfl) rfl rfl (by decide +kernel) (by decide +kernel) rfl (Nat.le_of_ble_eq_true rfl) rfl ?_
    refine zWp.mono (cp_X11_below ro nv np I _ _ _ hI a b) ?_
    rintro r h1 ⟨rfl, ⟨w2, rfl⟩⟩
    refine ⟨_, rfl, ?_⟩
    refine zw_lreturn f118_18 r118 u118 ?_
    exact ⟨rfl, ⟨_, rfl⟩⟩
  · refine zw_lload_n 6 f118_5 rfl rfl ?_
    refine zw_lload_n 7 f118_6 rfl rfl ?_
    refine zw_static_l 10 0 0 [.long a, .long b] [] [(0, .long a), (2, .long b)] f118_7 rfl k118_194_99 rfl (by decide +kernel) (Nat.le_of_ble_eq_true rfl) (Nat.le_of_ble_eq_true rfl) rfl rfl (by decide +kernel) (by decide +kernel) rfl (Nat.le_of_ble_eq_true rfl) rfl ?_
    refine zWp.mono (cp_X11_above ro nv np I _ _ _ hI a b) ?_
    rintro r h1 ⟨rfl, ⟨w3, rfl⟩⟩
    refine ⟨_, rfl, ?_⟩
    refine zw_goto 18 f118_10 (by decide +kernel) ?_
    refine zw_lreturn f118_18 r118 u118 ?_
    exact ⟨rfl, ⟨_, rfl⟩⟩
set_option maxRecDepth 100000 in
set_option maxHeartbeats 0 in
theorem cp_X10_runs_11 (ro : UInt32 → Nat × (Nat → Int32)) (nv np : Nat) (I : Nat → Nat → Int32) (G : Nat → Nat → Int64) (A : Nat → Nat → Int32) (B : Nat → Nat → Int64) (hI : CI nv np I) (a : Int32) : zWp ro 48 0 [(0, .ref 11), (1, .int a)] [] (hS I G A B) 0 0 (fun r h1 => h1 = hS I G A B ∧ zRt2 r) := by
  have hnv := hI.1.2
  have hnp := hI.2.1.2
  refine zw_aload_n 1 f48_0 rfl rfl ?_
  refine zw_getfield 4 f48_1 rfl g48_37_10 (hb_11 _ _ _ _) rfl ?_
  refine zw_iload_n 5 f48_4 rfl rfl ?_
  refine zw_virtual_i 8 0 0 [.ref 1, .int a] [(0, .ref 1), (1, .int a)] f48_5 rfl n48_41 k48_41_4 rfl (hb_1 _ _ _ _) (by decide +kernel) (Nat.le_of_ble_eq_true rfl) rfl rfl (by decide +kernel) (by decide +kernel) rfl (Nat.le_of_ble_eq_true rfl) rfl ?_
  refine zWp.mono (cp_X4_siphonOf ro nv np I _ _ _ hI a) ?_
  rintro r h1 ⟨rfl, ⟨w1, rfl⟩⟩
  refine ⟨_, rfl, ?_⟩
  refine zw_istore_n _ 9 f48_8 rfl (by decide +kernel) rfl ?_
  refine zw_aload_n 10 f48_9 rfl (zl1_ne rfl rfl rfl) ?_
  refine zw_getfield 13 f48_10 rfl g48_12_10 (hb_11 _ _ _ _) rfl ?_
  refine zw_iload_n 14 f48_13 rfl (zl1_ne rfl rfl rfl) ?_
  refine zw_virtual_i 17 0 0 [.ref 12, .int a] [(0, .ref 12), (1, .int a)] f48_14 rfl n48_47 k48_47_9 rfl (hb_12 _ _ _ _) (by decide +kernel) (Nat.le_of_ble_eq_true rfl) rfl rfl (by decide +kernel) (by decide +kernel) rfl (Nat.le_of_ble_eq_true rfl) rfl ?_
  refine zWp.mono (cp_X9_isOpen_12 ro nv np I _ _ _ hI a) ?_
  rintro r h1 ⟨rfl, ⟨w2, rfl, hw2⟩⟩
  refine ⟨_, rfl, ?_⟩
  refine zw_if_eq 20 40 f48_17 (by decide +kernel) rfl (fun hc3 => ?_) (fun hc3 => ?_)
  · refine zw_iconst 0 41 f48_40 rfl (by decide +kernel) ?_
    refine zw_zreturn f48_41 r48 u48 (by decide +kernel) ?_
    exact ⟨rfl, ⟨_, rfl, (by decide +kernel)⟩⟩
  · refine zw_iload_n 21 f48_20 rfl zl1_eq ?_
    refine zw_iconst (-1) 22 f48_21 rfl (by decide +kernel) ?_
    refine zw_ic_eq 25 36 f48_22 (by decide +kernel) rfl (fun hc4 => ?_) (fun hc4 => ?_)
    · refine zw_iconst 1 37 f48_36 rfl (by decide +kernel) ?_
      refine zw_goto 41 f48_37 (by decide +kernel) ?_
      refine zw_zreturn f48_41 r48 u48 (by decide +kernel) ?_
      exact ⟨rfl, ⟨_, rfl, (by decide +kernel)⟩⟩
    · refine zw_aload_n 26 f48_25 rfl (zl1_ne rfl rfl rfl) ?_
      refine zw_getfield 29 f48_26 rfl g48_12_10 (hb_11 _ _ _ _) rfl ?_
      refine zw_iload_n 30 f48_29 rfl zl1_eq ?_
      refine zw_virtual_i 33 0 0 [.ref 12, .int w1] [(0, .ref 12), (1, .int w1)] f48_30 rfl n48_51 k48_51_9 rfl (hb_12 _ _ _ _) (by decide +kernel) (Nat.le_of_ble_eq_true rfl) rfl rfl (by decide +kernel) (by decide +kernel) rfl (Nat.le_of_ble_eq_true rfl) rfl ?_
      refine zWp.mono (cp_X9_isSiphoning_12 ro nv np I _ _ _ hI w1) ?_
      rintro r h1 ⟨rfl, ⟨w5, rfl, hw5⟩⟩
      refine ⟨_, rfl, ?_⟩
      refine zw_if_eq 36 40 f48_33 (by decide +kernel) rfl (fun hc6 => ?_) (fun hc6 => ?_)
      · refine zw_iconst 0 41 f48_40 rfl (by decide +kernel) ?_
        refine zw_zreturn f48_41 r48 u48 (by decide +kernel) ?_
        exact ⟨rfl, ⟨_, rfl, (by decide +kernel)⟩⟩
      · refine zw_iconst 1 37 f48_36 rfl (by decide +kernel) ?_
        refine zw_goto 41 f48_37 (by decide +kernel) ?_
        refine zw_zreturn f48_41 r48 u48 (by decide +kernel) ?_
        exact ⟨rfl, ⟨_, rfl, (by decide +kernel)⟩⟩
set_option maxRecDepth 100000 in
set_option maxHeartbeats 0 in
theorem cp_X10_isFull_11 (ro : UInt32 → Nat × (Nat → Int32)) (nv np : Nat) (I : Nat → Nat → Int32) (G : Nat → Nat → Int64) (A : Nat → Nat → Int32) (B : Nat → Nat → Int64) (hI : CI nv np I) (a : Nat) (ha : a < 8) : zWp ro 52 0 [(0, .ref 11), (1, .int (nI a))] [] (hS I G A B) 0 0 (fun r h1 => h1 = hS I G A B ∧ zRt2 r) := by
  have hnv := hI.1.2
  have hnp := hI.2.1.2
  refine zw_aload_n 1 f52_0 rfl rfl ?_
  refine zw_getfield 4 f52_1 rfl g52_12_10 (hb_11 _ _ _ _) rfl ?_
  refine zw_getfield 7 f52_4 rfl g52_87_9 (hb_12 _ _ _ _) rfl ?_
  refine zw_iload_n 8 f52_7 rfl rfl ?_
  refine zx_laload a 9 f52_8 rfl (hb_13 _ _ _ _) (nI_clamp (by omega)) (nI_pos (by omega)) (by omega) (fun w1 hw1 => ?_)
  refine zw_aload_n 10 f52_9 rfl rfl ?_
  refine zw_getfield 13 f52_10 rfl g52_37_10 (hb_11 _ _ _ _) rfl ?_
  refine zw_getfield 16 f52_13 rfl g52_106_4 (hb_1 _ _ _ _) rfl ?_
  refine zw_iload_n 17 f52_16 rfl rfl ?_
  refine zx_iaload a 18 f52_17 rfl (hb_3 _ _ _ _) (nI_clamp (by omega)) (nI_pos (by omega)) (by omega) (fun w2 hw2 => ?_)
  refine zx_i2l 19 f52_18 rfl (fun w3 hw3 => ?_)
  refine zw_aload_n 20 f52_19 rfl rfl ?_
  refine zw_getfield 23 f52_20 rfl g52_12_10 (hb_11 _ _ _ _) rfl ?_
  refine zx_getG 26 f52_23 rfl g52_109_9 (hb_12 _ _ _ _) rfl (fun w4 hw4 => ?_)
  refine zx_lmul 27 f52_26 rfl (fun w5 hw5 => ?_)
  refine zx_lcmp 28 f52_27 rfl (fun w6 hw6 => ?_)
  refine zw_if_lt 31 35 f52_28 (by decide +kernel) rfl (fun hc7 => ?_) (fun hc7 => ?_)
  · refine zw_iconst 0 36 f52_35 rfl (by decide +kernel) ?_
    refine zw_zreturn f52_36 r52 u52 (by decide +kernel) ?_
    exact ⟨rfl, ⟨_, rfl, (by decide +kernel)⟩⟩
  · refine zw_iconst 1 32 f52_31 rfl (by decide +kernel) ?_
    refine zw_goto 36 f52_32 (by decide +kernel) ?_
    refine zw_zreturn f52_36 r52 u52 (by decide +kernel) ?_
    exact ⟨rfl, ⟨_, rfl, (by decide +kernel)⟩⟩
set_option maxRecDepth 100000 in
set_option maxHeartbeats 0 in
theorem ck_X10_bring_11 (ro : UInt32 → Nat × (Nat → Int32)) (nv np : Nat) (I : Nat → Nat → Int32) (G : Nat → Nat → Int64) (A : Nat → Nat → Int32) (B : Nat → Nat → Int64) (hI : CI nv np I) (a : Int32) (b : Int32) : zWp ro 51 0 [(0, .ref 11), (1, .int a), (2, .int b)] [] (hS I G A B) 0 0 (zWk pW nv np I G A B zRt0) := by
  have hnv := hI.1.2
  have hnp := hI.2.1.2
  refine zw_aload_n 1 f51_0 rfl rfl ?_
  refine zw_getfield 4 f51_1 rfl g51_37_10 (hb_11 _ _ _ _) rfl ?_
  refine zw_iload_n 5 f51_4 rfl rfl ?_
  refine zw_virtual_i 8 0 0 [.ref 1, .int a] [(0, .ref 1), (1, .int a)] f51_5 rfl n51_103 k51_103_4 rfl (hb_1 _ _ _ _) (by decide +kernel) (Nat.le_of_ble_eq_true rfl) rfl rfl (by decide +kernel) (by decide +kernel) rfl (Nat.le_of_ble_eq_true rfl) rfl ?_
  refine zw_iload_n 1 f13_0 rfl rfl ?_
  refine zw_if_lt 4 22 f13_1 (by decide +kernel) rfl (fun hc1 => ?_) (fun hc1 => ?_)
  · refine zw_iconst 0 23 f13_22 rfl (by decide +kernel) ?_
    refine zw_zreturn f13_23 r13 u13 (by decide +kernel) ⟨_, rfl, ?_⟩
    refine zw_if_eq_t 24 f51_8 (by decide +kernel) (by decide +kernel) ?_
    refine zw_aload_n 25 f51_24 rfl rfl ?_
    refine zw_dup 26 f51_25 rfl rfl ?_
    refine zx_getI 29 f51_26 rfl g51_58_10 (hb_11 _ _ _ _) rfl (fun w2 hw2 => ?_)
    refine zw_iload_n 30 f51_29 rfl rfl ?_
    refine zx_iadd 31 f51_30 rfl (fun w3 hw3 => ?_)
    refine zw_put _ 34 f51_31 rfl g51_58_10 (hb_11 _ _ _ _) rfl (Nat.le_of_ble_eq_true rfl) (by decide +kernel) (hi_11_7 _ _ _ _ _) ?_
    refine zw_vreturn f51_34 r51 u51 ?_
    exact ⟨_, _, _, _, rfl, (KP.i rfl KP.rf), hI, rfl⟩
  · refine zw_iload_n 5 f13_4 rfl rfl ?_
    refine zw_aload_n 6 f13_5 rfl rfl ?_
    refine zw_getI (nI nv) 9 f13_6 rfl g13_39_4 (hb_1 _ _ _ _) rfl hI.1.1 ?_
    refine zw_ic_ge 12 22 f13_9 (by decide +kernel) rfl (fun hc4 => ?_) (fun hc4 => ?_)
    · refine zw_iconst 0 23 f13_22 rfl (by decide +kernel) ?_
      refine zw_zreturn f13_23 r13 u13 (by decide +kernel) ⟨_, rfl, ?_⟩
      refine zw_if_eq_t 24 f51_8 (by decide +kernel) (by decide +kernel) ?_
      refine zw_aload_n 25 f51_24 rfl rfl ?_
      refine zw_dup 26 f51_25 rfl rfl ?_
      refine zx_getI 29 f51_26 rfl g51_58_10 (hb_11 _ _ _ _) rfl (fun w5 hw5 => ?_)
      refine zw_iload_n 30 f51_29 rfl rfl ?_
      refine zx_iadd 31 f51_30 rfl (fun w6 hw6 => ?_)
      refine zw_put _ 34 f51_31 rfl g51_58_10 (hb_11 _ _ _ _) rfl (Nat.le_of_ble_eq_true rfl) (by decide +kernel) (hi_11_7 _ _ _ _ _) ?_
      refine zw_vreturn f51_34 r51 u51 ?_
      exact ⟨_, _, _, _, rfl, (KP.i rfl KP.rf), hI, rfl⟩
    · refine zw_iload_n 13 f13_12 rfl rfl ?_
      refine zw_bipush 8 15 f13_13 rfl (by decide +kernel) ?_
      refine zw_ic_ge 18 22 f13_15 (by decide +kernel) rfl (fun hc7 => ?_) (fun hc7 => ?_)
      · refine zw_iconst 0 23 f13_22 rfl (by decide +kernel) ?_
        refine zw_zreturn f13_23 r13 u13 (by decide +kernel) ⟨_, rfl, ?_⟩
        refine zw_if_eq_t 24 f51_8 (by decide +kernel) (by decide +kernel) ?_
        refine zw_aload_n 25 f51_24 rfl rfl ?_
        refine zw_dup 26 f51_25 rfl rfl ?_
        refine zx_getI 29 f51_26 rfl g51_58_10 (hb_11 _ _ _ _) rfl (fun w8 hw8 => ?_)
        refine zw_iload_n 30 f51_29 rfl rfl ?_
        refine zx_iadd 31 f51_30 rfl (fun w9 hw9 => ?_)
        refine zw_put _ 34 f51_31 rfl g51_58_10 (hb_11 _ _ _ _) rfl (Nat.le_of_ble_eq_true rfl) (by decide +kernel) (hi_11_7 _ _ _ _ _) ?_
        refine zw_vreturn f51_34 r51 u51 ?_
        exact ⟨_, _, _, _, rfl, (KP.i rfl KP.rf), hI, rfl⟩
      · refine zw_iconst 1 19 f13_18 rfl (by decide +kernel) ?_
        refine zw_goto 23 f13_19 (by decide +kernel) ?_
        refine zw_zreturn f13_23 r13 u13 (by decide +kernel) ⟨_, rfl, ?_⟩
        refine zw_if_eq_f 11 24 f51_8 (by decide +kernel) rfl (by decide +kernel) ?_
        refine zw_aload_n 12 f51_11 rfl rfl ?_
        refine zw_getfield 15 f51_12 rfl g51_18_10 (hb_11 _ _ _ _) rfl ?_
        refine zw_iload_n 16 f51_15 rfl rfl ?_
        refine zw_dup2 17 f51_16 rfl rfl rfl ?_
        refine zx_iaload a.toNatClampNeg 18 f51_17 rfl (hb_16 _ _ _ _) rfl hc1 (zix (by decide) hc1 hc7) (fun w10 hw10 => ?_)
        refine zw_iload_n 19 f51_18 rfl rfl ?_
        refine zx_iadd 20 f51_19 rfl (fun w11 hw11 => ?_)
        refine zw_ast a.toNatClampNeg _ 21 f51_20 rfl (hb_16 _ _ _ _) rfl hc1 (zix (by decide) hc1 hc7) (ha_16 _ _ _ _ _) ?_
        refine zw_goto 34 f51_21 (by decide +kernel) ?_
        refine zw_vreturn f51_34 r51 u51 ?_
        exact ⟨_, _, _, _, rfl, (KP.a rfl KP.rf), hI, rfl⟩
set_option maxRecDepth 100000 in
set_option maxHeartbeats 0 in
theorem lck_X10_reckonVessel_11_30 (ro : UInt32 → Nat × (Nat → Int32)) (nv np : Nat) (I : Nat → Nat → Int32) (G : Nat → Nat → Int64) (A : Nat → Nat → Int32) (B : Nat → Nat → Int64) (hI : CI nv np I) (a : Nat) (ha : a < 8) : ∀ (n k : Nat) (ls : List (Nat × Value)) (I1 : Nat → Nat → Int32) (G1 : Nat → Nat → Int64) (A1 : Nat → Nat → Int32) (B1 : Nat → Nat → Int64), KP pW I G A B I1 G1 A1 B1 → CI nv np I1 → ∀ (y2 : Int32) (y3 : Int32), True → zld ls 0 = some (.ref 11) → zld ls 1 = some (.int (nI a)) → zld ls 2 = some (.int y2) → zld ls 3 = some (.int y3) → zld ls 4 = some (.int (nI k)) → k ≤ np → np + 1 ≤ k + n → zWp ro 50 30 ls [] (hS I1 G1 A1 B1) 0 0 (zWk pW nv np I G A B zRt0) := by
  have hnv := hI.1.2
  have hnp := hI.2.1.2
  intro n
  induction n with
  | zero =>
    intro k ls I1 G1 A1 B1 K hJ y2 y3 _ hl0 hl1 hl2 hl3 hl4 h1 h2
    exact absurd h2 (by omega)
  | succ n ih =>
    intro k ls I1 G1 A1 B1 K hJ y2 y3 _ hl0 hl1 hl2 hl3 hl4 hk1 hk2
    refine zw_iload 32 f50_30 rfl hl4 ?_
    refine zw_aload_n 33 f50_32 rfl hl0 ?_
    refine zw_getfield 36 f50_33 rfl g50_37_10 (hb_11 _ _ _ _) rfl ?_
    refine zw_getI (nI np) 39 f50_36 rfl g50_61_4 (hb_1 _ _ _ _) rfl hJ.2.1.1 ?_
    refine zw_ic_ge 42 148 f50_39 (by decide +kernel) rfl (fun hc1 => ?_) (fun hc1 => ?_)
    · have hn_hc1 : np ≤ k := zn_ge (by omega) (by omega) hc1
      refine zw_aload_n 149 f50_148 rfl hl0 ?_
      refine zw_getfield 152 f50_149 rfl g50_25_10 (hb_11 _ _ _ _) rfl ?_
      refine zw_iload_n 153 f50_152 rfl hl1 ?_
      refine zw_aload_n 154 f50_153 rfl hl0 ?_
      refine zw_iload_n 155 f50_154 rfl hl1 ?_
      refine zw_virtual_i 158 0 0 [.ref 11, .int (nI a)] [(0, .ref 11), (1, .int (nI a))] f50_155 rfl n50_97 k50_97_10 rfl (hb_11 _ _ _ _) (by decide +kernel) (Nat.le_of_ble_eq_true rfl) rfl rfl (by decide +kernel) (by decide +kernel) rfl (Nat.le_of_ble_eq_true rfl) rfl ?_
      refine zWp.mono (cp_X10_isFull_11 ro nv np I1 _ _ _ hJ a (by omega)) ?_
      rintro r h1 ⟨rfl, ⟨w2, rfl, hw2⟩⟩
      refine ⟨_, rfl, ?_⟩
      refine zw_if_eq 161 169 f50_158 (by decide +kernel) rfl (fun hc3 => ?_) (fun hc3 => ?_)
      · refine zw_iconst 0 170 f50_169 rfl (by decide +kernel) ?_
        refine zw_ast a _ 171 f50_170 rfl (hb_18 _ _ _ _) (nI_clamp (by omega)) (nI_pos (by omega)) (by omega) (ha_18 _ _ _ _ _) ?_
        refine zw_aload_n 172 f50_171 rfl hl0 ?_
        refine zw_getfield 175 f50_172 rfl g50_22_10 (hb_11 _ _ _ _) rfl ?_
        refine zw_iload_n 176 f50_175 rfl hl1 ?_
        refine zw_iload_n 177 f50_176 rfl hl2 ?_
        refine zw_aload_n 178 f50_177 rfl hl0 ?_
        refine zw_getfield 181 f50_178 rfl g50_25_10 (hb_11 _ _ _ _) rfl ?_
        refine zw_iload_n 182 f50_181 rfl hl1 ?_
        refine zx_iaload a 183 f50_182 rfl (hb_18 _ _ _ _) (nI_clamp (by omega)) (nI_pos (by omega)) (by omega) (fun w4 hw4 => ?_)
        refine zx_isub 184 f50_183 rfl (fun w5 hw5 => ?_)
        refine zw_ast a _ 185 f50_184 rfl (hb_17 _ _ _ _) (nI_clamp (by omega)) (nI_pos (by omega)) (by omega) (ha_17 _ _ _ _ _) ?_
        refine zw_aload_n 186 f50_185 rfl hl0 ?_
        refine zw_aload_n 187 f50_186 rfl hl0 ?_
        refine zw_getfield 190 f50_187 rfl g50_37_10 (hb_11 _ _ _ _) rfl ?_
        refine zw_getfield 193 f50_190 rfl g50_100_4 (hb_1 _ _ _ _) rfl ?_
        refine zw_iload_n 194 f50_193 rfl hl1 ?_
        refine zx_iaload a 195 f50_194 rfl (hb_8 _ _ _ _) (nI_clamp (by omega)) (nI_pos (by omega)) (by omega) (fun w6 hw6 => ?_)
        refine zw_aload_n 196 f50_195 rfl hl0 ?_
        refine zw_getfield 199 f50_196 rfl g50_25_10 (hb_11 _ _ _ _) rfl ?_
        refine zw_iload_n 200 f50_199 rfl hl1 ?_
        refine zx_iaload a 201 f50_200 rfl (hb_18 _ _ _ _) (nI_clamp (by omega)) (nI_pos (by omega)) (by omega) (fun w7 hw7 => ?_)
        refine zw_virtual_v 204 0 0 [.ref 11, .int w6, .int w7] [(0, .ref 11), (1, .int w6), (2, .int w7)] f50_201 rfl n50_76 k50_76_10 rfl (hb_11 _ _ _ _) (by decide +kernel) (Nat.le_of_ble_eq_true rfl) rfl rfl (by decide +kernel) (by decide +kernel) rfl (Nat.le_of_ble_eq_true rfl) rfl ?_
        refine zWp.mono (ck_X10_bring_11 ro nv np I1 _ _ _ hJ w6 w7) ?_
        rintro r h1 ⟨I_9, G_9, A_9, B_9, rfl, K_9, hI_9, rfl⟩
        refine ⟨rfl, ?_⟩
        have K_9 := KP.tr (KP.a rfl (KP.a rfl K)) K_9
        refine zw_vreturn f50_204 r50 u50 ?_
        exact ⟨_, _, _, _, rfl, K_9, hI_9, rfl⟩
      · refine zw_iload_n 162 f50_161 rfl hl2 ?_
        refine zw_if_le 165 169 f50_162 (by decide +kernel) rfl (fun hc10 => ?_) (fun hc10 => ?_)
        · refine zw_iconst 0 170 f50_169 rfl (by decide +kernel) ?_
          refine zw_ast a _ 171 f50_170 rfl (hb_18 _ _ _ _) (nI_clamp (by omega)) (nI_pos (by omega)) (by omega) (ha_18 _ _ _ _ _) ?_
          refine zw_aload_n 172 f50_171 rfl hl0 ?_
          refine zw_getfield 175 f50_172 rfl g50_22_10 (hb_11 _ _ _ _) rfl ?_
          refine zw_iload_n 176 f50_175 rfl hl1 ?_
          refine zw_iload_n 177 f50_176 rfl hl2 ?_
          refine zw_aload_n 178 f50_177 rfl hl0 ?_
          refine zw_getfield 181 f50_178 rfl g50_25_10 (hb_11 _ _ _ _) rfl ?_
          refine zw_iload_n 182 f50_181 rfl hl1 ?_
          refine zx_iaload a 183 f50_182 rfl (hb_18 _ _ _ _) (nI_clamp (by omega)) (nI_pos (by omega)) (by omega) (fun w11 hw11 => ?_)
          refine zx_isub 184 f50_183 rfl (fun w12 hw12 => ?_)
          refine zw_ast a _ 185 f50_184 rfl (hb_17 _ _ _ _) (nI_clamp (by omega)) (nI_pos (by omega)) (by omega) (ha_17 _ _ _ _ _) ?_
          refine zw_aload_n 186 f50_185 rfl hl0 ?_
          refine zw_aload_n 187 f50_186 rfl hl0 ?_
          refine zw_getfield 190 f50_187 rfl g50_37_10 (hb_11 _ _ _ _) rfl ?_
          refine zw_getfield 193 f50_190 rfl g50_100_4 (hb_1 _ _ _ _) rfl ?_
          refine zw_iload_n 194 f50_193 rfl hl1 ?_
          refine zx_iaload a 195 f50_194 rfl (hb_8 _ _ _ _) (nI_clamp (by omega)) (nI_pos (by omega)) (by omega) (fun w13 hw13 => ?_)
          refine zw_aload_n 196 f50_195 rfl hl0 ?_
          refine zw_getfield 199 f50_196 rfl g50_25_10 (hb_11 _ _ _ _) rfl ?_
          refine zw_iload_n 200 f50_199 rfl hl1 ?_
          refine zx_iaload a 201 f50_200 rfl (hb_18 _ _ _ _) (nI_clamp (by omega)) (nI_pos (by omega)) (by omega) (fun w14 hw14 => ?_)
          refine zw_virtual_v 204 0 0 [.ref 11, .int w13, .int w14] [(0, .ref 11), (1, .int w13), (2, .int w14)] f50_201 rfl n50_76 k50_76_10 rfl (hb_11 _ _ _ _) (by decide +kernel) (Nat.le_of_ble_eq_true rfl) rfl rfl (by decide +kernel) (by decide +kernel) rfl (Nat.le_of_ble_eq_true rfl) rfl ?_
          refine zWp.mono (ck_X10_bring_11 ro nv np I1 _ _ _ hJ w13 w14) ?_
          rintro r h1 ⟨I_16, G_16, A_16, B_16, rfl, K_16, hI_16, rfl⟩
          refine ⟨rfl, ?_⟩
          have K_16 := KP.tr (KP.a rfl (KP.a rfl K)) K_16
          refine zw_vreturn f50_204 r50 u50 ?_
          exact ⟨_, _, _, _, rfl, K_16, hI_16, rfl⟩
        · refine zw_iload_n 166 f50_165 rfl hl2 ?_
          refine zw_goto 170 f50_166 (by decide +kernel) ?_
          refine zw_ast a _ 171 f50_170 rfl (hb_18 _ _ _ _) (nI_clamp (by omega)) (nI_pos (by omega)) (by omega) (ha_18 _ _ _ _ _) ?_
          refine zw_aload_n 172 f50_171 rfl hl0 ?_
          refine zw_getfield 175 f50_172 rfl g50_22_10 (hb_11 _ _ _ _) rfl ?_
          refine zw_iload_n 176 f50_175 rfl hl1 ?_
          refine zw_iload_n 177 f50_176 rfl hl2 ?_
          refine zw_aload_n 178 f50_177 rfl hl0 ?_
          refine zw_getfield 181 f50_178 rfl g50_25_10 (hb_11 _ _ _ _) rfl ?_
          refine zw_iload_n 182 f50_181 rfl hl1 ?_
          refine zx_iaload a 183 f50_182 rfl (hb_18 _ _ _ _) (nI_clamp (by omega)) (nI_pos (by omega)) (by omega) (fun w17 hw17 => ?_)
          refine zx_isub 184 f50_183 rfl (fun w18 hw18 => ?_)
          refine zw_ast a _ 185 f50_184 rfl (hb_17 _ _ _ _) (nI_clamp (by omega)) (nI_pos (by omega)) (by omega) (ha_17 _ _ _ _ _) ?_
          refine zw_aload_n 186 f50_185 rfl hl0 ?_
          refine zw_aload_n 187 f50_186 rfl hl0 ?_
          refine zw_getfield 190 f50_187 rfl g50_37_10 (hb_11 _ _ _ _) rfl ?_
          refine zw_getfield 193 f50_190 rfl g50_100_4 (hb_1 _ _ _ _) rfl ?_
          refine zw_iload_n 194 f50_193 rfl hl1 ?_
          refine zx_iaload a 195 f50_194 rfl (hb_8 _ _ _ _) (nI_clamp (by omega)) (nI_pos (by omega)) (by omega) (fun w19 hw19 => ?_)
          refine zw_aload_n 196 f50_195 rfl hl0 ?_
          refine zw_getfield 199 f50_196 rfl g50_25_10 (hb_11 _ _ _ _) rfl ?_
          refine zw_iload_n 200 f50_199 rfl hl1 ?_
          refine zx_iaload a 201 f50_200 rfl (hb_18 _ _ _ _) (nI_clamp (by omega)) (nI_pos (by omega)) (by omega) (fun w20 hw20 => ?_)
          refine zw_virtual_v 204 0 0 [.ref 11, .int w19, .int w20] [(0, .ref 11), (1, .int w19), (2, .int w20)] f50_201 rfl n50_76 k50_76_10 rfl (hb_11 _ _ _ _) (by decide +kernel) (Nat.le_of_ble_eq_true rfl) rfl rfl (by decide +kernel) (by decide +kernel) rfl (Nat.le_of_ble_eq_true rfl) rfl ?_
          refine zWp.mono (ck_X10_bring_11 ro nv np I1 _ _ _ hJ w19 w20) ?_
          rintro r h1 ⟨I_22, G_22, A_22, B_22, rfl, K_22, hI_22, rfl⟩
          refine ⟨rfl, ?_⟩
          have K_22 := KP.tr (KP.a rfl (KP.a rfl K)) K_22
          refine zw_vreturn f50_204 r50 u50 ?_
          exact ⟨_, _, _, _, rfl, K_22, hI_22, rfl⟩
    · have hn_hc1 : k < np := zn_lt (by omega) (by omega) hc1
      refine zw_aload_n 43 f50_42 rfl hl0 ?_
      refine zw_getfield 46 f50_43 rfl g50_37_10 (hb_11 _ _ _ _) rfl ?_
      refine zw_getfield 49 f50_46 rfl g50_64_4 (hb_1 _ _ _ _) rfl ?_
      refine zw_iload 51 f50_49 rfl hl4 ?_
      refine zx_iaload k 52 f50_51 rfl (hb_9 _ _ _ _) (nI_clamp (by omega)) (nI_pos (by omega)) (by omega) (fun w23 hw23 => ?_)
      refine zw_iload_n 53 f50_52 rfl hl1 ?_
      refine zw_ic_ne 56 142 f50_53 (by decide +kernel) rfl (fun hc24 => ?_) (fun hc24 => ?_)
      · refine zw_iinc (nI (k + 1)) _ 145 f50_142 rfl hl4 (by decide +kernel) (nI_1 _) rfl ?_
        refine zw_goto 30 f50_145 (by decide +kernel) ?_
        exact ih ((k + 1)) _ _ _ _ _ K hJ y2 y3 trivial  (zl1_ne rfl rfl hl0) (zl1_ne rfl rfl hl1) (zl1_ne rfl rfl hl2) (zl1_ne rfl rfl hl3) zl1_eq (by omega) (by omega)
      · refine zw_iload_n 57 f50_56 rfl hl3 ?_
        refine zw_if_eq 60 73 f50_57 (by decide +kernel) rfl (fun hc25 => ?_) (fun hc25 => ?_)
        · refine zw_aload_n 74 f50_73 rfl hl0 ?_
          refine zw_getfield 77 f50_74 rfl g50_12_10 (hb_11 _ _ _ _) rfl ?_
          refine zw_getfield 80 f50_77 rfl g50_70_9 (hb_12 _ _ _ _) rfl ?_
          refine zw_iload 82 f50_80 rfl hl4 ?_
          refine zx_iaload k 83 f50_82 rfl (hb_15 _ _ _ _) (nI_clamp (by omega)) (nI_pos (by omega)) (by omega) (fun w26 hw26 => ?_)
          refine zw_iload_n 84 f50_83 rfl hl2 ?_
          refine zw_static_i 87 0 0 [.int w26, .int y2] [] [(0, .int w26), (1, .int y2)] f50_84 rfl k50_91_99 rfl (by decide +kernel) (Nat.le_of_ble_eq_true rfl) (Nat.le_of_ble_eq_true rfl) rfl rfl (by decide +kernel) (by decide +kernel) rfl (Nat.le_of_ble_eq_true rfl) rfl ?_
          refine zWp.mono (cp_J9_min_7cf53 ro nv np I1 _ _ _ hJ w26 y2) ?_
          rintro r h1 ⟨rfl, ⟨w27, rfl⟩⟩
          refine ⟨_, rfl, ?_⟩
          refine zw_istore _ 89 f50_87 rfl (by decide +kernel) rfl ?_
          refine zw_aload_n 90 f50_89 rfl (zl1_ne rfl rfl hl0) ?_
          refine zw_getfield 93 f50_90 rfl g50_28_10 (hb_11 _ _ _ _) rfl ?_
          refine zw_iload 95 f50_93 rfl (zl1_ne rfl rfl hl4) ?_
          refine zw_aload_n 96 f50_95 rfl (zl1_ne rfl rfl hl0) ?_
          refine zw_iload 98 f50_96 rfl (zl1_ne rfl rfl hl4) ?_
          refine zw_virtual_i 101 0 0 [.ref 11, .int (nI k)] [(0, .ref 11), (1, .int (nI k))] f50_98 rfl n50_67 k50_67_10 rfl (hb_11 _ _ _ _) (by decide +kernel) (Nat.le_of_ble_eq_true rfl) rfl rfl (by decide +kernel) (by decide +kernel) rfl (Nat.le_of_ble_eq_true rfl) rfl ?_
          refine zWp.mono (cp_X10_runs_11 ro nv np I1 _ _ _ hJ (nI k)) ?_
          rintro r h1 ⟨rfl, ⟨w28, rfl, hw28⟩⟩
          refine ⟨_, rfl, ?_⟩
          refine zw_if_eq 104 109 f50_101 (by decide +kernel) rfl (fun hc29 => ?_) (fun hc29 => ?_)
          · refine zw_iconst 0 110 f50_109 rfl (by decide +kernel) ?_
            refine zw_ast k _ 111 f50_110 rfl (hb_19 _ _ _ _) (nI_clamp (by omega)) (nI_pos (by omega)) (by omega) (ha_19 _ _ _ _ _) ?_
            refine zw_iload_n 112 f50_111 rfl (zl1_ne rfl rfl hl2) ?_
            refine zw_aload_n 113 f50_112 rfl (zl1_ne rfl rfl hl0) ?_
            refine zw_getfield 116 f50_113 rfl g50_28_10 (hb_11 _ _ _ _) rfl ?_
            refine zw_iload 118 f50_116 rfl (zl1_ne rfl rfl hl4) ?_
            refine zx_iaload k 119 f50_118 rfl (hb_19 _ _ _ _) (nI_clamp (by omega)) (nI_pos (by omega)) (by omega) (fun w30 hw30 => ?_)
            refine zx_isub 120 f50_119 rfl (fun w31 hw31 => ?_)
            refine zw_istore_n _ 121 f50_120 rfl (by decide +kernel) rfl ?_
            refine zw_aload_n 122 f50_121 rfl (zl1_ne rfl rfl (zl1_ne rfl rfl hl0)) ?_
            refine zw_aload_n 123 f50_122 rfl (zl1_ne rfl rfl (zl1_ne rfl rfl hl0)) ?_
            refine zw_getfield 126 f50_123 rfl g50_37_10 (hb_11 _ _ _ _) rfl ?_
            refine zw_getfield 129 f50_126 rfl g50_73_4 (hb_1 _ _ _ _) rfl ?_
            refine zw_iload 131 f50_129 rfl (zl1_ne rfl rfl (zl1_ne rfl rfl hl4)) ?_
            refine zx_iaload k 132 f50_131 rfl (hb_10 _ _ _ _) (nI_clamp (by omega)) (nI_pos (by omega)) (by omega) (fun w32 hw32 => ?_)
            refine zw_aload_n 133 f50_132 rfl (zl1_ne rfl rfl (zl1_ne rfl rfl hl0)) ?_
            refine zw_getfield 136 f50_133 rfl g50_28_10 (hb_11 _ _ _ _) rfl ?_
            refine zw_iload 138 f50_136 rfl (zl1_ne rfl rfl (zl1_ne rfl rfl hl4)) ?_
            refine zx_iaload k 139 f50_138 rfl (hb_19 _ _ _ _) (nI_clamp (by omega)) (nI_pos (by omega)) (by omega) (fun w33 hw33 => ?_)
            refine zw_virtual_v 142 0 0 [.ref 11, .int w32, .int w33] [(0, .ref 11), (1, .int w32), (2, .int w33)] f50_139 rfl n50_76 k50_76_10 rfl (hb_11 _ _ _ _) (by decide +kernel) (Nat.le_of_ble_eq_true rfl) rfl rfl (by decide +kernel) (by decide +kernel) rfl (Nat.le_of_ble_eq_true rfl) rfl ?_
            refine zWp.mono (ck_X10_bring_11 ro nv np I1 _ _ _ hJ w32 w33) ?_
            rintro r h1 ⟨I_35, G_35, A_35, B_35, rfl, K_35, hI_35, rfl⟩
            refine ⟨rfl, ?_⟩
            have K_35 := KP.tr (KP.a rfl K) K_35
            refine zw_iinc (nI (k + 1)) _ 145 f50_142 rfl (zl1_ne rfl rfl (zl1_ne rfl rfl hl4)) (by decide +kernel) (nI_1 _) rfl ?_
            refine zw_goto 30 f50_145 (by decide +kernel) ?_
            exact ih ((k + 1)) _ _ _ _ _ K_35 hI_35 w31 y3 trivial  (zl1_ne rfl rfl (zl1_ne rfl rfl (zl1_ne rfl rfl hl0))) (zl1_ne rfl rfl (zl1_ne rfl rfl (zl1_ne rfl rfl hl1))) (zl1_ne rfl rfl zl1_eq) (zl1_ne rfl rfl (zl1_ne rfl rfl (zl1_ne rfl rfl hl3))) zl1_eq (by omega) (by omega)
          · refine zw_iload 106 f50_104 rfl zl1_eq ?_
            refine zw_goto 110 f50_106 (by decide +kernel) ?_
            refine zw_ast k _ 111 f50_110 rfl (hb_19 _ _ _ _) (nI_clamp (by omega)) (nI_pos (by omega)) (by omega) (ha_19 _ _ _ _ _) ?_
            refine zw_iload_n 112 f50_111 rfl (zl1_ne rfl rfl hl2) ?_
            refine zw_aload_n 113 f50_112 rfl (zl1_ne rfl rfl hl0) ?_
            refine zw_getfield 116 f50_113 rfl g50_28_10 (hb_11 _ _ _ _) rfl ?_
            refine zw_iload 118 f50_116 rfl (zl1_ne rfl rfl hl4) ?_
            refine zx_iaload k 119 f50_118 rfl (hb_19 _ _ _ _) (nI_clamp (by omega)) (nI_pos (by omega)) (by omega) (fun w36 hw36 => ?_)
            refine zx_isub 120 f50_119 rfl (fun w37 hw37 => ?_)
            refine zw_istore_n _ 121 f50_120 rfl (by decide +kernel) rfl ?_
            refine zw_aload_n 122 f50_121 rfl (zl1_ne rfl rfl (zl1_ne rfl rfl hl0)) ?_
            refine zw_aload_n 123 f50_122 rfl (zl1_ne rfl rfl (zl1_ne rfl rfl hl0)) ?_
            refine zw_getfield 126 f50_123 rfl g50_37_10 (hb_11 _ _ _ _) rfl ?_
            refine zw_getfield 129 f50_126 rfl g50_73_4 (hb_1 _ _ _ _) rfl ?_
            refine zw_iload 131 f50_129 rfl (zl1_ne rfl rfl (zl1_ne rfl rfl hl4)) ?_
            refine zx_iaload k 132 f50_131 rfl (hb_10 _ _ _ _) (nI_clamp (by omega)) (nI_pos (by omega)) (by omega) (fun w38 hw38 => ?_)
            refine zw_aload_n 133 f50_132 rfl (zl1_ne rfl rfl (zl1_ne rfl rfl hl0)) ?_
            refine zw_getfield 136 f50_133 rfl g50_28_10 (hb_11 _ _ _ _) rfl ?_
            refine zw_iload 138 f50_136 rfl (zl1_ne rfl rfl (zl1_ne rfl rfl hl4)) ?_
            refine zx_iaload k 139 f50_138 rfl (hb_19 _ _ _ _) (nI_clamp (by omega)) (nI_pos (by omega)) (by omega) (fun w39 hw39 => ?_)
            refine zw_virtual_v 142 0 0 [.ref 11, .int w38, .int w39] [(0, .ref 11), (1, .int w38), (2, .int w39)] f50_139 rfl n50_76 k50_76_10 rfl (hb_11 _ _ _ _) (by decide +kernel) (Nat.le_of_ble_eq_true rfl) rfl rfl (by decide +kernel) (by decide +kernel) rfl (Nat.le_of_ble_eq_true rfl) rfl ?_
            refine zWp.mono (ck_X10_bring_11 ro nv np I1 _ _ _ hJ w38 w39) ?_
            rintro r h1 ⟨I_41, G_41, A_41, B_41, rfl, K_41, hI_41, rfl⟩
            refine ⟨rfl, ?_⟩
            have K_41 := KP.tr (KP.a rfl K) K_41
            refine zw_iinc (nI (k + 1)) _ 145 f50_142 rfl (zl1_ne rfl rfl (zl1_ne rfl rfl hl4)) (by decide +kernel) (nI_1 _) rfl ?_
            refine zw_goto 30 f50_145 (by decide +kernel) ?_
            exact ih ((k + 1)) _ _ _ _ _ K_41 hI_41 w37 y3 trivial  (zl1_ne rfl rfl (zl1_ne rfl rfl (zl1_ne rfl rfl hl0))) (zl1_ne rfl rfl (zl1_ne rfl rfl (zl1_ne rfl rfl hl1))) (zl1_ne rfl rfl zl1_eq) (zl1_ne rfl rfl (zl1_ne rfl rfl (zl1_ne rfl rfl hl3))) zl1_eq (by omega) (by omega)
        · refine zw_aload_n 61 f50_60 rfl hl0 ?_
          refine zw_getfield 64 f50_61 rfl g50_12_10 (hb_11 _ _ _ _) rfl ?_
          refine zw_getfield 67 f50_64 rfl g50_70_9 (hb_12 _ _ _ _) rfl ?_
          refine zw_iload 69 f50_67 rfl hl4 ?_
          refine zx_iaload k 70 f50_69 rfl (hb_15 _ _ _ _) (nI_clamp (by omega)) (nI_pos (by omega)) (by omega) (fun w42 hw42 => ?_)
          refine zw_goto 87 f50_70 (by decide +kernel) ?_
          refine zw_istore _ 89 f50_87 rfl (by decide +kernel) rfl ?_
          refine zw_aload_n 90 f50_89 rfl (zl1_ne rfl rfl hl0) ?_
          refine zw_getfield 93 f50_90 rfl g50_28_10 (hb_11 _ _ _ _) rfl ?_
          refine zw_iload 95 f50_93 rfl (zl1_ne rfl rfl hl4) ?_
          refine zw_aload_n 96 f50_95 rfl (zl1_ne rfl rfl hl0) ?_
          refine zw_iload 98 f50_96 rfl (zl1_ne rfl rfl hl4) ?_
          refine zw_virtual_i 101 0 0 [.ref 11, .int (nI k)] [(0, .ref 11), (1, .int (nI k))] f50_98 rfl n50_67 k50_67_10 rfl (hb_11 _ _ _ _) (by decide +kernel) (Nat.le_of_ble_eq_true rfl) rfl rfl (by decide +kernel) (by decide +kernel) rfl (Nat.le_of_ble_eq_true rfl) rfl ?_
          refine zWp.mono (cp_X10_runs_11 ro nv np I1 _ _ _ hJ (nI k)) ?_
          rintro r h1 ⟨rfl, ⟨w43, rfl, hw43⟩⟩
          refine ⟨_, rfl, ?_⟩
          refine zw_if_eq 104 109 f50_101 (by decide +kernel) rfl (fun hc44 => ?_) (fun hc44 => ?_)
          · refine zw_iconst 0 110 f50_109 rfl (by decide +kernel) ?_
            refine zw_ast k _ 111 f50_110 rfl (hb_19 _ _ _ _) (nI_clamp (by omega)) (nI_pos (by omega)) (by omega) (ha_19 _ _ _ _ _) ?_
            refine zw_iload_n 112 f50_111 rfl (zl1_ne rfl rfl hl2) ?_
            refine zw_aload_n 113 f50_112 rfl (zl1_ne rfl rfl hl0) ?_
            refine zw_getfield 116 f50_113 rfl g50_28_10 (hb_11 _ _ _ _) rfl ?_
            refine zw_iload 118 f50_116 rfl (zl1_ne rfl rfl hl4) ?_
            refine zx_iaload k 119 f50_118 rfl (hb_19 _ _ _ _) (nI_clamp (by omega)) (nI_pos (by omega)) (by omega) (fun w45 hw45 => ?_)
            refine zx_isub 120 f50_119 rfl (fun w46 hw46 => ?_)
            refine zw_istore_n _ 121 f50_120 rfl (by decide +kernel) rfl ?_
            refine zw_aload_n 122 f50_121 rfl (zl1_ne rfl rfl (zl1_ne rfl rfl hl0)) ?_
            refine zw_aload_n 123 f50_122 rfl (zl1_ne rfl rfl (zl1_ne rfl rfl hl0)) ?_
            refine zw_getfield 126 f50_123 rfl g50_37_10 (hb_11 _ _ _ _) rfl ?_
            refine zw_getfield 129 f50_126 rfl g50_73_4 (hb_1 _ _ _ _) rfl ?_
            refine zw_iload 131 f50_129 rfl (zl1_ne rfl rfl (zl1_ne rfl rfl hl4)) ?_
            refine zx_iaload k 132 f50_131 rfl (hb_10 _ _ _ _) (nI_clamp (by omega)) (nI_pos (by omega)) (by omega) (fun w47 hw47 => ?_)
            refine zw_aload_n 133 f50_132 rfl (zl1_ne rfl rfl (zl1_ne rfl rfl hl0)) ?_
            refine zw_getfield 136 f50_133 rfl g50_28_10 (hb_11 _ _ _ _) rfl ?_
            refine zw_iload 138 f50_136 rfl (zl1_ne rfl rfl (zl1_ne rfl rfl hl4)) ?_
            refine zx_iaload k 139 f50_138 rfl (hb_19 _ _ _ _) (nI_clamp (by omega)) (nI_pos (by omega)) (by omega) (fun w48 hw48 => ?_)
            refine zw_virtual_v 142 0 0 [.ref 11, .int w47, .int w48] [(0, .ref 11), (1, .int w47), (2, .int w48)] f50_139 rfl n50_76 k50_76_10 rfl (hb_11 _ _ _ _) (by decide +kernel) (Nat.le_of_ble_eq_true rfl) rfl rfl (by decide +kernel) (by decide +kernel) rfl (Nat.le_of_ble_eq_true rfl) rfl ?_
            refine zWp.mono (ck_X10_bring_11 ro nv np I1 _ _ _ hJ w47 w48) ?_
            rintro r h1 ⟨I_50, G_50, A_50, B_50, rfl, K_50, hI_50, rfl⟩
            refine ⟨rfl, ?_⟩
            have K_50 := KP.tr (KP.a rfl K) K_50
            refine zw_iinc (nI (k + 1)) _ 145 f50_142 rfl (zl1_ne rfl rfl (zl1_ne rfl rfl hl4)) (by decide +kernel) (nI_1 _) rfl ?_
            refine zw_goto 30 f50_145 (by decide +kernel) ?_
            exact ih ((k + 1)) _ _ _ _ _ K_50 hI_50 w46 y3 trivial  (zl1_ne rfl rfl (zl1_ne rfl rfl (zl1_ne rfl rfl hl0))) (zl1_ne rfl rfl (zl1_ne rfl rfl (zl1_ne rfl rfl hl1))) (zl1_ne rfl rfl zl1_eq) (zl1_ne rfl rfl (zl1_ne rfl rfl (zl1_ne rfl rfl hl3))) zl1_eq (by omega) (by omega)
          · refine zw_iload 106 f50_104 rfl zl1_eq ?_
            refine zw_goto 110 f50_106 (by decide +kernel) ?_
            refine zw_ast k _ 111 f50_110 rfl (hb_19 _ _ _ _) (nI_clamp (by omega)) (nI_pos (by omega)) (by omega) (ha_19 _ _ _ _ _) ?_
            refine zw_iload_n 112 f50_111 rfl (zl1_ne rfl rfl hl2) ?_
            refine zw_aload_n 113 f50_112 rfl (zl1_ne rfl rfl hl0) ?_
            refine zw_getfield 116 f50_113 rfl g50_28_10 (hb_11 _ _ _ _) rfl ?_
            refine zw_iload 118 f50_116 rfl (zl1_ne rfl rfl hl4) ?_
            refine zx_iaload k 119 f50_118 rfl (hb_19 _ _ _ _) (nI_clamp (by omega)) (nI_pos (by omega)) (by omega) (fun w51 hw51 => ?_)
            refine zx_isub 120 f50_119 rfl (fun w52 hw52 => ?_)
            refine zw_istore_n _ 121 f50_120 rfl (by decide +kernel) rfl ?_
            refine zw_aload_n 122 f50_121 rfl (zl1_ne rfl rfl (zl1_ne rfl rfl hl0)) ?_
            refine zw_aload_n 123 f50_122 rfl (zl1_ne rfl rfl (zl1_ne rfl rfl hl0)) ?_
            refine zw_getfield 126 f50_123 rfl g50_37_10 (hb_11 _ _ _ _) rfl ?_
            refine zw_getfield 129 f50_126 rfl g50_73_4 (hb_1 _ _ _ _) rfl ?_
            refine zw_iload 131 f50_129 rfl (zl1_ne rfl rfl (zl1_ne rfl rfl hl4)) ?_
            refine zx_iaload k 132 f50_131 rfl (hb_10 _ _ _ _) (nI_clamp (by omega)) (nI_pos (by omega)) (by omega) (fun w53 hw53 => ?_)
            refine zw_aload_n 133 f50_132 rfl (zl1_ne rfl rfl (zl1_ne rfl rfl hl0)) ?_
            refine zw_getfield 136 f50_133 rfl g50_28_10 (hb_11 _ _ _ _) rfl ?_
            refine zw_iload 138 f50_136 rfl (zl1_ne rfl rfl (zl1_ne rfl rfl hl4)) ?_
            refine zx_iaload k 139 f50_138 rfl (hb_19 _ _ _ _) (nI_clamp (by omega)) (nI_pos (by omega)) (by omega) (fun w54 hw54 => ?_)
            refine zw_virtual_v 142 0 0 [.ref 11, .int w53, .int w54] [(0, .ref 11), (1, .int w53), (2, .int w54)] f50_139 rfl n50_76 k50_76_10 rfl (hb_11 _ _ _ _) (by decide +kernel) (Nat.le_of_ble_eq_true rfl) rfl rfl (by decide +kernel) (by decide +kernel) rfl (Nat.le_of_ble_eq_true rfl) rfl ?_
            refine zWp.mono (ck_X10_bring_11 ro nv np I1 _ _ _ hJ w53 w54) ?_
            rintro r h1 ⟨I_56, G_56, A_56, B_56, rfl, K_56, hI_56, rfl⟩
            refine ⟨rfl, ?_⟩
            have K_56 := KP.tr (KP.a rfl K) K_56
            refine zw_iinc (nI (k + 1)) _ 145 f50_142 rfl (zl1_ne rfl rfl (zl1_ne rfl rfl hl4)) (by decide +kernel) (nI_1 _) rfl ?_
            refine zw_goto 30 f50_145 (by decide +kernel) ?_
            exact ih ((k + 1)) _ _ _ _ _ K_56 hI_56 w52 y3 trivial  (zl1_ne rfl rfl (zl1_ne rfl rfl (zl1_ne rfl rfl hl0))) (zl1_ne rfl rfl (zl1_ne rfl rfl (zl1_ne rfl rfl hl1))) (zl1_ne rfl rfl zl1_eq) (zl1_ne rfl rfl (zl1_ne rfl rfl (zl1_ne rfl rfl hl3))) zl1_eq (by omega) (by omega)
set_option maxRecDepth 100000 in
set_option maxHeartbeats 0 in
theorem ck_X10_reckonVessel_11 (ro : UInt32 → Nat × (Nat → Int32)) (nv np : Nat) (I : Nat → Nat → Int32) (G : Nat → Nat → Int64) (A : Nat → Nat → Int32) (B : Nat → Nat → Int64) (hI : CI nv np I) (a : Nat) (ha : a < 8) : zWp ro 50 0 [(0, .ref 11), (1, .int (nI a))] [] (hS I G A B) 0 0 (zWk pW nv np I G A B zRt0) := by
  have hnv := hI.1.2
  have hnp := hI.2.1.2
  refine zw_aload_n 1 f50_0 rfl rfl ?_
  refine zw_getfield 4 f50_1 rfl g50_18_10 (hb_11 _ _ _ _) rfl ?_
  refine zw_iload_n 5 f50_4 rfl rfl ?_
  refine zx_iaload a 6 f50_5 rfl (hb_16 _ _ _ _) (nI_clamp (by omega)) (nI_pos (by omega)) (by omega) (fun w1 hw1 => ?_)
  refine zw_istore_n _ 7 f50_6 rfl (by decide +kernel) rfl ?_
  refine zw_aload_n 8 f50_7 rfl (zl1_ne rfl rfl rfl) ?_
  refine zw_getfield 11 f50_8 rfl g50_12_10 (hb_11 _ _ _ _) rfl ?_
  refine zw_getfield 14 f50_11 rfl g50_87_9 (hb_12 _ _ _ _) rfl ?_
  refine zw_iload_n 15 f50_14 rfl (zl1_ne rfl rfl rfl) ?_
  refine zx_laload a 16 f50_15 rfl (hb_13 _ _ _ _) (nI_clamp (by omega)) (nI_pos (by omega)) (by omega) (fun w2 hw2 => ?_)
  refine zw_lconst 0 17 f50_16 rfl (by decide +kernel) ?_
  refine zx_lcmp 18 f50_17 rfl (fun w3 hw3 => ?_)
  refine zw_if_le 21 25 f50_18 (by decide +kernel) rfl (fun hc4 => ?_) (fun hc4 => ?_)
  · refine zw_iconst 0 26 f50_25 rfl (by decide +kernel) ?_
    refine zw_istore_n _ 27 f50_26 rfl (by decide +kernel) rfl ?_
    refine zw_iconst 0 28 f50_27 rfl (by decide +kernel) ?_
    refine zw_istore _ 30 f50_28 rfl (by decide +kernel) rfl ?_
    exact lck_X10_reckonVessel_11_30 ro nv np I G A B hI a ha (np + 1) 0 _ _ _ _ _ KP.rf hI w1 0 trivial  (zl1_ne rfl rfl (zl1_ne rfl rfl (zl1_ne rfl rfl rfl))) (zl1_ne rfl rfl (zl1_ne rfl rfl (zl1_ne rfl rfl rfl))) (zl1_ne rfl rfl (zl1_ne rfl rfl zl1_eq)) (zl1_ne rfl rfl zl1_eq) (show zld _ _ = some (.int (nI 0)) from zl1_eq) (by omega) (by omega)
  · refine zw_iconst 1 22 f50_21 rfl (by decide +kernel) ?_
    refine zw_goto 26 f50_22 (by decide +kernel) ?_
    refine zw_istore_n _ 27 f50_26 rfl (by decide +kernel) rfl ?_
    refine zw_iconst 0 28 f50_27 rfl (by decide +kernel) ?_
    refine zw_istore _ 30 f50_28 rfl (by decide +kernel) rfl ?_
    exact lck_X10_reckonVessel_11_30 ro nv np I G A B hI a ha (np + 1) 0 _ _ _ _ _ KP.rf hI w1 1 trivial  (zl1_ne rfl rfl (zl1_ne rfl rfl (zl1_ne rfl rfl rfl))) (zl1_ne rfl rfl (zl1_ne rfl rfl (zl1_ne rfl rfl rfl))) (zl1_ne rfl rfl (zl1_ne rfl rfl zl1_eq)) (zl1_ne rfl rfl zl1_eq) (show zld _ _ = some (.int (nI 0)) from zl1_eq) (by omega) (by omega)
set_option maxRecDepth 100000 in
set_option maxHeartbeats 0 in
theorem lck_X10_reckonRates_11_126 (ro : UInt32 → Nat × (Nat → Int32)) (nv np : Nat) (I : Nat → Nat → Int32) (G : Nat → Nat → Int64) (A : Nat → Nat → Int32) (B : Nat → Nat → Int64) (hI : CI nv np I) : ∀ (n k : Nat) (ls : List (Nat × Value)) (I1 : Nat → Nat → Int32) (G1 : Nat → Nat → Int64) (A1 : Nat → Nat → Int32) (B1 : Nat → Nat → Int64), KP pW I G A B I1 G1 A1 B1 → CI nv np I1 → True → zld ls 0 = some (.ref 11) → zld ls 1 = some (.int (nI k)) → k ≤ nv → nv + 1 ≤ k + n → zWp ro 49 126 ls [] (hS I1 G1 A1 B1) 0 0 (zWk pW nv np I G A B zRt0) := by
  have hnv := hI.1.2
  have hnp := hI.2.1.2
  intro n
  induction n with
  | zero =>
    intro k ls I1 G1 A1 B1 K hJ _ hl0 hl1 h1 h2
    exact absurd h2 (by omega)
  | succ n ih =>
    intro k ls I1 G1 A1 B1 K hJ _ hl0 hl1 hk1 hk2
    refine zw_iload_n 127 f49_126 rfl hl1 ?_
    refine zw_aload_n 128 f49_127 rfl hl0 ?_
    refine zw_getfield 131 f49_128 rfl g49_37_10 (hb_11 _ _ _ _) rfl ?_
    refine zw_getI (nI nv) 134 f49_131 rfl g49_80_4 (hb_1 _ _ _ _) rfl hJ.1.1 ?_
    refine zw_ic_ge 137 148 f49_134 (by decide +kernel) rfl (fun hc1 => ?_) (fun hc1 => ?_)
    · have hn_hc1 : nv ≤ k := zn_ge (by omega) (by omega) hc1
      refine zw_vreturn f49_148 r49 u49 ?_
      exact ⟨_, _, _, _, rfl, K, hJ, rfl⟩
    · have hn_hc1 : k < nv := zn_lt (by omega) (by omega) hc1
      refine zw_aload_n 138 f49_137 rfl hl0 ?_
      refine zw_iload_n 139 f49_138 rfl hl1 ?_
      refine zw_virtual_v 142 0 0 [.ref 11, .int (nI k)] [(0, .ref 11), (1, .int (nI k))] f49_139 rfl n49_83 k49_83_10 rfl (hb_11 _ _ _ _) (by decide +kernel) (Nat.le_of_ble_eq_true rfl) rfl rfl (by decide +kernel) (by decide +kernel) rfl (Nat.le_of_ble_eq_true rfl) rfl ?_
      refine zWp.mono (ck_X10_reckonVessel_11 ro nv np I1 _ _ _ hJ k (by omega)) ?_
      rintro r h1 ⟨I_3, G_3, A_3, B_3, rfl, K_3, hI_3, rfl⟩
      refine ⟨rfl, ?_⟩
      have K_3 := KP.tr K K_3
      refine zw_iinc (nI (k + 1)) _ 145 f49_142 rfl hl1 (by decide +kernel) (nI_1 _) rfl ?_
      refine zw_goto 126 f49_145 (by decide +kernel) ?_
      exact ih ((k + 1)) _ _ _ _ _ K_3 hI_3  trivial  (zl1_ne rfl rfl hl0) zl1_eq (by omega) (by omega)
set_option maxRecDepth 100000 in
set_option maxHeartbeats 0 in
theorem lck_X10_reckonRates_11_33 (ro : UInt32 → Nat × (Nat → Int32)) (nv np : Nat) (I : Nat → Nat → Int32) (G : Nat → Nat → Int64) (A : Nat → Nat → Int32) (B : Nat → Nat → Int64) (hI : CI nv np I) : ∀ (n k : Nat) (ls : List (Nat × Value)) (I1 : Nat → Nat → Int32) (G1 : Nat → Nat → Int64) (A1 : Nat → Nat → Int32) (B1 : Nat → Nat → Int64), KP pW I G A B I1 G1 A1 B1 → CI nv np I1 → True → zld ls 0 = some (.ref 11) → zld ls 1 = some (.int (nI k)) → k ≤ np → np + 1 ≤ k + n → zWp ro 49 33 ls [] (hS I1 G1 A1 B1) 0 0 (zWk pW nv np I G A B zRt0) := by
  have hnv := hI.1.2
  have hnp := hI.2.1.2
  intro n
  induction n with
  | zero =>
    intro k ls I1 G1 A1 B1 K hJ _ hl0 hl1 h1 h2
    exact absurd h2 (by omega)
  | succ n ih =>
    intro k ls I1 G1 A1 B1 K hJ _ hl0 hl1 hk1 hk2
    refine zw_iload_n 34 f49_33 rfl hl1 ?_
    refine zw_aload_n 35 f49_34 rfl hl0 ?_
    refine zw_getfield 38 f49_35 rfl g49_37_10 (hb_11 _ _ _ _) rfl ?_
    refine zw_getI (nI np) 41 f49_38 rfl g49_61_4 (hb_1 _ _ _ _) rfl hJ.2.1.1 ?_
    refine zw_ic_ge 44 124 f49_41 (by decide +kernel) rfl (fun hc1 => ?_) (fun hc1 => ?_)
    · have hn_hc1 : np ≤ k := zn_ge (by omega) (by omega) hc1
      refine zw_iconst 0 125 f49_124 rfl (by decide +kernel) ?_
      refine zw_istore_n _ 126 f49_125 rfl (by decide +kernel) rfl ?_
      exact lck_X10_reckonRates_11_126 ro nv np I G A B hI (nv + 1) 0 _ _ _ _ _ K hJ  trivial  (zl1_ne rfl rfl hl0) (show zld _ _ = some (.int (nI 0)) from zl1_eq) (by omega) (by omega)
    · have hn_hc1 : k < np := zn_lt (by omega) (by omega) hc1
      refine zw_aload_n 45 f49_44 rfl hl0 ?_
      refine zw_getfield 48 f49_45 rfl g49_37_10 (hb_11 _ _ _ _) rfl ?_
      refine zw_getfield 51 f49_48 rfl g49_64_4 (hb_1 _ _ _ _) rfl ?_
      refine zw_iload_n 52 f49_51 rfl hl1 ?_
      refine zx_iaload k 53 f49_52 rfl (hb_9 _ _ _ _) (nI_clamp (by omega)) (nI_pos (by omega)) (by omega) (fun w2 hw2 => ?_)
      refine zw_iconst (-1) 54 f49_53 rfl (by decide +kernel) ?_
      refine zw_ic_ne 57 118 f49_54 (by decide +kernel) rfl (fun hc3 => ?_) (fun hc3 => ?_)
      · refine zw_iinc (nI (k + 1)) _ 121 f49_118 rfl hl1 (by decide +kernel) (nI_1 _) rfl ?_
        refine zw_goto 33 f49_121 (by decide +kernel) ?_
        exact ih ((k + 1)) _ _ _ _ _ K hJ  trivial  (zl1_ne rfl rfl hl0) zl1_eq (by omega) (by omega)
      · refine zw_aload_n 58 f49_57 rfl hl0 ?_
        refine zw_getfield 61 f49_58 rfl g49_28_10 (hb_11 _ _ _ _) rfl ?_
        refine zw_iload_n 62 f49_61 rfl hl1 ?_
        refine zw_aload_n 63 f49_62 rfl hl0 ?_
        refine zw_iload_n 64 f49_63 rfl hl1 ?_
        refine zw_virtual_i 67 0 0 [.ref 11, .int (nI k)] [(0, .ref 11), (1, .int (nI k))] f49_64 rfl n49_67 k49_67_10 rfl (hb_11 _ _ _ _) (by decide +kernel) (Nat.le_of_ble_eq_true rfl) rfl rfl (by decide +kernel) (by decide +kernel) rfl (Nat.le_of_ble_eq_true rfl) rfl ?_
        refine zWp.mono (cp_X10_runs_11 ro nv np I1 _ _ _ hJ (nI k)) ?_
        rintro r h1 ⟨rfl, ⟨w4, rfl, hw4⟩⟩
        refine ⟨_, rfl, ?_⟩
        refine zw_if_eq 70 82 f49_67 (by decide +kernel) rfl (fun hc5 => ?_) (fun hc5 => ?_)
        · refine zw_iconst 0 83 f49_82 rfl (by decide +kernel) ?_
          refine zw_ast k _ 84 f49_83 rfl (hb_19 _ _ _ _) (nI_clamp (by omega)) (nI_pos (by omega)) (by omega) (ha_19 _ _ _ _ _) ?_
          refine zw_aload_n 85 f49_84 rfl hl0 ?_
          refine zw_dup 86 f49_85 rfl rfl ?_
          refine zx_getI 89 f49_86 rfl g49_54_10 (hb_11 _ _ _ _) rfl (fun w6 hw6 => ?_)
          refine zw_aload_n 90 f49_89 rfl hl0 ?_
          refine zw_getfield 93 f49_90 rfl g49_28_10 (hb_11 _ _ _ _) rfl ?_
          refine zw_iload_n 94 f49_93 rfl hl1 ?_
          refine zx_iaload k 95 f49_94 rfl (hb_19 _ _ _ _) (nI_clamp (by omega)) (nI_pos (by omega)) (by omega) (fun w7 hw7 => ?_)
          refine zx_iadd 96 f49_95 rfl (fun w8 hw8 => ?_)
          refine zw_put _ 99 f49_96 rfl g49_54_10 (hb_11 _ _ _ _) rfl (Nat.le_of_ble_eq_true rfl) (by decide +kernel) (hi_11_6 _ _ _ _ _) ?_
          refine zw_aload_n 100 f49_99 rfl hl0 ?_
          refine zw_aload_n 101 f49_100 rfl hl0 ?_
          refine zw_getfield 104 f49_101 rfl g49_37_10 (hb_11 _ _ _ _) rfl ?_
          refine zw_getfield 107 f49_104 rfl g49_73_4 (hb_1 _ _ _ _) rfl ?_
          refine zw_iload_n 108 f49_107 rfl hl1 ?_
          refine zx_iaload k 109 f49_108 rfl (hb_10 _ _ _ _) (nI_clamp (by omega)) (nI_pos (by omega)) (by omega) (fun w9 hw9 => ?_)
          refine zw_aload_n 110 f49_109 rfl hl0 ?_
          refine zw_getfield 113 f49_110 rfl g49_28_10 (hb_11 _ _ _ _) rfl ?_
          refine zw_iload_n 114 f49_113 rfl hl1 ?_
          refine zx_iaload k 115 f49_114 rfl (hb_19 _ _ _ _) (nI_clamp (by omega)) (nI_pos (by omega)) (by omega) (fun w10 hw10 => ?_)
          refine zw_virtual_v 118 0 0 [.ref 11, .int w9, .int w10] [(0, .ref 11), (1, .int w9), (2, .int w10)] f49_115 rfl n49_76 k49_76_10 rfl (hb_11 _ _ _ _) (by decide +kernel) (Nat.le_of_ble_eq_true rfl) rfl rfl (by decide +kernel) (by decide +kernel) rfl (Nat.le_of_ble_eq_true rfl) rfl ?_
          refine zWp.mono (ck_X10_bring_11 ro nv np (upd2 I1 11 6 w8) _ _ _ hJ w9 w10) ?_
          rintro r h1 ⟨I_12, G_12, A_12, B_12, rfl, K_12, hI_12, rfl⟩
          refine ⟨rfl, ?_⟩
          have K_12 := KP.tr (KP.i rfl (KP.a rfl K)) K_12
          refine zw_iinc (nI (k + 1)) _ 121 f49_118 rfl hl1 (by decide +kernel) (nI_1 _) rfl ?_
          refine zw_goto 33 f49_121 (by decide +kernel) ?_
          exact ih ((k + 1)) _ _ _ _ _ K_12 hI_12  trivial  (zl1_ne rfl rfl hl0) zl1_eq (by omega) (by omega)
        · refine zw_aload_n 71 f49_70 rfl hl0 ?_
          refine zw_getfield 74 f49_71 rfl g49_12_10 (hb_11 _ _ _ _) rfl ?_
          refine zw_getfield 77 f49_74 rfl g49_70_9 (hb_12 _ _ _ _) rfl ?_
          refine zw_iload_n 78 f49_77 rfl hl1 ?_
          refine zx_iaload k 79 f49_78 rfl (hb_15 _ _ _ _) (nI_clamp (by omega)) (nI_pos (by omega)) (by omega) (fun w13 hw13 => ?_)
          refine zw_goto 83 f49_79 (by decide +kernel) ?_
          refine zw_ast k _ 84 f49_83 rfl (hb_19 _ _ _ _) (nI_clamp (by omega)) (nI_pos (by omega)) (by omega) (ha_19 _ _ _ _ _) ?_
          refine zw_aload_n 85 f49_84 rfl hl0 ?_
          refine zw_dup 86 f49_85 rfl rfl ?_
          refine zx_getI 89 f49_86 rfl g49_54_10 (hb_11 _ _ _ _) rfl (fun w14 hw14 => ?_)
          refine zw_aload_n 90 f49_89 rfl hl0 ?_
          refine zw_getfield 93 f49_90 rfl g49_28_10 (hb_11 _ _ _ _) rfl ?_
          refine zw_iload_n 94 f49_93 rfl hl1 ?_
          refine zx_iaload k 95 f49_94 rfl (hb_19 _ _ _ _) (nI_clamp (by omega)) (nI_pos (by omega)) (by omega) (fun w15 hw15 => ?_)
          refine zx_iadd 96 f49_95 rfl (fun w16 hw16 => ?_)
          refine zw_put _ 99 f49_96 rfl g49_54_10 (hb_11 _ _ _ _) rfl (Nat.le_of_ble_eq_true rfl) (by decide +kernel) (hi_11_6 _ _ _ _ _) ?_
          refine zw_aload_n 100 f49_99 rfl hl0 ?_
          refine zw_aload_n 101 f49_100 rfl hl0 ?_
          refine zw_getfield 104 f49_101 rfl g49_37_10 (hb_11 _ _ _ _) rfl ?_
          refine zw_getfield 107 f49_104 rfl g49_73_4 (hb_1 _ _ _ _) rfl ?_
          refine zw_iload_n 108 f49_107 rfl hl1 ?_
          refine zx_iaload k 109 f49_108 rfl (hb_10 _ _ _ _) (nI_clamp (by omega)) (nI_pos (by omega)) (by omega) (fun w17 hw17 => ?_)
          refine zw_aload_n 110 f49_109 rfl hl0 ?_
          refine zw_getfield 113 f49_110 rfl g49_28_10 (hb_11 _ _ _ _) rfl ?_
          refine zw_iload_n 114 f49_113 rfl hl1 ?_
          refine zx_iaload k 115 f49_114 rfl (hb_19 _ _ _ _) (nI_clamp (by omega)) (nI_pos (by omega)) (by omega) (fun w18 hw18 => ?_)
          refine zw_virtual_v 118 0 0 [.ref 11, .int w17, .int w18] [(0, .ref 11), (1, .int w17), (2, .int w18)] f49_115 rfl n49_76 k49_76_10 rfl (hb_11 _ _ _ _) (by decide +kernel) (Nat.le_of_ble_eq_true rfl) rfl rfl (by decide +kernel) (by decide +kernel) rfl (Nat.le_of_ble_eq_true rfl) rfl ?_
          refine zWp.mono (ck_X10_bring_11 ro nv np (upd2 I1 11 6 w16) _ _ _ hJ w17 w18) ?_
          rintro r h1 ⟨I_20, G_20, A_20, B_20, rfl, K_20, hI_20, rfl⟩
          refine ⟨rfl, ?_⟩
          have K_20 := KP.tr (KP.i rfl (KP.a rfl K)) K_20
          refine zw_iinc (nI (k + 1)) _ 121 f49_118 rfl hl1 (by decide +kernel) (nI_1 _) rfl ?_
          refine zw_goto 33 f49_121 (by decide +kernel) ?_
          exact ih ((k + 1)) _ _ _ _ _ K_20 hI_20  trivial  (zl1_ne rfl rfl hl0) zl1_eq (by omega) (by omega)
set_option maxRecDepth 100000 in
set_option maxHeartbeats 0 in
theorem lck_X10_reckonRates_11_12 (ro : UInt32 → Nat × (Nat → Int32)) (nv np : Nat) (I : Nat → Nat → Int32) (G : Nat → Nat → Int64) (A : Nat → Nat → Int32) (B : Nat → Nat → Int64) (hI : CI nv np I) : ∀ (n k : Nat) (ls : List (Nat × Value)) (I1 : Nat → Nat → Int32) (G1 : Nat → Nat → Int64) (A1 : Nat → Nat → Int32) (B1 : Nat → Nat → Int64), KP pW I G A B I1 G1 A1 B1 → CI nv np I1 → True → zld ls 0 = some (.ref 11) → zld ls 1 = some (.int (nI k)) → k ≤ 8 → 8 + 1 ≤ k + n → zWp ro 49 12 ls [] (hS I1 G1 A1 B1) 0 0 (zWk pW nv np I G A B zRt0) := by
  have hnv := hI.1.2
  have hnp := hI.2.1.2
  intro n
  induction n with
  | zero =>
    intro k ls I1 G1 A1 B1 K hJ _ hl0 hl1 h1 h2
    exact absurd h2 (by omega)
  | succ n ih =>
    intro k ls I1 G1 A1 B1 K hJ _ hl0 hl1 hk1 hk2
    refine zw_iload_n 13 f49_12 rfl hl1 ?_
    refine zw_bipush 8 15 f49_13 rfl (by decide +kernel) ?_
    refine zw_ic_ge 18 31 f49_15 (by decide +kernel) rfl (fun hc1 => ?_) (fun hc1 => ?_)
    · have hn_hc1 : 8 ≤ k := zn_ge (by omega) (by omega) hc1
      refine zw_iconst 0 32 f49_31 rfl (by decide +kernel) ?_
      refine zw_istore_n _ 33 f49_32 rfl (by decide +kernel) rfl ?_
      exact lck_X10_reckonRates_11_33 ro nv np I G A B hI (np + 1) 0 _ _ _ _ _ K hJ  trivial  (zl1_ne rfl rfl hl0) (show zld _ _ = some (.int (nI 0)) from zl1_eq) (by omega) (by omega)
    · have hn_hc1 : k < 8 := zn_lt (by omega) (by omega) hc1
      refine zw_aload_n 19 f49_18 rfl hl0 ?_
      refine zw_getfield 22 f49_19 rfl g49_18_10 (hb_11 _ _ _ _) rfl ?_
      refine zw_iload_n 23 f49_22 rfl hl1 ?_
      refine zw_iconst 0 24 f49_23 rfl (by decide +kernel) ?_
      refine zw_ast k _ 25 f49_24 rfl (hb_16 _ _ _ _) (nI_clamp (by omega)) (nI_pos (by omega)) (by omega) (ha_16 _ _ _ _ _) ?_
      refine zw_iinc (nI (k + 1)) _ 28 f49_25 rfl hl1 (by decide +kernel) (nI_1 _) rfl ?_
      refine zw_goto 12 f49_28 (by decide +kernel) ?_
      exact ih ((k + 1)) _ _ _ _ _ (KP.a rfl K) hJ  trivial  (zl1_ne rfl rfl hl0) zl1_eq (by omega) (by omega)
set_option maxRecDepth 100000 in
set_option maxHeartbeats 0 in
theorem ck_X10_reckonRates_11 (ro : UInt32 → Nat × (Nat → Int32)) (nv np : Nat) (I : Nat → Nat → Int32) (G : Nat → Nat → Int64) (A : Nat → Nat → Int32) (B : Nat → Nat → Int64) (hI : CI nv np I) : zWp ro 49 0 [(0, .ref 11)] [] (hS I G A B) 0 0 (zWk pW nv np I G A B zRt0) := by
  have hnv := hI.1.2
  have hnp := hI.2.1.2
  refine zw_aload_n 1 f49_0 rfl rfl ?_
  refine zw_iconst 0 2 f49_1 rfl (by decide +kernel) ?_
  refine zw_put _ 5 f49_2 rfl g49_54_10 (hb_11 _ _ _ _) rfl (Nat.le_of_ble_eq_true rfl) (by decide +kernel) (hi_11_6 _ _ _ _ _) ?_
  refine zw_aload_n 6 f49_5 rfl rfl ?_
  refine zw_iconst 0 7 f49_6 rfl (by decide +kernel) ?_
  refine zw_put _ 10 f49_7 rfl g49_58_10 (hb_11 _ _ _ _) rfl (Nat.le_of_ble_eq_true rfl) (by decide +kernel) (hi_11_7 _ _ _ _ _) ?_
  refine zw_iconst 0 11 f49_10 rfl (by decide +kernel) ?_
  refine zw_istore_n _ 12 f49_11 rfl (by decide +kernel) rfl ?_
  exact lck_X10_reckonRates_11_12 ro nv np I G A B hI (8 + 1) 0 _ _ _ _ _ (KP.i rfl (KP.i rfl KP.rf)) hI  trivial  (zl1_ne rfl rfl rfl) (show zld _ _ = some (.int (nI 0)) from zl1_eq) (by omega) (by omega)
set_option maxRecDepth 100000 in
set_option maxHeartbeats 0 in
theorem cp_X10_ownIs_11 (ro : UInt32 → Nat × (Nat → Int32)) (nv np : Nat) (I : Nat → Nat → Int32) (G : Nat → Nat → Int64) (A : Nat → Nat → Int32) (B : Nat → Nat → Int64) (hI : CI nv np I) (a : Nat) (ha : a < 8) (b : Int32) : zWp ro 56 0 [(0, .ref 11), (1, .int (nI a)), (2, .int b)] [] (hS I G A B) 0 0 (fun r h1 => h1 = hS I G A B ∧ zRt2 r) := by
  have hnv := hI.1.2
  have hnp := hI.2.1.2
  refine zw_aload_n 1 f56_0 rfl rfl ?_
  refine zw_getfield 4 f56_1 rfl g56_37_10 (hb_11 _ _ _ _) rfl ?_
  refine zw_iload_n 5 f56_4 rfl rfl ?_
  refine zw_virtual_i 8 0 0 [.ref 1, .int (nI a)] [(0, .ref 1), (1, .int (nI a))] f56_5 rfl n56_145 k56_145_4 rfl (hb_1 _ _ _ _) (by decide +kernel) (Nat.le_of_ble_eq_true rfl) rfl rfl (by decide +kernel) (by decide +kernel) rfl (Nat.le_of_ble_eq_true rfl) rfl ?_
  refine zWp.mono (cp_X4_isFloat ro nv np I _ _ _ hI (nI a)) ?_
  rintro r h1 ⟨rfl, ⟨w1, rfl, hw1⟩⟩
  refine ⟨_, rfl, ?_⟩
  refine zw_if_eq 11 23 f56_8 (by decide +kernel) rfl (fun hc2 => ?_) (fun hc2 => ?_)
  · refine zw_iconst (-1) 24 f56_23 rfl (by decide +kernel) ?_
    refine zw_istore_n _ 25 f56_24 rfl (by decide +kernel) rfl ?_
    refine zw_iload_n 26 f56_25 rfl zl1_eq ?_
    refine zw_iconst (-1) 27 f56_26 rfl (by decide +kernel) ?_
    refine zw_ic_eq_t 46 f56_27 (by decide +kernel) (by decide +kernel) ?_
    refine zw_iconst 0 47 f56_46 rfl (by decide +kernel) ?_
    refine zw_zreturn f56_47 r56 u56 (by decide +kernel) ?_
    exact ⟨rfl, ⟨_, rfl, (by decide +kernel)⟩⟩
  · refine zw_aload_n 12 f56_11 rfl rfl ?_
    refine zw_getfield 15 f56_12 rfl g56_37_10 (hb_11 _ _ _ _) rfl ?_
    refine zw_getfield 18 f56_15 rfl g56_148_4 (hb_1 _ _ _ _) rfl ?_
    refine zw_iload_n 19 f56_18 rfl rfl ?_
    refine zx_iaload a 20 f56_19 rfl (hb_6 _ _ _ _) (nI_clamp (by omega)) (nI_pos (by omega)) (by omega) (fun w3 hw3 => ?_)
    refine zw_goto 24 f56_20 (by decide +kernel) ?_
    refine zw_istore_n _ 25 f56_24 rfl (by decide +kernel) rfl ?_
    refine zw_iload_n 26 f56_25 rfl zl1_eq ?_
    refine zw_iconst (-1) 27 f56_26 rfl (by decide +kernel) ?_
    refine zw_ic_eq 30 46 f56_27 (by decide +kernel) rfl (fun hc4 => ?_) (fun hc4 => ?_)
    · refine zw_iconst 0 47 f56_46 rfl (by decide +kernel) ?_
      refine zw_zreturn f56_47 r56 u56 (by decide +kernel) ?_
      exact ⟨rfl, ⟨_, rfl, (by decide +kernel)⟩⟩
    · refine zw_aload_n 31 f56_30 rfl (zl1_ne rfl rfl rfl) ?_
      refine zw_getfield 34 f56_31 rfl g56_12_10 (hb_11 _ _ _ _) rfl ?_
      refine zw_iload_n 35 f56_34 rfl zl1_eq ?_
      refine zw_virtual_i 38 0 0 [.ref 12, .int w3] [(0, .ref 12), (1, .int w3)] f56_35 rfl n56_47 k56_47_9 rfl (hb_12 _ _ _ _) (by decide +kernel) (Nat.le_of_ble_eq_true rfl) rfl rfl (by decide +kernel) (by decide +kernel) rfl (Nat.le_of_ble_eq_true rfl) rfl ?_
      refine zWp.mono (cp_X9_isOpen_12 ro nv np I _ _ _ hI w3) ?_
      rintro r h1 ⟨rfl, ⟨w5, rfl, hw5⟩⟩
      refine ⟨_, rfl, ?_⟩
      refine zw_iload_n 39 f56_38 rfl (zl1_ne rfl rfl rfl) ?_
      refine zw_ic_ne 42 46 f56_39 (by decide +kernel) rfl (fun hc6 => ?_) (fun hc6 => ?_)
      · refine zw_iconst 0 47 f56_46 rfl (by decide +kernel) ?_
        refine zw_zreturn f56_47 r56 u56 (by decide +kernel) ?_
        exact ⟨rfl, ⟨_, rfl, (by decide +kernel)⟩⟩
      · refine zw_iconst 1 43 f56_42 rfl (by decide +kernel) ?_
        refine zw_goto 47 f56_43 (by decide +kernel) ?_
        refine zw_zreturn f56_47 r56 u56 (by decide +kernel) ?_
        exact ⟨rfl, ⟨_, rfl, (by decide +kernel)⟩⟩
set_option maxRecDepth 100000 in
set_option maxHeartbeats 0 in
theorem ck_X10_offer_11 (ro : UInt32 → Nat × (Nat → Int32)) (nv np : Nat) (I : Nat → Nat → Int32) (G : Nat → Nat → Int64) (A : Nat → Nat → Int32) (B : Nat → Nat → Int64) (hI : CI nv np I) (a : Int64) (b : Int64) : zWp ro 57 0 [(0, .ref 11), (1, .long a), (3, .long b)] [] (hS I G A B) 0 0 (zWk pW nv np I G A B zRt0) := by
  have hnv := hI.1.2
  have hnp := hI.2.1.2
  refine zw_lload_n 1 f57_0 rfl rfl ?_
  refine zw_lconst 0 2 f57_1 rfl (by decide +kernel) ?_
  refine zx_lcmp 3 f57_2 rfl (fun w1 hw1 => ?_)
  refine zw_if_le 6 41 f57_3 (by decide +kernel) rfl (fun hc2 => ?_) (fun hc2 => ?_)
  · refine zw_vreturn f57_41 r57 u57 ?_
    exact ⟨_, _, _, _, rfl, KP.rf, hI, rfl⟩
  · refine zw_aload_n 7 f57_6 rfl rfl ?_
    refine zx_getG 10 f57_7 rfl g57_119_10 (hb_11 _ _ _ _) rfl (fun w3 hw3 => ?_)
    refine zw_lconst 0 11 f57_10 rfl (by decide +kernel) ?_
    refine zx_lcmp 12 f57_11 rfl (fun w4 hw4 => ?_)
    refine zw_if_eq 15 31 f57_12 (by decide +kernel) rfl (fun hc5 => ?_) (fun hc5 => ?_)
    · refine zw_aload_n 32 f57_31 rfl rfl ?_
      refine zw_lload_n 33 f57_32 rfl rfl ?_
      refine zw_put _ 36 f57_33 rfl g57_116_10 (hb_11 _ _ _ _) rfl (Nat.le_of_ble_eq_true rfl) (by decide +kernel) (hg_11_8 _ _ _ _ _) ?_
      refine zw_aload_n 37 f57_36 rfl rfl ?_
      refine zw_lload_n 38 f57_37 rfl rfl ?_
      refine zw_put _ 41 f57_38 rfl g57_119_10 (hb_11 _ _ _ _) rfl (Nat.le_of_ble_eq_true rfl) (by decide +kernel) (hg_11_9 _ _ _ _ _) ?_
      refine zw_vreturn f57_41 r57 u57 ?_
      exact ⟨_, _, _, _, rfl, (KP.g rfl (KP.g rfl KP.rf)), hI, rfl⟩
    · refine zw_lload_n 16 f57_15 rfl rfl ?_
      refine zw_aload_n 17 f57_16 rfl rfl ?_
      refine zw_getG w3 20 f57_17 rfl g57_119_10 (hb_11 _ _ _ _) rfl hw3 ?_
      refine zx_lmul 21 f57_20 rfl (fun w6 hw6 => ?_)
      refine zw_aload_n 22 f57_21 rfl rfl ?_
      refine zx_getG 25 f57_22 rfl g57_116_10 (hb_11 _ _ _ _) rfl (fun w7 hw7 => ?_)
      refine zw_lload_n 26 f57_25 rfl rfl ?_
      refine zx_lmul 27 f57_26 rfl (fun w8 hw8 => ?_)
      refine zx_lcmp 28 f57_27 rfl (fun w9 hw9 => ?_)
      refine zw_if_ge 31 41 f57_28 (by decide +kernel) rfl (fun hc10 => ?_) (fun hc10 => ?_)
      · refine zw_vreturn f57_41 r57 u57 ?_
        exact ⟨_, _, _, _, rfl, KP.rf, hI, rfl⟩
      · refine zw_aload_n 32 f57_31 rfl rfl ?_
        refine zw_lload_n 33 f57_32 rfl rfl ?_
        refine zw_put _ 36 f57_33 rfl g57_116_10 (hb_11 _ _ _ _) rfl (Nat.le_of_ble_eq_true rfl) (by decide +kernel) (hg_11_8 _ _ _ _ _) ?_
        refine zw_aload_n 37 f57_36 rfl rfl ?_
        refine zw_lload_n 38 f57_37 rfl rfl ?_
        refine zw_put _ 41 f57_38 rfl g57_119_10 (hb_11 _ _ _ _) rfl (Nat.le_of_ble_eq_true rfl) (by decide +kernel) (hg_11_9 _ _ _ _ _) ?_
        refine zw_vreturn f57_41 r57 u57 ?_
        exact ⟨_, _, _, _, rfl, (KP.g rfl (KP.g rfl KP.rf)), hI, rfl⟩
set_option maxRecDepth 100000 in
set_option maxHeartbeats 0 in
theorem ck_X10_seekRise_11 (ro : UInt32 → Nat × (Nat → Int32)) (nv np : Nat) (I : Nat → Nat → Int32) (G : Nat → Nat → Int64) (A : Nat → Nat → Int32) (B : Nat → Nat → Int64) (hI : CI nv np I) (a : Nat) (ha : a < 8) : zWp ro 54 0 [(0, .ref 11), (1, .int (nI a))] [] (hS I G A B) 0 0 (zWk pW nv np I G A B zRt0) := by
  have hnv := hI.1.2
  have hnp := hI.2.1.2
  refine zw_aload_n 1 f54_0 rfl rfl ?_
  refine zw_aload_n 2 f54_1 rfl rfl ?_
  refine zw_getfield 5 f54_2 rfl g54_37_10 (hb_11 _ _ _ _) rfl ?_
  refine zw_getfield 8 f54_5 rfl g54_106_4 (hb_1 _ _ _ _) rfl ?_
  refine zw_iload_n 9 f54_8 rfl rfl ?_
  refine zx_iaload a 10 f54_9 rfl (hb_3 _ _ _ _) (nI_clamp (by omega)) (nI_pos (by omega)) (by omega) (fun w1 hw1 => ?_)
  refine zx_i2l 11 f54_10 rfl (fun w2 hw2 => ?_)
  refine zw_aload_n 12 f54_11 rfl rfl ?_
  refine zw_getfield 15 f54_12 rfl g54_12_10 (hb_11 _ _ _ _) rfl ?_
  refine zx_getG 18 f54_15 rfl g54_109_9 (hb_12 _ _ _ _) rfl (fun w3 hw3 => ?_)
  refine zx_lmul 19 f54_18 rfl (fun w4 hw4 => ?_)
  refine zw_aload_n 20 f54_19 rfl rfl ?_
  refine zw_getfield 23 f54_20 rfl g54_12_10 (hb_11 _ _ _ _) rfl ?_
  refine zw_getfield 26 f54_23 rfl g54_87_9 (hb_12 _ _ _ _) rfl ?_
  refine zw_iload_n 27 f54_26 rfl rfl ?_
  refine zx_laload a 28 f54_27 rfl (hb_13 _ _ _ _) (nI_clamp (by omega)) (nI_pos (by omega)) (by omega) (fun w5 hw5 => ?_)
  refine zx_lsub 29 f54_28 rfl (fun w6 hw6 => ?_)
  refine zw_aload_n 30 f54_29 rfl rfl ?_
  refine zw_getfield 33 f54_30 rfl g54_22_10 (hb_11 _ _ _ _) rfl ?_
  refine zw_iload_n 34 f54_33 rfl rfl ?_
  refine zx_iaload a 35 f54_34 rfl (hb_17 _ _ _ _) (nI_clamp (by omega)) (nI_pos (by omega)) (by omega) (fun w7 hw7 => ?_)
  refine zx_i2l 36 f54_35 rfl (fun w8 hw8 => ?_)
  refine zw_virtual_v 39 0 0 [.ref 11, .long w6, .long w8] [(0, .ref 11), (1, .long w6), (3, .long w8)] f54_36 rfl n54_128 k54_128_10 rfl (hb_11 _ _ _ _) (by decide +kernel) (Nat.le_of_ble_eq_true rfl) rfl rfl (by decide +kernel) (by decide +kernel) rfl (Nat.le_of_ble_eq_true rfl) rfl ?_
  refine zWp.mono (ck_X10_offer_11 ro nv np I _ _ _ hI w6 w8) ?_
  rintro r h1 ⟨I_10, G_10, A_10, B_10, rfl, K_10, hI_10, rfl⟩
  refine ⟨rfl, ?_⟩
  have K_10 := KP.tr KP.rf K_10
  refine zw_aload_n 40 f54_39 rfl rfl ?_
  refine zw_getfield 43 f54_40 rfl g54_37_10 (hb_11 _ _ _ _) rfl ?_
  refine zw_iload_n 44 f54_43 rfl rfl ?_
  refine zw_virtual_i 47 0 0 [.ref 1, .int (nI a)] [(0, .ref 1), (1, .int (nI a))] f54_44 rfl n54_132 k54_132_4 rfl (hb_1 _ _ _ _) (by decide +kernel) (Nat.le_of_ble_eq_true rfl) rfl rfl (by decide +kernel) (by decide +kernel) rfl (Nat.le_of_ble_eq_true rfl) rfl ?_
  refine zWp.mono (cp_X4_kindOf ro nv np I_10 _ _ _ hI_10 (nI a)) ?_
  rintro r h1 ⟨rfl, ⟨w11, rfl⟩⟩
  refine ⟨_, rfl, ?_⟩
  refine zw_iconst 1 48 f54_47 rfl (by decide +kernel) ?_
  refine zw_ic_ne 51 70 f54_48 (by decide +kernel) rfl (fun hc12 => ?_) (fun hc12 => ?_)
  · refine zw_aload_n 71 f54_70 rfl rfl ?_
    refine zw_iload_n 72 f54_71 rfl rfl ?_
    refine zw_iconst 1 73 f54_72 rfl (by decide +kernel) ?_
    refine zw_virtual_i 76 0 0 [.ref 11, .int (nI a), .int 1] [(0, .ref 11), (1, .int (nI a)), (2, .int 1)] f54_73 rfl n54_135 k54_135_10 rfl (hb_11 _ _ _ _) (by decide +kernel) (Nat.le_of_ble_eq_true rfl) rfl rfl (by decide +kernel) (by decide +kernel) rfl (Nat.le_of_ble_eq_true rfl) rfl ?_
    refine zWp.mono (cp_X10_ownIs_11 ro nv np I_10 _ _ _ hI_10 a (by omega) 1) ?_
    rintro r h1 ⟨rfl, ⟨w13, rfl, hw13⟩⟩
    refine ⟨_, rfl, ?_⟩
    refine zw_istore_n _ 77 f54_76 rfl (by decide +kernel) rfl ?_
    refine zw_iload_n 78 f54_77 rfl zl1_eq ?_
    refine zw_if_eq 81 120 f54_78 (by decide +kernel) rfl (fun hc14 => ?_) (fun hc14 => ?_)
    · refine zw_vreturn f54_120 r54 u54 ?_
      exact ⟨_, _, _, _, rfl, K_10, hI_10, rfl⟩
    · refine zw_aload_n 82 f54_81 rfl (zl1_ne rfl rfl rfl) ?_
      refine zw_aload_n 83 f54_82 rfl (zl1_ne rfl rfl rfl) ?_
      refine zw_getfield 86 f54_83 rfl g54_37_10 (hb_11 _ _ _ _) rfl ?_
      refine zw_getfield 89 f54_86 rfl g54_139_4 (hb_1 _ _ _ _) rfl ?_
      refine zw_iload_n 90 f54_89 rfl (zl1_ne rfl rfl rfl) ?_
      refine zx_iaload a 91 f54_90 rfl (hb_4 _ _ _ _) (nI_clamp (by omega)) (nI_pos (by omega)) (by omega) (fun w15 hw15 => ?_)
      refine zx_i2l 92 f54_91 rfl (fun w16 hw16 => ?_)
      refine zw_aload_n 93 f54_92 rfl (zl1_ne rfl rfl rfl) ?_
      refine zw_getfield 96 f54_93 rfl g54_12_10 (hb_11 _ _ _ _) rfl ?_
      refine zx_getG 99 f54_96 rfl g54_109_9 (hb_12 _ _ _ _) rfl (fun w17 hw17 => ?_)
      refine zx_lmul 100 f54_99 rfl (fun w18 hw18 => ?_)
      refine zw_aload_n 101 f54_100 rfl (zl1_ne rfl rfl rfl) ?_
      refine zw_getfield 104 f54_101 rfl g54_12_10 (hb_11 _ _ _ _) rfl ?_
      refine zw_getfield 107 f54_104 rfl g54_87_9 (hb_12 _ _ _ _) rfl ?_
      refine zw_iload_n 108 f54_107 rfl (zl1_ne rfl rfl rfl) ?_
      refine zx_laload a 109 f54_108 rfl (hb_13 _ _ _ _) (nI_clamp (by omega)) (nI_pos (by omega)) (by omega) (fun w19 hw19 => ?_)
      refine zx_lsub 110 f54_109 rfl (fun w20 hw20 => ?_)
      refine zw_aload_n 111 f54_110 rfl (zl1_ne rfl rfl rfl) ?_
      refine zw_getfield 114 f54_111 rfl g54_22_10 (hb_11 _ _ _ _) rfl ?_
      refine zw_iload_n 115 f54_114 rfl (zl1_ne rfl rfl rfl) ?_
      refine zx_iaload a 116 f54_115 rfl (hb_17 _ _ _ _) (nI_clamp (by omega)) (nI_pos (by omega)) (by omega) (fun w21 hw21 => ?_)
      refine zx_i2l 117 f54_116 rfl (fun w22 hw22 => ?_)
      refine zw_virtual_v 120 0 0 [.ref 11, .long w20, .long w22] [(0, .ref 11), (1, .long w20), (3, .long w22)] f54_117 rfl n54_128 k54_128_10 rfl (hb_11 _ _ _ _) (by decide +kernel) (Nat.le_of_ble_eq_true rfl) rfl rfl (by decide +kernel) (by decide +kernel) rfl (Nat.le_of_ble_eq_true rfl) rfl ?_
      refine zWp.mono (ck_X10_offer_11 ro nv np I_10 _ _ _ hI_10 w20 w22) ?_
      rintro r h1 ⟨I_24, G_24, A_24, B_24, rfl, K_24, hI_24, rfl⟩
      refine ⟨rfl, ?_⟩
      have K_24 := KP.tr K_10 K_24
      refine zw_vreturn f54_120 r54 u54 ?_
      exact ⟨_, _, _, _, rfl, K_24, hI_24, rfl⟩
  · refine zw_aload_n 52 f54_51 rfl rfl ?_
    refine zw_getfield 55 f54_52 rfl g54_12_10 (hb_11 _ _ _ _) rfl ?_
    refine zw_iload_n 56 f54_55 rfl rfl ?_
    refine zw_virtual_i 59 0 0 [.ref 12, .int (nI a)] [(0, .ref 12), (1, .int (nI a))] f54_56 rfl n54_51 k54_51_9 rfl (hb_12 _ _ _ _) (by decide +kernel) (Nat.le_of_ble_eq_true rfl) rfl rfl (by decide +kernel) (by decide +kernel) rfl (Nat.le_of_ble_eq_true rfl) rfl ?_
    refine zWp.mono (cp_X9_isSiphoning_12 ro nv np I_10 _ _ _ hI_10 (nI a)) ?_
    rintro r h1 ⟨rfl, ⟨w25, rfl, hw25⟩⟩
    refine ⟨_, rfl, ?_⟩
    refine zw_if_ne 62 66 f54_59 (by decide +kernel) rfl (fun hc26 => ?_) (fun hc26 => ?_)
    · refine zw_iconst 0 67 f54_66 rfl (by decide +kernel) ?_
      refine zw_goto 76 f54_67 (by decide +kernel) ?_
      refine zw_istore_n _ 77 f54_76 rfl (by decide +kernel) rfl ?_
      refine zw_iload_n 78 f54_77 rfl zl1_eq ?_
      refine zw_if_eq_t 120 f54_78 (by decide +kernel) (by decide +kernel) ?_
      refine zw_vreturn f54_120 r54 u54 ?_
      exact ⟨_, _, _, _, rfl, K_10, hI_10, rfl⟩
    · refine zw_iconst 1 63 f54_62 rfl (by decide +kernel) ?_
      refine zw_goto 76 f54_63 (by decide +kernel) ?_
      refine zw_istore_n _ 77 f54_76 rfl (by decide +kernel) rfl ?_
      refine zw_iload_n 78 f54_77 rfl zl1_eq ?_
      refine zw_if_eq_f 81 120 f54_78 (by decide +kernel) rfl (by decide +kernel) ?_
      refine zw_aload_n 82 f54_81 rfl (zl1_ne rfl rfl rfl) ?_
      refine zw_aload_n 83 f54_82 rfl (zl1_ne rfl rfl rfl) ?_
      refine zw_getfield 86 f54_83 rfl g54_37_10 (hb_11 _ _ _ _) rfl ?_
      refine zw_getfield 89 f54_86 rfl g54_139_4 (hb_1 _ _ _ _) rfl ?_
      refine zw_iload_n 90 f54_89 rfl (zl1_ne rfl rfl rfl) ?_
      refine zx_iaload a 91 f54_90 rfl (hb_4 _ _ _ _) (nI_clamp (by omega)) (nI_pos (by omega)) (by omega) (fun w27 hw27 => ?_)
      refine zx_i2l 92 f54_91 rfl (fun w28 hw28 => ?_)
      refine zw_aload_n 93 f54_92 rfl (zl1_ne rfl rfl rfl) ?_
      refine zw_getfield 96 f54_93 rfl g54_12_10 (hb_11 _ _ _ _) rfl ?_
      refine zx_getG 99 f54_96 rfl g54_109_9 (hb_12 _ _ _ _) rfl (fun w29 hw29 => ?_)
      refine zx_lmul 100 f54_99 rfl (fun w30 hw30 => ?_)
      refine zw_aload_n 101 f54_100 rfl (zl1_ne rfl rfl rfl) ?_
      refine zw_getfield 104 f54_101 rfl g54_12_10 (hb_11 _ _ _ _) rfl ?_
      refine zw_getfield 107 f54_104 rfl g54_87_9 (hb_12 _ _ _ _) rfl ?_
      refine zw_iload_n 108 f54_107 rfl (zl1_ne rfl rfl rfl) ?_
      refine zx_laload a 109 f54_108 rfl (hb_13 _ _ _ _) (nI_clamp (by omega)) (nI_pos (by omega)) (by omega) (fun w31 hw31 => ?_)
      refine zx_lsub 110 f54_109 rfl (fun w32 hw32 => ?_)
      refine zw_aload_n 111 f54_110 rfl (zl1_ne rfl rfl rfl) ?_
      refine zw_getfield 114 f54_111 rfl g54_22_10 (hb_11 _ _ _ _) rfl ?_
      refine zw_iload_n 115 f54_114 rfl (zl1_ne rfl rfl rfl) ?_
      refine zx_iaload a 116 f54_115 rfl (hb_17 _ _ _ _) (nI_clamp (by omega)) (nI_pos (by omega)) (by omega) (fun w33 hw33 => ?_)
      refine zx_i2l 117 f54_116 rfl (fun w34 hw34 => ?_)
      refine zw_virtual_v 120 0 0 [.ref 11, .long w32, .long w34] [(0, .ref 11), (1, .long w32), (3, .long w34)] f54_117 rfl n54_128 k54_128_10 rfl (hb_11 _ _ _ _) (by decide +kernel) (Nat.le_of_ble_eq_true rfl) rfl rfl (by decide +kernel) (by decide +kernel) rfl (Nat.le_of_ble_eq_true rfl) rfl ?_
      refine zWp.mono (ck_X10_offer_11 ro nv np I_10 _ _ _ hI_10 w32 w34) ?_
      rintro r h1 ⟨I_36, G_36, A_36, B_36, rfl, K_36, hI_36, rfl⟩
      refine ⟨rfl, ?_⟩
      have K_36 := KP.tr K_10 K_36
      refine zw_vreturn f54_120 r54 u54 ?_
      exact ⟨_, _, _, _, rfl, K_36, hI_36, rfl⟩
set_option maxRecDepth 100000 in
set_option maxHeartbeats 0 in
theorem ck_X10_seekFall_11 (ro : UInt32 → Nat × (Nat → Int32)) (nv np : Nat) (I : Nat → Nat → Int32) (G : Nat → Nat → Int64) (A : Nat → Nat → Int32) (B : Nat → Nat → Int64) (hI : CI nv np I) (a : Nat) (ha : a < 8) : zWp ro 55 0 [(0, .ref 11), (1, .int (nI a))] [] (hS I G A B) 0 0 (zWk pW nv np I G A B zRt0) := by
  have hnv := hI.1.2
  have hnp := hI.2.1.2
  refine zw_aload_n 1 f55_0 rfl rfl ?_
  refine zw_aload_n 2 f55_1 rfl rfl ?_
  refine zw_getfield 5 f55_2 rfl g55_12_10 (hb_11 _ _ _ _) rfl ?_
  refine zw_getfield 8 f55_5 rfl g55_87_9 (hb_12 _ _ _ _) rfl ?_
  refine zw_iload_n 9 f55_8 rfl rfl ?_
  refine zx_laload a 10 f55_9 rfl (hb_13 _ _ _ _) (nI_clamp (by omega)) (nI_pos (by omega)) (by omega) (fun w1 hw1 => ?_)
  refine zw_aload_n 11 f55_10 rfl rfl ?_
  refine zw_getfield 14 f55_11 rfl g55_22_10 (hb_11 _ _ _ _) rfl ?_
  refine zw_iload_n 15 f55_14 rfl rfl ?_
  refine zx_iaload a 16 f55_15 rfl (hb_17 _ _ _ _) (nI_clamp (by omega)) (nI_pos (by omega)) (by omega) (fun w2 hw2 => ?_)
  refine zx_ineg 17 f55_16 rfl (fun w3 hw3 => ?_)
  refine zx_i2l 18 f55_17 rfl (fun w4 hw4 => ?_)
  refine zw_virtual_v 21 0 0 [.ref 11, .long w1, .long w4] [(0, .ref 11), (1, .long w1), (3, .long w4)] f55_18 rfl n55_128 k55_128_10 rfl (hb_11 _ _ _ _) (by decide +kernel) (Nat.le_of_ble_eq_true rfl) rfl rfl (by decide +kernel) (by decide +kernel) rfl (Nat.le_of_ble_eq_true rfl) rfl ?_
  refine zWp.mono (ck_X10_offer_11 ro nv np I _ _ _ hI w1 w4) ?_
  rintro r h1 ⟨I_6, G_6, A_6, B_6, rfl, K_6, hI_6, rfl⟩
  refine ⟨rfl, ?_⟩
  have K_6 := KP.tr KP.rf K_6
  refine zw_aload_n 22 f55_21 rfl rfl ?_
  refine zw_iload_n 23 f55_22 rfl rfl ?_
  refine zw_iconst 0 24 f55_23 rfl (by decide +kernel) ?_
  refine zw_virtual_i 27 0 0 [.ref 11, .int (nI a), .int 0] [(0, .ref 11), (1, .int (nI a)), (2, .int 0)] f55_24 rfl n55_135 k55_135_10 rfl (hb_11 _ _ _ _) (by decide +kernel) (Nat.le_of_ble_eq_true rfl) rfl rfl (by decide +kernel) (by decide +kernel) rfl (Nat.le_of_ble_eq_true rfl) rfl ?_
  refine zWp.mono (cp_X10_ownIs_11 ro nv np I_6 _ _ _ hI_6 a (by omega) 0) ?_
  rintro r h1 ⟨rfl, ⟨w7, rfl, hw7⟩⟩
  refine ⟨_, rfl, ?_⟩
  refine zw_if_eq 30 70 f55_27 (by decide +kernel) rfl (fun hc8 => ?_) (fun hc8 => ?_)
  · refine zw_vreturn f55_70 r55 u55 ?_
    exact ⟨_, _, _, _, rfl, K_6, hI_6, rfl⟩
  · refine zw_aload_n 31 f55_30 rfl rfl ?_
    refine zw_aload_n 32 f55_31 rfl rfl ?_
    refine zw_getfield 35 f55_32 rfl g55_12_10 (hb_11 _ _ _ _) rfl ?_
    refine zw_getfield 38 f55_35 rfl g55_87_9 (hb_12 _ _ _ _) rfl ?_
    refine zw_iload_n 39 f55_38 rfl rfl ?_
    refine zx_laload a 40 f55_39 rfl (hb_13 _ _ _ _) (nI_clamp (by omega)) (nI_pos (by omega)) (by omega) (fun w9 hw9 => ?_)
    refine zw_aload_n 41 f55_40 rfl rfl ?_
    refine zw_getfield 44 f55_41 rfl g55_37_10 (hb_11 _ _ _ _) rfl ?_
    refine zw_getfield 47 f55_44 rfl g55_142_4 (hb_1 _ _ _ _) rfl ?_
    refine zw_iload_n 48 f55_47 rfl rfl ?_
    refine zx_iaload a 49 f55_48 rfl (hb_5 _ _ _ _) (nI_clamp (by omega)) (nI_pos (by omega)) (by omega) (fun w10 hw10 => ?_)
    refine zx_i2l 50 f55_49 rfl (fun w11 hw11 => ?_)
    refine zw_aload_n 51 f55_50 rfl rfl ?_
    refine zw_getfield 54 f55_51 rfl g55_12_10 (hb_11 _ _ _ _) rfl ?_
    refine zx_getG 57 f55_54 rfl g55_109_9 (hb_12 _ _ _ _) rfl (fun w12 hw12 => ?_)
    refine zx_lmul 58 f55_57 rfl (fun w13 hw13 => ?_)
    refine zx_lsub 59 f55_58 rfl (fun w14 hw14 => ?_)
    refine zw_aload_n 60 f55_59 rfl rfl ?_
    refine zw_getfield 63 f55_60 rfl g55_22_10 (hb_11 _ _ _ _) rfl ?_
    refine zw_iload_n 64 f55_63 rfl rfl ?_
    refine zx_iaload a 65 f55_64 rfl (hb_17 _ _ _ _) (nI_clamp (by omega)) (nI_pos (by omega)) (by omega) (fun w15 hw15 => ?_)
    refine zx_ineg 66 f55_65 rfl (fun w16 hw16 => ?_)
    refine zx_i2l 67 f55_66 rfl (fun w17 hw17 => ?_)
    refine zw_virtual_v 70 0 0 [.ref 11, .long w14, .long w17] [(0, .ref 11), (1, .long w14), (3, .long w17)] f55_67 rfl n55_128 k55_128_10 rfl (hb_11 _ _ _ _) (by decide +kernel) (Nat.le_of_ble_eq_true rfl) rfl rfl (by decide +kernel) (by decide +kernel) rfl (Nat.le_of_ble_eq_true rfl) rfl ?_
    refine zWp.mono (ck_X10_offer_11 ro nv np I_6 _ _ _ hI_6 w14 w17) ?_
    rintro r h1 ⟨I_19, G_19, A_19, B_19, rfl, K_19, hI_19, rfl⟩
    refine ⟨rfl, ?_⟩
    have K_19 := KP.tr K_6 K_19
    refine zw_vreturn f55_70 r55 u55 ?_
    exact ⟨_, _, _, _, rfl, K_19, hI_19, rfl⟩
set_option maxRecDepth 100000 in
set_option maxHeartbeats 0 in
theorem lck_X10_seekNext_11_16 (ro : UInt32 → Nat × (Nat → Int32)) (nv np : Nat) (I : Nat → Nat → Int32) (G : Nat → Nat → Int64) (A : Nat → Nat → Int32) (B : Nat → Nat → Int64) (hI : CI nv np I) : ∀ (n k : Nat) (ls : List (Nat × Value)) (I1 : Nat → Nat → Int32) (G1 : Nat → Nat → Int64) (A1 : Nat → Nat → Int32) (B1 : Nat → Nat → Int64), KP pW I G A B I1 G1 A1 B1 → CI nv np I1 → True → zld ls 0 = some (.ref 11) → zld ls 1 = some (.int (nI k)) → k ≤ nv → nv + 1 ≤ k + n → zWp ro 53 16 ls [] (hS I1 G1 A1 B1) 0 0 (zWk pW nv np I G A B zRt0) := by
  have hnv := hI.1.2
  have hnp := hI.2.1.2
  intro n
  induction n with
  | zero =>
    intro k ls I1 G1 A1 B1 K hJ _ hl0 hl1 h1 h2
    exact absurd h2 (by omega)
  | succ n ih =>
    intro k ls I1 G1 A1 B1 K hJ _ hl0 hl1 hk1 hk2
    refine zw_iload_n 17 f53_16 rfl hl1 ?_
    refine zw_aload_n 18 f53_17 rfl hl0 ?_
    refine zw_getfield 21 f53_18 rfl g53_37_10 (hb_11 _ _ _ _) rfl ?_
    refine zw_getI (nI nv) 24 f53_21 rfl g53_80_4 (hb_1 _ _ _ _) rfl hJ.1.1 ?_
    refine zw_ic_ge 27 64 f53_24 (by decide +kernel) rfl (fun hc1 => ?_) (fun hc1 => ?_)
    · have hn_hc1 : nv ≤ k := zn_ge (by omega) (by omega) hc1
      refine zw_vreturn f53_64 r53 u53 ?_
      exact ⟨_, _, _, _, rfl, K, hJ, rfl⟩
    · have hn_hc1 : k < nv := zn_lt (by omega) (by omega) hc1
      refine zw_aload_n 28 f53_27 rfl hl0 ?_
      refine zw_getfield 31 f53_28 rfl g53_22_10 (hb_11 _ _ _ _) rfl ?_
      refine zw_iload_n 32 f53_31 rfl hl1 ?_
      refine zx_iaload k 33 f53_32 rfl (hb_17 _ _ _ _) (nI_clamp (by omega)) (nI_pos (by omega)) (by omega) (fun w2 hw2 => ?_)
      refine zw_if_le 36 44 f53_33 (by decide +kernel) rfl (fun hc3 => ?_) (fun hc3 => ?_)
      · refine zw_aload_n 45 f53_44 rfl hl0 ?_
        refine zw_getfield 48 f53_45 rfl g53_22_10 (hb_11 _ _ _ _) rfl ?_
        refine zw_iload_n 49 f53_48 rfl hl1 ?_
        refine zx_iaload k 50 f53_49 rfl (hb_17 _ _ _ _) (nI_clamp (by omega)) (nI_pos (by omega)) (by omega) (fun w4 hw4 => ?_)
        refine zw_if_ge 53 58 f53_50 (by decide +kernel) rfl (fun hc5 => ?_) (fun hc5 => ?_)
        · refine zw_iinc (nI (k + 1)) _ 61 f53_58 rfl hl1 (by decide +kernel) (nI_1 _) rfl ?_
          refine zw_goto 16 f53_61 (by decide +kernel) ?_
          exact ih ((k + 1)) _ _ _ _ _ K hJ  trivial  (zl1_ne rfl rfl hl0) zl1_eq (by omega) (by omega)
        · refine zw_aload_n 54 f53_53 rfl hl0 ?_
          refine zw_iload_n 55 f53_54 rfl hl1 ?_
          refine zw_virtual_v 58 0 0 [.ref 11, .int (nI k)] [(0, .ref 11), (1, .int (nI k))] f53_55 rfl n53_125 k53_125_10 rfl (hb_11 _ _ _ _) (by decide +kernel) (Nat.le_of_ble_eq_true rfl) rfl rfl (by decide +kernel) (by decide +kernel) rfl (Nat.le_of_ble_eq_true rfl) rfl ?_
          refine zWp.mono (ck_X10_seekFall_11 ro nv np I1 _ _ _ hJ k (by omega)) ?_
          rintro r h1 ⟨I_7, G_7, A_7, B_7, rfl, K_7, hI_7, rfl⟩
          refine ⟨rfl, ?_⟩
          have K_7 := KP.tr K K_7
          refine zw_iinc (nI (k + 1)) _ 61 f53_58 rfl hl1 (by decide +kernel) (nI_1 _) rfl ?_
          refine zw_goto 16 f53_61 (by decide +kernel) ?_
          exact ih ((k + 1)) _ _ _ _ _ K_7 hI_7  trivial  (zl1_ne rfl rfl hl0) zl1_eq (by omega) (by omega)
      · refine zw_aload_n 37 f53_36 rfl hl0 ?_
        refine zw_iload_n 38 f53_37 rfl hl1 ?_
        refine zw_virtual_v 41 0 0 [.ref 11, .int (nI k)] [(0, .ref 11), (1, .int (nI k))] f53_38 rfl n53_122 k53_122_10 rfl (hb_11 _ _ _ _) (by decide +kernel) (Nat.le_of_ble_eq_true rfl) rfl rfl (by decide +kernel) (by decide +kernel) rfl (Nat.le_of_ble_eq_true rfl) rfl ?_
        refine zWp.mono (ck_X10_seekRise_11 ro nv np I1 _ _ _ hJ k (by omega)) ?_
        rintro r h1 ⟨I_9, G_9, A_9, B_9, rfl, K_9, hI_9, rfl⟩
        refine ⟨rfl, ?_⟩
        have K_9 := KP.tr K K_9
        refine zw_goto 58 f53_41 (by decide +kernel) ?_
        refine zw_iinc (nI (k + 1)) _ 61 f53_58 rfl hl1 (by decide +kernel) (nI_1 _) rfl ?_
        refine zw_goto 16 f53_61 (by decide +kernel) ?_
        exact ih ((k + 1)) _ _ _ _ _ K_9 hI_9  trivial  (zl1_ne rfl rfl hl0) zl1_eq (by omega) (by omega)
set_option maxRecDepth 100000 in
set_option maxHeartbeats 0 in
theorem ck_X10_seekNext_11 (ro : UInt32 → Nat × (Nat → Int32)) (nv np : Nat) (I : Nat → Nat → Int32) (G : Nat → Nat → Int64) (A : Nat → Nat → Int32) (B : Nat → Nat → Int64) (hI : CI nv np I) : zWp ro 53 0 [(0, .ref 11)] [] (hS I G A B) 0 0 (zWk pW nv np I G A B zRt0) := by
  have hnv := hI.1.2
  have hnp := hI.2.1.2
  refine zw_aload_n 1 f53_0 rfl rfl ?_
  refine zw_virtual_v 4 0 0 [.ref 11] [(0, .ref 11)] f53_1 rfl n53_113 k53_113_10 rfl (hb_11 _ _ _ _) (by decide +kernel) (Nat.le_of_ble_eq_true rfl) rfl rfl (by decide +kernel) (by decide +kernel) rfl (Nat.le_of_ble_eq_true rfl) rfl ?_
  refine zWp.mono (ck_X10_reckonRates_11 ro nv np I _ _ _ hI ) ?_
  rintro r h1 ⟨I_2, G_2, A_2, B_2, rfl, K_2, hI_2, rfl⟩
  refine ⟨rfl, ?_⟩
  have K_2 := KP.tr KP.rf K_2
  refine zw_aload_n 5 f53_4 rfl rfl ?_
  refine zw_lconst 0 6 f53_5 rfl (by decide +kernel) ?_
  refine zw_put _ 9 f53_6 rfl g53_116_10 (hb_11 _ _ _ _) rfl (Nat.le_of_ble_eq_true rfl) (by decide +kernel) (hg_11_8 _ _ _ _ _) ?_
  refine zw_aload_n 10 f53_9 rfl rfl ?_
  refine zw_lconst 0 11 f53_10 rfl (by decide +kernel) ?_
  refine zw_put _ 14 f53_11 rfl g53_119_10 (hb_11 _ _ _ _) rfl (Nat.le_of_ble_eq_true rfl) (by decide +kernel) (hg_11_9 _ _ _ _ _) ?_
  refine zw_iconst 0 15 f53_14 rfl (by decide +kernel) ?_
  refine zw_istore_n _ 16 f53_15 rfl (by decide +kernel) rfl ?_
  exact lck_X10_seekNext_11_16 ro nv np I G A B hI (nv + 1) 0 _ _ _ _ _ (KP.g rfl (KP.g rfl K_2)) hI_2  trivial  (zl1_ne rfl rfl rfl) (show zld _ _ = some (.int (nI 0)) from zl1_eq) (by omega) (by omega)
set_option maxRecDepth 100000 in
set_option maxHeartbeats 0 in
theorem cp_X10_rests_11 (ro : UInt32 → Nat × (Nat → Int32)) (nv np : Nat) (I : Nat → Nat → Int32) (G : Nat → Nat → Int64) (A : Nat → Nat → Int32) (B : Nat → Nat → Int64) (hI : CI nv np I) : zWp ro 58 0 [(0, .ref 11)] [] (hS I G A B) 0 0 (fun r h1 => h1 = hS I G A B ∧ zRt2 r) := by
  have hnv := hI.1.2
  have hnp := hI.2.1.2
  refine zw_aload_n 1 f58_0 rfl rfl ?_
  refine zx_getG 4 f58_1 rfl g58_119_10 (hb_11 _ _ _ _) rfl (fun w1 hw1 => ?_)
  refine zw_lconst 0 5 f58_4 rfl (by decide +kernel) ?_
  refine zx_lcmp 6 f58_5 rfl (fun w2 hw2 => ?_)
  refine zw_if_ne 9 13 f58_6 (by decide +kernel) rfl (fun hc3 => ?_) (fun hc3 => ?_)
  · refine zw_iconst 0 14 f58_13 rfl (by decide +kernel) ?_
    refine zw_zreturn f58_14 r58 u58 (by decide +kernel) ?_
    exact ⟨rfl, ⟨_, rfl, (by decide +kernel)⟩⟩
  · refine zw_iconst 1 10 f58_9 rfl (by decide +kernel) ?_
    refine zw_goto 14 f58_10 (by decide +kernel) ?_
    refine zw_zreturn f58_14 r58 u58 (by decide +kernel) ?_
    exact ⟨rfl, ⟨_, rfl, (by decide +kernel)⟩⟩
set_option maxRecDepth 100000 in
set_option maxHeartbeats 0 in
theorem cp_X10_nextMomentAbove_11 (ro : UInt32 → Nat × (Nat → Int32)) (nv np : Nat) (I : Nat → Nat → Int32) (G : Nat → Nat → Int64) (A : Nat → Nat → Int32) (B : Nat → Nat → Int64) (hI : CI nv np I) : zWp ro 59 0 [(0, .ref 11)] [] (hS I G A B) 0 0 (fun r h1 => h1 = hS I G A B ∧ zRt3 r) := by
  have hnv := hI.1.2
  have hnp := hI.2.1.2
  refine zw_aload_n 1 f59_0 rfl rfl ?_
  refine zw_getfield 4 f59_1 rfl g59_12_10 (hb_11 _ _ _ _) rfl ?_
  refine zx_getG 7 f59_4 rfl g59_151_9 (hb_12 _ _ _ _) rfl (fun w1 hw1 => ?_)
  refine zw_aload_n 8 f59_7 rfl rfl ?_
  refine zx_getG 11 f59_8 rfl g59_119_10 (hb_11 _ _ _ _) rfl (fun w2 hw2 => ?_)
  refine zx_lmul 12 f59_11 rfl (fun w3 hw3 => ?_)
  refine zw_aload_n 13 f59_12 rfl rfl ?_
  refine zx_getG 16 f59_13 rfl g59_116_10 (hb_11 _ _ _ _) rfl (fun w4 hw4 => ?_)
  refine zx_ladd 17 f59_16 rfl (fun w5 hw5 => ?_)
  refine zw_lreturn f59_17 r59 u59 ?_
  exact ⟨rfl, ⟨_, rfl⟩⟩
set_option maxRecDepth 100000 in
set_option maxHeartbeats 0 in
theorem cp_X10_nextMomentBelow_11 (ro : UInt32 → Nat × (Nat → Int32)) (nv np : Nat) (I : Nat → Nat → Int32) (G : Nat → Nat → Int64) (A : Nat → Nat → Int32) (B : Nat → Nat → Int64) (hI : CI nv np I) : zWp ro 60 0 [(0, .ref 11)] [] (hS I G A B) 0 0 (fun r h1 => h1 = hS I G A B ∧ zRt3 r) := by
  have hnv := hI.1.2
  have hnp := hI.2.1.2
  refine zw_aload_n 1 f60_0 rfl rfl ?_
  refine zw_getfield 4 f60_1 rfl g60_12_10 (hb_11 _ _ _ _) rfl ?_
  refine zx_getG 7 f60_4 rfl g60_109_9 (hb_12 _ _ _ _) rfl (fun w1 hw1 => ?_)
  refine zw_aload_n 8 f60_7 rfl rfl ?_
  refine zx_getG 11 f60_8 rfl g60_119_10 (hb_11 _ _ _ _) rfl (fun w2 hw2 => ?_)
  refine zx_lmul 12 f60_11 rfl (fun w3 hw3 => ?_)
  refine zw_lreturn f60_12 r60 u60 ?_
  exact ⟨rfl, ⟨_, rfl⟩⟩
set_option maxRecDepth 100000 in
set_option maxHeartbeats 0 in
theorem cp_X10_nextIsBehind_11 (ro : UInt32 → Nat × (Nat → Int32)) (nv np : Nat) (I : Nat → Nat → Int32) (G : Nat → Nat → Int64) (A : Nat → Nat → Int32) (B : Nat → Nat → Int64) (hI : CI nv np I) (a : Int32) : zWp ro 61 0 [(0, .ref 11), (1, .int a)] [] (hS I G A B) 0 0 (fun r h1 => h1 = hS I G A B ∧ zRt2 r) := by
  have hnv := hI.1.2
  have hnp := hI.2.1.2
  refine zw_aload_n 1 f61_0 rfl rfl ?_
  refine zw_virtual_l 4 0 0 [.ref 11] [(0, .ref 11)] f61_1 rfl n61_154 k61_154_10 rfl (hb_11 _ _ _ _) (by decide +kernel) (Nat.le_of_ble_eq_true rfl) rfl rfl (by decide +kernel) (by decide +kernel) rfl (Nat.le_of_ble_eq_true rfl) rfl ?_
  refine zWp.mono (cp_X10_nextMomentAbove_11 ro nv np I _ _ _ hI ) ?_
  rintro r h1 ⟨rfl, ⟨w1, rfl⟩⟩
  refine ⟨_, rfl, ?_⟩
  refine zw_iload_n 5 f61_4 rfl rfl ?_
  refine zx_i2l 6 f61_5 rfl (fun w2 hw2 => ?_)
  refine zw_aload_n 7 f61_6 rfl rfl ?_
  refine zw_virtual_l 10 0 0 [.ref 11] [(0, .ref 11)] f61_7 rfl n61_158 k61_158_10 rfl (hb_11 _ _ _ _) (by decide +kernel) (Nat.le_of_ble_eq_true rfl) rfl rfl (by decide +kernel) (by decide +kernel) rfl (Nat.le_of_ble_eq_true rfl) rfl ?_
  refine zWp.mono (cp_X10_nextMomentBelow_11 ro nv np I _ _ _ hI ) ?_
  rintro r h1 ⟨rfl, ⟨w3, rfl⟩⟩
  refine ⟨_, rfl, ?_⟩
  refine zx_lmul 11 f61_10 rfl (fun w4 hw4 => ?_)
  refine zx_lcmp 12 f61_11 rfl (fun w5 hw5 => ?_)
  refine zw_if_le 15 19 f61_12 (by decide +kernel) rfl (fun hc6 => ?_) (fun hc6 => ?_)
  · refine zw_iconst 0 20 f61_19 rfl (by decide +kernel) ?_
    refine zw_zreturn f61_20 r61 u61 (by decide +kernel) ?_
    exact ⟨rfl, ⟨_, rfl, (by decide +kernel)⟩⟩
  · refine zw_iconst 1 16 f61_15 rfl (by decide +kernel) ?_
    refine zw_goto 20 f61_16 (by decide +kernel) ?_
    refine zw_zreturn f61_20 r61 u61 (by decide +kernel) ?_
    exact ⟨rfl, ⟨_, rfl, (by decide +kernel)⟩⟩
set_option maxRecDepth 100000 in
set_option maxHeartbeats 0 in
theorem cp_X10_isBehind_11 (ro : UInt32 → Nat × (Nat → Int32)) (nv np : Nat) (I : Nat → Nat → Int32) (G : Nat → Nat → Int64) (A : Nat → Nat → Int32) (B : Nat → Nat → Int64) (hI : CI nv np I) (a : Int32) : zWp ro 62 0 [(0, .ref 11), (1, .int a)] [] (hS I G A B) 0 0 (fun r h1 => h1 = hS I G A B ∧ zRt2 r) := by
  have hnv := hI.1.2
  have hnp := hI.2.1.2
  refine zw_aload_n 1 f62_0 rfl rfl ?_
  refine zw_getfield 4 f62_1 rfl g62_12_10 (hb_11 _ _ _ _) rfl ?_
  refine zx_getG 7 f62_4 rfl g62_151_9 (hb_12 _ _ _ _) rfl (fun w1 hw1 => ?_)
  refine zw_iload_n 8 f62_7 rfl rfl ?_
  refine zx_i2l 9 f62_8 rfl (fun w2 hw2 => ?_)
  refine zw_aload_n 10 f62_9 rfl rfl ?_
  refine zw_getfield 13 f62_10 rfl g62_12_10 (hb_11 _ _ _ _) rfl ?_
  refine zx_getG 16 f62_13 rfl g62_109_9 (hb_12 _ _ _ _) rfl (fun w3 hw3 => ?_)
  refine zx_lmul 17 f62_16 rfl (fun w4 hw4 => ?_)
  refine zx_lcmp 18 f62_17 rfl (fun w5 hw5 => ?_)
  refine zw_if_le 21 25 f62_18 (by decide +kernel) rfl (fun hc6 => ?_) (fun hc6 => ?_)
  · refine zw_iconst 0 26 f62_25 rfl (by decide +kernel) ?_
    refine zw_zreturn f62_26 r62 u62 (by decide +kernel) ?_
    exact ⟨rfl, ⟨_, rfl, (by decide +kernel)⟩⟩
  · refine zw_iconst 1 22 f62_21 rfl (by decide +kernel) ?_
    refine zw_goto 26 f62_22 (by decide +kernel) ?_
    refine zw_zreturn f62_26 r62 u62 (by decide +kernel) ?_
    exact ⟨rfl, ⟨_, rfl, (by decide +kernel)⟩⟩
set_option maxRecDepth 100000 in
set_option maxHeartbeats 0 in
theorem cp_X10_isAt_11 (ro : UInt32 → Nat × (Nat → Int32)) (nv np : Nat) (I : Nat → Nat → Int32) (G : Nat → Nat → Int64) (A : Nat → Nat → Int32) (B : Nat → Nat → Int64) (hI : CI nv np I) (a : Int32) : zWp ro 63 0 [(0, .ref 11), (1, .int a)] [] (hS I G A B) 0 0 (fun r h1 => h1 = hS I G A B ∧ zRt2 r) := by
  have hnv := hI.1.2
  have hnp := hI.2.1.2
  refine zw_aload_n 1 f63_0 rfl rfl ?_
  refine zw_getfield 4 f63_1 rfl g63_12_10 (hb_11 _ _ _ _) rfl ?_
  refine zx_getG 7 f63_4 rfl g63_151_9 (hb_12 _ _ _ _) rfl (fun w1 hw1 => ?_)
  refine zw_iload_n 8 f63_7 rfl rfl ?_
  refine zx_i2l 9 f63_8 rfl (fun w2 hw2 => ?_)
  refine zw_aload_n 10 f63_9 rfl rfl ?_
  refine zw_getfield 13 f63_10 rfl g63_12_10 (hb_11 _ _ _ _) rfl ?_
  refine zx_getG 16 f63_13 rfl g63_109_9 (hb_12 _ _ _ _) rfl (fun w3 hw3 => ?_)
  refine zx_lmul 17 f63_16 rfl (fun w4 hw4 => ?_)
  refine zx_lcmp 18 f63_17 rfl (fun w5 hw5 => ?_)
  refine zw_if_ne 21 25 f63_18 (by decide +kernel) rfl (fun hc6 => ?_) (fun hc6 => ?_)
  · refine zw_iconst 0 26 f63_25 rfl (by decide +kernel) ?_
    refine zw_zreturn f63_26 r63 u63 (by decide +kernel) ?_
    exact ⟨rfl, ⟨_, rfl, (by decide +kernel)⟩⟩
  · refine zw_iconst 1 22 f63_21 rfl (by decide +kernel) ?_
    refine zw_goto 26 f63_22 (by decide +kernel) ?_
    refine zw_zreturn f63_26 r63 u63 (by decide +kernel) ?_
    exact ⟨rfl, ⟨_, rfl, (by decide +kernel)⟩⟩
set_option maxRecDepth 100000 in
set_option maxHeartbeats 0 in
theorem cp_X10_isAhead_11 (ro : UInt32 → Nat × (Nat → Int32)) (nv np : Nat) (I : Nat → Nat → Int32) (G : Nat → Nat → Int64) (A : Nat → Nat → Int32) (B : Nat → Nat → Int64) (hI : CI nv np I) (a : Int32) : zWp ro 64 0 [(0, .ref 11), (1, .int a)] [] (hS I G A B) 0 0 (fun r h1 => h1 = hS I G A B ∧ zRt2 r) := by
  have hnv := hI.1.2
  have hnp := hI.2.1.2
  refine zw_iload_n 1 f64_0 rfl rfl ?_
  refine zx_i2l 2 f64_1 rfl (fun w1 hw1 => ?_)
  refine zw_aload_n 3 f64_2 rfl rfl ?_
  refine zw_getfield 6 f64_3 rfl g64_12_10 (hb_11 _ _ _ _) rfl ?_
  refine zx_getG 9 f64_6 rfl g64_109_9 (hb_12 _ _ _ _) rfl (fun w2 hw2 => ?_)
  refine zx_lmul 10 f64_9 rfl (fun w3 hw3 => ?_)
  refine zw_aload_n 11 f64_10 rfl rfl ?_
  refine zw_getfield 14 f64_11 rfl g64_12_10 (hb_11 _ _ _ _) rfl ?_
  refine zx_getG 17 f64_14 rfl g64_151_9 (hb_12 _ _ _ _) rfl (fun w4 hw4 => ?_)
  refine zx_lcmp 18 f64_17 rfl (fun w5 hw5 => ?_)
  refine zw_if_le 21 25 f64_18 (by decide +kernel) rfl (fun hc6 => ?_) (fun hc6 => ?_)
  · refine zw_iconst 0 26 f64_25 rfl (by decide +kernel) ?_
    refine zw_zreturn f64_26 r64 u64 (by decide +kernel) ?_
    exact ⟨rfl, ⟨_, rfl, (by decide +kernel)⟩⟩
  · refine zw_iconst 1 22 f64_21 rfl (by decide +kernel) ?_
    refine zw_goto 26 f64_22 (by decide +kernel) ?_
    refine zw_zreturn f64_26 r64 u64 (by decide +kernel) ?_
    exact ⟨rfl, ⟨_, rfl, (by decide +kernel)⟩⟩
set_option maxRecDepth 100000 in
set_option maxHeartbeats 0 in
theorem lcp_X10_inVessels_11_4 (ro : UInt32 → Nat × (Nat → Int32)) (nv np : Nat) (I : Nat → Nat → Int32) (G : Nat → Nat → Int64) (A : Nat → Nat → Int32) (B : Nat → Nat → Int64) (hI : CI nv np I) : ∀ (n k : Nat) (ls : List (Nat × Value)), ∀ (y1 : Int64), True → zld ls 0 = some (.ref 11) → zld ls 1 = some (.long y1) → zld ls 3 = some (.int (nI k)) → k ≤ nv → nv + 1 ≤ k + n → zWp ro 65 4 ls [] (hS I G A B) 0 0 (fun r h1 => h1 = hS I G A B ∧ zRt3 r) := by
  have hnv := hI.1.2
  have hnp := hI.2.1.2
  intro n
  induction n with
  | zero =>
    intro k ls y1 _ hl0 hl1 hl3 h1 h2
    exact absurd h2 (by omega)
  | succ n ih =>
    intro k ls y1 _ hl0 hl1 hl3 hk1 hk2
    refine zw_iload_n 5 f65_4 rfl hl3 ?_
    refine zw_aload_n 6 f65_5 rfl hl0 ?_
    refine zw_getfield 9 f65_6 rfl g65_37_10 (hb_11 _ _ _ _) rfl ?_
    refine zw_getI (nI nv) 12 f65_9 rfl g65_80_4 (hb_1 _ _ _ _) rfl hI.1.1 ?_
    refine zw_ic_ge 15 33 f65_12 (by decide +kernel) rfl (fun hc1 => ?_) (fun hc1 => ?_)
    · have hn_hc1 : nv ≤ k := zn_ge (by omega) (by omega) hc1
      refine zw_lload_n 34 f65_33 rfl hl1 ?_
      refine zw_lreturn f65_34 r65 u65 ?_
      exact ⟨rfl, ⟨_, rfl⟩⟩
    · have hn_hc1 : k < nv := zn_lt (by omega) (by omega) hc1
      refine zw_lload_n 16 f65_15 rfl hl1 ?_
      refine zw_aload_n 17 f65_16 rfl hl0 ?_
      refine zw_getfield 20 f65_17 rfl g65_12_10 (hb_11 _ _ _ _) rfl ?_
      refine zw_getfield 23 f65_20 rfl g65_87_9 (hb_12 _ _ _ _) rfl ?_
      refine zw_iload_n 24 f65_23 rfl hl3 ?_
      refine zx_laload k 25 f65_24 rfl (hb_13 _ _ _ _) (nI_clamp (by omega)) (nI_pos (by omega)) (by omega) (fun w2 hw2 => ?_)
      refine zx_ladd 26 f65_25 rfl (fun w3 hw3 => ?_)
      refine zw_lstore_n _ 27 f65_26 rfl (by decide +kernel) rfl ?_
      refine zw_iinc (nI (k + 1)) _ 30 f65_27 rfl (zl2_ne rfl rfl hl3) (by decide +kernel) (nI_1 _) rfl ?_
      refine zw_goto 4 f65_30 (by decide +kernel) ?_
      exact ih ((k + 1)) _ w3 trivial  (zl1_ne rfl rfl (zl2_ne rfl rfl hl0)) (zl1_ne rfl rfl zl2_eq) zl1_eq (by omega) (by omega)
set_option maxRecDepth 100000 in
set_option maxHeartbeats 0 in
theorem cp_X10_inVessels_11 (ro : UInt32 → Nat × (Nat → Int32)) (nv np : Nat) (I : Nat → Nat → Int32) (G : Nat → Nat → Int64) (A : Nat → Nat → Int32) (B : Nat → Nat → Int64) (hI : CI nv np I) : zWp ro 65 0 [(0, .ref 11)] [] (hS I G A B) 0 0 (fun r h1 => h1 = hS I G A B ∧ zRt3 r) := by
  have hnv := hI.1.2
  have hnp := hI.2.1.2
  refine zw_lconst 0 1 f65_0 rfl (by decide +kernel) ?_
  refine zw_lstore_n _ 2 f65_1 rfl (by decide +kernel) rfl ?_
  refine zw_iconst 0 3 f65_2 rfl (by decide +kernel) ?_
  refine zw_istore_n _ 4 f65_3 rfl (by decide +kernel) rfl ?_
  exact lcp_X10_inVessels_11_4 ro nv np I G A B hI (nv + 1) 0 _ 0 trivial  (zl1_ne rfl rfl (zl2_ne rfl rfl rfl)) (zl1_ne rfl rfl zl2_eq) (show zld _ _ = some (.int (nI 0)) from zl1_eq) (by omega) (by omega)
set_option maxRecDepth 100000 in
set_option maxHeartbeats 0 in
theorem lcp_X10_commonBehind_11_69 (ro : UInt32 → Nat × (Nat → Int32)) (nv np : Nat) (I : Nat → Nat → Int32) (G : Nat → Nat → Int64) (A : Nat → Nat → Int32) (B : Nat → Nat → Int64) (hI : CI nv np I) (a : Int64) (b : Int64) (c : Int64) : ∀ (n k : Nat) (ls : List (Nat × Value)), ∀ (y7 : Int64), True → zld ls 0 = some (.ref 11) → zld ls 1 = some (.long a) → zld ls 3 = some (.long b) → zld ls 5 = some (.long c) → zld ls 7 = some (.long y7) → zld ls 9 = some (.int (nI k)) → k ≤ nv → nv + 1 ≤ k + n → zWp ro 69 69 ls [] (hS I G A B) 0 0 (fun r h1 => h1 = hS I G A B ∧ zRt3 r) := by
  have hnv := hI.1.2
  have hnp := hI.2.1.2
  intro n
  induction n with
  | zero =>
    intro k ls y7 _ hl0 hl1 hl3 hl5 hl7 hl9 h1 h2
    exact absurd h2 (by omega)
  | succ n ih =>
    intro k ls y7 _ hl0 hl1 hl3 hl5 hl7 hl9 hk1 hk2
    refine zw_iload 71 f69_69 rfl hl9 ?_
    refine zw_aload_n 72 f69_71 rfl hl0 ?_
    refine zw_getfield 75 f69_72 rfl g69_37_10 (hb_11 _ _ _ _) rfl ?_
    refine zw_getI (nI nv) 78 f69_75 rfl g69_80_4 (hb_1 _ _ _ _) rfl hI.1.1 ?_
    refine zw_ic_ge 81 124 f69_78 (by decide +kernel) rfl (fun hc1 => ?_) (fun hc1 => ?_)
    · have hn_hc1 : nv ≤ k := zn_ge (by omega) (by omega) hc1
      refine zw_lload 126 f69_124 rfl hl7 ?_
      refine zw_lreturn f69_126 r69 u69 ?_
      exact ⟨rfl, ⟨_, rfl⟩⟩
    · have hn_hc1 : k < nv := zn_lt (by omega) (by omega) hc1
      refine zw_lload 83 f69_81 rfl hl7 ?_
      refine zw_lconst 1 84 f69_83 rfl (by decide +kernel) ?_
      refine zx_lcmp 85 f69_84 rfl (fun w2 hw2 => ?_)
      refine zw_if_le 88 124 f69_85 (by decide +kernel) rfl (fun hc3 => ?_) (fun hc3 => ?_)
      · refine zw_lload 126 f69_124 rfl hl7 ?_
        refine zw_lreturn f69_126 r69 u69 ?_
        exact ⟨rfl, ⟨_, rfl⟩⟩
      · refine zw_aload_n 89 f69_88 rfl hl0 ?_
        refine zw_getfield 92 f69_89 rfl g69_12_10 (hb_11 _ _ _ _) rfl ?_
        refine zw_getfield 95 f69_92 rfl g69_87_9 (hb_12 _ _ _ _) rfl ?_
        refine zw_iload 97 f69_95 rfl hl9 ?_
        refine zx_laload k 98 f69_97 rfl (hb_13 _ _ _ _) (nI_clamp (by omega)) (nI_pos (by omega)) (by omega) (fun w4 hw4 => ?_)
        refine zw_lload_n 99 f69_98 rfl hl1 ?_
        refine zx_lmul 100 f69_99 rfl (fun w5 hw5 => ?_)
        refine zw_aload_n 101 f69_100 rfl hl0 ?_
        refine zw_getfield 104 f69_101 rfl g69_22_10 (hb_11 _ _ _ _) rfl ?_
        refine zw_iload 106 f69_104 rfl hl9 ?_
        refine zx_iaload k 107 f69_106 rfl (hb_17 _ _ _ _) (nI_clamp (by omega)) (nI_pos (by omega)) (by omega) (fun w6 hw6 => ?_)
        refine zx_i2l 108 f69_107 rfl (fun w7 hw7 => ?_)
        refine zw_lload_n 109 f69_108 rfl hl3 ?_
        refine zx_lmul 110 f69_109 rfl (fun w8 hw8 => ?_)
        refine zx_ladd 111 f69_110 rfl (fun w9 hw9 => ?_)
        refine zw_lload 113 f69_111 rfl hl7 ?_
        refine zw_static_l 116 0 0 [.long w9, .long y7] [] [(0, .long w9), (2, .long y7)] f69_113 rfl k69_183_99 rfl (by decide +kernel) (Nat.le_of_ble_eq_true rfl) (Nat.le_of_ble_eq_true rfl) rfl rfl (by decide +kernel) (by decide +kernel) rfl (Nat.le_of_ble_eq_true rfl) rfl ?_
        refine zWp.mono (cp_X11_gcd ro nv np I _ _ _ hI w9 y7) ?_
        rintro r h1 ⟨rfl, ⟨w10, rfl⟩⟩
        refine ⟨_, rfl, ?_⟩
        refine zw_lstore _ 118 f69_116 rfl (by decide +kernel) rfl ?_
        refine zw_iinc (nI (k + 1)) _ 121 f69_118 rfl (zl2_ne rfl rfl hl9) (by decide +kernel) (nI_1 _) rfl ?_
        refine zw_goto 69 f69_121 (by decide +kernel) ?_
        exact ih ((k + 1)) _ w10 trivial  (zl1_ne rfl rfl (zl2_ne rfl rfl hl0)) (zl1_ne rfl rfl (zl2_ne rfl rfl hl1)) (zl1_ne rfl rfl (zl2_ne rfl rfl hl3)) (zl1_ne rfl rfl (zl2_ne rfl rfl hl5)) (zl1_ne rfl rfl zl2_eq) zl1_eq (by omega) (by omega)
set_option maxRecDepth 100000 in
set_option maxHeartbeats 0 in
theorem cp_X10_commonBehind_11 (ro : UInt32 → Nat × (Nat → Int32)) (nv np : Nat) (I : Nat → Nat → Int32) (G : Nat → Nat → Int64) (A : Nat → Nat → Int32) (B : Nat → Nat → Int64) (hI : CI nv np I) (a : Int64) (b : Int64) (c : Int64) : zWp ro 69 0 [(0, .ref 11), (1, .long a), (3, .long b), (5, .long c)] [] (hS I G A B) 0 0 (fun r h1 => h1 = hS I G A B ∧ zRt3 r) := by
  have hnv := hI.1.2
  have hnp := hI.2.1.2
  refine zw_aload_n 1 f69_0 rfl rfl ?_
  refine zw_getfield 4 f69_1 rfl g69_12_10 (hb_11 _ _ _ _) rfl ?_
  refine zx_getG 7 f69_4 rfl g69_151_9 (hb_12 _ _ _ _) rfl (fun w1 hw1 => ?_)
  refine zw_lload_n 8 f69_7 rfl rfl ?_
  refine zx_lmul 9 f69_8 rfl (fun w2 hw2 => ?_)
  refine zw_lload_n 10 f69_9 rfl rfl ?_
  refine zx_ladd 11 f69_10 rfl (fun w3 hw3 => ?_)
  refine zw_lload 13 f69_11 rfl rfl ?_
  refine zw_static_l 16 0 0 [.long w3, .long c] [] [(0, .long w3), (2, .long c)] f69_13 rfl k69_183_99 rfl (by decide +kernel) (Nat.le_of_ble_eq_true rfl) (Nat.le_of_ble_eq_true rfl) rfl rfl (by decide +kernel) (by decide +kernel) rfl (Nat.le_of_ble_eq_true rfl) rfl ?_
  refine zWp.mono (cp_X11_gcd ro nv np I _ _ _ hI w3 c) ?_
  rintro r h1 ⟨rfl, ⟨w4, rfl⟩⟩
  refine ⟨_, rfl, ?_⟩
  refine zw_lstore _ 18 f69_16 rfl (by decide +kernel) rfl ?_
  refine zw_aload_n 19 f69_18 rfl (zl2_ne rfl rfl rfl) ?_
  refine zw_getfield 22 f69_19 rfl g69_12_10 (hb_11 _ _ _ _) rfl ?_
  refine zx_getG 25 f69_22 rfl g69_177_9 (hb_12 _ _ _ _) rfl (fun w5 hw5 => ?_)
  refine zw_lload_n 26 f69_25 rfl (zl2_ne rfl rfl rfl) ?_
  refine zx_lmul 27 f69_26 rfl (fun w6 hw6 => ?_)
  refine zw_aload_n 28 f69_27 rfl (zl2_ne rfl rfl rfl) ?_
  refine zx_getI 31 f69_28 rfl g69_54_10 (hb_11 _ _ _ _) rfl (fun w7 hw7 => ?_)
  refine zx_i2l 32 f69_31 rfl (fun w8 hw8 => ?_)
  refine zw_lload_n 33 f69_32 rfl (zl2_ne rfl rfl rfl) ?_
  refine zx_lmul 34 f69_33 rfl (fun w9 hw9 => ?_)
  refine zx_ladd 35 f69_34 rfl (fun w10 hw10 => ?_)
  refine zw_lload 37 f69_35 rfl zl2_eq ?_
  refine zw_static_l 40 0 0 [.long w10, .long w4] [] [(0, .long w10), (2, .long w4)] f69_37 rfl k69_183_99 rfl (by decide +kernel) (Nat.le_of_ble_eq_true rfl) (Nat.le_of_ble_eq_true rfl) rfl rfl (by decide +kernel) (by decide +kernel) rfl (Nat.le_of_ble_eq_true rfl) rfl ?_
  refine zWp.mono (cp_X11_gcd ro nv np I _ _ _ hI w10 w4) ?_
  rintro r h1 ⟨rfl, ⟨w11, rfl⟩⟩
  refine ⟨_, rfl, ?_⟩
  refine zw_lstore _ 42 f69_40 rfl (by decide +kernel) rfl ?_
  refine zw_aload_n 43 f69_42 rfl (zl2_ne rfl rfl (zl2_ne rfl rfl rfl)) ?_
  refine zw_getfield 46 f69_43 rfl g69_12_10 (hb_11 _ _ _ _) rfl ?_
  refine zx_getG 49 f69_46 rfl g69_180_9 (hb_12 _ _ _ _) rfl (fun w12 hw12 => ?_)
  refine zw_lload_n 50 f69_49 rfl (zl2_ne rfl rfl (zl2_ne rfl rfl rfl)) ?_
  refine zx_lmul 51 f69_50 rfl (fun w13 hw13 => ?_)
  refine zw_aload_n 52 f69_51 rfl (zl2_ne rfl rfl (zl2_ne rfl rfl rfl)) ?_
  refine zx_getI 55 f69_52 rfl g69_58_10 (hb_11 _ _ _ _) rfl (fun w14 hw14 => ?_)
  refine zx_i2l 56 f69_55 rfl (fun w15 hw15 => ?_)
  refine zw_lload_n 57 f69_56 rfl (zl2_ne rfl rfl (zl2_ne rfl rfl rfl)) ?_
  refine zx_lmul 58 f69_57 rfl (fun w16 hw16 => ?_)
  refine zx_ladd 59 f69_58 rfl (fun w17 hw17 => ?_)
  refine zw_lload 61 f69_59 rfl zl2_eq ?_
  refine zw_static_l 64 0 0 [.long w17, .long w11] [] [(0, .long w17), (2, .long w11)] f69_61 rfl k69_183_99 rfl (by decide +kernel) (Nat.le_of_ble_eq_true rfl) (Nat.le_of_ble_eq_true rfl) rfl rfl (by decide +kernel) (by decide +kernel) rfl (Nat.le_of_ble_eq_true rfl) rfl ?_
  refine zWp.mono (cp_X11_gcd ro nv np I _ _ _ hI w17 w11) ?_
  rintro r h1 ⟨rfl, ⟨w18, rfl⟩⟩
  refine ⟨_, rfl, ?_⟩
  refine zw_lstore _ 66 f69_64 rfl (by decide +kernel) rfl ?_
  refine zw_iconst 0 67 f69_66 rfl (by decide +kernel) ?_
  refine zw_istore _ 69 f69_67 rfl (by decide +kernel) rfl ?_
  exact lcp_X10_commonBehind_11_69 ro nv np I G A B hI a b c (nv + 1) 0 _ w18 trivial  (zl1_ne rfl rfl (zl2_ne rfl rfl (zl2_ne rfl rfl (zl2_ne rfl rfl rfl)))) (zl1_ne rfl rfl (zl2_ne rfl rfl (zl2_ne rfl rfl (zl2_ne rfl rfl rfl)))) (zl1_ne rfl rfl (zl2_ne rfl rfl (zl2_ne rfl rfl (zl2_ne rfl rfl rfl)))) (zl1_ne rfl rfl (zl2_ne rfl rfl (zl2_ne rfl rfl (zl2_ne rfl rfl rfl)))) (zl1_ne rfl rfl zl2_eq) (show zld _ _ = some (.int (nI 0)) from zl1_eq) (by omega) (by omega)
set_option maxRecDepth 100000 in
set_option maxHeartbeats 0 in
theorem lck_X10_advance_11_132 (ro : UInt32 → Nat × (Nat → Int32)) (nv np : Nat) (I : Nat → Nat → Int32) (G : Nat → Nat → Int64) (A : Nat → Nat → Int32) (B : Nat → Nat → Int64) (hI : CI nv np I) (a : Int64) (b : Int64) : ∀ (n k : Nat) (ls : List (Nat × Value)) (I1 : Nat → Nat → Int32) (G1 : Nat → Nat → Int64) (A1 : Nat → Nat → Int32) (B1 : Nat → Nat → Int64), KP pW I G A B I1 G1 A1 B1 → CI nv np I1 → ∀ (y5 : Int64) (y7 : Int64), True → ¬ y7 = 0 → zld ls 0 = some (.ref 11) → zld ls 1 = some (.long a) → zld ls 3 = some (.long b) → zld ls 5 = some (.long y5) → zld ls 7 = some (.long y7) → zld ls 9 = some (.int (nI k)) → k ≤ nv → nv + 1 ≤ k + n → zWp ro 68 132 ls [] (hS I1 G1 A1 B1) 0 0 (zWk pW nv np I G A B zRt2) := by
  have hnv := hI.1.2
  have hnp := hI.2.1.2
  intro n
  induction n with
  | zero =>
    intro k ls I1 G1 A1 B1 K hJ y5 y7 _ hz7 hl0 hl1 hl3 hl5 hl7 hl9 h1 h2
    exact absurd h2 (by omega)
  | succ n ih =>
    intro k ls I1 G1 A1 B1 K hJ y5 y7 _ hz7 hl0 hl1 hl3 hl5 hl7 hl9 hk1 hk2
    refine zw_iload 134 f68_132 rfl hl9 ?_
    refine zw_aload_n 135 f68_134 rfl hl0 ?_
    refine zw_getfield 138 f68_135 rfl g68_37_10 (hb_11 _ _ _ _) rfl ?_
    refine zw_getI (nI nv) 141 f68_138 rfl g68_80_4 (hb_1 _ _ _ _) rfl hJ.1.1 ?_
    refine zw_ic_ge 144 186 f68_141 (by decide +kernel) rfl (fun hc1 => ?_) (fun hc1 => ?_)
    · have hn_hc1 : nv ≤ k := zn_ge (by omega) (by omega) hc1
      refine zw_iconst 1 187 f68_186 rfl (by decide +kernel) ?_
      refine zw_zreturn f68_187 r68 u68 (by decide +kernel) ?_
      exact ⟨_, _, _, _, rfl, K, hJ, ⟨_, rfl, (by decide +kernel)⟩⟩
    · have hn_hc1 : k < nv := zn_lt (by omega) (by omega) hc1
      refine zw_aload_n 145 f68_144 rfl hl0 ?_
      refine zw_getfield 148 f68_145 rfl g68_12_10 (hb_11 _ _ _ _) rfl ?_
      refine zw_getfield 151 f68_148 rfl g68_87_9 (hb_12 _ _ _ _) rfl ?_
      refine zw_iload 153 f68_151 rfl hl9 ?_
      refine zw_aload_n 154 f68_153 rfl hl0 ?_
      refine zw_getfield 157 f68_154 rfl g68_12_10 (hb_11 _ _ _ _) rfl ?_
      refine zw_getfield 160 f68_157 rfl g68_87_9 (hb_12 _ _ _ _) rfl ?_
      refine zw_iload 162 f68_160 rfl hl9 ?_
      refine zx_laload k 163 f68_162 rfl (hb_13 _ _ _ _) (nI_clamp (by omega)) (nI_pos (by omega)) (by omega) (fun w2 hw2 => ?_)
      refine zw_lload_n 164 f68_163 rfl hl1 ?_
      refine zx_lmul 165 f68_164 rfl (fun w3 hw3 => ?_)
      refine zw_aload_n 166 f68_165 rfl hl0 ?_
      refine zw_getfield 169 f68_166 rfl g68_22_10 (hb_11 _ _ _ _) rfl ?_
      refine zw_iload 171 f68_169 rfl hl9 ?_
      refine zx_iaload k 172 f68_171 rfl (hb_17 _ _ _ _) (nI_clamp (by omega)) (nI_pos (by omega)) (by omega) (fun w4 hw4 => ?_)
      refine zx_i2l 173 f68_172 rfl (fun w5 hw5 => ?_)
      refine zw_lload_n 174 f68_173 rfl hl3 ?_
      refine zx_lmul 175 f68_174 rfl (fun w6 hw6 => ?_)
      refine zx_ladd 176 f68_175 rfl (fun w7 hw7 => ?_)
      refine zw_lload 178 f68_176 rfl hl7 ?_
      refine zx_ldiv 179 f68_178 rfl hz7 (fun w8 hw8 => ?_)
      refine zw_lst k _ 180 f68_179 rfl (hb_13 _ _ _ _) (nI_clamp (by omega)) (nI_pos (by omega)) (by omega) (ha_13 _ _ _ _ _) ?_
      refine zw_iinc (nI (k + 1)) _ 183 f68_180 rfl hl9 (by decide +kernel) (nI_1 _) rfl ?_
      refine zw_goto 132 f68_183 (by decide +kernel) ?_
      exact ih ((k + 1)) _ _ _ _ _ (KP.b rfl K) hJ y5 y7 trivial hz7 (zl1_ne rfl rfl hl0) (zl1_ne rfl rfl hl1) (zl1_ne rfl rfl hl3) (zl1_ne rfl rfl hl5) (zl1_ne rfl rfl hl7) zl1_eq (by omega) (by omega)
set_option maxRecDepth 100000 in
set_option maxHeartbeats 0 in
theorem ck_X10_advance_11 (ro : UInt32 → Nat × (Nat → Int32)) (nv np : Nat) (I : Nat → Nat → Int32) (G : Nat → Nat → Int64) (A : Nat → Nat → Int32) (B : Nat → Nat → Int64) (hI : CI nv np I) (a : Int64) (b : Int64) : zWp ro 68 0 [(0, .ref 11), (1, .long a), (3, .long b)] [] (hS I G A B) 0 0 (zWk pW nv np I G A B zRt2) := by
  have hnv := hI.1.2
  have hnp := hI.2.1.2
  refine zw_aload_n 1 f68_0 rfl rfl ?_
  refine zw_getfield 4 f68_1 rfl g68_12_10 (hb_11 _ _ _ _) rfl ?_
  refine zx_getG 7 f68_4 rfl g68_109_9 (hb_12 _ _ _ _) rfl (fun w1 hw1 => ?_)
  refine zw_lload_n 8 f68_7 rfl rfl ?_
  refine zx_lmul 9 f68_8 rfl (fun w2 hw2 => ?_)
  refine zw_lstore _ 11 f68_9 rfl (by decide +kernel) rfl ?_
  refine zw_aload_n 12 f68_11 rfl (zl2_ne rfl rfl rfl) ?_
  refine zw_lload_n 13 f68_12 rfl (zl2_ne rfl rfl rfl) ?_
  refine zw_lload_n 14 f68_13 rfl (zl2_ne rfl rfl rfl) ?_
  refine zw_lload 16 f68_14 rfl zl2_eq ?_
  refine zw_virtual_l 19 0 0 [.ref 11, .long a, .long b, .long w2] [(0, .ref 11), (1, .long a), (3, .long b), (5, .long w2)] f68_16 rfl n68_171 k68_171_10 rfl (hb_11 _ _ _ _) (by decide +kernel) (Nat.le_of_ble_eq_true rfl) rfl rfl (by decide +kernel) (by decide +kernel) rfl (Nat.le_of_ble_eq_true rfl) rfl ?_
  refine zWp.mono (cp_X10_commonBehind_11 ro nv np I _ _ _ hI a b w2) ?_
  rintro r h1 ⟨rfl, ⟨w3, rfl⟩⟩
  refine ⟨_, rfl, ?_⟩
  refine zw_lstore _ 21 f68_19 rfl (by decide +kernel) rfl ?_
  refine zw_lload 23 f68_21 rfl zl2_eq ?_
  refine zw_lconst 0 24 f68_23 rfl (by decide +kernel) ?_
  refine zx_lcmp 25 f68_24 rfl (fun w4 hw4 => ?_)
  refine zw_if_eq 28 40 f68_25 (by decide +kernel) rfl (fun hc5 => ?_) (fun hc5 => ?_)
  · refine zw_iconst 0 41 f68_40 rfl (by decide +kernel) ?_
    refine zw_zreturn f68_41 r68 u68 (by decide +kernel) ?_
    exact ⟨_, _, _, _, rfl, KP.rf, hI, ⟨_, rfl, (by decide +kernel)⟩⟩
  · refine zw_lload 30 f68_28 rfl (zl2_ne rfl rfl zl2_eq) ?_
    refine zw_lload 32 f68_30 rfl zl2_eq ?_
    refine zx_ldiv 33 f68_32 rfl (zl_cmp0 hw4 hc5) (fun w6 hw6 => ?_)
    refine zw_ldc2_w 10000 36 f68_33 rfl (by decide +kernel) ?_
    refine zx_lcmp 37 f68_36 rfl (fun w7 hw7 => ?_)
    refine zw_if_le 40 42 f68_37 (by decide +kernel) rfl (fun hc8 => ?_) (fun hc8 => ?_)
    · refine zw_aload_n 43 f68_42 rfl (zl2_ne rfl rfl (zl2_ne rfl rfl rfl)) ?_
      refine zw_getfield 46 f68_43 rfl g68_12_10 (hb_11 _ _ _ _) rfl ?_
      refine zw_lload 48 f68_46 rfl (zl2_ne rfl rfl zl2_eq) ?_
      refine zw_lload 50 f68_48 rfl zl2_eq ?_
      refine zx_ldiv 51 f68_50 rfl (zl_cmp0 hw4 hc5) (fun w9 hw9 => ?_)
      refine zw_put _ 54 f68_51 rfl g68_109_9 (hb_12 _ _ _ _) rfl (Nat.le_of_ble_eq_true rfl) (by decide +kernel) (hg_12_0 _ _ _ _ _) ?_
      refine zw_aload_n 55 f68_54 rfl (zl2_ne rfl rfl (zl2_ne rfl rfl rfl)) ?_
      refine zw_getfield 58 f68_55 rfl g68_12_10 (hb_11 _ _ _ _) rfl ?_
      refine zw_aload_n 59 f68_58 rfl (zl2_ne rfl rfl (zl2_ne rfl rfl rfl)) ?_
      refine zw_getfield 62 f68_59 rfl g68_12_10 (hb_11 _ _ _ _) rfl ?_
      refine zx_getG 65 f68_62 rfl g68_151_9 (hb_12 _ _ _ _) rfl (fun w10 hw10 => ?_)
      refine zw_lload_n 66 f68_65 rfl (zl2_ne rfl rfl (zl2_ne rfl rfl rfl)) ?_
      refine zx_lmul 67 f68_66 rfl (fun w11 hw11 => ?_)
      refine zw_lload_n 68 f68_67 rfl (zl2_ne rfl rfl (zl2_ne rfl rfl rfl)) ?_
      refine zx_ladd 69 f68_68 rfl (fun w12 hw12 => ?_)
      refine zw_lload 71 f68_69 rfl zl2_eq ?_
      refine zx_ldiv 72 f68_71 rfl (zl_cmp0 hw4 hc5) (fun w13 hw13 => ?_)
      refine zw_put _ 75 f68_72 rfl g68_151_9 (hb_12 _ _ _ _) rfl (Nat.le_of_ble_eq_true rfl) (by decide +kernel) (hg_12_1 _ _ _ _ _) ?_
      refine zw_aload_n 76 f68_75 rfl (zl2_ne rfl rfl (zl2_ne rfl rfl rfl)) ?_
      refine zw_getfield 79 f68_76 rfl g68_12_10 (hb_11 _ _ _ _) rfl ?_
      refine zw_aload_n 80 f68_79 rfl (zl2_ne rfl rfl (zl2_ne rfl rfl rfl)) ?_
      refine zw_getfield 83 f68_80 rfl g68_12_10 (hb_11 _ _ _ _) rfl ?_
      refine zx_getG 86 f68_83 rfl g68_177_9 (hb_12 _ _ _ _) rfl (fun w14 hw14 => ?_)
      refine zw_lload_n 87 f68_86 rfl (zl2_ne rfl rfl (zl2_ne rfl rfl rfl)) ?_
      refine zx_lmul 88 f68_87 rfl (fun w15 hw15 => ?_)
      refine zw_aload_n 89 f68_88 rfl (zl2_ne rfl rfl (zl2_ne rfl rfl rfl)) ?_
      refine zx_getI 92 f68_89 rfl g68_54_10 (hb_11 _ _ _ _) rfl (fun w16 hw16 => ?_)
      refine zx_i2l 93 f68_92 rfl (fun w17 hw17 => ?_)
      refine zw_lload_n 94 f68_93 rfl (zl2_ne rfl rfl (zl2_ne rfl rfl rfl)) ?_
      refine zx_lmul 95 f68_94 rfl (fun w18 hw18 => ?_)
      refine zx_ladd 96 f68_95 rfl (fun w19 hw19 => ?_)
      refine zw_lload 98 f68_96 rfl zl2_eq ?_
      refine zx_ldiv 99 f68_98 rfl (zl_cmp0 hw4 hc5) (fun w20 hw20 => ?_)
      refine zw_put _ 102 f68_99 rfl g68_177_9 (hb_12 _ _ _ _) rfl (Nat.le_of_ble_eq_true rfl) (by decide +kernel) (hg_12_2 _ _ _ _ _) ?_
      refine zw_aload_n 103 f68_102 rfl (zl2_ne rfl rfl (zl2_ne rfl rfl rfl)) ?_
      refine zw_getfield 106 f68_103 rfl g68_12_10 (hb_11 _ _ _ _) rfl ?_
      refine zw_aload_n 107 f68_106 rfl (zl2_ne rfl rfl (zl2_ne rfl rfl rfl)) ?_
      refine zw_getfield 110 f68_107 rfl g68_12_10 (hb_11 _ _ _ _) rfl ?_
      refine zx_getG 113 f68_110 rfl g68_180_9 (hb_12 _ _ _ _) rfl (fun w21 hw21 => ?_)
      refine zw_lload_n 114 f68_113 rfl (zl2_ne rfl rfl (zl2_ne rfl rfl rfl)) ?_
      refine zx_lmul 115 f68_114 rfl (fun w22 hw22 => ?_)
      refine zw_aload_n 116 f68_115 rfl (zl2_ne rfl rfl (zl2_ne rfl rfl rfl)) ?_
      refine zx_getI 119 f68_116 rfl g68_58_10 (hb_11 _ _ _ _) rfl (fun w23 hw23 => ?_)
      refine zx_i2l 120 f68_119 rfl (fun w24 hw24 => ?_)
      refine zw_lload_n 121 f68_120 rfl (zl2_ne rfl rfl (zl2_ne rfl rfl rfl)) ?_
      refine zx_lmul 122 f68_121 rfl (fun w25 hw25 => ?_)
      refine zx_ladd 123 f68_122 rfl (fun w26 hw26 => ?_)
      refine zw_lload 125 f68_123 rfl zl2_eq ?_
      refine zx_ldiv 126 f68_125 rfl (zl_cmp0 hw4 hc5) (fun w27 hw27 => ?_)
      refine zw_put _ 129 f68_126 rfl g68_180_9 (hb_12 _ _ _ _) rfl (Nat.le_of_ble_eq_true rfl) (by decide +kernel) (hg_12_3 _ _ _ _ _) ?_
      refine zw_iconst 0 130 f68_129 rfl (by decide +kernel) ?_
      refine zw_istore _ 132 f68_130 rfl (by decide +kernel) rfl ?_
      exact lck_X10_advance_11_132 ro nv np I G A B hI a b (nv + 1) 0 _ _ _ _ _ (KP.g rfl (KP.g rfl (KP.g rfl (KP.g rfl KP.rf)))) hI w2 w3 trivial (zl_cmp0 hw4 hc5) (zl1_ne rfl rfl (zl2_ne rfl rfl (zl2_ne rfl rfl rfl))) (zl1_ne rfl rfl (zl2_ne rfl rfl (zl2_ne rfl rfl rfl))) (zl1_ne rfl rfl (zl2_ne rfl rfl (zl2_ne rfl rfl rfl))) (zl1_ne rfl rfl (zl2_ne rfl rfl zl2_eq)) (zl1_ne rfl rfl zl2_eq) (show zld _ _ = some (.int (nI 0)) from zl1_eq) (by omega) (by omega)
    · refine zw_iconst 0 41 f68_40 rfl (by decide +kernel) ?_
      refine zw_zreturn f68_41 r68 u68 (by decide +kernel) ?_
      exact ⟨_, _, _, _, rfl, KP.rf, hI, ⟨_, rfl, (by decide +kernel)⟩⟩
set_option maxRecDepth 100000 in
set_option maxHeartbeats 0 in
theorem ck_X10_happen_11 (ro : UInt32 → Nat × (Nat → Int32)) (nv np : Nat) (I : Nat → Nat → Int32) (G : Nat → Nat → Int64) (A : Nat → Nat → Int32) (B : Nat → Nat → Int64) (hI : CI nv np I) (a : Int32) (b : Int32) : zWp ro 75 0 [(0, .ref 11), (1, .int a), (2, .int b)] [] (hS I G A B) 0 0 (zWk pW nv np I G A B zRt0) := by
  have hnv := hI.1.2
  have hnp := hI.2.1.2
  refine zw_aload_n 1 f75_0 rfl rfl ?_
  obtain ⟨x1p, x1q, x1e⟩ := hI.2.2.1
  refine zw_getI (nI x1p) 4 f75_1 rfl g75_161_10 (hb_11 _ _ _ _) rfl x1e ?_
  refine zw_bipush 8 6 f75_4 rfl (by decide +kernel) ?_
  refine zw_ic_ge 9 39 f75_6 (by decide +kernel) rfl (fun hc2 => ?_) (fun hc2 => ?_)
  · have hn_hc2 : 8 ≤ x1p := zn_ge (by omega) (by omega) hc2
    refine zw_vreturn f75_39 r75 u75 ?_
    exact ⟨_, _, _, _, rfl, KP.rf, hI, rfl⟩
  · have hn_hc2 : x1p < 8 := zn_lt (by omega) (by omega) hc2
    refine zw_aload_n 10 f75_9 rfl rfl ?_
    refine zw_getfield 13 f75_10 rfl g75_31_10 (hb_11 _ _ _ _) rfl ?_
    refine zw_aload_n 14 f75_13 rfl rfl ?_
    refine zw_getI (nI x1p) 17 f75_14 rfl g75_161_10 (hb_11 _ _ _ _) rfl x1e ?_
    refine zw_iload_n 18 f75_17 rfl rfl ?_
    refine zw_ast x1p _ 19 f75_18 rfl (hb_20 _ _ _ _) (nI_clamp (by omega)) (nI_pos (by omega)) (by omega) (ha_20 _ _ _ _ _) ?_
    refine zw_aload_n 20 f75_19 rfl rfl ?_
    refine zw_getfield 23 f75_20 rfl g75_34_10 (hb_11 _ _ _ _) rfl ?_
    refine zw_aload_n 24 f75_23 rfl rfl ?_
    refine zw_getI (nI x1p) 27 f75_24 rfl g75_161_10 (hb_11 _ _ _ _) rfl x1e ?_
    refine zw_iload_n 28 f75_27 rfl rfl ?_
    refine zw_ast x1p _ 29 f75_28 rfl (hb_21 _ _ _ _) (nI_clamp (by omega)) (nI_pos (by omega)) (by omega) (ha_21 _ _ _ _ _) ?_
    refine zw_aload_n 30 f75_29 rfl rfl ?_
    refine zw_dup 31 f75_30 rfl rfl ?_
    refine zw_getI (nI x1p) 34 f75_31 rfl g75_161_10 (hb_11 _ _ _ _) rfl x1e ?_
    refine zw_iconst 1 35 f75_34 rfl (by decide +kernel) ?_
    refine zw_iadd (nI (x1p + 1)) 36 f75_35 rfl (nI_1 _) ?_
    refine zw_put _ 39 f75_36 rfl g75_161_10 (hb_11 _ _ _ _) rfl (Nat.le_of_ble_eq_true rfl) (by decide +kernel) (hi_11_12 _ _ _ _ _) ?_
    refine zw_vreturn f75_39 r75 u75 ?_
    exact ⟨_, _, _, _, rfl, (KP.i rfl (KP.a rfl (KP.a rfl KP.rf))), (show CI nv np _ from ⟨hI.1, hI.2.1, ⟨(x1p + 1), (by omega), rfl⟩, hI.2.2.2⟩), rfl⟩
set_option maxRecDepth 100000 in
set_option maxHeartbeats 0 in
theorem lck_X10_pourTo_11_9 (ro : UInt32 → Nat × (Nat → Int32)) (nv np : Nat) (I : Nat → Nat → Int32) (G : Nat → Nat → Int64) (A : Nat → Nat → Int32) (B : Nat → Nat → Int64) (hI : CI nv np I) (a : Int32) (b : Int64) : ∀ (n k : Nat) (ls : List (Nat × Value)) (I1 : Nat → Nat → Int32) (G1 : Nat → Nat → Int64) (A1 : Nat → Nat → Int32) (B1 : Nat → Nat → Int64), KP pW I G A B I1 G1 A1 B1 → CI nv np I1 → ∀ (y4 : Int32) (y5 : Int64), True → zld ls 0 = some (.ref 11) → zld ls 1 = some (.int a) → zld ls 2 = some (.long b) → zld ls 4 = some (.int y4) → zld ls 5 = some (.long y5) → zld ls 7 = some (.int (nI k)) → k ≤ 8 → 8 + 1 ≤ k + n → zWp ro 72 9 ls [] (hS I1 G1 A1 B1) 0 0 (zWk pW nv np I G A B zRt0) := by
  have hnv := hI.1.2
  have hnp := hI.2.1.2
  intro n
  induction n with
  | zero =>
    intro k ls I1 G1 A1 B1 K hJ y4 y5 _ hl0 hl1 hl2 hl4 hl5 hl7 h1 h2
    exact absurd h2 (by omega)
  | succ n ih =>
    intro k ls I1 G1 A1 B1 K hJ y4 y5 _ hl0 hl1 hl2 hl4 hl5 hl7 hk1 hk2
    refine zw_iload 11 f72_9 rfl hl7 ?_
    refine zw_bipush 8 13 f72_11 rfl (by decide +kernel) ?_
    refine zw_ic_ge 16 112 f72_13 (by decide +kernel) rfl (fun hc1 => ?_) (fun hc1 => ?_)
    · have hn_hc1 : 8 ≤ k := zn_ge (by omega) (by omega) hc1
      refine zw_aload_n 113 f72_112 rfl hl0 ?_
      refine zw_getfield 116 f72_113 rfl g72_12_10 (hb_11 _ _ _ _) rfl ?_
      refine zw_dup 117 f72_116 rfl rfl ?_
      refine zx_getG 120 f72_117 rfl g72_180_9 (hb_12 _ _ _ _) rfl (fun w2 hw2 => ?_)
      refine zw_lload 122 f72_120 rfl hl5 ?_
      refine zx_ladd 123 f72_122 rfl (fun w3 hw3 => ?_)
      refine zw_put _ 126 f72_123 rfl g72_180_9 (hb_12 _ _ _ _) rfl (Nat.le_of_ble_eq_true rfl) (by decide +kernel) (hg_12_3 _ _ _ _ _) ?_
      refine zw_vreturn f72_126 r72 u72 ?_
      exact ⟨_, _, _, _, rfl, (KP.g rfl K), hJ, rfl⟩
    · have hn_hc1 : k < 8 := zn_lt (by omega) (by omega) hc1
      refine zw_lload 18 f72_16 rfl hl5 ?_
      refine zw_lconst 0 19 f72_18 rfl (by decide +kernel) ?_
      refine zx_lcmp 20 f72_19 rfl (fun w4 hw4 => ?_)
      refine zw_if_le 23 112 f72_20 (by decide +kernel) rfl (fun hc5 => ?_) (fun hc5 => ?_)
      · refine zw_aload_n 113 f72_112 rfl hl0 ?_
        refine zw_getfield 116 f72_113 rfl g72_12_10 (hb_11 _ _ _ _) rfl ?_
        refine zw_dup 117 f72_116 rfl rfl ?_
        refine zx_getG 120 f72_117 rfl g72_180_9 (hb_12 _ _ _ _) rfl (fun w6 hw6 => ?_)
        refine zw_lload 122 f72_120 rfl hl5 ?_
        refine zx_ladd 123 f72_122 rfl (fun w7 hw7 => ?_)
        refine zw_put _ 126 f72_123 rfl g72_180_9 (hb_12 _ _ _ _) rfl (Nat.le_of_ble_eq_true rfl) (by decide +kernel) (hg_12_3 _ _ _ _ _) ?_
        refine zw_vreturn f72_126 r72 u72 ?_
        exact ⟨_, _, _, _, rfl, (KP.g rfl K), hJ, rfl⟩
      · refine zw_aload_n 24 f72_23 rfl hl0 ?_
        refine zw_getfield 27 f72_24 rfl g72_37_10 (hb_11 _ _ _ _) rfl ?_
        refine zw_iload 29 f72_27 rfl hl4 ?_
        refine zw_virtual_i 32 0 0 [.ref 1, .int y4] [(0, .ref 1), (1, .int y4)] f72_29 rfl n72_103 k72_103_4 rfl (hb_1 _ _ _ _) (by decide +kernel) (Nat.le_of_ble_eq_true rfl) rfl rfl (by decide +kernel) (by decide +kernel) rfl (Nat.le_of_ble_eq_true rfl) rfl ?_
        refine zw_iload_n 1 f13_0 rfl rfl ?_
        refine zw_if_lt 4 22 f13_1 (by decide +kernel) rfl (fun hc8 => ?_) (fun hc8 => ?_)
        · refine zw_iconst 0 23 f13_22 rfl (by decide +kernel) ?_
          refine zw_zreturn f13_23 r13 u13 (by decide +kernel) ⟨_, rfl, ?_⟩
          refine zw_if_eq_t 112 f72_32 (by decide +kernel) (by decide +kernel) ?_
          refine zw_aload_n 113 f72_112 rfl hl0 ?_
          refine zw_getfield 116 f72_113 rfl g72_12_10 (hb_11 _ _ _ _) rfl ?_
          refine zw_dup 117 f72_116 rfl rfl ?_
          refine zx_getG 120 f72_117 rfl g72_180_9 (hb_12 _ _ _ _) rfl (fun w9 hw9 => ?_)
          refine zw_lload 122 f72_120 rfl hl5 ?_
          refine zx_ladd 123 f72_122 rfl (fun w10 hw10 => ?_)
          refine zw_put _ 126 f72_123 rfl g72_180_9 (hb_12 _ _ _ _) rfl (Nat.le_of_ble_eq_true rfl) (by decide +kernel) (hg_12_3 _ _ _ _ _) ?_
          refine zw_vreturn f72_126 r72 u72 ?_
          exact ⟨_, _, _, _, rfl, (KP.g rfl K), hJ, rfl⟩
        · refine zw_iload_n 5 f13_4 rfl rfl ?_
          refine zw_aload_n 6 f13_5 rfl rfl ?_
          refine zw_getI (nI nv) 9 f13_6 rfl g13_39_4 (hb_1 _ _ _ _) rfl hJ.1.1 ?_
          refine zw_ic_ge 12 22 f13_9 (by decide +kernel) rfl (fun hc11 => ?_) (fun hc11 => ?_)
          · refine zw_iconst 0 23 f13_22 rfl (by decide +kernel) ?_
            refine zw_zreturn f13_23 r13 u13 (by decide +kernel) ⟨_, rfl, ?_⟩
            refine zw_if_eq_t 112 f72_32 (by decide +kernel) (by decide +kernel) ?_
            refine zw_aload_n 113 f72_112 rfl hl0 ?_
            refine zw_getfield 116 f72_113 rfl g72_12_10 (hb_11 _ _ _ _) rfl ?_
            refine zw_dup 117 f72_116 rfl rfl ?_
            refine zx_getG 120 f72_117 rfl g72_180_9 (hb_12 _ _ _ _) rfl (fun w12 hw12 => ?_)
            refine zw_lload 122 f72_120 rfl hl5 ?_
            refine zx_ladd 123 f72_122 rfl (fun w13 hw13 => ?_)
            refine zw_put _ 126 f72_123 rfl g72_180_9 (hb_12 _ _ _ _) rfl (Nat.le_of_ble_eq_true rfl) (by decide +kernel) (hg_12_3 _ _ _ _ _) ?_
            refine zw_vreturn f72_126 r72 u72 ?_
            exact ⟨_, _, _, _, rfl, (KP.g rfl K), hJ, rfl⟩
          · refine zw_iload_n 13 f13_12 rfl rfl ?_
            refine zw_bipush 8 15 f13_13 rfl (by decide +kernel) ?_
            refine zw_ic_ge 18 22 f13_15 (by decide +kernel) rfl (fun hc14 => ?_) (fun hc14 => ?_)
            · refine zw_iconst 0 23 f13_22 rfl (by decide +kernel) ?_
              refine zw_zreturn f13_23 r13 u13 (by decide +kernel) ⟨_, rfl, ?_⟩
              refine zw_if_eq_t 112 f72_32 (by decide +kernel) (by decide +kernel) ?_
              refine zw_aload_n 113 f72_112 rfl hl0 ?_
              refine zw_getfield 116 f72_113 rfl g72_12_10 (hb_11 _ _ _ _) rfl ?_
              refine zw_dup 117 f72_116 rfl rfl ?_
              refine zx_getG 120 f72_117 rfl g72_180_9 (hb_12 _ _ _ _) rfl (fun w15 hw15 => ?_)
              refine zw_lload 122 f72_120 rfl hl5 ?_
              refine zx_ladd 123 f72_122 rfl (fun w16 hw16 => ?_)
              refine zw_put _ 126 f72_123 rfl g72_180_9 (hb_12 _ _ _ _) rfl (Nat.le_of_ble_eq_true rfl) (by decide +kernel) (hg_12_3 _ _ _ _ _) ?_
              refine zw_vreturn f72_126 r72 u72 ?_
              exact ⟨_, _, _, _, rfl, (KP.g rfl K), hJ, rfl⟩
            · refine zw_iconst 1 19 f13_18 rfl (by decide +kernel) ?_
              refine zw_goto 23 f13_19 (by decide +kernel) ?_
              refine zw_zreturn f13_23 r13 u13 (by decide +kernel) ⟨_, rfl, ?_⟩
              refine zw_if_eq_f 35 112 f72_32 (by decide +kernel) rfl (by decide +kernel) ?_
              refine zw_lload 37 f72_35 rfl hl5 ?_
              refine zw_aload_n 38 f72_37 rfl hl0 ?_
              refine zw_getfield 41 f72_38 rfl g72_37_10 (hb_11 _ _ _ _) rfl ?_
              refine zw_getfield 44 f72_41 rfl g72_106_4 (hb_1 _ _ _ _) rfl ?_
              refine zw_iload 46 f72_44 rfl hl4 ?_
              refine zx_iaload y4.toNatClampNeg 47 f72_46 rfl (hb_3 _ _ _ _) rfl hc8 (zix (by decide) hc8 hc14) (fun w17 hw17 => ?_)
              refine zx_i2l 48 f72_47 rfl (fun w18 hw18 => ?_)
              refine zw_aload_n 49 f72_48 rfl hl0 ?_
              refine zw_getfield 52 f72_49 rfl g72_12_10 (hb_11 _ _ _ _) rfl ?_
              refine zx_getG 55 f72_52 rfl g72_109_9 (hb_12 _ _ _ _) rfl (fun w19 hw19 => ?_)
              refine zx_lmul 56 f72_55 rfl (fun w20 hw20 => ?_)
              refine zw_aload_n 57 f72_56 rfl hl0 ?_
              refine zw_getfield 60 f72_57 rfl g72_12_10 (hb_11 _ _ _ _) rfl ?_
              refine zw_getfield 63 f72_60 rfl g72_87_9 (hb_12 _ _ _ _) rfl ?_
              refine zw_iload 65 f72_63 rfl hl4 ?_
              refine zx_laload y4.toNatClampNeg 66 f72_65 rfl (hb_13 _ _ _ _) rfl hc8 (zix (by decide) hc8 hc14) (fun w21 hw21 => ?_)
              refine zx_lsub 67 f72_66 rfl (fun w22 hw22 => ?_)
              refine zw_static_l 70 0 0 [.long y5, .long w22] [] [(0, .long y5), (2, .long w22)] f72_67 rfl k72_206_99 rfl (by decide +kernel) (Nat.le_of_ble_eq_true rfl) (Nat.le_of_ble_eq_true rfl) rfl rfl (by decide +kernel) (by decide +kernel) rfl (Nat.le_of_ble_eq_true rfl) rfl ?_
              refine zWp.mono (cp_J9_min_f86c9 ro nv np I1 _ _ _ hJ y5 w22) ?_
              rintro r h1 ⟨rfl, ⟨w23, rfl⟩⟩
              refine ⟨_, rfl, ?_⟩
              refine zw_lstore _ 72 f72_70 rfl (by decide +kernel) rfl ?_
              refine zw_aload_n 73 f72_72 rfl (zl2_ne rfl rfl hl0) ?_
              refine zw_getfield 76 f72_73 rfl g72_12_10 (hb_11 _ _ _ _) rfl ?_
              refine zw_getfield 79 f72_76 rfl g72_87_9 (hb_12 _ _ _ _) rfl ?_
              refine zw_iload 81 f72_79 rfl (zl2_ne rfl rfl hl4) ?_
              refine zw_dup2 82 f72_81 rfl rfl rfl ?_
              refine zx_laload y4.toNatClampNeg 83 f72_82 rfl (hb_13 _ _ _ _) rfl hc8 (zix (by decide) hc8 hc14) (fun w24 hw24 => ?_)
              refine zw_lload 85 f72_83 rfl zl2_eq ?_
              refine zx_ladd 86 f72_85 rfl (fun w25 hw25 => ?_)
              refine zw_lst y4.toNatClampNeg _ 87 f72_86 rfl (hb_13 _ _ _ _) rfl hc8 (zix (by decide) hc8 hc14) (ha_13 _ _ _ _ _) ?_
              refine zw_lload 89 f72_87 rfl (zl2_ne rfl rfl hl5) ?_
              refine zw_lload 91 f72_89 rfl zl2_eq ?_
              refine zx_lsub 92 f72_91 rfl (fun w26 hw26 => ?_)
              refine zw_lstore _ 94 f72_92 rfl (by decide +kernel) rfl ?_
              refine zw_aload_n 95 f72_94 rfl (zl2_ne rfl rfl (zl2_ne rfl rfl hl0)) ?_
              refine zw_getfield 98 f72_95 rfl g72_37_10 (hb_11 _ _ _ _) rfl ?_
              refine zw_getfield 101 f72_98 rfl g72_100_4 (hb_1 _ _ _ _) rfl ?_
              refine zw_iload 103 f72_101 rfl (zl2_ne rfl rfl (zl2_ne rfl rfl hl4)) ?_
              refine zx_iaload y4.toNatClampNeg 104 f72_103 rfl (hb_8 _ _ _ _) rfl hc8 (zix (by decide) hc8 hc14) (fun w27 hw27 => ?_)
              refine zw_istore _ 106 f72_104 rfl (by decide +kernel) rfl ?_
              refine zw_iinc (nI (k + 1)) _ 109 f72_106 rfl (zl1_ne rfl rfl (zl2_ne rfl rfl (zl2_ne rfl rfl hl7))) (by decide +kernel) (nI_1 _) rfl ?_
              refine zw_goto 9 f72_109 (by decide +kernel) ?_
              exact ih ((k + 1)) _ _ _ _ _ (KP.b rfl K) hJ w27 w26 trivial  (zl1_ne rfl rfl (zl1_ne rfl rfl (zl2_ne rfl rfl (zl2_ne rfl rfl hl0)))) (zl1_ne rfl rfl (zl1_ne rfl rfl (zl2_ne rfl rfl (zl2_ne rfl rfl hl1)))) (zl1_ne rfl rfl (zl1_ne rfl rfl (zl2_ne rfl rfl (zl2_ne rfl rfl hl2)))) (zl1_ne rfl rfl zl1_eq) (zl1_ne rfl rfl (zl1_ne rfl rfl zl2_eq)) zl1_eq (by omega) (by omega)
set_option maxRecDepth 100000 in
set_option maxHeartbeats 0 in
theorem ck_X10_pourTo_11 (ro : UInt32 → Nat × (Nat → Int32)) (nv np : Nat) (I : Nat → Nat → Int32) (G : Nat → Nat → Int64) (A : Nat → Nat → Int32) (B : Nat → Nat → Int64) (hI : CI nv np I) (a : Int32) (b : Int64) : zWp ro 72 0 [(0, .ref 11), (1, .int a), (2, .long b)] [] (hS I G A B) 0 0 (zWk pW nv np I G A B zRt0) := by
  have hnv := hI.1.2
  have hnp := hI.2.1.2
  refine zw_iload_n 1 f72_0 rfl rfl ?_
  refine zw_istore _ 3 f72_1 rfl (by decide +kernel) rfl ?_
  refine zw_lload_n 4 f72_3 rfl (zl1_ne rfl rfl rfl) ?_
  refine zw_lstore _ 6 f72_4 rfl (by decide +kernel) rfl ?_
  refine zw_iconst 0 7 f72_6 rfl (by decide +kernel) ?_
  refine zw_istore _ 9 f72_7 rfl (by decide +kernel) rfl ?_
  exact lck_X10_pourTo_11_9 ro nv np I G A B hI a b (8 + 1) 0 _ _ _ _ _ KP.rf hI a b trivial  (zl1_ne rfl rfl (zl2_ne rfl rfl (zl1_ne rfl rfl rfl))) (zl1_ne rfl rfl (zl2_ne rfl rfl (zl1_ne rfl rfl rfl))) (zl1_ne rfl rfl (zl2_ne rfl rfl (zl1_ne rfl rfl rfl))) (zl1_ne rfl rfl (zl2_ne rfl rfl zl1_eq)) (zl1_ne rfl rfl zl2_eq) (show zld _ _ = some (.int (nI 0)) from zl1_eq) (by omega) (by omega)
set_option maxRecDepth 100000 in
set_option maxHeartbeats 0 in
theorem ck_X10_tip_11 (ro : UInt32 → Nat × (Nat → Int32)) (nv np : Nat) (I : Nat → Nat → Int32) (G : Nat → Nat → Int64) (A : Nat → Nat → Int32) (B : Nat → Nat → Int64) (hI : CI nv np I) (a : Nat) (ha : a < 8) : zWp ro 71 0 [(0, .ref 11), (1, .int (nI a))] [] (hS I G A B) 0 0 (zWk pW nv np I G A B zRt0) := by
  have hnv := hI.1.2
  have hnp := hI.2.1.2
  refine zw_aload_n 1 f71_0 rfl rfl ?_
  refine zw_getfield 4 f71_1 rfl g71_12_10 (hb_11 _ _ _ _) rfl ?_
  refine zw_getfield 7 f71_4 rfl g71_87_9 (hb_12 _ _ _ _) rfl ?_
  refine zw_iload_n 8 f71_7 rfl rfl ?_
  refine zx_laload a 9 f71_8 rfl (hb_13 _ _ _ _) (nI_clamp (by omega)) (nI_pos (by omega)) (by omega) (fun w1 hw1 => ?_)
  refine zw_lstore_n _ 10 f71_9 rfl (by decide +kernel) rfl ?_
  refine zw_aload_n 11 f71_10 rfl (zl2_ne rfl rfl rfl) ?_
  refine zw_getfield 14 f71_11 rfl g71_12_10 (hb_11 _ _ _ _) rfl ?_
  refine zw_getfield 17 f71_14 rfl g71_87_9 (hb_12 _ _ _ _) rfl ?_
  refine zw_iload_n 18 f71_17 rfl (zl2_ne rfl rfl rfl) ?_
  refine zw_lconst 0 19 f71_18 rfl (by decide +kernel) ?_
  refine zw_lst a _ 20 f71_19 rfl (hb_13 _ _ _ _) (nI_clamp (by omega)) (nI_pos (by omega)) (by omega) (ha_13 _ _ _ _ _) ?_
  refine zw_aload_n 21 f71_20 rfl (zl2_ne rfl rfl rfl) ?_
  refine zw_aload_n 22 f71_21 rfl (zl2_ne rfl rfl rfl) ?_
  refine zw_getfield 25 f71_22 rfl g71_37_10 (hb_11 _ _ _ _) rfl ?_
  refine zw_getfield 28 f71_25 rfl g71_196_4 (hb_1 _ _ _ _) rfl ?_
  refine zw_iload_n 29 f71_28 rfl (zl2_ne rfl rfl rfl) ?_
  refine zx_iaload a 30 f71_29 rfl (hb_7 _ _ _ _) (nI_clamp (by omega)) (nI_pos (by omega)) (by omega) (fun w2 hw2 => ?_)
  refine zw_lload_n 31 f71_30 rfl zl2_eq ?_
  refine zw_virtual_v 34 0 0 [.ref 11, .int w2, .long w1] [(0, .ref 11), (1, .int w2), (2, .long w1)] f71_31 rfl n71_199 k71_199_10 rfl (hb_11 _ _ _ _) (by decide +kernel) (Nat.le_of_ble_eq_true rfl) rfl rfl (by decide +kernel) (by decide +kernel) rfl (Nat.le_of_ble_eq_true rfl) rfl ?_
  refine zWp.mono (ck_X10_pourTo_11 ro nv np I _ _ _ hI w2 w1) ?_
  rintro r h1 ⟨I_4, G_4, A_4, B_4, rfl, K_4, hI_4, rfl⟩
  refine ⟨rfl, ?_⟩
  have K_4 := KP.tr (KP.b rfl KP.rf) K_4
  refine zw_aload_n 35 f71_34 rfl (zl2_ne rfl rfl rfl) ?_
  refine zw_iconst 1 36 f71_35 rfl (by decide +kernel) ?_
  refine zw_iload_n 37 f71_36 rfl (zl2_ne rfl rfl rfl) ?_
  refine zw_virtual_v 40 0 0 [.ref 11, .int 1, .int (nI a)] [(0, .ref 11), (1, .int 1), (2, .int (nI a))] f71_37 rfl n71_203 k71_203_10 rfl (hb_11 _ _ _ _) (by decide +kernel) (Nat.le_of_ble_eq_true rfl) rfl rfl (by decide +kernel) (by decide +kernel) rfl (Nat.le_of_ble_eq_true rfl) rfl ?_
  refine zWp.mono (ck_X10_happen_11 ro nv np I_4 _ _ _ hI_4 1 (nI a)) ?_
  rintro r h1 ⟨I_6, G_6, A_6, B_6, rfl, K_6, hI_6, rfl⟩
  refine ⟨rfl, ?_⟩
  have K_6 := KP.tr K_4 K_6
  refine zw_vreturn f71_40 r71 u71 ?_
  exact ⟨_, _, _, _, rfl, K_6, hI_6, rfl⟩
set_option maxRecDepth 100000 in
set_option maxHeartbeats 0 in
theorem ck_X10_settleSiphon_11 (ro : UInt32 → Nat × (Nat → Int32)) (nv np : Nat) (I : Nat → Nat → Int32) (G : Nat → Nat → Int64) (A : Nat → Nat → Int32) (B : Nat → Nat → Int64) (hI : CI nv np I) (a : Nat) (ha : a < 8) : zWp ro 73 0 [(0, .ref 11), (1, .int (nI a))] [] (hS I G A B) 0 0 (zWk pW nv np I G A B zRt0) := by
  have hnv := hI.1.2
  have hnp := hI.2.1.2
  refine zw_aload_n 1 f73_0 rfl rfl ?_
  refine zw_getfield 4 f73_1 rfl g73_12_10 (hb_11 _ _ _ _) rfl ?_
  refine zw_iload_n 5 f73_4 rfl rfl ?_
  refine zw_virtual_i 8 0 0 [.ref 12, .int (nI a)] [(0, .ref 12), (1, .int (nI a))] f73_5 rfl n73_51 k73_51_9 rfl (hb_12 _ _ _ _) (by decide +kernel) (Nat.le_of_ble_eq_true rfl) rfl rfl (by decide +kernel) (by decide +kernel) rfl (Nat.le_of_ble_eq_true rfl) rfl ?_
  refine zWp.mono (cp_X9_isSiphoning_12 ro nv np I _ _ _ hI (nI a)) ?_
  rintro r h1 ⟨rfl, ⟨w1, rfl, hw1⟩⟩
  refine ⟨_, rfl, ?_⟩
  refine zw_if_ne 11 60 f73_8 (by decide +kernel) rfl (fun hc2 => ?_) (fun hc2 => ?_)
  · refine zw_aload_n 61 f73_60 rfl rfl ?_
    refine zw_getfield 64 f73_61 rfl g73_12_10 (hb_11 _ _ _ _) rfl ?_
    refine zw_getfield 67 f73_64 rfl g73_87_9 (hb_12 _ _ _ _) rfl ?_
    refine zw_iload_n 68 f73_67 rfl rfl ?_
    refine zx_laload a 69 f73_68 rfl (hb_13 _ _ _ _) (nI_clamp (by omega)) (nI_pos (by omega)) (by omega) (fun w3 hw3 => ?_)
    refine zw_lconst 0 70 f73_69 rfl (by decide +kernel) ?_
    refine zx_lcmp 71 f73_70 rfl (fun w4 hw4 => ?_)
    refine zw_if_ne 74 89 f73_71 (by decide +kernel) rfl (fun hc5 => ?_) (fun hc5 => ?_)
    · refine zw_vreturn f73_89 r73 u73 ?_
      exact ⟨_, _, _, _, rfl, KP.rf, hI, rfl⟩
    · refine zw_aload_n 75 f73_74 rfl rfl ?_
      refine zw_getfield 78 f73_75 rfl g73_12_10 (hb_11 _ _ _ _) rfl ?_
      refine zw_iload_n 79 f73_78 rfl rfl ?_
      refine zw_iconst 0 80 f73_79 rfl (by decide +kernel) ?_
      refine zw_virtual_v 83 0 0 [.ref 12, .int (nI a), .int 0] [(0, .ref 12), (1, .int (nI a)), (2, .int 0)] f73_80 rfl n73_208 k73_208_9 rfl (hb_12 _ _ _ _) (by decide +kernel) (Nat.le_of_ble_eq_true rfl) rfl rfl (by decide +kernel) (by decide +kernel) rfl (Nat.le_of_ble_eq_true rfl) rfl ?_
      refine zWp.mono (ck_X9_setSiphoning_12 ro nv np I _ _ _ hI (nI a) 0) ?_
      rintro r h1 ⟨I_7, G_7, A_7, B_7, rfl, K_7, hI_7, rfl⟩
      refine ⟨rfl, ?_⟩
      have K_7 := KP.tr KP.rf K_7
      refine zw_aload_n 84 f73_83 rfl rfl ?_
      refine zw_iconst 3 85 f73_84 rfl (by decide +kernel) ?_
      refine zw_iload_n 86 f73_85 rfl rfl ?_
      refine zw_virtual_v 89 0 0 [.ref 11, .int 3, .int (nI a)] [(0, .ref 11), (1, .int 3), (2, .int (nI a))] f73_86 rfl n73_203 k73_203_10 rfl (hb_11 _ _ _ _) (by decide +kernel) (Nat.le_of_ble_eq_true rfl) rfl rfl (by decide +kernel) (by decide +kernel) rfl (Nat.le_of_ble_eq_true rfl) rfl ?_
      refine zWp.mono (ck_X10_happen_11 ro nv np I_7 _ _ _ hI_7 3 (nI a)) ?_
      rintro r h1 ⟨I_9, G_9, A_9, B_9, rfl, K_9, hI_9, rfl⟩
      refine ⟨rfl, ?_⟩
      have K_9 := KP.tr K_7 K_9
      refine zw_vreturn f73_89 r73 u73 ?_
      exact ⟨_, _, _, _, rfl, K_9, hI_9, rfl⟩
  · refine zw_aload_n 12 f73_11 rfl rfl ?_
    refine zw_getfield 15 f73_12 rfl g73_12_10 (hb_11 _ _ _ _) rfl ?_
    refine zw_getfield 18 f73_15 rfl g73_87_9 (hb_12 _ _ _ _) rfl ?_
    refine zw_iload_n 19 f73_18 rfl rfl ?_
    refine zx_laload a 20 f73_19 rfl (hb_13 _ _ _ _) (nI_clamp (by omega)) (nI_pos (by omega)) (by omega) (fun w10 hw10 => ?_)
    refine zw_aload_n 21 f73_20 rfl rfl ?_
    refine zw_getfield 24 f73_21 rfl g73_37_10 (hb_11 _ _ _ _) rfl ?_
    refine zw_getfield 27 f73_24 rfl g73_139_4 (hb_1 _ _ _ _) rfl ?_
    refine zw_iload_n 28 f73_27 rfl rfl ?_
    refine zx_iaload a 29 f73_28 rfl (hb_4 _ _ _ _) (nI_clamp (by omega)) (nI_pos (by omega)) (by omega) (fun w11 hw11 => ?_)
    refine zx_i2l 30 f73_29 rfl (fun w12 hw12 => ?_)
    refine zw_aload_n 31 f73_30 rfl rfl ?_
    refine zw_getfield 34 f73_31 rfl g73_12_10 (hb_11 _ _ _ _) rfl ?_
    refine zx_getG 37 f73_34 rfl g73_109_9 (hb_12 _ _ _ _) rfl (fun w13 hw13 => ?_)
    refine zx_lmul 38 f73_37 rfl (fun w14 hw14 => ?_)
    refine zx_lcmp 39 f73_38 rfl (fun w15 hw15 => ?_)
    refine zw_if_lt 42 89 f73_39 (by decide +kernel) rfl (fun hc16 => ?_) (fun hc16 => ?_)
    · refine zw_vreturn f73_89 r73 u73 ?_
      exact ⟨_, _, _, _, rfl, KP.rf, hI, rfl⟩
    · refine zw_aload_n 43 f73_42 rfl rfl ?_
      refine zw_getfield 46 f73_43 rfl g73_12_10 (hb_11 _ _ _ _) rfl ?_
      refine zw_iload_n 47 f73_46 rfl rfl ?_
      refine zw_iconst 1 48 f73_47 rfl (by decide +kernel) ?_
      refine zw_virtual_v 51 0 0 [.ref 12, .int (nI a), .int 1] [(0, .ref 12), (1, .int (nI a)), (2, .int 1)] f73_48 rfl n73_208 k73_208_9 rfl (hb_12 _ _ _ _) (by decide +kernel) (Nat.le_of_ble_eq_true rfl) rfl rfl (by decide +kernel) (by decide +kernel) rfl (Nat.le_of_ble_eq_true rfl) rfl ?_
      refine zWp.mono (ck_X9_setSiphoning_12 ro nv np I _ _ _ hI (nI a) 1) ?_
      rintro r h1 ⟨I_18, G_18, A_18, B_18, rfl, K_18, hI_18, rfl⟩
      refine ⟨rfl, ?_⟩
      have K_18 := KP.tr KP.rf K_18
      refine zw_aload_n 52 f73_51 rfl rfl ?_
      refine zw_iconst 2 53 f73_52 rfl (by decide +kernel) ?_
      refine zw_iload_n 54 f73_53 rfl rfl ?_
      refine zw_virtual_v 57 0 0 [.ref 11, .int 2, .int (nI a)] [(0, .ref 11), (1, .int 2), (2, .int (nI a))] f73_54 rfl n73_203 k73_203_10 rfl (hb_11 _ _ _ _) (by decide +kernel) (Nat.le_of_ble_eq_true rfl) rfl rfl (by decide +kernel) (by decide +kernel) rfl (Nat.le_of_ble_eq_true rfl) rfl ?_
      refine zWp.mono (ck_X10_happen_11 ro nv np I_18 _ _ _ hI_18 2 (nI a)) ?_
      rintro r h1 ⟨I_20, G_20, A_20, B_20, rfl, K_20, hI_20, rfl⟩
      refine ⟨rfl, ?_⟩
      have K_20 := KP.tr K_18 K_20
      refine zw_goto 89 f73_57 (by decide +kernel) ?_
      refine zw_vreturn f73_89 r73 u73 ?_
      exact ⟨_, _, _, _, rfl, K_20, hI_20, rfl⟩
set_option maxRecDepth 100000 in
set_option maxHeartbeats 0 in
theorem ck_X10_settleFloat_11 (ro : UInt32 → Nat × (Nat → Int32)) (nv np : Nat) (I : Nat → Nat → Int32) (G : Nat → Nat → Int64) (A : Nat → Nat → Int32) (B : Nat → Nat → Int64) (hI : CI nv np I) (a : Nat) (ha : a < 8) : zWp ro 74 0 [(0, .ref 11), (1, .int (nI a))] [] (hS I G A B) 0 0 (zWk pW nv np I G A B zRt0) := by
  have hnv := hI.1.2
  have hnp := hI.2.1.2
  refine zw_aload_n 1 f74_0 rfl rfl ?_
  refine zw_iload_n 2 f74_1 rfl rfl ?_
  refine zw_iconst 1 3 f74_2 rfl (by decide +kernel) ?_
  refine zw_virtual_i 6 0 0 [.ref 11, .int (nI a), .int 1] [(0, .ref 11), (1, .int (nI a)), (2, .int 1)] f74_3 rfl n74_135 k74_135_10 rfl (hb_11 _ _ _ _) (by decide +kernel) (Nat.le_of_ble_eq_true rfl) rfl rfl (by decide +kernel) (by decide +kernel) rfl (Nat.le_of_ble_eq_true rfl) rfl ?_
  refine zWp.mono (cp_X10_ownIs_11 ro nv np I _ _ _ hI a (by omega) 1) ?_
  rintro r h1 ⟨rfl, ⟨w1, rfl, hw1⟩⟩
  refine ⟨_, rfl, ?_⟩
  refine zw_if_eq 9 79 f74_6 (by decide +kernel) rfl (fun hc2 => ?_) (fun hc2 => ?_)
  · refine zw_aload_n 80 f74_79 rfl rfl ?_
    refine zw_iload_n 81 f74_80 rfl rfl ?_
    refine zw_iconst 0 82 f74_81 rfl (by decide +kernel) ?_
    refine zw_virtual_i 85 0 0 [.ref 11, .int (nI a), .int 0] [(0, .ref 11), (1, .int (nI a)), (2, .int 0)] f74_82 rfl n74_135 k74_135_10 rfl (hb_11 _ _ _ _) (by decide +kernel) (Nat.le_of_ble_eq_true rfl) rfl rfl (by decide +kernel) (by decide +kernel) rfl (Nat.le_of_ble_eq_true rfl) rfl ?_
    refine zWp.mono (cp_X10_ownIs_11 ro nv np I _ _ _ hI a (by omega) 0) ?_
    rintro r h1 ⟨rfl, ⟨w3, rfl, hw3⟩⟩
    refine ⟨_, rfl, ?_⟩
    refine zw_if_eq 88 142 f74_85 (by decide +kernel) rfl (fun hc4 => ?_) (fun hc4 => ?_)
    · refine zw_vreturn f74_142 r74 u74 ?_
      exact ⟨_, _, _, _, rfl, KP.rf, hI, rfl⟩
    · refine zw_aload_n 89 f74_88 rfl rfl ?_
      refine zw_getfield 92 f74_89 rfl g74_12_10 (hb_11 _ _ _ _) rfl ?_
      refine zw_getfield 95 f74_92 rfl g74_87_9 (hb_12 _ _ _ _) rfl ?_
      refine zw_iload_n 96 f74_95 rfl rfl ?_
      refine zx_laload a 97 f74_96 rfl (hb_13 _ _ _ _) (nI_clamp (by omega)) (nI_pos (by omega)) (by omega) (fun w5 hw5 => ?_)
      refine zw_aload_n 98 f74_97 rfl rfl ?_
      refine zw_getfield 101 f74_98 rfl g74_37_10 (hb_11 _ _ _ _) rfl ?_
      refine zw_getfield 104 f74_101 rfl g74_142_4 (hb_1 _ _ _ _) rfl ?_
      refine zw_iload_n 105 f74_104 rfl rfl ?_
      refine zx_iaload a 106 f74_105 rfl (hb_5 _ _ _ _) (nI_clamp (by omega)) (nI_pos (by omega)) (by omega) (fun w6 hw6 => ?_)
      refine zx_i2l 107 f74_106 rfl (fun w7 hw7 => ?_)
      refine zw_aload_n 108 f74_107 rfl rfl ?_
      refine zw_getfield 111 f74_108 rfl g74_12_10 (hb_11 _ _ _ _) rfl ?_
      refine zx_getG 114 f74_111 rfl g74_109_9 (hb_12 _ _ _ _) rfl (fun w8 hw8 => ?_)
      refine zx_lmul 115 f74_114 rfl (fun w9 hw9 => ?_)
      refine zx_lcmp 116 f74_115 rfl (fun w10 hw10 => ?_)
      refine zw_if_gt 119 142 f74_116 (by decide +kernel) rfl (fun hc11 => ?_) (fun hc11 => ?_)
      · refine zw_vreturn f74_142 r74 u74 ?_
        exact ⟨_, _, _, _, rfl, KP.rf, hI, rfl⟩
      · refine zw_aload_n 120 f74_119 rfl rfl ?_
        refine zw_getfield 123 f74_120 rfl g74_12_10 (hb_11 _ _ _ _) rfl ?_
        refine zw_aload_n 124 f74_123 rfl rfl ?_
        refine zw_getfield 127 f74_124 rfl g74_37_10 (hb_11 _ _ _ _) rfl ?_
        refine zw_getfield 130 f74_127 rfl g74_148_4 (hb_1 _ _ _ _) rfl ?_
        refine zw_iload_n 131 f74_130 rfl rfl ?_
        refine zx_iaload a 132 f74_131 rfl (hb_6 _ _ _ _) (nI_clamp (by omega)) (nI_pos (by omega)) (by omega) (fun w12 hw12 => ?_)
        refine zw_iconst 1 133 f74_132 rfl (by decide +kernel) ?_
        refine zw_virtual_v 136 0 0 [.ref 12, .int w12, .int 1] [(0, .ref 12), (1, .int w12), (2, .int 1)] f74_133 rfl n74_212 k74_212_9 rfl (hb_12 _ _ _ _) (by decide +kernel) (Nat.le_of_ble_eq_true rfl) rfl rfl (by decide +kernel) (by decide +kernel) rfl (Nat.le_of_ble_eq_true rfl) rfl ?_
        refine zWp.mono (ck_X9_setOpen_12 ro nv np I _ _ _ hI w12 1) ?_
        rintro r h1 ⟨I_14, G_14, A_14, B_14, rfl, K_14, hI_14, rfl⟩
        refine ⟨rfl, ?_⟩
        have K_14 := KP.tr KP.rf K_14
        refine zw_aload_n 137 f74_136 rfl rfl ?_
        refine zw_iconst 5 138 f74_137 rfl (by decide +kernel) ?_
        refine zw_iload_n 139 f74_138 rfl rfl ?_
        refine zw_virtual_v 142 0 0 [.ref 11, .int 5, .int (nI a)] [(0, .ref 11), (1, .int 5), (2, .int (nI a))] f74_139 rfl n74_203 k74_203_10 rfl (hb_11 _ _ _ _) (by decide +kernel) (Nat.le_of_ble_eq_true rfl) rfl rfl (by decide +kernel) (by decide +kernel) rfl (Nat.le_of_ble_eq_true rfl) rfl ?_
        refine zWp.mono (ck_X10_happen_11 ro nv np I_14 _ _ _ hI_14 5 (nI a)) ?_
        rintro r h1 ⟨I_16, G_16, A_16, B_16, rfl, K_16, hI_16, rfl⟩
        refine ⟨rfl, ?_⟩
        have K_16 := KP.tr K_14 K_16
        refine zw_vreturn f74_142 r74 u74 ?_
        exact ⟨_, _, _, _, rfl, K_16, hI_16, rfl⟩
  · refine zw_aload_n 10 f74_9 rfl rfl ?_
    refine zw_getfield 13 f74_10 rfl g74_12_10 (hb_11 _ _ _ _) rfl ?_
    refine zw_getfield 16 f74_13 rfl g74_87_9 (hb_12 _ _ _ _) rfl ?_
    refine zw_iload_n 17 f74_16 rfl rfl ?_
    refine zx_laload a 18 f74_17 rfl (hb_13 _ _ _ _) (nI_clamp (by omega)) (nI_pos (by omega)) (by omega) (fun w17 hw17 => ?_)
    refine zw_aload_n 19 f74_18 rfl rfl ?_
    refine zw_getfield 22 f74_19 rfl g74_37_10 (hb_11 _ _ _ _) rfl ?_
    refine zw_getfield 25 f74_22 rfl g74_139_4 (hb_1 _ _ _ _) rfl ?_
    refine zw_iload_n 26 f74_25 rfl rfl ?_
    refine zx_iaload a 27 f74_26 rfl (hb_4 _ _ _ _) (nI_clamp (by omega)) (nI_pos (by omega)) (by omega) (fun w18 hw18 => ?_)
    refine zx_i2l 28 f74_27 rfl (fun w19 hw19 => ?_)
    refine zw_aload_n 29 f74_28 rfl rfl ?_
    refine zw_getfield 32 f74_29 rfl g74_12_10 (hb_11 _ _ _ _) rfl ?_
    refine zx_getG 35 f74_32 rfl g74_109_9 (hb_12 _ _ _ _) rfl (fun w20 hw20 => ?_)
    refine zx_lmul 36 f74_35 rfl (fun w21 hw21 => ?_)
    refine zx_lcmp 37 f74_36 rfl (fun w22 hw22 => ?_)
    refine zw_if_lt 40 142 f74_37 (by decide +kernel) rfl (fun hc23 => ?_) (fun hc23 => ?_)
    · refine zw_vreturn f74_142 r74 u74 ?_
      exact ⟨_, _, _, _, rfl, KP.rf, hI, rfl⟩
    · refine zw_aload_n 41 f74_40 rfl rfl ?_
      refine zw_getfield 44 f74_41 rfl g74_12_10 (hb_11 _ _ _ _) rfl ?_
      refine zw_aload_n 45 f74_44 rfl rfl ?_
      refine zw_getfield 48 f74_45 rfl g74_37_10 (hb_11 _ _ _ _) rfl ?_
      refine zw_getfield 51 f74_48 rfl g74_148_4 (hb_1 _ _ _ _) rfl ?_
      refine zw_iload_n 52 f74_51 rfl rfl ?_
      refine zx_iaload a 53 f74_52 rfl (hb_6 _ _ _ _) (nI_clamp (by omega)) (nI_pos (by omega)) (by omega) (fun w24 hw24 => ?_)
      refine zw_iconst 0 54 f74_53 rfl (by decide +kernel) ?_
      refine zw_virtual_v 57 0 0 [.ref 12, .int w24, .int 0] [(0, .ref 12), (1, .int w24), (2, .int 0)] f74_54 rfl n74_212 k74_212_9 rfl (hb_12 _ _ _ _) (by decide +kernel) (Nat.le_of_ble_eq_true rfl) rfl rfl (by decide +kernel) (by decide +kernel) rfl (Nat.le_of_ble_eq_true rfl) rfl ?_
      refine zWp.mono (ck_X9_setOpen_12 ro nv np I _ _ _ hI w24 0) ?_
      rintro r h1 ⟨I_26, G_26, A_26, B_26, rfl, K_26, hI_26, rfl⟩
      refine ⟨rfl, ?_⟩
      have K_26 := KP.tr KP.rf K_26
      refine zw_aload_n 58 f74_57 rfl rfl ?_
      refine zw_getfield 61 f74_58 rfl g74_12_10 (hb_11 _ _ _ _) rfl ?_
      refine zw_getfield 64 f74_61 rfl g74_215_9 (hb_12 _ _ _ _) rfl ?_
      refine zw_iload_n 65 f74_64 rfl rfl ?_
      refine zw_dup2 66 f74_65 rfl rfl rfl ?_
      refine zx_iaload a 67 f74_66 rfl (hb_14 _ _ _ _) (nI_clamp (by omega)) (nI_pos (by omega)) (by omega) (fun w27 hw27 => ?_)
      refine zw_iconst 1 68 f74_67 rfl (by decide +kernel) ?_
      refine zx_iadd 69 f74_68 rfl (fun w28 hw28 => ?_)
      refine zw_ast a _ 70 f74_69 rfl (hb_14 _ _ _ _) (nI_clamp (by omega)) (nI_pos (by omega)) (by omega) (ha_14 _ _ _ _ _) ?_
      refine zw_aload_n 71 f74_70 rfl rfl ?_
      refine zw_iconst 4 72 f74_71 rfl (by decide +kernel) ?_
      refine zw_iload_n 73 f74_72 rfl rfl ?_
      refine zw_virtual_v 76 0 0 [.ref 11, .int 4, .int (nI a)] [(0, .ref 11), (1, .int 4), (2, .int (nI a))] f74_73 rfl n74_203 k74_203_10 rfl (hb_11 _ _ _ _) (by decide +kernel) (Nat.le_of_ble_eq_true rfl) rfl rfl (by decide +kernel) (by decide +kernel) rfl (Nat.le_of_ble_eq_true rfl) rfl ?_
      refine zWp.mono (ck_X10_happen_11 ro nv np I_26 _ _ _ hI_26 4 (nI a)) ?_
      rintro r h1 ⟨I_30, G_30, A_30, B_30, rfl, K_30, hI_30, rfl⟩
      refine ⟨rfl, ?_⟩
      have K_30 := KP.tr (KP.a rfl K_26) K_30
      refine zw_goto 142 f74_76 (by decide +kernel) ?_
      refine zw_vreturn f74_142 r74 u74 ?_
      exact ⟨_, _, _, _, rfl, K_30, hI_30, rfl⟩
set_option maxRecDepth 100000 in
set_option maxHeartbeats 0 in
theorem lck_X10_settle_11_87 (ro : UInt32 → Nat × (Nat → Int32)) (nv np : Nat) (I : Nat → Nat → Int32) (G : Nat → Nat → Int64) (A : Nat → Nat → Int32) (B : Nat → Nat → Int64) (hI : CI nv np I) : ∀ (n k : Nat) (ls : List (Nat × Value)) (I1 : Nat → Nat → Int32) (G1 : Nat → Nat → Int64) (A1 : Nat → Nat → Int32) (B1 : Nat → Nat → Int64), KP pW I G A B I1 G1 A1 B1 → CI nv np I1 → True → zld ls 0 = some (.ref 11) → zld ls 1 = some (.int (nI k)) → k ≤ nv → nv + 1 ≤ k + n → zWp ro 70 87 ls [] (hS I1 G1 A1 B1) 0 0 (zWk pW nv np I G A B zRt0) := by
  have hnv := hI.1.2
  have hnp := hI.2.1.2
  intro n
  induction n with
  | zero =>
    intro k ls I1 G1 A1 B1 K hJ _ hl0 hl1 h1 h2
    exact absurd h2 (by omega)
  | succ n ih =>
    intro k ls I1 G1 A1 B1 K hJ _ hl0 hl1 hk1 hk2
    refine zw_iload_n 88 f70_87 rfl hl1 ?_
    refine zw_aload_n 89 f70_88 rfl hl0 ?_
    refine zw_getfield 92 f70_89 rfl g70_37_10 (hb_11 _ _ _ _) rfl ?_
    refine zw_getI (nI nv) 95 f70_92 rfl g70_80_4 (hb_1 _ _ _ _) rfl hJ.1.1 ?_
    refine zw_ic_ge 98 109 f70_95 (by decide +kernel) rfl (fun hc1 => ?_) (fun hc1 => ?_)
    · have hn_hc1 : nv ≤ k := zn_ge (by omega) (by omega) hc1
      refine zw_aload_n 110 f70_109 rfl hl0 ?_
      refine zw_lconst 1 111 f70_110 rfl (by decide +kernel) ?_
      refine zw_lconst 0 112 f70_111 rfl (by decide +kernel) ?_
      refine zw_virtual_i 115 0 0 [.ref 11, .long 1, .long 0] [(0, .ref 11), (1, .long 1), (3, .long 0)] f70_112 rfl n70_164 k70_164_10 rfl (hb_11 _ _ _ _) (by decide +kernel) (Nat.le_of_ble_eq_true rfl) rfl rfl (by decide +kernel) (by decide +kernel) rfl (Nat.le_of_ble_eq_true rfl) rfl ?_
      refine zWp.mono (ck_X10_advance_11 ro nv np I1 _ _ _ hJ 1 0) ?_
      rintro r h1 ⟨I_3, G_3, A_3, B_3, rfl, K_3, hI_3, ⟨w2, rfl, hw2⟩⟩
      refine ⟨_, rfl, ?_⟩
      have K_3 := KP.tr K K_3
      refine zw_pop 116 f70_115 rfl rfl ?_
      refine zw_vreturn f70_116 r70 u70 ?_
      exact ⟨_, _, _, _, rfl, K_3, hI_3, rfl⟩
    · have hn_hc1 : k < nv := zn_lt (by omega) (by omega) hc1
      refine zw_aload_n 99 f70_98 rfl hl0 ?_
      refine zw_iload_n 100 f70_99 rfl hl1 ?_
      refine zw_virtual_v 103 0 0 [.ref 11, .int (nI k)] [(0, .ref 11), (1, .int (nI k))] f70_100 rfl n70_193 k70_193_10 rfl (hb_11 _ _ _ _) (by decide +kernel) (Nat.le_of_ble_eq_true rfl) rfl rfl (by decide +kernel) (by decide +kernel) rfl (Nat.le_of_ble_eq_true rfl) rfl ?_
      refine zWp.mono (ck_X10_settleFloat_11 ro nv np I1 _ _ _ hJ k (by omega)) ?_
      rintro r h1 ⟨I_5, G_5, A_5, B_5, rfl, K_5, hI_5, rfl⟩
      refine ⟨rfl, ?_⟩
      have K_5 := KP.tr K K_5
      refine zw_iinc (nI (k + 1)) _ 106 f70_103 rfl hl1 (by decide +kernel) (nI_1 _) rfl ?_
      refine zw_goto 87 f70_106 (by decide +kernel) ?_
      exact ih ((k + 1)) _ _ _ _ _ K_5 hI_5  trivial  (zl1_ne rfl rfl hl0) zl1_eq (by omega) (by omega)
set_option maxRecDepth 100000 in
set_option maxHeartbeats 0 in
theorem lck_X10_settle_11_51 (ro : UInt32 → Nat × (Nat → Int32)) (nv np : Nat) (I : Nat → Nat → Int32) (G : Nat → Nat → Int64) (A : Nat → Nat → Int32) (B : Nat → Nat → Int64) (hI : CI nv np I) : ∀ (n k : Nat) (ls : List (Nat × Value)) (I1 : Nat → Nat → Int32) (G1 : Nat → Nat → Int64) (A1 : Nat → Nat → Int32) (B1 : Nat → Nat → Int64), KP pW I G A B I1 G1 A1 B1 → CI nv np I1 → True → zld ls 0 = some (.ref 11) → zld ls 1 = some (.int (nI k)) → k ≤ nv → nv + 1 ≤ k + n → zWp ro 70 51 ls [] (hS I1 G1 A1 B1) 0 0 (zWk pW nv np I G A B zRt0) := by
  have hnv := hI.1.2
  have hnp := hI.2.1.2
  intro n
  induction n with
  | zero =>
    intro k ls I1 G1 A1 B1 K hJ _ hl0 hl1 h1 h2
    exact absurd h2 (by omega)
  | succ n ih =>
    intro k ls I1 G1 A1 B1 K hJ _ hl0 hl1 hk1 hk2
    refine zw_iload_n 52 f70_51 rfl hl1 ?_
    refine zw_aload_n 53 f70_52 rfl hl0 ?_
    refine zw_getfield 56 f70_53 rfl g70_37_10 (hb_11 _ _ _ _) rfl ?_
    refine zw_getI (nI nv) 59 f70_56 rfl g70_80_4 (hb_1 _ _ _ _) rfl hJ.1.1 ?_
    refine zw_ic_ge 62 85 f70_59 (by decide +kernel) rfl (fun hc1 => ?_) (fun hc1 => ?_)
    · have hn_hc1 : nv ≤ k := zn_ge (by omega) (by omega) hc1
      refine zw_iconst 0 86 f70_85 rfl (by decide +kernel) ?_
      refine zw_istore_n _ 87 f70_86 rfl (by decide +kernel) rfl ?_
      exact lck_X10_settle_11_87 ro nv np I G A B hI (nv + 1) 0 _ _ _ _ _ K hJ  trivial  (zl1_ne rfl rfl hl0) (show zld _ _ = some (.int (nI 0)) from zl1_eq) (by omega) (by omega)
    · have hn_hc1 : k < nv := zn_lt (by omega) (by omega) hc1
      refine zw_aload_n 63 f70_62 rfl hl0 ?_
      refine zw_getfield 66 f70_63 rfl g70_37_10 (hb_11 _ _ _ _) rfl ?_
      refine zw_iload_n 67 f70_66 rfl hl1 ?_
      refine zw_virtual_i 70 0 0 [.ref 1, .int (nI k)] [(0, .ref 1), (1, .int (nI k))] f70_67 rfl n70_132 k70_132_4 rfl (hb_1 _ _ _ _) (by decide +kernel) (Nat.le_of_ble_eq_true rfl) rfl rfl (by decide +kernel) (by decide +kernel) rfl (Nat.le_of_ble_eq_true rfl) rfl ?_
      refine zWp.mono (cp_X4_kindOf ro nv np I1 _ _ _ hJ (nI k)) ?_
      rintro r h1 ⟨rfl, ⟨w2, rfl⟩⟩
      refine ⟨_, rfl, ?_⟩
      refine zw_iconst 1 71 f70_70 rfl (by decide +kernel) ?_
      refine zw_ic_ne 74 79 f70_71 (by decide +kernel) rfl (fun hc3 => ?_) (fun hc3 => ?_)
      · refine zw_iinc (nI (k + 1)) _ 82 f70_79 rfl hl1 (by decide +kernel) (nI_1 _) rfl ?_
        refine zw_goto 51 f70_82 (by decide +kernel) ?_
        exact ih ((k + 1)) _ _ _ _ _ K hJ  trivial  (zl1_ne rfl rfl hl0) zl1_eq (by omega) (by omega)
      · refine zw_aload_n 75 f70_74 rfl hl0 ?_
        refine zw_iload_n 76 f70_75 rfl hl1 ?_
        refine zw_virtual_v 79 0 0 [.ref 11, .int (nI k)] [(0, .ref 11), (1, .int (nI k))] f70_76 rfl n70_190 k70_190_10 rfl (hb_11 _ _ _ _) (by decide +kernel) (Nat.le_of_ble_eq_true rfl) rfl rfl (by decide +kernel) (by decide +kernel) rfl (Nat.le_of_ble_eq_true rfl) rfl ?_
        refine zWp.mono (ck_X10_settleSiphon_11 ro nv np I1 _ _ _ hJ k (by omega)) ?_
        rintro r h1 ⟨I_5, G_5, A_5, B_5, rfl, K_5, hI_5, rfl⟩
        refine ⟨rfl, ?_⟩
        have K_5 := KP.tr K K_5
        refine zw_iinc (nI (k + 1)) _ 82 f70_79 rfl hl1 (by decide +kernel) (nI_1 _) rfl ?_
        refine zw_goto 51 f70_82 (by decide +kernel) ?_
        exact ih ((k + 1)) _ _ _ _ _ K_5 hI_5  trivial  (zl1_ne rfl rfl hl0) zl1_eq (by omega) (by omega)
set_option maxRecDepth 100000 in
set_option maxHeartbeats 0 in
theorem lck_X10_settle_11_7 (ro : UInt32 → Nat × (Nat → Int32)) (nv np : Nat) (I : Nat → Nat → Int32) (G : Nat → Nat → Int64) (A : Nat → Nat → Int32) (B : Nat → Nat → Int64) (hI : CI nv np I) : ∀ (n k : Nat) (ls : List (Nat × Value)) (I1 : Nat → Nat → Int32) (G1 : Nat → Nat → Int64) (A1 : Nat → Nat → Int32) (B1 : Nat → Nat → Int64), KP pW I G A B I1 G1 A1 B1 → CI nv np I1 → True → zld ls 0 = some (.ref 11) → zld ls 1 = some (.int (nI k)) → k ≤ nv → nv + 1 ≤ k + n → zWp ro 70 7 ls [] (hS I1 G1 A1 B1) 0 0 (zWk pW nv np I G A B zRt0) := by
  have hnv := hI.1.2
  have hnp := hI.2.1.2
  intro n
  induction n with
  | zero =>
    intro k ls I1 G1 A1 B1 K hJ _ hl0 hl1 h1 h2
    exact absurd h2 (by omega)
  | succ n ih =>
    intro k ls I1 G1 A1 B1 K hJ _ hl0 hl1 hk1 hk2
    refine zw_iload_n 8 f70_7 rfl hl1 ?_
    refine zw_aload_n 9 f70_8 rfl hl0 ?_
    refine zw_getfield 12 f70_9 rfl g70_37_10 (hb_11 _ _ _ _) rfl ?_
    refine zw_getI (nI nv) 15 f70_12 rfl g70_80_4 (hb_1 _ _ _ _) rfl hJ.1.1 ?_
    refine zw_ic_ge 18 49 f70_15 (by decide +kernel) rfl (fun hc1 => ?_) (fun hc1 => ?_)
    · have hn_hc1 : nv ≤ k := zn_ge (by omega) (by omega) hc1
      refine zw_iconst 0 50 f70_49 rfl (by decide +kernel) ?_
      refine zw_istore_n _ 51 f70_50 rfl (by decide +kernel) rfl ?_
      exact lck_X10_settle_11_51 ro nv np I G A B hI (nv + 1) 0 _ _ _ _ _ K hJ  trivial  (zl1_ne rfl rfl hl0) (show zld _ _ = some (.int (nI 0)) from zl1_eq) (by omega) (by omega)
    · have hn_hc1 : k < nv := zn_lt (by omega) (by omega) hc1
      refine zw_aload_n 19 f70_18 rfl hl0 ?_
      refine zw_getfield 22 f70_19 rfl g70_37_10 (hb_11 _ _ _ _) rfl ?_
      refine zw_iload_n 23 f70_22 rfl hl1 ?_
      refine zw_virtual_i 26 0 0 [.ref 1, .int (nI k)] [(0, .ref 1), (1, .int (nI k))] f70_23 rfl n70_132 k70_132_4 rfl (hb_1 _ _ _ _) (by decide +kernel) (Nat.le_of_ble_eq_true rfl) rfl rfl (by decide +kernel) (by decide +kernel) rfl (Nat.le_of_ble_eq_true rfl) rfl ?_
      refine zWp.mono (cp_X4_kindOf ro nv np I1 _ _ _ hJ (nI k)) ?_
      rintro r h1 ⟨rfl, ⟨w2, rfl⟩⟩
      refine ⟨_, rfl, ?_⟩
      refine zw_iconst 2 27 f70_26 rfl (by decide +kernel) ?_
      refine zw_ic_ne 30 43 f70_27 (by decide +kernel) rfl (fun hc3 => ?_) (fun hc3 => ?_)
      · refine zw_iinc (nI (k + 1)) _ 46 f70_43 rfl hl1 (by decide +kernel) (nI_1 _) rfl ?_
        refine zw_goto 7 f70_46 (by decide +kernel) ?_
        exact ih ((k + 1)) _ _ _ _ _ K hJ  trivial  (zl1_ne rfl rfl hl0) zl1_eq (by omega) (by omega)
      · refine zw_aload_n 31 f70_30 rfl hl0 ?_
        refine zw_iload_n 32 f70_31 rfl hl1 ?_
        refine zw_virtual_i 35 0 0 [.ref 11, .int (nI k)] [(0, .ref 11), (1, .int (nI k))] f70_32 rfl n70_97 k70_97_10 rfl (hb_11 _ _ _ _) (by decide +kernel) (Nat.le_of_ble_eq_true rfl) rfl rfl (by decide +kernel) (by decide +kernel) rfl (Nat.le_of_ble_eq_true rfl) rfl ?_
        refine zWp.mono (cp_X10_isFull_11 ro nv np I1 _ _ _ hJ k (by omega)) ?_
        rintro r h1 ⟨rfl, ⟨w4, rfl, hw4⟩⟩
        refine ⟨_, rfl, ?_⟩
        refine zw_if_eq 38 43 f70_35 (by decide +kernel) rfl (fun hc5 => ?_) (fun hc5 => ?_)
        · refine zw_iinc (nI (k + 1)) _ 46 f70_43 rfl hl1 (by decide +kernel) (nI_1 _) rfl ?_
          refine zw_goto 7 f70_46 (by decide +kernel) ?_
          exact ih ((k + 1)) _ _ _ _ _ K hJ  trivial  (zl1_ne rfl rfl hl0) zl1_eq (by omega) (by omega)
        · refine zw_aload_n 39 f70_38 rfl hl0 ?_
          refine zw_iload_n 40 f70_39 rfl hl1 ?_
          refine zw_virtual_v 43 0 0 [.ref 11, .int (nI k)] [(0, .ref 11), (1, .int (nI k))] f70_40 rfl n70_187 k70_187_10 rfl (hb_11 _ _ _ _) (by decide +kernel) (Nat.le_of_ble_eq_true rfl) rfl rfl (by decide +kernel) (by decide +kernel) rfl (Nat.le_of_ble_eq_true rfl) rfl ?_
          refine zWp.mono (ck_X10_tip_11 ro nv np I1 _ _ _ hJ k (by omega)) ?_
          rintro r h1 ⟨I_7, G_7, A_7, B_7, rfl, K_7, hI_7, rfl⟩
          refine ⟨rfl, ?_⟩
          have K_7 := KP.tr K K_7
          refine zw_iinc (nI (k + 1)) _ 46 f70_43 rfl hl1 (by decide +kernel) (nI_1 _) rfl ?_
          refine zw_goto 7 f70_46 (by decide +kernel) ?_
          exact ih ((k + 1)) _ _ _ _ _ K_7 hI_7  trivial  (zl1_ne rfl rfl hl0) zl1_eq (by omega) (by omega)
set_option maxRecDepth 100000 in
set_option maxHeartbeats 0 in
theorem ck_X10_settle_11 (ro : UInt32 → Nat × (Nat → Int32)) (nv np : Nat) (I : Nat → Nat → Int32) (G : Nat → Nat → Int64) (A : Nat → Nat → Int32) (B : Nat → Nat → Int64) (hI : CI nv np I) : zWp ro 70 0 [(0, .ref 11)] [] (hS I G A B) 0 0 (zWk pW nv np I G A B zRt0) := by
  have hnv := hI.1.2
  have hnp := hI.2.1.2
  refine zw_aload_n 1 f70_0 rfl rfl ?_
  refine zw_iconst 0 2 f70_1 rfl (by decide +kernel) ?_
  refine zw_put _ 5 f70_2 rfl g70_161_10 (hb_11 _ _ _ _) rfl (Nat.le_of_ble_eq_true rfl) (by decide +kernel) (hi_11_12 _ _ _ _ _) ?_
  refine zw_iconst 0 6 f70_5 rfl (by decide +kernel) ?_
  refine zw_istore_n _ 7 f70_6 rfl (by decide +kernel) rfl ?_
  exact lck_X10_settle_11_7 ro nv np I G A B hI (nv + 1) 0 _ _ _ _ _ (KP.i rfl KP.rf) (show CI nv np _ from ⟨hI.1, hI.2.1, ⟨0, (by decide +kernel), rfl⟩, hI.2.2.2⟩)  trivial  (zl1_ne rfl rfl rfl) (show zld _ _ = some (.int (nI 0)) from zl1_eq) (by omega) (by omega)
set_option maxRecDepth 100000 in
set_option maxHeartbeats 0 in
theorem ck_X10_step_11 (ro : UInt32 → Nat × (Nat → Int32)) (nv np : Nat) (I : Nat → Nat → Int32) (G : Nat → Nat → Int64) (A : Nat → Nat → Int32) (B : Nat → Nat → Int64) (hI : CI nv np I) : zWp ro 66 0 [(0, .ref 11)] [] (hS I G A B) 0 0 (zWk pW nv np I G A B zRt2) := by
  have hnv := hI.1.2
  have hnp := hI.2.1.2
  refine zw_aload_n 1 f66_0 rfl rfl ?_
  refine zw_iconst 0 2 f66_1 rfl (by decide +kernel) ?_
  refine zw_put _ 5 f66_2 rfl g66_161_10 (hb_11 _ _ _ _) rfl (Nat.le_of_ble_eq_true rfl) (by decide +kernel) (hi_11_12 _ _ _ _ _) ?_
  refine zw_aload_n 6 f66_5 rfl rfl ?_
  refine zw_aload_n 7 f66_6 rfl rfl ?_
  refine zx_getG 10 f66_7 rfl g66_119_10 (hb_11 _ _ _ _) rfl (fun w1 hw1 => ?_)
  refine zw_aload_n 11 f66_10 rfl rfl ?_
  refine zx_getG 14 f66_11 rfl g66_116_10 (hb_11 _ _ _ _) rfl (fun w2 hw2 => ?_)
  refine zw_virtual_i 17 0 0 [.ref 11, .long w1, .long w2] [(0, .ref 11), (1, .long w1), (3, .long w2)] f66_14 rfl n66_164 k66_164_10 rfl (hb_11 _ _ _ _) (by decide +kernel) (Nat.le_of_ble_eq_true rfl) rfl rfl (by decide +kernel) (by decide +kernel) rfl (Nat.le_of_ble_eq_true rfl) rfl ?_
  refine zWp.mono (ck_X10_advance_11 ro nv np (upd2 I 11 12 0) _ _ _ (show CI nv np _ from ⟨hI.1, hI.2.1, ⟨0, (by decide +kernel), rfl⟩, hI.2.2.2⟩) w1 w2) ?_
  rintro r h1 ⟨I_4, G_4, A_4, B_4, rfl, K_4, hI_4, ⟨w3, rfl, hw3⟩⟩
  refine ⟨_, rfl, ?_⟩
  have K_4 := KP.tr (KP.i rfl KP.rf) K_4
  refine zw_if_ne 20 22 f66_17 (by decide +kernel) rfl (fun hc5 => ?_) (fun hc5 => ?_)
  · refine zw_aload_n 23 f66_22 rfl rfl ?_
    refine zw_virtual_v 26 0 0 [.ref 11] [(0, .ref 11)] f66_23 rfl n66_168 k66_168_10 rfl (hb_11 _ _ _ _) (by decide +kernel) (Nat.le_of_ble_eq_true rfl) rfl rfl (by decide +kernel) (by decide +kernel) rfl (Nat.le_of_ble_eq_true rfl) rfl ?_
    refine zWp.mono (ck_X10_settle_11 ro nv np I_4 _ _ _ hI_4 ) ?_
    rintro r h1 ⟨I_7, G_7, A_7, B_7, rfl, K_7, hI_7, rfl⟩
    refine ⟨rfl, ?_⟩
    have K_7 := KP.tr K_4 K_7
    refine zw_iconst 1 27 f66_26 rfl (by decide +kernel) ?_
    refine zw_zreturn f66_27 r66 u66 (by decide +kernel) ?_
    exact ⟨_, _, _, _, rfl, K_7, hI_7, ⟨_, rfl, (by decide +kernel)⟩⟩
  · refine zw_iconst 0 21 f66_20 rfl (by decide +kernel) ?_
    refine zw_zreturn f66_21 r66 u66 (by decide +kernel) ?_
    exact ⟨_, _, _, _, rfl, K_4, hI_4, ⟨_, rfl, (by decide +kernel)⟩⟩
set_option maxRecDepth 100000 in
set_option maxHeartbeats 0 in
theorem ck_X10_passTo_11 (ro : UInt32 → Nat × (Nat → Int32)) (nv np : Nat) (I : Nat → Nat → Int32) (G : Nat → Nat → Int64) (A : Nat → Nat → Int32) (B : Nat → Nat → Int64) (hI : CI nv np I) (a : Int32) : zWp ro 67 0 [(0, .ref 11), (1, .int a)] [] (hS I G A B) 0 0 (zWk pW nv np I G A B zRt0) := by
  have hnv := hI.1.2
  have hnp := hI.2.1.2
  refine zw_aload_n 1 f67_0 rfl rfl ?_
  refine zw_lconst 1 2 f67_1 rfl (by decide +kernel) ?_
  refine zw_iload_n 3 f67_2 rfl rfl ?_
  refine zx_i2l 4 f67_3 rfl (fun w1 hw1 => ?_)
  refine zw_aload_n 5 f67_4 rfl rfl ?_
  refine zw_getfield 8 f67_5 rfl g67_12_10 (hb_11 _ _ _ _) rfl ?_
  refine zx_getG 11 f67_8 rfl g67_109_9 (hb_12 _ _ _ _) rfl (fun w2 hw2 => ?_)
  refine zx_lmul 12 f67_11 rfl (fun w3 hw3 => ?_)
  refine zw_aload_n 13 f67_12 rfl rfl ?_
  refine zw_getfield 16 f67_13 rfl g67_12_10 (hb_11 _ _ _ _) rfl ?_
  refine zx_getG 19 f67_16 rfl g67_151_9 (hb_12 _ _ _ _) rfl (fun w4 hw4 => ?_)
  refine zx_lsub 20 f67_19 rfl (fun w5 hw5 => ?_)
  refine zw_virtual_i 23 0 0 [.ref 11, .long 1, .long w5] [(0, .ref 11), (1, .long 1), (3, .long w5)] f67_20 rfl n67_164 k67_164_10 rfl (hb_11 _ _ _ _) (by decide +kernel) (Nat.le_of_ble_eq_true rfl) rfl rfl (by decide +kernel) (by decide +kernel) rfl (Nat.le_of_ble_eq_true rfl) rfl ?_
  refine zWp.mono (ck_X10_advance_11 ro nv np I _ _ _ hI 1 w5) ?_
  rintro r h1 ⟨I_7, G_7, A_7, B_7, rfl, K_7, hI_7, ⟨w6, rfl, hw6⟩⟩
  refine ⟨_, rfl, ?_⟩
  have K_7 := KP.tr KP.rf K_7
  refine zw_pop 24 f67_23 rfl rfl ?_
  refine zw_vreturn f67_24 r67 u67 ?_
  exact ⟨_, _, _, _, rfl, K_7, hI_7, rfl⟩
set_option maxRecDepth 100000 in
set_option maxHeartbeats 0 in
theorem lcp_X10_hasHappened_11_2 (ro : UInt32 → Nat × (Nat → Int32)) (nv np : Nat) (I : Nat → Nat → Int32) (G : Nat → Nat → Int64) (A : Nat → Nat → Int32) (B : Nat → Nat → Int64) (hI : CI nv np I) (a : Int32) (b : Int32) : ∀ (n k : Nat) (ls : List (Nat × Value)), True → zld ls 0 = some (.ref 11) → zld ls 1 = some (.int a) → zld ls 2 = some (.int b) → zld ls 3 = some (.int (nI k)) → k ≤ 8 → 8 + 1 ≤ k + n → zWp ro 76 2 ls [] (hS I G A B) 0 0 (fun r h1 => h1 = hS I G A B ∧ zRt2 r) := by
  have hnv := hI.1.2
  have hnp := hI.2.1.2
  intro n
  induction n with
  | zero =>
    intro k ls _ hl0 hl1 hl2 hl3 h1 h2
    exact absurd h2 (by omega)
  | succ n ih =>
    intro k ls _ hl0 hl1 hl2 hl3 hk1 hk2
    refine zw_iload_n 3 f76_2 rfl hl3 ?_
    refine zw_aload_n 4 f76_3 rfl hl0 ?_
    obtain ⟨x1p, x1q, x1e⟩ := hI.2.2.1
    refine zw_getI (nI x1p) 7 f76_4 rfl g76_161_10 (hb_11 _ _ _ _) rfl x1e ?_
    refine zw_ic_ge 10 44 f76_7 (by decide +kernel) rfl (fun hc2 => ?_) (fun hc2 => ?_)
    · have hn_hc2 : x1p ≤ k := zn_ge (by omega) (by omega) hc2
      refine zw_iconst 0 45 f76_44 rfl (by decide +kernel) ?_
      refine zw_zreturn f76_45 r76 u76 (by decide +kernel) ?_
      exact ⟨rfl, ⟨_, rfl, (by decide +kernel)⟩⟩
    · have hn_hc2 : k < x1p := zn_lt (by omega) (by omega) hc2
      refine zw_iload_n 11 f76_10 rfl hl3 ?_
      refine zw_bipush 8 13 f76_11 rfl (by decide +kernel) ?_
      refine zw_ic_ge 16 44 f76_13 (by decide +kernel) rfl (fun hc3 => ?_) (fun hc3 => ?_)
      · have hn_hc3 : 8 ≤ k := zn_ge (by omega) (by omega) hc3
        refine zw_iconst 0 45 f76_44 rfl (by decide +kernel) ?_
        refine zw_zreturn f76_45 r76 u76 (by decide +kernel) ?_
        exact ⟨rfl, ⟨_, rfl, (by decide +kernel)⟩⟩
      · have hn_hc3 : k < 8 := zn_lt (by omega) (by omega) hc3
        refine zw_aload_n 17 f76_16 rfl hl0 ?_
        refine zw_getfield 20 f76_17 rfl g76_31_10 (hb_11 _ _ _ _) rfl ?_
        refine zw_iload_n 21 f76_20 rfl hl3 ?_
        refine zx_iaload k 22 f76_21 rfl (hb_20 _ _ _ _) (nI_clamp (by omega)) (nI_pos (by omega)) (by omega) (fun w4 hw4 => ?_)
        refine zw_iload_n 23 f76_22 rfl hl1 ?_
        refine zw_ic_ne 26 38 f76_23 (by decide +kernel) rfl (fun hc5 => ?_) (fun hc5 => ?_)
        · refine zw_iinc (nI (k + 1)) _ 41 f76_38 rfl hl3 (by decide +kernel) (nI_1 _) rfl ?_
          refine zw_goto 2 f76_41 (by decide +kernel) ?_
          exact ih ((k + 1)) _  trivial  (zl1_ne rfl rfl hl0) (zl1_ne rfl rfl hl1) (zl1_ne rfl rfl hl2) zl1_eq (by omega) (by omega)
        · refine zw_aload_n 27 f76_26 rfl hl0 ?_
          refine zw_getfield 30 f76_27 rfl g76_34_10 (hb_11 _ _ _ _) rfl ?_
          refine zw_iload_n 31 f76_30 rfl hl3 ?_
          refine zx_iaload k 32 f76_31 rfl (hb_21 _ _ _ _) (nI_clamp (by omega)) (nI_pos (by omega)) (by omega) (fun w6 hw6 => ?_)
          refine zw_iload_n 33 f76_32 rfl hl2 ?_
          refine zw_ic_ne 36 38 f76_33 (by decide +kernel) rfl (fun hc7 => ?_) (fun hc7 => ?_)
          · refine zw_iinc (nI (k + 1)) _ 41 f76_38 rfl hl3 (by decide +kernel) (nI_1 _) rfl ?_
            refine zw_goto 2 f76_41 (by decide +kernel) ?_
            exact ih ((k + 1)) _  trivial  (zl1_ne rfl rfl hl0) (zl1_ne rfl rfl hl1) (zl1_ne rfl rfl hl2) zl1_eq (by omega) (by omega)
          · refine zw_iconst 1 37 f76_36 rfl (by decide +kernel) ?_
            refine zw_zreturn f76_37 r76 u76 (by decide +kernel) ?_
            exact ⟨rfl, ⟨_, rfl, (by decide +kernel)⟩⟩
set_option maxRecDepth 100000 in
set_option maxHeartbeats 0 in
theorem cp_X10_hasHappened_11 (ro : UInt32 → Nat × (Nat → Int32)) (nv np : Nat) (I : Nat → Nat → Int32) (G : Nat → Nat → Int64) (A : Nat → Nat → Int32) (B : Nat → Nat → Int64) (hI : CI nv np I) (a : Int32) (b : Int32) : zWp ro 76 0 [(0, .ref 11), (1, .int a), (2, .int b)] [] (hS I G A B) 0 0 (fun r h1 => h1 = hS I G A B ∧ zRt2 r) := by
  have hnv := hI.1.2
  have hnp := hI.2.1.2
  refine zw_iconst 0 1 f76_0 rfl (by decide +kernel) ?_
  refine zw_istore_n _ 2 f76_1 rfl (by decide +kernel) rfl ?_
  exact lcp_X10_hasHappened_11_2 ro nv np I G A B hI a b (8 + 1) 0 _  trivial  (zl1_ne rfl rfl rfl) (zl1_ne rfl rfl rfl) (zl1_ne rfl rfl rfl) (show zld _ _ = some (.int (nI 0)) from zl1_eq) (by omega) (by omega)
set_option maxRecDepth 100000 in
set_option maxHeartbeats 0 in
theorem cp_X10_runs_22 (ro : UInt32 → Nat × (Nat → Int32)) (nv np : Nat) (I : Nat → Nat → Int32) (G : Nat → Nat → Int64) (A : Nat → Nat → Int32) (B : Nat → Nat → Int64) (hI : CI nv np I) (a : Int32) : zWp ro 48 0 [(0, .ref 22), (1, .int a)] [] (hS I G A B) 0 0 (fun r h1 => h1 = hS I G A B ∧ zRt2 r) := by
  have hnv := hI.1.2
  have hnp := hI.2.1.2
  refine zw_aload_n 1 f48_0 rfl rfl ?_
  refine zw_getfield 4 f48_1 rfl g48_37_10 (hb_22 _ _ _ _) rfl ?_
  refine zw_iload_n 5 f48_4 rfl rfl ?_
  refine zw_virtual_i 8 0 0 [.ref 1, .int a] [(0, .ref 1), (1, .int a)] f48_5 rfl n48_41 k48_41_4 rfl (hb_1 _ _ _ _) (by decide +kernel) (Nat.le_of_ble_eq_true rfl) rfl rfl (by decide +kernel) (by decide +kernel) rfl (Nat.le_of_ble_eq_true rfl) rfl ?_
  refine zWp.mono (cp_X4_siphonOf ro nv np I _ _ _ hI a) ?_
  rintro r h1 ⟨rfl, ⟨w1, rfl⟩⟩
  refine ⟨_, rfl, ?_⟩
  refine zw_istore_n _ 9 f48_8 rfl (by decide +kernel) rfl ?_
  refine zw_aload_n 10 f48_9 rfl (zl1_ne rfl rfl rfl) ?_
  refine zw_getfield 13 f48_10 rfl g48_12_10 (hb_22 _ _ _ _) rfl ?_
  refine zw_iload_n 14 f48_13 rfl (zl1_ne rfl rfl rfl) ?_
  refine zw_virtual_i 17 0 0 [.ref 23, .int a] [(0, .ref 23), (1, .int a)] f48_14 rfl n48_47 k48_47_9 rfl (hb_23 _ _ _ _) (by decide +kernel) (Nat.le_of_ble_eq_true rfl) rfl rfl (by decide +kernel) (by decide +kernel) rfl (Nat.le_of_ble_eq_true rfl) rfl ?_
  refine zWp.mono (cp_X9_isOpen_23 ro nv np I _ _ _ hI a) ?_
  rintro r h1 ⟨rfl, ⟨w2, rfl, hw2⟩⟩
  refine ⟨_, rfl, ?_⟩
  refine zw_if_eq 20 40 f48_17 (by decide +kernel) rfl (fun hc3 => ?_) (fun hc3 => ?_)
  · refine zw_iconst 0 41 f48_40 rfl (by decide +kernel) ?_
    refine zw_zreturn f48_41 r48 u48 (by decide +kernel) ?_
    exact ⟨rfl, ⟨_, rfl, (by decide +kernel)⟩⟩
  · refine zw_iload_n 21 f48_20 rfl zl1_eq ?_
    refine zw_iconst (-1) 22 f48_21 rfl (by decide +kernel) ?_
    refine zw_ic_eq 25 36 f48_22 (by decide +kernel) rfl (fun hc4 => ?_) (fun hc4 => ?_)
    · refine zw_iconst 1 37 f48_36 rfl (by decide +kernel) ?_
      refine zw_goto 41 f48_37 (by decide +kernel) ?_
      refine zw_zreturn f48_41 r48 u48 (by decide +kernel) ?_
      exact ⟨rfl, ⟨_, rfl, (by decide +kernel)⟩⟩
    · refine zw_aload_n 26 f48_25 rfl (zl1_ne rfl rfl rfl) ?_
      refine zw_getfield 29 f48_26 rfl g48_12_10 (hb_22 _ _ _ _) rfl ?_
      refine zw_iload_n 30 f48_29 rfl zl1_eq ?_
      refine zw_virtual_i 33 0 0 [.ref 23, .int w1] [(0, .ref 23), (1, .int w1)] f48_30 rfl n48_51 k48_51_9 rfl (hb_23 _ _ _ _) (by decide +kernel) (Nat.le_of_ble_eq_true rfl) rfl rfl (by decide +kernel) (by decide +kernel) rfl (Nat.le_of_ble_eq_true rfl) rfl ?_
      refine zWp.mono (cp_X9_isSiphoning_23 ro nv np I _ _ _ hI w1) ?_
      rintro r h1 ⟨rfl, ⟨w5, rfl, hw5⟩⟩
      refine ⟨_, rfl, ?_⟩
      refine zw_if_eq 36 40 f48_33 (by decide +kernel) rfl (fun hc6 => ?_) (fun hc6 => ?_)
      · refine zw_iconst 0 41 f48_40 rfl (by decide +kernel) ?_
        refine zw_zreturn f48_41 r48 u48 (by decide +kernel) ?_
        exact ⟨rfl, ⟨_, rfl, (by decide +kernel)⟩⟩
      · refine zw_iconst 1 37 f48_36 rfl (by decide +kernel) ?_
        refine zw_goto 41 f48_37 (by decide +kernel) ?_
        refine zw_zreturn f48_41 r48 u48 (by decide +kernel) ?_
        exact ⟨rfl, ⟨_, rfl, (by decide +kernel)⟩⟩
set_option maxRecDepth 100000 in
set_option maxHeartbeats 0 in
theorem cp_X10_isFull_22 (ro : UInt32 → Nat × (Nat → Int32)) (nv np : Nat) (I : Nat → Nat → Int32) (G : Nat → Nat → Int64) (A : Nat → Nat → Int32) (B : Nat → Nat → Int64) (hI : CI nv np I) (a : Nat) (ha : a < 8) : zWp ro 52 0 [(0, .ref 22), (1, .int (nI a))] [] (hS I G A B) 0 0 (fun r h1 => h1 = hS I G A B ∧ zRt2 r) := by
  have hnv := hI.1.2
  have hnp := hI.2.1.2
  refine zw_aload_n 1 f52_0 rfl rfl ?_
  refine zw_getfield 4 f52_1 rfl g52_12_10 (hb_22 _ _ _ _) rfl ?_
  refine zw_getfield 7 f52_4 rfl g52_87_9 (hb_23 _ _ _ _) rfl ?_
  refine zw_iload_n 8 f52_7 rfl rfl ?_
  refine zx_laload a 9 f52_8 rfl (hb_24 _ _ _ _) (nI_clamp (by omega)) (nI_pos (by omega)) (by omega) (fun w1 hw1 => ?_)
  refine zw_aload_n 10 f52_9 rfl rfl ?_
  refine zw_getfield 13 f52_10 rfl g52_37_10 (hb_22 _ _ _ _) rfl ?_
  refine zw_getfield 16 f52_13 rfl g52_106_4 (hb_1 _ _ _ _) rfl ?_
  refine zw_iload_n 17 f52_16 rfl rfl ?_
  refine zx_iaload a 18 f52_17 rfl (hb_3 _ _ _ _) (nI_clamp (by omega)) (nI_pos (by omega)) (by omega) (fun w2 hw2 => ?_)
  refine zx_i2l 19 f52_18 rfl (fun w3 hw3 => ?_)
  refine zw_aload_n 20 f52_19 rfl rfl ?_
  refine zw_getfield 23 f52_20 rfl g52_12_10 (hb_22 _ _ _ _) rfl ?_
  refine zx_getG 26 f52_23 rfl g52_109_9 (hb_23 _ _ _ _) rfl (fun w4 hw4 => ?_)
  refine zx_lmul 27 f52_26 rfl (fun w5 hw5 => ?_)
  refine zx_lcmp 28 f52_27 rfl (fun w6 hw6 => ?_)
  refine zw_if_lt 31 35 f52_28 (by decide +kernel) rfl (fun hc7 => ?_) (fun hc7 => ?_)
  · refine zw_iconst 0 36 f52_35 rfl (by decide +kernel) ?_
    refine zw_zreturn f52_36 r52 u52 (by decide +kernel) ?_
    exact ⟨rfl, ⟨_, rfl, (by decide +kernel)⟩⟩
  · refine zw_iconst 1 32 f52_31 rfl (by decide +kernel) ?_
    refine zw_goto 36 f52_32 (by decide +kernel) ?_
    refine zw_zreturn f52_36 r52 u52 (by decide +kernel) ?_
    exact ⟨rfl, ⟨_, rfl, (by decide +kernel)⟩⟩
set_option maxRecDepth 100000 in
set_option maxHeartbeats 0 in
theorem ck_X10_bring_22 (ro : UInt32 → Nat × (Nat → Int32)) (nv np : Nat) (I : Nat → Nat → Int32) (G : Nat → Nat → Int64) (A : Nat → Nat → Int32) (B : Nat → Nat → Int64) (hI : CI nv np I) (a : Int32) (b : Int32) : zWp ro 51 0 [(0, .ref 22), (1, .int a), (2, .int b)] [] (hS I G A B) 0 0 (zWk pW nv np I G A B zRt0) := by
  have hnv := hI.1.2
  have hnp := hI.2.1.2
  refine zw_aload_n 1 f51_0 rfl rfl ?_
  refine zw_getfield 4 f51_1 rfl g51_37_10 (hb_22 _ _ _ _) rfl ?_
  refine zw_iload_n 5 f51_4 rfl rfl ?_
  refine zw_virtual_i 8 0 0 [.ref 1, .int a] [(0, .ref 1), (1, .int a)] f51_5 rfl n51_103 k51_103_4 rfl (hb_1 _ _ _ _) (by decide +kernel) (Nat.le_of_ble_eq_true rfl) rfl rfl (by decide +kernel) (by decide +kernel) rfl (Nat.le_of_ble_eq_true rfl) rfl ?_
  refine zw_iload_n 1 f13_0 rfl rfl ?_
  refine zw_if_lt 4 22 f13_1 (by decide +kernel) rfl (fun hc1 => ?_) (fun hc1 => ?_)
  · refine zw_iconst 0 23 f13_22 rfl (by decide +kernel) ?_
    refine zw_zreturn f13_23 r13 u13 (by decide +kernel) ⟨_, rfl, ?_⟩
    refine zw_if_eq_t 24 f51_8 (by decide +kernel) (by decide +kernel) ?_
    refine zw_aload_n 25 f51_24 rfl rfl ?_
    refine zw_dup 26 f51_25 rfl rfl ?_
    refine zx_getI 29 f51_26 rfl g51_58_10 (hb_22 _ _ _ _) rfl (fun w2 hw2 => ?_)
    refine zw_iload_n 30 f51_29 rfl rfl ?_
    refine zx_iadd 31 f51_30 rfl (fun w3 hw3 => ?_)
    refine zw_put _ 34 f51_31 rfl g51_58_10 (hb_22 _ _ _ _) rfl (Nat.le_of_ble_eq_true rfl) (by decide +kernel) (hi_22_7 _ _ _ _ _) ?_
    refine zw_vreturn f51_34 r51 u51 ?_
    exact ⟨_, _, _, _, rfl, (KP.i rfl KP.rf), hI, rfl⟩
  · refine zw_iload_n 5 f13_4 rfl rfl ?_
    refine zw_aload_n 6 f13_5 rfl rfl ?_
    refine zw_getI (nI nv) 9 f13_6 rfl g13_39_4 (hb_1 _ _ _ _) rfl hI.1.1 ?_
    refine zw_ic_ge 12 22 f13_9 (by decide +kernel) rfl (fun hc4 => ?_) (fun hc4 => ?_)
    · refine zw_iconst 0 23 f13_22 rfl (by decide +kernel) ?_
      refine zw_zreturn f13_23 r13 u13 (by decide +kernel) ⟨_, rfl, ?_⟩
      refine zw_if_eq_t 24 f51_8 (by decide +kernel) (by decide +kernel) ?_
      refine zw_aload_n 25 f51_24 rfl rfl ?_
      refine zw_dup 26 f51_25 rfl rfl ?_
      refine zx_getI 29 f51_26 rfl g51_58_10 (hb_22 _ _ _ _) rfl (fun w5 hw5 => ?_)
      refine zw_iload_n 30 f51_29 rfl rfl ?_
      refine zx_iadd 31 f51_30 rfl (fun w6 hw6 => ?_)
      refine zw_put _ 34 f51_31 rfl g51_58_10 (hb_22 _ _ _ _) rfl (Nat.le_of_ble_eq_true rfl) (by decide +kernel) (hi_22_7 _ _ _ _ _) ?_
      refine zw_vreturn f51_34 r51 u51 ?_
      exact ⟨_, _, _, _, rfl, (KP.i rfl KP.rf), hI, rfl⟩
    · refine zw_iload_n 13 f13_12 rfl rfl ?_
      refine zw_bipush 8 15 f13_13 rfl (by decide +kernel) ?_
      refine zw_ic_ge 18 22 f13_15 (by decide +kernel) rfl (fun hc7 => ?_) (fun hc7 => ?_)
      · refine zw_iconst 0 23 f13_22 rfl (by decide +kernel) ?_
        refine zw_zreturn f13_23 r13 u13 (by decide +kernel) ⟨_, rfl, ?_⟩
        refine zw_if_eq_t 24 f51_8 (by decide +kernel) (by decide +kernel) ?_
        refine zw_aload_n 25 f51_24 rfl rfl ?_
        refine zw_dup 26 f51_25 rfl rfl ?_
        refine zx_getI 29 f51_26 rfl g51_58_10 (hb_22 _ _ _ _) rfl (fun w8 hw8 => ?_)
        refine zw_iload_n 30 f51_29 rfl rfl ?_
        refine zx_iadd 31 f51_30 rfl (fun w9 hw9 => ?_)
        refine zw_put _ 34 f51_31 rfl g51_58_10 (hb_22 _ _ _ _) rfl (Nat.le_of_ble_eq_true rfl) (by decide +kernel) (hi_22_7 _ _ _ _ _) ?_
        refine zw_vreturn f51_34 r51 u51 ?_
        exact ⟨_, _, _, _, rfl, (KP.i rfl KP.rf), hI, rfl⟩
      · refine zw_iconst 1 19 f13_18 rfl (by decide +kernel) ?_
        refine zw_goto 23 f13_19 (by decide +kernel) ?_
        refine zw_zreturn f13_23 r13 u13 (by decide +kernel) ⟨_, rfl, ?_⟩
        refine zw_if_eq_f 11 24 f51_8 (by decide +kernel) rfl (by decide +kernel) ?_
        refine zw_aload_n 12 f51_11 rfl rfl ?_
        refine zw_getfield 15 f51_12 rfl g51_18_10 (hb_22 _ _ _ _) rfl ?_
        refine zw_iload_n 16 f51_15 rfl rfl ?_
        refine zw_dup2 17 f51_16 rfl rfl rfl ?_
        refine zx_iaload a.toNatClampNeg 18 f51_17 rfl (hb_27 _ _ _ _) rfl hc1 (zix (by decide) hc1 hc7) (fun w10 hw10 => ?_)
        refine zw_iload_n 19 f51_18 rfl rfl ?_
        refine zx_iadd 20 f51_19 rfl (fun w11 hw11 => ?_)
        refine zw_ast a.toNatClampNeg _ 21 f51_20 rfl (hb_27 _ _ _ _) rfl hc1 (zix (by decide) hc1 hc7) (ha_27 _ _ _ _ _) ?_
        refine zw_goto 34 f51_21 (by decide +kernel) ?_
        refine zw_vreturn f51_34 r51 u51 ?_
        exact ⟨_, _, _, _, rfl, (KP.a rfl KP.rf), hI, rfl⟩
set_option maxRecDepth 100000 in
set_option maxHeartbeats 0 in
theorem lck_X10_reckonVessel_22_30 (ro : UInt32 → Nat × (Nat → Int32)) (nv np : Nat) (I : Nat → Nat → Int32) (G : Nat → Nat → Int64) (A : Nat → Nat → Int32) (B : Nat → Nat → Int64) (hI : CI nv np I) (a : Nat) (ha : a < 8) : ∀ (n k : Nat) (ls : List (Nat × Value)) (I1 : Nat → Nat → Int32) (G1 : Nat → Nat → Int64) (A1 : Nat → Nat → Int32) (B1 : Nat → Nat → Int64), KP pW I G A B I1 G1 A1 B1 → CI nv np I1 → ∀ (y2 : Int32) (y3 : Int32), True → zld ls 0 = some (.ref 22) → zld ls 1 = some (.int (nI a)) → zld ls 2 = some (.int y2) → zld ls 3 = some (.int y3) → zld ls 4 = some (.int (nI k)) → k ≤ np → np + 1 ≤ k + n → zWp ro 50 30 ls [] (hS I1 G1 A1 B1) 0 0 (zWk pW nv np I G A B zRt0) := by
  have hnv := hI.1.2
  have hnp := hI.2.1.2
  intro n
  induction n with
  | zero =>
    intro k ls I1 G1 A1 B1 K hJ y2 y3 _ hl0 hl1 hl2 hl3 hl4 h1 h2
    exact absurd h2 (by omega)
  | succ n ih =>
    intro k ls I1 G1 A1 B1 K hJ y2 y3 _ hl0 hl1 hl2 hl3 hl4 hk1 hk2
    refine zw_iload 32 f50_30 rfl hl4 ?_
    refine zw_aload_n 33 f50_32 rfl hl0 ?_
    refine zw_getfield 36 f50_33 rfl g50_37_10 (hb_22 _ _ _ _) rfl ?_
    refine zw_getI (nI np) 39 f50_36 rfl g50_61_4 (hb_1 _ _ _ _) rfl hJ.2.1.1 ?_
    refine zw_ic_ge 42 148 f50_39 (by decide +kernel) rfl (fun hc1 => ?_) (fun hc1 => ?_)
    · have hn_hc1 : np ≤ k := zn_ge (by omega) (by omega) hc1
      refine zw_aload_n 149 f50_148 rfl hl0 ?_
      refine zw_getfield 152 f50_149 rfl g50_25_10 (hb_22 _ _ _ _) rfl ?_
      refine zw_iload_n 153 f50_152 rfl hl1 ?_
      refine zw_aload_n 154 f50_153 rfl hl0 ?_
      refine zw_iload_n 155 f50_154 rfl hl1 ?_
      refine zw_virtual_i 158 0 0 [.ref 22, .int (nI a)] [(0, .ref 22), (1, .int (nI a))] f50_155 rfl n50_97 k50_97_10 rfl (hb_22 _ _ _ _) (by decide +kernel) (Nat.le_of_ble_eq_true rfl) rfl rfl (by decide +kernel) (by decide +kernel) rfl (Nat.le_of_ble_eq_true rfl) rfl ?_
      refine zWp.mono (cp_X10_isFull_22 ro nv np I1 _ _ _ hJ a (by omega)) ?_
      rintro r h1 ⟨rfl, ⟨w2, rfl, hw2⟩⟩
      refine ⟨_, rfl, ?_⟩
      refine zw_if_eq 161 169 f50_158 (by decide +kernel) rfl (fun hc3 => ?_) (fun hc3 => ?_)
      · refine zw_iconst 0 170 f50_169 rfl (by decide +kernel) ?_
        refine zw_ast a _ 171 f50_170 rfl (hb_29 _ _ _ _) (nI_clamp (by omega)) (nI_pos (by omega)) (by omega) (ha_29 _ _ _ _ _) ?_
        refine zw_aload_n 172 f50_171 rfl hl0 ?_
        refine zw_getfield 175 f50_172 rfl g50_22_10 (hb_22 _ _ _ _) rfl ?_
        refine zw_iload_n 176 f50_175 rfl hl1 ?_
        refine zw_iload_n 177 f50_176 rfl hl2 ?_
        refine zw_aload_n 178 f50_177 rfl hl0 ?_
        refine zw_getfield 181 f50_178 rfl g50_25_10 (hb_22 _ _ _ _) rfl ?_
        refine zw_iload_n 182 f50_181 rfl hl1 ?_
        refine zx_iaload a 183 f50_182 rfl (hb_29 _ _ _ _) (nI_clamp (by omega)) (nI_pos (by omega)) (by omega) (fun w4 hw4 => ?_)
        refine zx_isub 184 f50_183 rfl (fun w5 hw5 => ?_)
        refine zw_ast a _ 185 f50_184 rfl (hb_28 _ _ _ _) (nI_clamp (by omega)) (nI_pos (by omega)) (by omega) (ha_28 _ _ _ _ _) ?_
        refine zw_aload_n 186 f50_185 rfl hl0 ?_
        refine zw_aload_n 187 f50_186 rfl hl0 ?_
        refine zw_getfield 190 f50_187 rfl g50_37_10 (hb_22 _ _ _ _) rfl ?_
        refine zw_getfield 193 f50_190 rfl g50_100_4 (hb_1 _ _ _ _) rfl ?_
        refine zw_iload_n 194 f50_193 rfl hl1 ?_
        refine zx_iaload a 195 f50_194 rfl (hb_8 _ _ _ _) (nI_clamp (by omega)) (nI_pos (by omega)) (by omega) (fun w6 hw6 => ?_)
        refine zw_aload_n 196 f50_195 rfl hl0 ?_
        refine zw_getfield 199 f50_196 rfl g50_25_10 (hb_22 _ _ _ _) rfl ?_
        refine zw_iload_n 200 f50_199 rfl hl1 ?_
        refine zx_iaload a 201 f50_200 rfl (hb_29 _ _ _ _) (nI_clamp (by omega)) (nI_pos (by omega)) (by omega) (fun w7 hw7 => ?_)
        refine zw_virtual_v 204 0 0 [.ref 22, .int w6, .int w7] [(0, .ref 22), (1, .int w6), (2, .int w7)] f50_201 rfl n50_76 k50_76_10 rfl (hb_22 _ _ _ _) (by decide +kernel) (Nat.le_of_ble_eq_true rfl) rfl rfl (by decide +kernel) (by decide +kernel) rfl (Nat.le_of_ble_eq_true rfl) rfl ?_
        refine zWp.mono (ck_X10_bring_22 ro nv np I1 _ _ _ hJ w6 w7) ?_
        rintro r h1 ⟨I_9, G_9, A_9, B_9, rfl, K_9, hI_9, rfl⟩
        refine ⟨rfl, ?_⟩
        have K_9 := KP.tr (KP.a rfl (KP.a rfl K)) K_9
        refine zw_vreturn f50_204 r50 u50 ?_
        exact ⟨_, _, _, _, rfl, K_9, hI_9, rfl⟩
      · refine zw_iload_n 162 f50_161 rfl hl2 ?_
        refine zw_if_le 165 169 f50_162 (by decide +kernel) rfl (fun hc10 => ?_) (fun hc10 => ?_)
        · refine zw_iconst 0 170 f50_169 rfl (by decide +kernel) ?_
          refine zw_ast a _ 171 f50_170 rfl (hb_29 _ _ _ _) (nI_clamp (by omega)) (nI_pos (by omega)) (by omega) (ha_29 _ _ _ _ _) ?_
          refine zw_aload_n 172 f50_171 rfl hl0 ?_
          refine zw_getfield 175 f50_172 rfl g50_22_10 (hb_22 _ _ _ _) rfl ?_
          refine zw_iload_n 176 f50_175 rfl hl1 ?_
          refine zw_iload_n 177 f50_176 rfl hl2 ?_
          refine zw_aload_n 178 f50_177 rfl hl0 ?_
          refine zw_getfield 181 f50_178 rfl g50_25_10 (hb_22 _ _ _ _) rfl ?_
          refine zw_iload_n 182 f50_181 rfl hl1 ?_
          refine zx_iaload a 183 f50_182 rfl (hb_29 _ _ _ _) (nI_clamp (by omega)) (nI_pos (by omega)) (by omega) (fun w11 hw11 => ?_)
          refine zx_isub 184 f50_183 rfl (fun w12 hw12 => ?_)
          refine zw_ast a _ 185 f50_184 rfl (hb_28 _ _ _ _) (nI_clamp (by omega)) (nI_pos (by omega)) (by omega) (ha_28 _ _ _ _ _) ?_
          refine zw_aload_n 186 f50_185 rfl hl0 ?_
          refine zw_aload_n 187 f50_186 rfl hl0 ?_
          refine zw_getfield 190 f50_187 rfl g50_37_10 (hb_22 _ _ _ _) rfl ?_
          refine zw_getfield 193 f50_190 rfl g50_100_4 (hb_1 _ _ _ _) rfl ?_
          refine zw_iload_n 194 f50_193 rfl hl1 ?_
          refine zx_iaload a 195 f50_194 rfl (hb_8 _ _ _ _) (nI_clamp (by omega)) (nI_pos (by omega)) (by omega) (fun w13 hw13 => ?_)
          refine zw_aload_n 196 f50_195 rfl hl0 ?_
          refine zw_getfield 199 f50_196 rfl g50_25_10 (hb_22 _ _ _ _) rfl ?_
          refine zw_iload_n 200 f50_199 rfl hl1 ?_
          refine zx_iaload a 201 f50_200 rfl (hb_29 _ _ _ _) (nI_clamp (by omega)) (nI_pos (by omega)) (by omega) (fun w14 hw14 => ?_)
          refine zw_virtual_v 204 0 0 [.ref 22, .int w13, .int w14] [(0, .ref 22), (1, .int w13), (2, .int w14)] f50_201 rfl n50_76 k50_76_10 rfl (hb_22 _ _ _ _) (by decide +kernel) (Nat.le_of_ble_eq_true rfl) rfl rfl (by decide +kernel) (by decide +kernel) rfl (Nat.le_of_ble_eq_true rfl) rfl ?_
          refine zWp.mono (ck_X10_bring_22 ro nv np I1 _ _ _ hJ w13 w14) ?_
          rintro r h1 ⟨I_16, G_16, A_16, B_16, rfl, K_16, hI_16, rfl⟩
          refine ⟨rfl, ?_⟩
          have K_16 := KP.tr (KP.a rfl (KP.a rfl K)) K_16
          refine zw_vreturn f50_204 r50 u50 ?_
          exact ⟨_, _, _, _, rfl, K_16, hI_16, rfl⟩
        · refine zw_iload_n 166 f50_165 rfl hl2 ?_
          refine zw_goto 170 f50_166 (by decide +kernel) ?_
          refine zw_ast a _ 171 f50_170 rfl (hb_29 _ _ _ _) (nI_clamp (by omega)) (nI_pos (by omega)) (by omega) (ha_29 _ _ _ _ _) ?_
          refine zw_aload_n 172 f50_171 rfl hl0 ?_
          refine zw_getfield 175 f50_172 rfl g50_22_10 (hb_22 _ _ _ _) rfl ?_
          refine zw_iload_n 176 f50_175 rfl hl1 ?_
          refine zw_iload_n 177 f50_176 rfl hl2 ?_
          refine zw_aload_n 178 f50_177 rfl hl0 ?_
          refine zw_getfield 181 f50_178 rfl g50_25_10 (hb_22 _ _ _ _) rfl ?_
          refine zw_iload_n 182 f50_181 rfl hl1 ?_
          refine zx_iaload a 183 f50_182 rfl (hb_29 _ _ _ _) (nI_clamp (by omega)) (nI_pos (by omega)) (by omega) (fun w17 hw17 => ?_)
          refine zx_isub 184 f50_183 rfl (fun w18 hw18 => ?_)
          refine zw_ast a _ 185 f50_184 rfl (hb_28 _ _ _ _) (nI_clamp (by omega)) (nI_pos (by omega)) (by omega) (ha_28 _ _ _ _ _) ?_
          refine zw_aload_n 186 f50_185 rfl hl0 ?_
          refine zw_aload_n 187 f50_186 rfl hl0 ?_
          refine zw_getfield 190 f50_187 rfl g50_37_10 (hb_22 _ _ _ _) rfl ?_
          refine zw_getfield 193 f50_190 rfl g50_100_4 (hb_1 _ _ _ _) rfl ?_
          refine zw_iload_n 194 f50_193 rfl hl1 ?_
          refine zx_iaload a 195 f50_194 rfl (hb_8 _ _ _ _) (nI_clamp (by omega)) (nI_pos (by omega)) (by omega) (fun w19 hw19 => ?_)
          refine zw_aload_n 196 f50_195 rfl hl0 ?_
          refine zw_getfield 199 f50_196 rfl g50_25_10 (hb_22 _ _ _ _) rfl ?_
          refine zw_iload_n 200 f50_199 rfl hl1 ?_
          refine zx_iaload a 201 f50_200 rfl (hb_29 _ _ _ _) (nI_clamp (by omega)) (nI_pos (by omega)) (by omega) (fun w20 hw20 => ?_)
          refine zw_virtual_v 204 0 0 [.ref 22, .int w19, .int w20] [(0, .ref 22), (1, .int w19), (2, .int w20)] f50_201 rfl n50_76 k50_76_10 rfl (hb_22 _ _ _ _) (by decide +kernel) (Nat.le_of_ble_eq_true rfl) rfl rfl (by decide +kernel) (by decide +kernel) rfl (Nat.le_of_ble_eq_true rfl) rfl ?_
          refine zWp.mono (ck_X10_bring_22 ro nv np I1 _ _ _ hJ w19 w20) ?_
          rintro r h1 ⟨I_22, G_22, A_22, B_22, rfl, K_22, hI_22, rfl⟩
          refine ⟨rfl, ?_⟩
          have K_22 := KP.tr (KP.a rfl (KP.a rfl K)) K_22
          refine zw_vreturn f50_204 r50 u50 ?_
          exact ⟨_, _, _, _, rfl, K_22, hI_22, rfl⟩
    · have hn_hc1 : k < np := zn_lt (by omega) (by omega) hc1
      refine zw_aload_n 43 f50_42 rfl hl0 ?_
      refine zw_getfield 46 f50_43 rfl g50_37_10 (hb_22 _ _ _ _) rfl ?_
      refine zw_getfield 49 f50_46 rfl g50_64_4 (hb_1 _ _ _ _) rfl ?_
      refine zw_iload 51 f50_49 rfl hl4 ?_
      refine zx_iaload k 52 f50_51 rfl (hb_9 _ _ _ _) (nI_clamp (by omega)) (nI_pos (by omega)) (by omega) (fun w23 hw23 => ?_)
      refine zw_iload_n 53 f50_52 rfl hl1 ?_
      refine zw_ic_ne 56 142 f50_53 (by decide +kernel) rfl (fun hc24 => ?_) (fun hc24 => ?_)
      · refine zw_iinc (nI (k + 1)) _ 145 f50_142 rfl hl4 (by decide +kernel) (nI_1 _) rfl ?_
        refine zw_goto 30 f50_145 (by decide +kernel) ?_
        exact ih ((k + 1)) _ _ _ _ _ K hJ y2 y3 trivial  (zl1_ne rfl rfl hl0) (zl1_ne rfl rfl hl1) (zl1_ne rfl rfl hl2) (zl1_ne rfl rfl hl3) zl1_eq (by omega) (by omega)
      · refine zw_iload_n 57 f50_56 rfl hl3 ?_
        refine zw_if_eq 60 73 f50_57 (by decide +kernel) rfl (fun hc25 => ?_) (fun hc25 => ?_)
        · refine zw_aload_n 74 f50_73 rfl hl0 ?_
          refine zw_getfield 77 f50_74 rfl g50_12_10 (hb_22 _ _ _ _) rfl ?_
          refine zw_getfield 80 f50_77 rfl g50_70_9 (hb_23 _ _ _ _) rfl ?_
          refine zw_iload 82 f50_80 rfl hl4 ?_
          refine zx_iaload k 83 f50_82 rfl (hb_26 _ _ _ _) (nI_clamp (by omega)) (nI_pos (by omega)) (by omega) (fun w26 hw26 => ?_)
          refine zw_iload_n 84 f50_83 rfl hl2 ?_
          refine zw_static_i 87 0 0 [.int w26, .int y2] [] [(0, .int w26), (1, .int y2)] f50_84 rfl k50_91_99 rfl (by decide +kernel) (Nat.le_of_ble_eq_true rfl) (Nat.le_of_ble_eq_true rfl) rfl rfl (by decide +kernel) (by decide +kernel) rfl (Nat.le_of_ble_eq_true rfl) rfl ?_
          refine zWp.mono (cp_J9_min_7cf53 ro nv np I1 _ _ _ hJ w26 y2) ?_
          rintro r h1 ⟨rfl, ⟨w27, rfl⟩⟩
          refine ⟨_, rfl, ?_⟩
          refine zw_istore _ 89 f50_87 rfl (by decide +kernel) rfl ?_
          refine zw_aload_n 90 f50_89 rfl (zl1_ne rfl rfl hl0) ?_
          refine zw_getfield 93 f50_90 rfl g50_28_10 (hb_22 _ _ _ _) rfl ?_
          refine zw_iload 95 f50_93 rfl (zl1_ne rfl rfl hl4) ?_
          refine zw_aload_n 96 f50_95 rfl (zl1_ne rfl rfl hl0) ?_
          refine zw_iload 98 f50_96 rfl (zl1_ne rfl rfl hl4) ?_
          refine zw_virtual_i 101 0 0 [.ref 22, .int (nI k)] [(0, .ref 22), (1, .int (nI k))] f50_98 rfl n50_67 k50_67_10 rfl (hb_22 _ _ _ _) (by decide +kernel) (Nat.le_of_ble_eq_true rfl) rfl rfl (by decide +kernel) (by decide +kernel) rfl (Nat.le_of_ble_eq_true rfl) rfl ?_
          refine zWp.mono (cp_X10_runs_22 ro nv np I1 _ _ _ hJ (nI k)) ?_
          rintro r h1 ⟨rfl, ⟨w28, rfl, hw28⟩⟩
          refine ⟨_, rfl, ?_⟩
          refine zw_if_eq 104 109 f50_101 (by decide +kernel) rfl (fun hc29 => ?_) (fun hc29 => ?_)
          · refine zw_iconst 0 110 f50_109 rfl (by decide +kernel) ?_
            refine zw_ast k _ 111 f50_110 rfl (hb_30 _ _ _ _) (nI_clamp (by omega)) (nI_pos (by omega)) (by omega) (ha_30 _ _ _ _ _) ?_
            refine zw_iload_n 112 f50_111 rfl (zl1_ne rfl rfl hl2) ?_
            refine zw_aload_n 113 f50_112 rfl (zl1_ne rfl rfl hl0) ?_
            refine zw_getfield 116 f50_113 rfl g50_28_10 (hb_22 _ _ _ _) rfl ?_
            refine zw_iload 118 f50_116 rfl (zl1_ne rfl rfl hl4) ?_
            refine zx_iaload k 119 f50_118 rfl (hb_30 _ _ _ _) (nI_clamp (by omega)) (nI_pos (by omega)) (by omega) (fun w30 hw30 => ?_)
            refine zx_isub 120 f50_119 rfl (fun w31 hw31 => ?_)
            refine zw_istore_n _ 121 f50_120 rfl (by decide +kernel) rfl ?_
            refine zw_aload_n 122 f50_121 rfl (zl1_ne rfl rfl (zl1_ne rfl rfl hl0)) ?_
            refine zw_aload_n 123 f50_122 rfl (zl1_ne rfl rfl (zl1_ne rfl rfl hl0)) ?_
            refine zw_getfield 126 f50_123 rfl g50_37_10 (hb_22 _ _ _ _) rfl ?_
            refine zw_getfield 129 f50_126 rfl g50_73_4 (hb_1 _ _ _ _) rfl ?_
            refine zw_iload 131 f50_129 rfl (zl1_ne rfl rfl (zl1_ne rfl rfl hl4)) ?_
            refine zx_iaload k 132 f50_131 rfl (hb_10 _ _ _ _) (nI_clamp (by omega)) (nI_pos (by omega)) (by omega) (fun w32 hw32 => ?_)
            refine zw_aload_n 133 f50_132 rfl (zl1_ne rfl rfl (zl1_ne rfl rfl hl0)) ?_
            refine zw_getfield 136 f50_133 rfl g50_28_10 (hb_22 _ _ _ _) rfl ?_
            refine zw_iload 138 f50_136 rfl (zl1_ne rfl rfl (zl1_ne rfl rfl hl4)) ?_
            refine zx_iaload k 139 f50_138 rfl (hb_30 _ _ _ _) (nI_clamp (by omega)) (nI_pos (by omega)) (by omega) (fun w33 hw33 => ?_)
            refine zw_virtual_v 142 0 0 [.ref 22, .int w32, .int w33] [(0, .ref 22), (1, .int w32), (2, .int w33)] f50_139 rfl n50_76 k50_76_10 rfl (hb_22 _ _ _ _) (by decide +kernel) (Nat.le_of_ble_eq_true rfl) rfl rfl (by decide +kernel) (by decide +kernel) rfl (Nat.le_of_ble_eq_true rfl) rfl ?_
            refine zWp.mono (ck_X10_bring_22 ro nv np I1 _ _ _ hJ w32 w33) ?_
            rintro r h1 ⟨I_35, G_35, A_35, B_35, rfl, K_35, hI_35, rfl⟩
            refine ⟨rfl, ?_⟩
            have K_35 := KP.tr (KP.a rfl K) K_35
            refine zw_iinc (nI (k + 1)) _ 145 f50_142 rfl (zl1_ne rfl rfl (zl1_ne rfl rfl hl4)) (by decide +kernel) (nI_1 _) rfl ?_
            refine zw_goto 30 f50_145 (by decide +kernel) ?_
            exact ih ((k + 1)) _ _ _ _ _ K_35 hI_35 w31 y3 trivial  (zl1_ne rfl rfl (zl1_ne rfl rfl (zl1_ne rfl rfl hl0))) (zl1_ne rfl rfl (zl1_ne rfl rfl (zl1_ne rfl rfl hl1))) (zl1_ne rfl rfl zl1_eq) (zl1_ne rfl rfl (zl1_ne rfl rfl (zl1_ne rfl rfl hl3))) zl1_eq (by omega) (by omega)
          · refine zw_iload 106 f50_104 rfl zl1_eq ?_
            refine zw_goto 110 f50_106 (by decide +kernel) ?_
            refine zw_ast k _ 111 f50_110 rfl (hb_30 _ _ _ _) (nI_clamp (by omega)) (nI_pos (by omega)) (by omega) (ha_30 _ _ _ _ _) ?_
            refine zw_iload_n 112 f50_111 rfl (zl1_ne rfl rfl hl2) ?_
            refine zw_aload_n 113 f50_112 rfl (zl1_ne rfl rfl hl0) ?_
            refine zw_getfield 116 f50_113 rfl g50_28_10 (hb_22 _ _ _ _) rfl ?_
            refine zw_iload 118 f50_116 rfl (zl1_ne rfl rfl hl4) ?_
            refine zx_iaload k 119 f50_118 rfl (hb_30 _ _ _ _) (nI_clamp (by omega)) (nI_pos (by omega)) (by omega) (fun w36 hw36 => ?_)
            refine zx_isub 120 f50_119 rfl (fun w37 hw37 => ?_)
            refine zw_istore_n _ 121 f50_120 rfl (by decide +kernel) rfl ?_
            refine zw_aload_n 122 f50_121 rfl (zl1_ne rfl rfl (zl1_ne rfl rfl hl0)) ?_
            refine zw_aload_n 123 f50_122 rfl (zl1_ne rfl rfl (zl1_ne rfl rfl hl0)) ?_
            refine zw_getfield 126 f50_123 rfl g50_37_10 (hb_22 _ _ _ _) rfl ?_
            refine zw_getfield 129 f50_126 rfl g50_73_4 (hb_1 _ _ _ _) rfl ?_
            refine zw_iload 131 f50_129 rfl (zl1_ne rfl rfl (zl1_ne rfl rfl hl4)) ?_
            refine zx_iaload k 132 f50_131 rfl (hb_10 _ _ _ _) (nI_clamp (by omega)) (nI_pos (by omega)) (by omega) (fun w38 hw38 => ?_)
            refine zw_aload_n 133 f50_132 rfl (zl1_ne rfl rfl (zl1_ne rfl rfl hl0)) ?_
            refine zw_getfield 136 f50_133 rfl g50_28_10 (hb_22 _ _ _ _) rfl ?_
            refine zw_iload 138 f50_136 rfl (zl1_ne rfl rfl (zl1_ne rfl rfl hl4)) ?_
            refine zx_iaload k 139 f50_138 rfl (hb_30 _ _ _ _) (nI_clamp (by omega)) (nI_pos (by omega)) (by omega) (fun w39 hw39 => ?_)
            refine zw_virtual_v 142 0 0 [.ref 22, .int w38, .int w39] [(0, .ref 22), (1, .int w38), (2, .int w39)] f50_139 rfl n50_76 k50_76_10 rfl (hb_22 _ _ _ _) (by decide +kernel) (Nat.le_of_ble_eq_true rfl) rfl rfl (by decide +kernel) (by decide +kernel) rfl (Nat.le_of_ble_eq_true rfl) rfl ?_
            refine zWp.mono (ck_X10_bring_22 ro nv np I1 _ _ _ hJ w38 w39) ?_
            rintro r h1 ⟨I_41, G_41, A_41, B_41, rfl, K_41, hI_41, rfl⟩
            refine ⟨rfl, ?_⟩
            have K_41 := KP.tr (KP.a rfl K) K_41
            refine zw_iinc (nI (k + 1)) _ 145 f50_142 rfl (zl1_ne rfl rfl (zl1_ne rfl rfl hl4)) (by decide +kernel) (nI_1 _) rfl ?_
            refine zw_goto 30 f50_145 (by decide +kernel) ?_
            exact ih ((k + 1)) _ _ _ _ _ K_41 hI_41 w37 y3 trivial  (zl1_ne rfl rfl (zl1_ne rfl rfl (zl1_ne rfl rfl hl0))) (zl1_ne rfl rfl (zl1_ne rfl rfl (zl1_ne rfl rfl hl1))) (zl1_ne rfl rfl zl1_eq) (zl1_ne rfl rfl (zl1_ne rfl rfl (zl1_ne rfl rfl hl3))) zl1_eq (by omega) (by omega)
        · refine zw_aload_n 61 f50_60 rfl hl0 ?_
          refine zw_getfield 64 f50_61 rfl g50_12_10 (hb_22 _ _ _ _) rfl ?_
          refine zw_getfield 67 f50_64 rfl g50_70_9 (hb_23 _ _ _ _) rfl ?_
          refine zw_iload 69 f50_67 rfl hl4 ?_
          refine zx_iaload k 70 f50_69 rfl (hb_26 _ _ _ _) (nI_clamp (by omega)) (nI_pos (by omega)) (by omega) (fun w42 hw42 => ?_)
          refine zw_goto 87 f50_70 (by decide +kernel) ?_
          refine zw_istore _ 89 f50_87 rfl (by decide +kernel) rfl ?_
          refine zw_aload_n 90 f50_89 rfl (zl1_ne rfl rfl hl0) ?_
          refine zw_getfield 93 f50_90 rfl g50_28_10 (hb_22 _ _ _ _) rfl ?_
          refine zw_iload 95 f50_93 rfl (zl1_ne rfl rfl hl4) ?_
          refine zw_aload_n 96 f50_95 rfl (zl1_ne rfl rfl hl0) ?_
          refine zw_iload 98 f50_96 rfl (zl1_ne rfl rfl hl4) ?_
          refine zw_virtual_i 101 0 0 [.ref 22, .int (nI k)] [(0, .ref 22), (1, .int (nI k))] f50_98 rfl n50_67 k50_67_10 rfl (hb_22 _ _ _ _) (by decide +kernel) (Nat.le_of_ble_eq_true rfl) rfl rfl (by decide +kernel) (by decide +kernel) rfl (Nat.le_of_ble_eq_true rfl) rfl ?_
          refine zWp.mono (cp_X10_runs_22 ro nv np I1 _ _ _ hJ (nI k)) ?_
          rintro r h1 ⟨rfl, ⟨w43, rfl, hw43⟩⟩
          refine ⟨_, rfl, ?_⟩
          refine zw_if_eq 104 109 f50_101 (by decide +kernel) rfl (fun hc44 => ?_) (fun hc44 => ?_)
          · refine zw_iconst 0 110 f50_109 rfl (by decide +kernel) ?_
            refine zw_ast k _ 111 f50_110 rfl (hb_30 _ _ _ _) (nI_clamp (by omega)) (nI_pos (by omega)) (by omega) (ha_30 _ _ _ _ _) ?_
            refine zw_iload_n 112 f50_111 rfl (zl1_ne rfl rfl hl2) ?_
            refine zw_aload_n 113 f50_112 rfl (zl1_ne rfl rfl hl0) ?_
            refine zw_getfield 116 f50_113 rfl g50_28_10 (hb_22 _ _ _ _) rfl ?_
            refine zw_iload 118 f50_116 rfl (zl1_ne rfl rfl hl4) ?_
            refine zx_iaload k 119 f50_118 rfl (hb_30 _ _ _ _) (nI_clamp (by omega)) (nI_pos (by omega)) (by omega) (fun w45 hw45 => ?_)
            refine zx_isub 120 f50_119 rfl (fun w46 hw46 => ?_)
            refine zw_istore_n _ 121 f50_120 rfl (by decide +kernel) rfl ?_
            refine zw_aload_n 122 f50_121 rfl (zl1_ne rfl rfl (zl1_ne rfl rfl hl0)) ?_
            refine zw_aload_n 123 f50_122 rfl (zl1_ne rfl rfl (zl1_ne rfl rfl hl0)) ?_
            refine zw_getfield 126 f50_123 rfl g50_37_10 (hb_22 _ _ _ _) rfl ?_
            refine zw_getfield 129 f50_126 rfl g50_73_4 (hb_1 _ _ _ _) rfl ?_
            refine zw_iload 131 f50_129 rfl (zl1_ne rfl rfl (zl1_ne rfl rfl hl4)) ?_
            refine zx_iaload k 132 f50_131 rfl (hb_10 _ _ _ _) (nI_clamp (by omega)) (nI_pos (by omega)) (by omega) (fun w47 hw47 => ?_)
            refine zw_aload_n 133 f50_132 rfl (zl1_ne rfl rfl (zl1_ne rfl rfl hl0)) ?_
            refine zw_getfield 136 f50_133 rfl g50_28_10 (hb_22 _ _ _ _) rfl ?_
            refine zw_iload 138 f50_136 rfl (zl1_ne rfl rfl (zl1_ne rfl rfl hl4)) ?_
            refine zx_iaload k 139 f50_138 rfl (hb_30 _ _ _ _) (nI_clamp (by omega)) (nI_pos (by omega)) (by omega) (fun w48 hw48 => ?_)
            refine zw_virtual_v 142 0 0 [.ref 22, .int w47, .int w48] [(0, .ref 22), (1, .int w47), (2, .int w48)] f50_139 rfl n50_76 k50_76_10 rfl (hb_22 _ _ _ _) (by decide +kernel) (Nat.le_of_ble_eq_true rfl) rfl rfl (by decide +kernel) (by decide +kernel) rfl (Nat.le_of_ble_eq_true rfl) rfl ?_
            refine zWp.mono (ck_X10_bring_22 ro nv np I1 _ _ _ hJ w47 w48) ?_
            rintro r h1 ⟨I_50, G_50, A_50, B_50, rfl, K_50, hI_50, rfl⟩
            refine ⟨rfl, ?_⟩
            have K_50 := KP.tr (KP.a rfl K) K_50
            refine zw_iinc (nI (k + 1)) _ 145 f50_142 rfl (zl1_ne rfl rfl (zl1_ne rfl rfl hl4)) (by decide +kernel) (nI_1 _) rfl ?_
            refine zw_goto 30 f50_145 (by decide +kernel) ?_
            exact ih ((k + 1)) _ _ _ _ _ K_50 hI_50 w46 y3 trivial  (zl1_ne rfl rfl (zl1_ne rfl rfl (zl1_ne rfl rfl hl0))) (zl1_ne rfl rfl (zl1_ne rfl rfl (zl1_ne rfl rfl hl1))) (zl1_ne rfl rfl zl1_eq) (zl1_ne rfl rfl (zl1_ne rfl rfl (zl1_ne rfl rfl hl3))) zl1_eq (by omega) (by omega)
          · refine zw_iload 106 f50_104 rfl zl1_eq ?_
            refine zw_goto 110 f50_106 (by decide +kernel) ?_
            refine zw_ast k _ 111 f50_110 rfl (hb_30 _ _ _ _) (nI_clamp (by omega)) (nI_pos (by omega)) (by omega) (ha_30 _ _ _ _ _) ?_
            refine zw_iload_n 112 f50_111 rfl (zl1_ne rfl rfl hl2) ?_
            refine zw_aload_n 113 f50_112 rfl (zl1_ne rfl rfl hl0) ?_
            refine zw_getfield 116 f50_113 rfl g50_28_10 (hb_22 _ _ _ _) rfl ?_
            refine zw_iload 118 f50_116 rfl (zl1_ne rfl rfl hl4) ?_
            refine zx_iaload k 119 f50_118 rfl (hb_30 _ _ _ _) (nI_clamp (by omega)) (nI_pos (by omega)) (by omega) (fun w51 hw51 => ?_)
            refine zx_isub 120 f50_119 rfl (fun w52 hw52 => ?_)
            refine zw_istore_n _ 121 f50_120 rfl (by decide +kernel) rfl ?_
            refine zw_aload_n 122 f50_121 rfl (zl1_ne rfl rfl (zl1_ne rfl rfl hl0)) ?_
            refine zw_aload_n 123 f50_122 rfl (zl1_ne rfl rfl (zl1_ne rfl rfl hl0)) ?_
            refine zw_getfield 126 f50_123 rfl g50_37_10 (hb_22 _ _ _ _) rfl ?_
            refine zw_getfield 129 f50_126 rfl g50_73_4 (hb_1 _ _ _ _) rfl ?_
            refine zw_iload 131 f50_129 rfl (zl1_ne rfl rfl (zl1_ne rfl rfl hl4)) ?_
            refine zx_iaload k 132 f50_131 rfl (hb_10 _ _ _ _) (nI_clamp (by omega)) (nI_pos (by omega)) (by omega) (fun w53 hw53 => ?_)
            refine zw_aload_n 133 f50_132 rfl (zl1_ne rfl rfl (zl1_ne rfl rfl hl0)) ?_
            refine zw_getfield 136 f50_133 rfl g50_28_10 (hb_22 _ _ _ _) rfl ?_
            refine zw_iload 138 f50_136 rfl (zl1_ne rfl rfl (zl1_ne rfl rfl hl4)) ?_
            refine zx_iaload k 139 f50_138 rfl (hb_30 _ _ _ _) (nI_clamp (by omega)) (nI_pos (by omega)) (by omega) (fun w54 hw54 => ?_)
            refine zw_virtual_v 142 0 0 [.ref 22, .int w53, .int w54] [(0, .ref 22), (1, .int w53), (2, .int w54)] f50_139 rfl n50_76 k50_76_10 rfl (hb_22 _ _ _ _) (by decide +kernel) (Nat.le_of_ble_eq_true rfl) rfl rfl (by decide +kernel) (by decide +kernel) rfl (Nat.le_of_ble_eq_true rfl) rfl ?_
            refine zWp.mono (ck_X10_bring_22 ro nv np I1 _ _ _ hJ w53 w54) ?_
            rintro r h1 ⟨I_56, G_56, A_56, B_56, rfl, K_56, hI_56, rfl⟩
            refine ⟨rfl, ?_⟩
            have K_56 := KP.tr (KP.a rfl K) K_56
            refine zw_iinc (nI (k + 1)) _ 145 f50_142 rfl (zl1_ne rfl rfl (zl1_ne rfl rfl hl4)) (by decide +kernel) (nI_1 _) rfl ?_
            refine zw_goto 30 f50_145 (by decide +kernel) ?_
            exact ih ((k + 1)) _ _ _ _ _ K_56 hI_56 w52 y3 trivial  (zl1_ne rfl rfl (zl1_ne rfl rfl (zl1_ne rfl rfl hl0))) (zl1_ne rfl rfl (zl1_ne rfl rfl (zl1_ne rfl rfl hl1))) (zl1_ne rfl rfl zl1_eq) (zl1_ne rfl rfl (zl1_ne rfl rfl (zl1_ne rfl rfl hl3))) zl1_eq (by omega) (by omega)
set_option maxRecDepth 100000 in
set_option maxHeartbeats 0 in
theorem ck_X10_reckonVessel_22 (ro : UInt32 → Nat × (Nat → Int32)) (nv np : Nat) (I : Nat → Nat → Int32) (G : Nat → Nat → Int64) (A : Nat → Nat → Int32) (B : Nat → Nat → Int64) (hI : CI nv np I) (a : Nat) (ha : a < 8) : zWp ro 50 0 [(0, .ref 22), (1, .int (nI a))] [] (hS I G A B) 0 0 (zWk pW nv np I G A B zRt0) := by
  have hnv := hI.1.2
  have hnp := hI.2.1.2
  refine zw_aload_n 1 f50_0 rfl rfl ?_
  refine zw_getfield 4 f50_1 rfl g50_18_10 (hb_22 _ _ _ _) rfl ?_
  refine zw_iload_n 5 f50_4 rfl rfl ?_
  refine zx_iaload a 6 f50_5 rfl (hb_27 _ _ _ _) (nI_clamp (by omega)) (nI_pos (by omega)) (by omega) (fun w1 hw1 => ?_)
  refine zw_istore_n _ 7 f50_6 rfl (by decide +kernel) rfl ?_
  refine zw_aload_n 8 f50_7 rfl (zl1_ne rfl rfl rfl) ?_
  refine zw_getfield 11 f50_8 rfl g50_12_10 (hb_22 _ _ _ _) rfl ?_
  refine zw_getfield 14 f50_11 rfl g50_87_9 (hb_23 _ _ _ _) rfl ?_
  refine zw_iload_n 15 f50_14 rfl (zl1_ne rfl rfl rfl) ?_
  refine zx_laload a 16 f50_15 rfl (hb_24 _ _ _ _) (nI_clamp (by omega)) (nI_pos (by omega)) (by omega) (fun w2 hw2 => ?_)
  refine zw_lconst 0 17 f50_16 rfl (by decide +kernel) ?_
  refine zx_lcmp 18 f50_17 rfl (fun w3 hw3 => ?_)
  refine zw_if_le 21 25 f50_18 (by decide +kernel) rfl (fun hc4 => ?_) (fun hc4 => ?_)
  · refine zw_iconst 0 26 f50_25 rfl (by decide +kernel) ?_
    refine zw_istore_n _ 27 f50_26 rfl (by decide +kernel) rfl ?_
    refine zw_iconst 0 28 f50_27 rfl (by decide +kernel) ?_
    refine zw_istore _ 30 f50_28 rfl (by decide +kernel) rfl ?_
    exact lck_X10_reckonVessel_22_30 ro nv np I G A B hI a ha (np + 1) 0 _ _ _ _ _ KP.rf hI w1 0 trivial  (zl1_ne rfl rfl (zl1_ne rfl rfl (zl1_ne rfl rfl rfl))) (zl1_ne rfl rfl (zl1_ne rfl rfl (zl1_ne rfl rfl rfl))) (zl1_ne rfl rfl (zl1_ne rfl rfl zl1_eq)) (zl1_ne rfl rfl zl1_eq) (show zld _ _ = some (.int (nI 0)) from zl1_eq) (by omega) (by omega)
  · refine zw_iconst 1 22 f50_21 rfl (by decide +kernel) ?_
    refine zw_goto 26 f50_22 (by decide +kernel) ?_
    refine zw_istore_n _ 27 f50_26 rfl (by decide +kernel) rfl ?_
    refine zw_iconst 0 28 f50_27 rfl (by decide +kernel) ?_
    refine zw_istore _ 30 f50_28 rfl (by decide +kernel) rfl ?_
    exact lck_X10_reckonVessel_22_30 ro nv np I G A B hI a ha (np + 1) 0 _ _ _ _ _ KP.rf hI w1 1 trivial  (zl1_ne rfl rfl (zl1_ne rfl rfl (zl1_ne rfl rfl rfl))) (zl1_ne rfl rfl (zl1_ne rfl rfl (zl1_ne rfl rfl rfl))) (zl1_ne rfl rfl (zl1_ne rfl rfl zl1_eq)) (zl1_ne rfl rfl zl1_eq) (show zld _ _ = some (.int (nI 0)) from zl1_eq) (by omega) (by omega)
set_option maxRecDepth 100000 in
set_option maxHeartbeats 0 in
theorem lck_X10_reckonRates_22_126 (ro : UInt32 → Nat × (Nat → Int32)) (nv np : Nat) (I : Nat → Nat → Int32) (G : Nat → Nat → Int64) (A : Nat → Nat → Int32) (B : Nat → Nat → Int64) (hI : CI nv np I) : ∀ (n k : Nat) (ls : List (Nat × Value)) (I1 : Nat → Nat → Int32) (G1 : Nat → Nat → Int64) (A1 : Nat → Nat → Int32) (B1 : Nat → Nat → Int64), KP pW I G A B I1 G1 A1 B1 → CI nv np I1 → True → zld ls 0 = some (.ref 22) → zld ls 1 = some (.int (nI k)) → k ≤ nv → nv + 1 ≤ k + n → zWp ro 49 126 ls [] (hS I1 G1 A1 B1) 0 0 (zWk pW nv np I G A B zRt0) := by
  have hnv := hI.1.2
  have hnp := hI.2.1.2
  intro n
  induction n with
  | zero =>
    intro k ls I1 G1 A1 B1 K hJ _ hl0 hl1 h1 h2
    exact absurd h2 (by omega)
  | succ n ih =>
    intro k ls I1 G1 A1 B1 K hJ _ hl0 hl1 hk1 hk2
    refine zw_iload_n 127 f49_126 rfl hl1 ?_
    refine zw_aload_n 128 f49_127 rfl hl0 ?_
    refine zw_getfield 131 f49_128 rfl g49_37_10 (hb_22 _ _ _ _) rfl ?_
    refine zw_getI (nI nv) 134 f49_131 rfl g49_80_4 (hb_1 _ _ _ _) rfl hJ.1.1 ?_
    refine zw_ic_ge 137 148 f49_134 (by decide +kernel) rfl (fun hc1 => ?_) (fun hc1 => ?_)
    · have hn_hc1 : nv ≤ k := zn_ge (by omega) (by omega) hc1
      refine zw_vreturn f49_148 r49 u49 ?_
      exact ⟨_, _, _, _, rfl, K, hJ, rfl⟩
    · have hn_hc1 : k < nv := zn_lt (by omega) (by omega) hc1
      refine zw_aload_n 138 f49_137 rfl hl0 ?_
      refine zw_iload_n 139 f49_138 rfl hl1 ?_
      refine zw_virtual_v 142 0 0 [.ref 22, .int (nI k)] [(0, .ref 22), (1, .int (nI k))] f49_139 rfl n49_83 k49_83_10 rfl (hb_22 _ _ _ _) (by decide +kernel) (Nat.le_of_ble_eq_true rfl) rfl rfl (by decide +kernel) (by decide +kernel) rfl (Nat.le_of_ble_eq_true rfl) rfl ?_
      refine zWp.mono (ck_X10_reckonVessel_22 ro nv np I1 _ _ _ hJ k (by omega)) ?_
      rintro r h1 ⟨I_3, G_3, A_3, B_3, rfl, K_3, hI_3, rfl⟩
      refine ⟨rfl, ?_⟩
      have K_3 := KP.tr K K_3
      refine zw_iinc (nI (k + 1)) _ 145 f49_142 rfl hl1 (by decide +kernel) (nI_1 _) rfl ?_
      refine zw_goto 126 f49_145 (by decide +kernel) ?_
      exact ih ((k + 1)) _ _ _ _ _ K_3 hI_3  trivial  (zl1_ne rfl rfl hl0) zl1_eq (by omega) (by omega)
set_option maxRecDepth 100000 in
set_option maxHeartbeats 0 in
theorem lck_X10_reckonRates_22_33 (ro : UInt32 → Nat × (Nat → Int32)) (nv np : Nat) (I : Nat → Nat → Int32) (G : Nat → Nat → Int64) (A : Nat → Nat → Int32) (B : Nat → Nat → Int64) (hI : CI nv np I) : ∀ (n k : Nat) (ls : List (Nat × Value)) (I1 : Nat → Nat → Int32) (G1 : Nat → Nat → Int64) (A1 : Nat → Nat → Int32) (B1 : Nat → Nat → Int64), KP pW I G A B I1 G1 A1 B1 → CI nv np I1 → True → zld ls 0 = some (.ref 22) → zld ls 1 = some (.int (nI k)) → k ≤ np → np + 1 ≤ k + n → zWp ro 49 33 ls [] (hS I1 G1 A1 B1) 0 0 (zWk pW nv np I G A B zRt0) := by
  have hnv := hI.1.2
  have hnp := hI.2.1.2
  intro n
  induction n with
  | zero =>
    intro k ls I1 G1 A1 B1 K hJ _ hl0 hl1 h1 h2
    exact absurd h2 (by omega)
  | succ n ih =>
    intro k ls I1 G1 A1 B1 K hJ _ hl0 hl1 hk1 hk2
    refine zw_iload_n 34 f49_33 rfl hl1 ?_
    refine zw_aload_n 35 f49_34 rfl hl0 ?_
    refine zw_getfield 38 f49_35 rfl g49_37_10 (hb_22 _ _ _ _) rfl ?_
    refine zw_getI (nI np) 41 f49_38 rfl g49_61_4 (hb_1 _ _ _ _) rfl hJ.2.1.1 ?_
    refine zw_ic_ge 44 124 f49_41 (by decide +kernel) rfl (fun hc1 => ?_) (fun hc1 => ?_)
    · have hn_hc1 : np ≤ k := zn_ge (by omega) (by omega) hc1
      refine zw_iconst 0 125 f49_124 rfl (by decide +kernel) ?_
      refine zw_istore_n _ 126 f49_125 rfl (by decide +kernel) rfl ?_
      exact lck_X10_reckonRates_22_126 ro nv np I G A B hI (nv + 1) 0 _ _ _ _ _ K hJ  trivial  (zl1_ne rfl rfl hl0) (show zld _ _ = some (.int (nI 0)) from zl1_eq) (by omega) (by omega)
    · have hn_hc1 : k < np := zn_lt (by omega) (by omega) hc1
      refine zw_aload_n 45 f49_44 rfl hl0 ?_
      refine zw_getfield 48 f49_45 rfl g49_37_10 (hb_22 _ _ _ _) rfl ?_
      refine zw_getfield 51 f49_48 rfl g49_64_4 (hb_1 _ _ _ _) rfl ?_
      refine zw_iload_n 52 f49_51 rfl hl1 ?_
      refine zx_iaload k 53 f49_52 rfl (hb_9 _ _ _ _) (nI_clamp (by omega)) (nI_pos (by omega)) (by omega) (fun w2 hw2 => ?_)
      refine zw_iconst (-1) 54 f49_53 rfl (by decide +kernel) ?_
      refine zw_ic_ne 57 118 f49_54 (by decide +kernel) rfl (fun hc3 => ?_) (fun hc3 => ?_)
      · refine zw_iinc (nI (k + 1)) _ 121 f49_118 rfl hl1 (by decide +kernel) (nI_1 _) rfl ?_
        refine zw_goto 33 f49_121 (by decide +kernel) ?_
        exact ih ((k + 1)) _ _ _ _ _ K hJ  trivial  (zl1_ne rfl rfl hl0) zl1_eq (by omega) (by omega)
      · refine zw_aload_n 58 f49_57 rfl hl0 ?_
        refine zw_getfield 61 f49_58 rfl g49_28_10 (hb_22 _ _ _ _) rfl ?_
        refine zw_iload_n 62 f49_61 rfl hl1 ?_
        refine zw_aload_n 63 f49_62 rfl hl0 ?_
        refine zw_iload_n 64 f49_63 rfl hl1 ?_
        refine zw_virtual_i 67 0 0 [.ref 22, .int (nI k)] [(0, .ref 22), (1, .int (nI k))] f49_64 rfl n49_67 k49_67_10 rfl (hb_22 _ _ _ _) (by decide +kernel) (Nat.le_of_ble_eq_true rfl) rfl rfl (by decide +kernel) (by decide +kernel) rfl (Nat.le_of_ble_eq_true rfl) rfl ?_
        refine zWp.mono (cp_X10_runs_22 ro nv np I1 _ _ _ hJ (nI k)) ?_
        rintro r h1 ⟨rfl, ⟨w4, rfl, hw4⟩⟩
        refine ⟨_, rfl, ?_⟩
        refine zw_if_eq 70 82 f49_67 (by decide +kernel) rfl (fun hc5 => ?_) (fun hc5 => ?_)
        · refine zw_iconst 0 83 f49_82 rfl (by decide +kernel) ?_
          refine zw_ast k _ 84 f49_83 rfl (hb_30 _ _ _ _) (nI_clamp (by omega)) (nI_pos (by omega)) (by omega) (ha_30 _ _ _ _ _) ?_
          refine zw_aload_n 85 f49_84 rfl hl0 ?_
          refine zw_dup 86 f49_85 rfl rfl ?_
          refine zx_getI 89 f49_86 rfl g49_54_10 (hb_22 _ _ _ _) rfl (fun w6 hw6 => ?_)
          refine zw_aload_n 90 f49_89 rfl hl0 ?_
          refine zw_getfield 93 f49_90 rfl g49_28_10 (hb_22 _ _ _ _) rfl ?_
          refine zw_iload_n 94 f49_93 rfl hl1 ?_
          refine zx_iaload k 95 f49_94 rfl (hb_30 _ _ _ _) (nI_clamp (by omega)) (nI_pos (by omega)) (by omega) (fun w7 hw7 => ?_)
          refine zx_iadd 96 f49_95 rfl (fun w8 hw8 => ?_)
          refine zw_put _ 99 f49_96 rfl g49_54_10 (hb_22 _ _ _ _) rfl (Nat.le_of_ble_eq_true rfl) (by decide +kernel) (hi_22_6 _ _ _ _ _) ?_
          refine zw_aload_n 100 f49_99 rfl hl0 ?_
          refine zw_aload_n 101 f49_100 rfl hl0 ?_
          refine zw_getfield 104 f49_101 rfl g49_37_10 (hb_22 _ _ _ _) rfl ?_
          refine zw_getfield 107 f49_104 rfl g49_73_4 (hb_1 _ _ _ _) rfl ?_
          refine zw_iload_n 108 f49_107 rfl hl1 ?_
          refine zx_iaload k 109 f49_108 rfl (hb_10 _ _ _ _) (nI_clamp (by omega)) (nI_pos (by omega)) (by omega) (fun w9 hw9 => ?_)
          refine zw_aload_n 110 f49_109 rfl hl0 ?_
          refine zw_getfield 113 f49_110 rfl g49_28_10 (hb_22 _ _ _ _) rfl ?_
          refine zw_iload_n 114 f49_113 rfl hl1 ?_
          refine zx_iaload k 115 f49_114 rfl (hb_30 _ _ _ _) (nI_clamp (by omega)) (nI_pos (by omega)) (by omega) (fun w10 hw10 => ?_)
          refine zw_virtual_v 118 0 0 [.ref 22, .int w9, .int w10] [(0, .ref 22), (1, .int w9), (2, .int w10)] f49_115 rfl n49_76 k49_76_10 rfl (hb_22 _ _ _ _) (by decide +kernel) (Nat.le_of_ble_eq_true rfl) rfl rfl (by decide +kernel) (by decide +kernel) rfl (Nat.le_of_ble_eq_true rfl) rfl ?_
          refine zWp.mono (ck_X10_bring_22 ro nv np (upd2 I1 22 6 w8) _ _ _ hJ w9 w10) ?_
          rintro r h1 ⟨I_12, G_12, A_12, B_12, rfl, K_12, hI_12, rfl⟩
          refine ⟨rfl, ?_⟩
          have K_12 := KP.tr (KP.i rfl (KP.a rfl K)) K_12
          refine zw_iinc (nI (k + 1)) _ 121 f49_118 rfl hl1 (by decide +kernel) (nI_1 _) rfl ?_
          refine zw_goto 33 f49_121 (by decide +kernel) ?_
          exact ih ((k + 1)) _ _ _ _ _ K_12 hI_12  trivial  (zl1_ne rfl rfl hl0) zl1_eq (by omega) (by omega)
        · refine zw_aload_n 71 f49_70 rfl hl0 ?_
          refine zw_getfield 74 f49_71 rfl g49_12_10 (hb_22 _ _ _ _) rfl ?_
          refine zw_getfield 77 f49_74 rfl g49_70_9 (hb_23 _ _ _ _) rfl ?_
          refine zw_iload_n 78 f49_77 rfl hl1 ?_
          refine zx_iaload k 79 f49_78 rfl (hb_26 _ _ _ _) (nI_clamp (by omega)) (nI_pos (by omega)) (by omega) (fun w13 hw13 => ?_)
          refine zw_goto 83 f49_79 (by decide +kernel) ?_
          refine zw_ast k _ 84 f49_83 rfl (hb_30 _ _ _ _) (nI_clamp (by omega)) (nI_pos (by omega)) (by omega) (ha_30 _ _ _ _ _) ?_
          refine zw_aload_n 85 f49_84 rfl hl0 ?_
          refine zw_dup 86 f49_85 rfl rfl ?_
          refine zx_getI 89 f49_86 rfl g49_54_10 (hb_22 _ _ _ _) rfl (fun w14 hw14 => ?_)
          refine zw_aload_n 90 f49_89 rfl hl0 ?_
          refine zw_getfield 93 f49_90 rfl g49_28_10 (hb_22 _ _ _ _) rfl ?_
          refine zw_iload_n 94 f49_93 rfl hl1 ?_
          refine zx_iaload k 95 f49_94 rfl (hb_30 _ _ _ _) (nI_clamp (by omega)) (nI_pos (by omega)) (by omega) (fun w15 hw15 => ?_)
          refine zx_iadd 96 f49_95 rfl (fun w16 hw16 => ?_)
          refine zw_put _ 99 f49_96 rfl g49_54_10 (hb_22 _ _ _ _) rfl (Nat.le_of_ble_eq_true rfl) (by decide +kernel) (hi_22_6 _ _ _ _ _) ?_
          refine zw_aload_n 100 f49_99 rfl hl0 ?_
          refine zw_aload_n 101 f49_100 rfl hl0 ?_
          refine zw_getfield 104 f49_101 rfl g49_37_10 (hb_22 _ _ _ _) rfl ?_
          refine zw_getfield 107 f49_104 rfl g49_73_4 (hb_1 _ _ _ _) rfl ?_
          refine zw_iload_n 108 f49_107 rfl hl1 ?_
          refine zx_iaload k 109 f49_108 rfl (hb_10 _ _ _ _) (nI_clamp (by omega)) (nI_pos (by omega)) (by omega) (fun w17 hw17 => ?_)
          refine zw_aload_n 110 f49_109 rfl hl0 ?_
          refine zw_getfield 113 f49_110 rfl g49_28_10 (hb_22 _ _ _ _) rfl ?_
          refine zw_iload_n 114 f49_113 rfl hl1 ?_
          refine zx_iaload k 115 f49_114 rfl (hb_30 _ _ _ _) (nI_clamp (by omega)) (nI_pos (by omega)) (by omega) (fun w18 hw18 => ?_)
          refine zw_virtual_v 118 0 0 [.ref 22, .int w17, .int w18] [(0, .ref 22), (1, .int w17), (2, .int w18)] f49_115 rfl n49_76 k49_76_10 rfl (hb_22 _ _ _ _) (by decide +kernel) (Nat.le_of_ble_eq_true rfl) rfl rfl (by decide +kernel) (by decide +kernel) rfl (Nat.le_of_ble_eq_true rfl) rfl ?_
          refine zWp.mono (ck_X10_bring_22 ro nv np (upd2 I1 22 6 w16) _ _ _ hJ w17 w18) ?_
          rintro r h1 ⟨I_20, G_20, A_20, B_20, rfl, K_20, hI_20, rfl⟩
          refine ⟨rfl, ?_⟩
          have K_20 := KP.tr (KP.i rfl (KP.a rfl K)) K_20
          refine zw_iinc (nI (k + 1)) _ 121 f49_118 rfl hl1 (by decide +kernel) (nI_1 _) rfl ?_
          refine zw_goto 33 f49_121 (by decide +kernel) ?_
          exact ih ((k + 1)) _ _ _ _ _ K_20 hI_20  trivial  (zl1_ne rfl rfl hl0) zl1_eq (by omega) (by omega)
set_option maxRecDepth 100000 in
set_option maxHeartbeats 0 in
theorem lck_X10_reckonRates_22_12 (ro : UInt32 → Nat × (Nat → Int32)) (nv np : Nat) (I : Nat → Nat → Int32) (G : Nat → Nat → Int64) (A : Nat → Nat → Int32) (B : Nat → Nat → Int64) (hI : CI nv np I) : ∀ (n k : Nat) (ls : List (Nat × Value)) (I1 : Nat → Nat → Int32) (G1 : Nat → Nat → Int64) (A1 : Nat → Nat → Int32) (B1 : Nat → Nat → Int64), KP pW I G A B I1 G1 A1 B1 → CI nv np I1 → True → zld ls 0 = some (.ref 22) → zld ls 1 = some (.int (nI k)) → k ≤ 8 → 8 + 1 ≤ k + n → zWp ro 49 12 ls [] (hS I1 G1 A1 B1) 0 0 (zWk pW nv np I G A B zRt0) := by
  have hnv := hI.1.2
  have hnp := hI.2.1.2
  intro n
  induction n with
  | zero =>
    intro k ls I1 G1 A1 B1 K hJ _ hl0 hl1 h1 h2
    exact absurd h2 (by omega)
  | succ n ih =>
    intro k ls I1 G1 A1 B1 K hJ _ hl0 hl1 hk1 hk2
    refine zw_iload_n 13 f49_12 rfl hl1 ?_
    refine zw_bipush 8 15 f49_13 rfl (by decide +kernel) ?_
    refine zw_ic_ge 18 31 f49_15 (by decide +kernel) rfl (fun hc1 => ?_) (fun hc1 => ?_)
    · have hn_hc1 : 8 ≤ k := zn_ge (by omega) (by omega) hc1
      refine zw_iconst 0 32 f49_31 rfl (by decide +kernel) ?_
      refine zw_istore_n _ 33 f49_32 rfl (by decide +kernel) rfl ?_
      exact lck_X10_reckonRates_22_33 ro nv np I G A B hI (np + 1) 0 _ _ _ _ _ K hJ  trivial  (zl1_ne rfl rfl hl0) (show zld _ _ = some (.int (nI 0)) from zl1_eq) (by omega) (by omega)
    · have hn_hc1 : k < 8 := zn_lt (by omega) (by omega) hc1
      refine zw_aload_n 19 f49_18 rfl hl0 ?_
      refine zw_getfield 22 f49_19 rfl g49_18_10 (hb_22 _ _ _ _) rfl ?_
      refine zw_iload_n 23 f49_22 rfl hl1 ?_
      refine zw_iconst 0 24 f49_23 rfl (by decide +kernel) ?_
      refine zw_ast k _ 25 f49_24 rfl (hb_27 _ _ _ _) (nI_clamp (by omega)) (nI_pos (by omega)) (by omega) (ha_27 _ _ _ _ _) ?_
      refine zw_iinc (nI (k + 1)) _ 28 f49_25 rfl hl1 (by decide +kernel) (nI_1 _) rfl ?_
      refine zw_goto 12 f49_28 (by decide +kernel) ?_
      exact ih ((k + 1)) _ _ _ _ _ (KP.a rfl K) hJ  trivial  (zl1_ne rfl rfl hl0) zl1_eq (by omega) (by omega)
set_option maxRecDepth 100000 in
set_option maxHeartbeats 0 in
theorem ck_X10_reckonRates_22 (ro : UInt32 → Nat × (Nat → Int32)) (nv np : Nat) (I : Nat → Nat → Int32) (G : Nat → Nat → Int64) (A : Nat → Nat → Int32) (B : Nat → Nat → Int64) (hI : CI nv np I) : zWp ro 49 0 [(0, .ref 22)] [] (hS I G A B) 0 0 (zWk pW nv np I G A B zRt0) := by
  have hnv := hI.1.2
  have hnp := hI.2.1.2
  refine zw_aload_n 1 f49_0 rfl rfl ?_
  refine zw_iconst 0 2 f49_1 rfl (by decide +kernel) ?_
  refine zw_put _ 5 f49_2 rfl g49_54_10 (hb_22 _ _ _ _) rfl (Nat.le_of_ble_eq_true rfl) (by decide +kernel) (hi_22_6 _ _ _ _ _) ?_
  refine zw_aload_n 6 f49_5 rfl rfl ?_
  refine zw_iconst 0 7 f49_6 rfl (by decide +kernel) ?_
  refine zw_put _ 10 f49_7 rfl g49_58_10 (hb_22 _ _ _ _) rfl (Nat.le_of_ble_eq_true rfl) (by decide +kernel) (hi_22_7 _ _ _ _ _) ?_
  refine zw_iconst 0 11 f49_10 rfl (by decide +kernel) ?_
  refine zw_istore_n _ 12 f49_11 rfl (by decide +kernel) rfl ?_
  exact lck_X10_reckonRates_22_12 ro nv np I G A B hI (8 + 1) 0 _ _ _ _ _ (KP.i rfl (KP.i rfl KP.rf)) hI  trivial  (zl1_ne rfl rfl rfl) (show zld _ _ = some (.int (nI 0)) from zl1_eq) (by omega) (by omega)
set_option maxRecDepth 100000 in
set_option maxHeartbeats 0 in
theorem cp_X10_ownIs_22 (ro : UInt32 → Nat × (Nat → Int32)) (nv np : Nat) (I : Nat → Nat → Int32) (G : Nat → Nat → Int64) (A : Nat → Nat → Int32) (B : Nat → Nat → Int64) (hI : CI nv np I) (a : Nat) (ha : a < 8) (b : Int32) : zWp ro 56 0 [(0, .ref 22), (1, .int (nI a)), (2, .int b)] [] (hS I G A B) 0 0 (fun r h1 => h1 = hS I G A B ∧ zRt2 r) := by
  have hnv := hI.1.2
  have hnp := hI.2.1.2
  refine zw_aload_n 1 f56_0 rfl rfl ?_
  refine zw_getfield 4 f56_1 rfl g56_37_10 (hb_22 _ _ _ _) rfl ?_
  refine zw_iload_n 5 f56_4 rfl rfl ?_
  refine zw_virtual_i 8 0 0 [.ref 1, .int (nI a)] [(0, .ref 1), (1, .int (nI a))] f56_5 rfl n56_145 k56_145_4 rfl (hb_1 _ _ _ _) (by decide +kernel) (Nat.le_of_ble_eq_true rfl) rfl rfl (by decide +kernel) (by decide +kernel) rfl (Nat.le_of_ble_eq_true rfl) rfl ?_
  refine zWp.mono (cp_X4_isFloat ro nv np I _ _ _ hI (nI a)) ?_
  rintro r h1 ⟨rfl, ⟨w1, rfl, hw1⟩⟩
  refine ⟨_, rfl, ?_⟩
  refine zw_if_eq 11 23 f56_8 (by decide +kernel) rfl (fun hc2 => ?_) (fun hc2 => ?_)
  · refine zw_iconst (-1) 24 f56_23 rfl (by decide +kernel) ?_
    refine zw_istore_n _ 25 f56_24 rfl (by decide +kernel) rfl ?_
    refine zw_iload_n 26 f56_25 rfl zl1_eq ?_
    refine zw_iconst (-1) 27 f56_26 rfl (by decide +kernel) ?_
    refine zw_ic_eq_t 46 f56_27 (by decide +kernel) (by decide +kernel) ?_
    refine zw_iconst 0 47 f56_46 rfl (by decide +kernel) ?_
    refine zw_zreturn f56_47 r56 u56 (by decide +kernel) ?_
    exact ⟨rfl, ⟨_, rfl, (by decide +kernel)⟩⟩
  · refine zw_aload_n 12 f56_11 rfl rfl ?_
    refine zw_getfield 15 f56_12 rfl g56_37_10 (hb_22 _ _ _ _) rfl ?_
    refine zw_getfield 18 f56_15 rfl g56_148_4 (hb_1 _ _ _ _) rfl ?_
    refine zw_iload_n 19 f56_18 rfl rfl ?_
    refine zx_iaload a 20 f56_19 rfl (hb_6 _ _ _ _) (nI_clamp (by omega)) (nI_pos (by omega)) (by omega) (fun w3 hw3 => ?_)
    refine zw_goto 24 f56_20 (by decide +kernel) ?_
    refine zw_istore_n _ 25 f56_24 rfl (by decide +kernel) rfl ?_
    refine zw_iload_n 26 f56_25 rfl zl1_eq ?_
    refine zw_iconst (-1) 27 f56_26 rfl (by decide +kernel) ?_
    refine zw_ic_eq 30 46 f56_27 (by decide +kernel) rfl (fun hc4 => ?_) (fun hc4 => ?_)
    · refine zw_iconst 0 47 f56_46 rfl (by decide +kernel) ?_
      refine zw_zreturn f56_47 r56 u56 (by decide +kernel) ?_
      exact ⟨rfl, ⟨_, rfl, (by decide +kernel)⟩⟩
    · refine zw_aload_n 31 f56_30 rfl (zl1_ne rfl rfl rfl) ?_
      refine zw_getfield 34 f56_31 rfl g56_12_10 (hb_22 _ _ _ _) rfl ?_
      refine zw_iload_n 35 f56_34 rfl zl1_eq ?_
      refine zw_virtual_i 38 0 0 [.ref 23, .int w3] [(0, .ref 23), (1, .int w3)] f56_35 rfl n56_47 k56_47_9 rfl (hb_23 _ _ _ _) (by decide +kernel) (Nat.le_of_ble_eq_true rfl) rfl rfl (by decide +kernel) (by decide +kernel) rfl (Nat.le_of_ble_eq_true rfl) rfl ?_
      refine zWp.mono (cp_X9_isOpen_23 ro nv np I _ _ _ hI w3) ?_
      rintro r h1 ⟨rfl, ⟨w5, rfl, hw5⟩⟩
      refine ⟨_, rfl, ?_⟩
      refine zw_iload_n 39 f56_38 rfl (zl1_ne rfl rfl rfl) ?_
      refine zw_ic_ne 42 46 f56_39 (by decide +kernel) rfl (fun hc6 => ?_) (fun hc6 => ?_)
      · refine zw_iconst 0 47 f56_46 rfl (by decide +kernel) ?_
        refine zw_zreturn f56_47 r56 u56 (by decide +kernel) ?_
        exact ⟨rfl, ⟨_, rfl, (by decide +kernel)⟩⟩
      · refine zw_iconst 1 43 f56_42 rfl (by decide +kernel) ?_
        refine zw_goto 47 f56_43 (by decide +kernel) ?_
        refine zw_zreturn f56_47 r56 u56 (by decide +kernel) ?_
        exact ⟨rfl, ⟨_, rfl, (by decide +kernel)⟩⟩
set_option maxRecDepth 100000 in
set_option maxHeartbeats 0 in
theorem ck_X10_offer_22 (ro : UInt32 → Nat × (Nat → Int32)) (nv np : Nat) (I : Nat → Nat → Int32) (G : Nat → Nat → Int64) (A : Nat → Nat → Int32) (B : Nat → Nat → Int64) (hI : CI nv np I) (a : Int64) (b : Int64) : zWp ro 57 0 [(0, .ref 22), (1, .long a), (3, .long b)] [] (hS I G A B) 0 0 (zWk pW nv np I G A B zRt0) := by
  have hnv := hI.1.2
  have hnp := hI.2.1.2
  refine zw_lload_n 1 f57_0 rfl rfl ?_
  refine zw_lconst 0 2 f57_1 rfl (by decide +kernel) ?_
  refine zx_lcmp 3 f57_2 rfl (fun w1 hw1 => ?_)
  refine zw_if_le 6 41 f57_3 (by decide +kernel) rfl (fun hc2 => ?_) (fun hc2 => ?_)
  · refine zw_vreturn f57_41 r57 u57 ?_
    exact ⟨_, _, _, _, rfl, KP.rf, hI, rfl⟩
  · refine zw_aload_n 7 f57_6 rfl rfl ?_
    refine zx_getG 10 f57_7 rfl g57_119_10 (hb_22 _ _ _ _) rfl (fun w3 hw3 => ?_)
    refine zw_lconst 0 11 f57_10 rfl (by decide +kernel) ?_
    refine zx_lcmp 12 f57_11 rfl (fun w4 hw4 => ?_)
    refine zw_if_eq 15 31 f57_12 (by decide +kernel) rfl (fun hc5 => ?_) (fun hc5 => ?_)
    · refine zw_aload_n 32 f57_31 rfl rfl ?_
      refine zw_lload_n 33 f57_32 rfl rfl ?_
      refine zw_put _ 36 f57_33 rfl g57_116_10 (hb_22 _ _ _ _) rfl (Nat.le_of_ble_eq_true rfl) (by decide +kernel) (hg_22_8 _ _ _ _ _) ?_
      refine zw_aload_n 37 f57_36 rfl rfl ?_
      refine zw_lload_n 38 f57_37 rfl rfl ?_
      refine zw_put _ 41 f57_38 rfl g57_119_10 (hb_22 _ _ _ _) rfl (Nat.le_of_ble_eq_true rfl) (by decide +kernel) (hg_22_9 _ _ _ _ _) ?_
      refine zw_vreturn f57_41 r57 u57 ?_
      exact ⟨_, _, _, _, rfl, (KP.g rfl (KP.g rfl KP.rf)), hI, rfl⟩
    · refine zw_lload_n 16 f57_15 rfl rfl ?_
      refine zw_aload_n 17 f57_16 rfl rfl ?_
      refine zw_getG w3 20 f57_17 rfl g57_119_10 (hb_22 _ _ _ _) rfl hw3 ?_
      refine zx_lmul 21 f57_20 rfl (fun w6 hw6 => ?_)
      refine zw_aload_n 22 f57_21 rfl rfl ?_
      refine zx_getG 25 f57_22 rfl g57_116_10 (hb_22 _ _ _ _) rfl (fun w7 hw7 => ?_)
      refine zw_lload_n 26 f57_25 rfl rfl ?_
      refine zx_lmul 27 f57_26 rfl (fun w8 hw8 => ?_)
      refine zx_lcmp 28 f57_27 rfl (fun w9 hw9 => ?_)
      refine zw_if_ge 31 41 f57_28 (by decide +kernel) rfl (fun hc10 => ?_) (fun hc10 => ?_)
      · refine zw_vreturn f57_41 r57 u57 ?_
        exact ⟨_, _, _, _, rfl, KP.rf, hI, rfl⟩
      · refine zw_aload_n 32 f57_31 rfl rfl ?_
        refine zw_lload_n 33 f57_32 rfl rfl ?_
        refine zw_put _ 36 f57_33 rfl g57_116_10 (hb_22 _ _ _ _) rfl (Nat.le_of_ble_eq_true rfl) (by decide +kernel) (hg_22_8 _ _ _ _ _) ?_
        refine zw_aload_n 37 f57_36 rfl rfl ?_
        refine zw_lload_n 38 f57_37 rfl rfl ?_
        refine zw_put _ 41 f57_38 rfl g57_119_10 (hb_22 _ _ _ _) rfl (Nat.le_of_ble_eq_true rfl) (by decide +kernel) (hg_22_9 _ _ _ _ _) ?_
        refine zw_vreturn f57_41 r57 u57 ?_
        exact ⟨_, _, _, _, rfl, (KP.g rfl (KP.g rfl KP.rf)), hI, rfl⟩
set_option maxRecDepth 100000 in
set_option maxHeartbeats 0 in
theorem ck_X10_seekRise_22 (ro : UInt32 → Nat × (Nat → Int32)) (nv np : Nat) (I : Nat → Nat → Int32) (G : Nat → Nat → Int64) (A : Nat → Nat → Int32) (B : Nat → Nat → Int64) (hI : CI nv np I) (a : Nat) (ha : a < 8) : zWp ro 54 0 [(0, .ref 22), (1, .int (nI a))] [] (hS I G A B) 0 0 (zWk pW nv np I G A B zRt0) := by
  have hnv := hI.1.2
  have hnp := hI.2.1.2
  refine zw_aload_n 1 f54_0 rfl rfl ?_
  refine zw_aload_n 2 f54_1 rfl rfl ?_
  refine zw_getfield 5 f54_2 rfl g54_37_10 (hb_22 _ _ _ _) rfl ?_
  refine zw_getfield 8 f54_5 rfl g54_106_4 (hb_1 _ _ _ _) rfl ?_
  refine zw_iload_n 9 f54_8 rfl rfl ?_
  refine zx_iaload a 10 f54_9 rfl (hb_3 _ _ _ _) (nI_clamp (by omega)) (nI_pos (by omega)) (by omega) (fun w1 hw1 => ?_)
  refine zx_i2l 11 f54_10 rfl (fun w2 hw2 => ?_)
  refine zw_aload_n 12 f54_11 rfl rfl ?_
  refine zw_getfield 15 f54_12 rfl g54_12_10 (hb_22 _ _ _ _) rfl ?_
  refine zx_getG 18 f54_15 rfl g54_109_9 (hb_23 _ _ _ _) rfl (fun w3 hw3 => ?_)
  refine zx_lmul 19 f54_18 rfl (fun w4 hw4 => ?_)
  refine zw_aload_n 20 f54_19 rfl rfl ?_
  refine zw_getfield 23 f54_20 rfl g54_12_10 (hb_22 _ _ _ _) rfl ?_
  refine zw_getfield 26 f54_23 rfl g54_87_9 (hb_23 _ _ _ _) rfl ?_
  refine zw_iload_n 27 f54_26 rfl rfl ?_
  refine zx_laload a 28 f54_27 rfl (hb_24 _ _ _ _) (nI_clamp (by omega)) (nI_pos (by omega)) (by omega) (fun w5 hw5 => ?_)
  refine zx_lsub 29 f54_28 rfl (fun w6 hw6 => ?_)
  refine zw_aload_n 30 f54_29 rfl rfl ?_
  refine zw_getfield 33 f54_30 rfl g54_22_10 (hb_22 _ _ _ _) rfl ?_
  refine zw_iload_n 34 f54_33 rfl rfl ?_
  refine zx_iaload a 35 f54_34 rfl (hb_28 _ _ _ _) (nI_clamp (by omega)) (nI_pos (by omega)) (by omega) (fun w7 hw7 => ?_)
  refine zx_i2l 36 f54_35 rfl (fun w8 hw8 => ?_)
  refine zw_virtual_v 39 0 0 [.ref 22, .long w6, .long w8] [(0, .ref 22), (1, .long w6), (3, .long w8)] f54_36 rfl n54_128 k54_128_10 rfl (hb_22 _ _ _ _) (by decide +kernel) (Nat.le_of_ble_eq_true rfl) rfl rfl (by decide +kernel) (by decide +kernel) rfl (Nat.le_of_ble_eq_true rfl) rfl ?_
  refine zWp.mono (ck_X10_offer_22 ro nv np I _ _ _ hI w6 w8) ?_
  rintro r h1 ⟨I_10, G_10, A_10, B_10, rfl, K_10, hI_10, rfl⟩
  refine ⟨rfl, ?_⟩
  have K_10 := KP.tr KP.rf K_10
  refine zw_aload_n 40 f54_39 rfl rfl ?_
  refine zw_getfield 43 f54_40 rfl g54_37_10 (hb_22 _ _ _ _) rfl ?_
  refine zw_iload_n 44 f54_43 rfl rfl ?_
  refine zw_virtual_i 47 0 0 [.ref 1, .int (nI a)] [(0, .ref 1), (1, .int (nI a))] f54_44 rfl n54_132 k54_132_4 rfl (hb_1 _ _ _ _) (by decide +kernel) (Nat.le_of_ble_eq_true rfl) rfl rfl (by decide +kernel) (by decide +kernel) rfl (Nat.le_of_ble_eq_true rfl) rfl ?_
  refine zWp.mono (cp_X4_kindOf ro nv np I_10 _ _ _ hI_10 (nI a)) ?_
  rintro r h1 ⟨rfl, ⟨w11, rfl⟩⟩
  refine ⟨_, rfl, ?_⟩
  refine zw_iconst 1 48 f54_47 rfl (by decide +kernel) ?_
  refine zw_ic_ne 51 70 f54_48 (by decide +kernel) rfl (fun hc12 => ?_) (fun hc12 => ?_)
  · refine zw_aload_n 71 f54_70 rfl rfl ?_
    refine zw_iload_n 72 f54_71 rfl rfl ?_
    refine zw_iconst 1 73 f54_72 rfl (by decide +kernel) ?_
    refine zw_virtual_i 76 0 0 [.ref 22, .int (nI a), .int 1] [(0, .ref 22), (1, .int (nI a)), (2, .int 1)] f54_73 rfl n54_135 k54_135_10 rfl (hb_22 _ _ _ _) (by decide +kernel) (Nat.le_of_ble_eq_true rfl) rfl rfl (by decide +kernel) (by decide +kernel) rfl (Nat.le_of_ble_eq_true rfl) rfl ?_
    refine zWp.mono (cp_X10_ownIs_22 ro nv np I_10 _ _ _ hI_10 a (by omega) 1) ?_
    rintro r h1 ⟨rfl, ⟨w13, rfl, hw13⟩⟩
    refine ⟨_, rfl, ?_⟩
    refine zw_istore_n _ 77 f54_76 rfl (by decide +kernel) rfl ?_
    refine zw_iload_n 78 f54_77 rfl zl1_eq ?_
    refine zw_if_eq 81 120 f54_78 (by decide +kernel) rfl (fun hc14 => ?_) (fun hc14 => ?_)
    · refine zw_vreturn f54_120 r54 u54 ?_
      exact ⟨_, _, _, _, rfl, K_10, hI_10, rfl⟩
    · refine zw_aload_n 82 f54_81 rfl (zl1_ne rfl rfl rfl) ?_
      refine zw_aload_n 83 f54_82 rfl (zl1_ne rfl rfl rfl) ?_
      refine zw_getfield 86 f54_83 rfl g54_37_10 (hb_22 _ _ _ _) rfl ?_
      refine zw_getfield 89 f54_86 rfl g54_139_4 (hb_1 _ _ _ _) rfl ?_
      refine zw_iload_n 90 f54_89 rfl (zl1_ne rfl rfl rfl) ?_
      refine zx_iaload a 91 f54_90 rfl (hb_4 _ _ _ _) (nI_clamp (by omega)) (nI_pos (by omega)) (by omega) (fun w15 hw15 => ?_)
      refine zx_i2l 92 f54_91 rfl (fun w16 hw16 => ?_)
      refine zw_aload_n 93 f54_92 rfl (zl1_ne rfl rfl rfl) ?_
      refine zw_getfield 96 f54_93 rfl g54_12_10 (hb_22 _ _ _ _) rfl ?_
      refine zx_getG 99 f54_96 rfl g54_109_9 (hb_23 _ _ _ _) rfl (fun w17 hw17 => ?_)
      refine zx_lmul 100 f54_99 rfl (fun w18 hw18 => ?_)
      refine zw_aload_n 101 f54_100 rfl (zl1_ne rfl rfl rfl) ?_
      refine zw_getfield 104 f54_101 rfl g54_12_10 (hb_22 _ _ _ _) rfl ?_
      refine zw_getfield 107 f54_104 rfl g54_87_9 (hb_23 _ _ _ _) rfl ?_
      refine zw_iload_n 108 f54_107 rfl (zl1_ne rfl rfl rfl) ?_
      refine zx_laload a 109 f54_108 rfl (hb_24 _ _ _ _) (nI_clamp (by omega)) (nI_pos (by omega)) (by omega) (fun w19 hw19 => ?_)
      refine zx_lsub 110 f54_109 rfl (fun w20 hw20 => ?_)
      refine zw_aload_n 111 f54_110 rfl (zl1_ne rfl rfl rfl) ?_
      refine zw_getfield 114 f54_111 rfl g54_22_10 (hb_22 _ _ _ _) rfl ?_
      refine zw_iload_n 115 f54_114 rfl (zl1_ne rfl rfl rfl) ?_
      refine zx_iaload a 116 f54_115 rfl (hb_28 _ _ _ _) (nI_clamp (by omega)) (nI_pos (by omega)) (by omega) (fun w21 hw21 => ?_)
      refine zx_i2l 117 f54_116 rfl (fun w22 hw22 => ?_)
      refine zw_virtual_v 120 0 0 [.ref 22, .long w20, .long w22] [(0, .ref 22), (1, .long w20), (3, .long w22)] f54_117 rfl n54_128 k54_128_10 rfl (hb_22 _ _ _ _) (by decide +kernel) (Nat.le_of_ble_eq_true rfl) rfl rfl (by decide +kernel) (by decide +kernel) rfl (Nat.le_of_ble_eq_true rfl) rfl ?_
      refine zWp.mono (ck_X10_offer_22 ro nv np I_10 _ _ _ hI_10 w20 w22) ?_
      rintro r h1 ⟨I_24, G_24, A_24, B_24, rfl, K_24, hI_24, rfl⟩
      refine ⟨rfl, ?_⟩
      have K_24 := KP.tr K_10 K_24
      refine zw_vreturn f54_120 r54 u54 ?_
      exact ⟨_, _, _, _, rfl, K_24, hI_24, rfl⟩
  · refine zw_aload_n 52 f54_51 rfl rfl ?_
    refine zw_getfield 55 f54_52 rfl g54_12_10 (hb_22 _ _ _ _) rfl ?_
    refine zw_iload_n 56 f54_55 rfl rfl ?_
    refine zw_virtual_i 59 0 0 [.ref 23, .int (nI a)] [(0, .ref 23), (1, .int (nI a))] f54_56 rfl n54_51 k54_51_9 rfl (hb_23 _ _ _ _) (by decide +kernel) (Nat.le_of_ble_eq_true rfl) rfl rfl (by decide +kernel) (by decide +kernel) rfl (Nat.le_of_ble_eq_true rfl) rfl ?_
    refine zWp.mono (cp_X9_isSiphoning_23 ro nv np I_10 _ _ _ hI_10 (nI a)) ?_
    rintro r h1 ⟨rfl, ⟨w25, rfl, hw25⟩⟩
    refine ⟨_, rfl, ?_⟩
    refine zw_if_ne 62 66 f54_59 (by decide +kernel) rfl (fun hc26 => ?_) (fun hc26 => ?_)
    · refine zw_iconst 0 67 f54_66 rfl (by decide +kernel) ?_
      refine zw_goto 76 f54_67 (by decide +kernel) ?_
      refine zw_istore_n _ 77 f54_76 rfl (by decide +kernel) rfl ?_
      refine zw_iload_n 78 f54_77 rfl zl1_eq ?_
      refine zw_if_eq_t 120 f54_78 (by decide +kernel) (by decide +kernel) ?_
      refine zw_vreturn f54_120 r54 u54 ?_
      exact ⟨_, _, _, _, rfl, K_10, hI_10, rfl⟩
    · refine zw_iconst 1 63 f54_62 rfl (by decide +kernel) ?_
      refine zw_goto 76 f54_63 (by decide +kernel) ?_
      refine zw_istore_n _ 77 f54_76 rfl (by decide +kernel) rfl ?_
      refine zw_iload_n 78 f54_77 rfl zl1_eq ?_
      refine zw_if_eq_f 81 120 f54_78 (by decide +kernel) rfl (by decide +kernel) ?_
      refine zw_aload_n 82 f54_81 rfl (zl1_ne rfl rfl rfl) ?_
      refine zw_aload_n 83 f54_82 rfl (zl1_ne rfl rfl rfl) ?_
      refine zw_getfield 86 f54_83 rfl g54_37_10 (hb_22 _ _ _ _) rfl ?_
      refine zw_getfield 89 f54_86 rfl g54_139_4 (hb_1 _ _ _ _) rfl ?_
      refine zw_iload_n 90 f54_89 rfl (zl1_ne rfl rfl rfl) ?_
      refine zx_iaload a 91 f54_90 rfl (hb_4 _ _ _ _) (nI_clamp (by omega)) (nI_pos (by omega)) (by omega) (fun w27 hw27 => ?_)
      refine zx_i2l 92 f54_91 rfl (fun w28 hw28 => ?_)
      refine zw_aload_n 93 f54_92 rfl (zl1_ne rfl rfl rfl) ?_
      refine zw_getfield 96 f54_93 rfl g54_12_10 (hb_22 _ _ _ _) rfl ?_
      refine zx_getG 99 f54_96 rfl g54_109_9 (hb_23 _ _ _ _) rfl (fun w29 hw29 => ?_)
      refine zx_lmul 100 f54_99 rfl (fun w30 hw30 => ?_)
      refine zw_aload_n 101 f54_100 rfl (zl1_ne rfl rfl rfl) ?_
      refine zw_getfield 104 f54_101 rfl g54_12_10 (hb_22 _ _ _ _) rfl ?_
      refine zw_getfield 107 f54_104 rfl g54_87_9 (hb_23 _ _ _ _) rfl ?_
      refine zw_iload_n 108 f54_107 rfl (zl1_ne rfl rfl rfl) ?_
      refine zx_laload a 109 f54_108 rfl (hb_24 _ _ _ _) (nI_clamp (by omega)) (nI_pos (by omega)) (by omega) (fun w31 hw31 => ?_)
      refine zx_lsub 110 f54_109 rfl (fun w32 hw32 => ?_)
      refine zw_aload_n 111 f54_110 rfl (zl1_ne rfl rfl rfl) ?_
      refine zw_getfield 114 f54_111 rfl g54_22_10 (hb_22 _ _ _ _) rfl ?_
      refine zw_iload_n 115 f54_114 rfl (zl1_ne rfl rfl rfl) ?_
      refine zx_iaload a 116 f54_115 rfl (hb_28 _ _ _ _) (nI_clamp (by omega)) (nI_pos (by omega)) (by omega) (fun w33 hw33 => ?_)
      refine zx_i2l 117 f54_116 rfl (fun w34 hw34 => ?_)
      refine zw_virtual_v 120 0 0 [.ref 22, .long w32, .long w34] [(0, .ref 22), (1, .long w32), (3, .long w34)] f54_117 rfl n54_128 k54_128_10 rfl (hb_22 _ _ _ _) (by decide +kernel) (Nat.le_of_ble_eq_true rfl) rfl rfl (by decide +kernel) (by decide +kernel) rfl (Nat.le_of_ble_eq_true rfl) rfl ?_
      refine zWp.mono (ck_X10_offer_22 ro nv np I_10 _ _ _ hI_10 w32 w34) ?_
      rintro r h1 ⟨I_36, G_36, A_36, B_36, rfl, K_36, hI_36, rfl⟩
      refine ⟨rfl, ?_⟩
      have K_36 := KP.tr K_10 K_36
      refine zw_vreturn f54_120 r54 u54 ?_
      exact ⟨_, _, _, _, rfl, K_36, hI_36, rfl⟩
set_option maxRecDepth 100000 in
set_option maxHeartbeats 0 in
theorem ck_X10_seekFall_22 (ro : UInt32 → Nat × (Nat → Int32)) (nv np : Nat) (I : Nat → Nat → Int32) (G : Nat → Nat → Int64) (A : Nat → Nat → Int32) (B : Nat → Nat → Int64) (hI : CI nv np I) (a : Nat) (ha : a < 8) : zWp ro 55 0 [(0, .ref 22), (1, .int (nI a))] [] (hS I G A B) 0 0 (zWk pW nv np I G A B zRt0) := by
  have hnv := hI.1.2
  have hnp := hI.2.1.2
  refine zw_aload_n 1 f55_0 rfl rfl ?_
  refine zw_aload_n 2 f55_1 rfl rfl ?_
  refine zw_getfield 5 f55_2 rfl g55_12_10 (hb_22 _ _ _ _) rfl ?_
  refine zw_getfield 8 f55_5 rfl g55_87_9 (hb_23 _ _ _ _) rfl ?_
  refine zw_iload_n 9 f55_8 rfl rfl ?_
  refine zx_laload a 10 f55_9 rfl (hb_24 _ _ _ _) (nI_clamp (by omega)) (nI_pos (by omega)) (by omega) (fun w1 hw1 => ?_)
  refine zw_aload_n 11 f55_10 rfl rfl ?_
  refine zw_getfield 14 f55_11 rfl g55_22_10 (hb_22 _ _ _ _) rfl ?_
  refine zw_iload_n 15 f55_14 rfl rfl ?_
  refine zx_iaload a 16 f55_15 rfl (hb_28 _ _ _ _) (nI_clamp (by omega)) (nI_pos (by omega)) (by omega) (fun w2 hw2 => ?_)
  refine zx_ineg 17 f55_16 rfl (fun w3 hw3 => ?_)
  refine zx_i2l 18 f55_17 rfl (fun w4 hw4 => ?_)
  refine zw_virtual_v 21 0 0 [.ref 22, .long w1, .long w4] [(0, .ref 22), (1, .long w1), (3, .long w4)] f55_18 rfl n55_128 k55_128_10 rfl (hb_22 _ _ _ _) (by decide +kernel) (Nat.le_of_ble_eq_true rfl) rfl rfl (by decide +kernel) (by decide +kernel) rfl (Nat.le_of_ble_eq_true rfl) rfl ?_
  refine zWp.mono (ck_X10_offer_22 ro nv np I _ _ _ hI w1 w4) ?_
  rintro r h1 ⟨I_6, G_6, A_6, B_6, rfl, K_6, hI_6, rfl⟩
  refine ⟨rfl, ?_⟩
  have K_6 := KP.tr KP.rf K_6
  refine zw_aload_n 22 f55_21 rfl rfl ?_
  refine zw_iload_n 23 f55_22 rfl rfl ?_
  refine zw_iconst 0 24 f55_23 rfl (by decide +kernel) ?_
  refine zw_virtual_i 27 0 0 [.ref 22, .int (nI a), .int 0] [(0, .ref 22), (1, .int (nI a)), (2, .int 0)] f55_24 rfl n55_135 k55_135_10 rfl (hb_22 _ _ _ _) (by decide +kernel) (Nat.le_of_ble_eq_true rfl) rfl rfl (by decide +kernel) (by decide +kernel) rfl (Nat.le_of_ble_eq_true rfl) rfl ?_
  refine zWp.mono (cp_X10_ownIs_22 ro nv np I_6 _ _ _ hI_6 a (by omega) 0) ?_
  rintro r h1 ⟨rfl, ⟨w7, rfl, hw7⟩⟩
  refine ⟨_, rfl, ?_⟩
  refine zw_if_eq 30 70 f55_27 (by decide +kernel) rfl (fun hc8 => ?_) (fun hc8 => ?_)
  · refine zw_vreturn f55_70 r55 u55 ?_
    exact ⟨_, _, _, _, rfl, K_6, hI_6, rfl⟩
  · refine zw_aload_n 31 f55_30 rfl rfl ?_
    refine zw_aload_n 32 f55_31 rfl rfl ?_
    refine zw_getfield 35 f55_32 rfl g55_12_10 (hb_22 _ _ _ _) rfl ?_
    refine zw_getfield 38 f55_35 rfl g55_87_9 (hb_23 _ _ _ _) rfl ?_
    refine zw_iload_n 39 f55_38 rfl rfl ?_
    refine zx_laload a 40 f55_39 rfl (hb_24 _ _ _ _) (nI_clamp (by omega)) (nI_pos (by omega)) (by omega) (fun w9 hw9 => ?_)
    refine zw_aload_n 41 f55_40 rfl rfl ?_
    refine zw_getfield 44 f55_41 rfl g55_37_10 (hb_22 _ _ _ _) rfl ?_
    refine zw_getfield 47 f55_44 rfl g55_142_4 (hb_1 _ _ _ _) rfl ?_
    refine zw_iload_n 48 f55_47 rfl rfl ?_
    refine zx_iaload a 49 f55_48 rfl (hb_5 _ _ _ _) (nI_clamp (by omega)) (nI_pos (by omega)) (by omega) (fun w10 hw10 => ?_)
    refine zx_i2l 50 f55_49 rfl (fun w11 hw11 => ?_)
    refine zw_aload_n 51 f55_50 rfl rfl ?_
    refine zw_getfield 54 f55_51 rfl g55_12_10 (hb_22 _ _ _ _) rfl ?_
    refine zx_getG 57 f55_54 rfl g55_109_9 (hb_23 _ _ _ _) rfl (fun w12 hw12 => ?_)
    refine zx_lmul 58 f55_57 rfl (fun w13 hw13 => ?_)
    refine zx_lsub 59 f55_58 rfl (fun w14 hw14 => ?_)
    refine zw_aload_n 60 f55_59 rfl rfl ?_
    refine zw_getfield 63 f55_60 rfl g55_22_10 (hb_22 _ _ _ _) rfl ?_
    refine zw_iload_n 64 f55_63 rfl rfl ?_
    refine zx_iaload a 65 f55_64 rfl (hb_28 _ _ _ _) (nI_clamp (by omega)) (nI_pos (by omega)) (by omega) (fun w15 hw15 => ?_)
    refine zx_ineg 66 f55_65 rfl (fun w16 hw16 => ?_)
    refine zx_i2l 67 f55_66 rfl (fun w17 hw17 => ?_)
    refine zw_virtual_v 70 0 0 [.ref 22, .long w14, .long w17] [(0, .ref 22), (1, .long w14), (3, .long w17)] f55_67 rfl n55_128 k55_128_10 rfl (hb_22 _ _ _ _) (by decide +kernel) (Nat.le_of_ble_eq_true rfl) rfl rfl (by decide +kernel) (by decide +kernel) rfl (Nat.le_of_ble_eq_true rfl) rfl ?_
    refine zWp.mono (ck_X10_offer_22 ro nv np I_6 _ _ _ hI_6 w14 w17) ?_
    rintro r h1 ⟨I_19, G_19, A_19, B_19, rfl, K_19, hI_19, rfl⟩
    refine ⟨rfl, ?_⟩
    have K_19 := KP.tr K_6 K_19
    refine zw_vreturn f55_70 r55 u55 ?_
    exact ⟨_, _, _, _, rfl, K_19, hI_19, rfl⟩
set_option maxRecDepth 100000 in
set_option maxHeartbeats 0 in
theorem lck_X10_seekNext_22_16 (ro : UInt32 → Nat × (Nat → Int32)) (nv np : Nat) (I : Nat → Nat → Int32) (G : Nat → Nat → Int64) (A : Nat → Nat → Int32) (B : Nat → Nat → Int64) (hI : CI nv np I) : ∀ (n k : Nat) (ls : List (Nat × Value)) (I1 : Nat → Nat → Int32) (G1 : Nat → Nat → Int64) (A1 : Nat → Nat → Int32) (B1 : Nat → Nat → Int64), KP pW I G A B I1 G1 A1 B1 → CI nv np I1 → True → zld ls 0 = some (.ref 22) → zld ls 1 = some (.int (nI k)) → k ≤ nv → nv + 1 ≤ k + n → zWp ro 53 16 ls [] (hS I1 G1 A1 B1) 0 0 (zWk pW nv np I G A B zRt0) := by
  have hnv := hI.1.2
  have hnp := hI.2.1.2
  intro n
  induction n with
  | zero =>
    intro k ls I1 G1 A1 B1 K hJ _ hl0 hl1 h1 h2
    exact absurd h2 (by omega)
  | succ n ih =>
    intro k ls I1 G1 A1 B1 K hJ _ hl0 hl1 hk1 hk2
    refine zw_iload_n 17 f53_16 rfl hl1 ?_
    refine zw_aload_n 18 f53_17 rfl hl0 ?_
    refine zw_getfield 21 f53_18 rfl g53_37_10 (hb_22 _ _ _ _) rfl ?_
    refine zw_getI (nI nv) 24 f53_21 rfl g53_80_4 (hb_1 _ _ _ _) rfl hJ.1.1 ?_
    refine zw_ic_ge 27 64 f53_24 (by decide +kernel) rfl (fun hc1 => ?_) (fun hc1 => ?_)
    · have hn_hc1 : nv ≤ k := zn_ge (by omega) (by omega) hc1
      refine zw_vreturn f53_64 r53 u53 ?_
      exact ⟨_, _, _, _, rfl, K, hJ, rfl⟩
    · have hn_hc1 : k < nv := zn_lt (by omega) (by omega) hc1
      refine zw_aload_n 28 f53_27 rfl hl0 ?_
      refine zw_getfield 31 f53_28 rfl g53_22_10 (hb_22 _ _ _ _) rfl ?_
      refine zw_iload_n 32 f53_31 rfl hl1 ?_
      refine zx_iaload k 33 f53_32 rfl (hb_28 _ _ _ _) (nI_clamp (by omega)) (nI_pos (by omega)) (by omega) (fun w2 hw2 => ?_)
      refine zw_if_le 36 44 f53_33 (by decide +kernel) rfl (fun hc3 => ?_) (fun hc3 => ?_)
      · refine zw_aload_n 45 f53_44 rfl hl0 ?_
        refine zw_getfield 48 f53_45 rfl g53_22_10 (hb_22 _ _ _ _) rfl ?_
        refine zw_iload_n 49 f53_48 rfl hl1 ?_
        refine zx_iaload k 50 f53_49 rfl (hb_28 _ _ _ _) (nI_clamp (by omega)) (nI_pos (by omega)) (by omega) (fun w4 hw4 => ?_)
        refine zw_if_ge 53 58 f53_50 (by decide +kernel) rfl (fun hc5 => ?_) (fun hc5 => ?_)
        · refine zw_iinc (nI (k + 1)) _ 61 f53_58 rfl hl1 (by decide +kernel) (nI_1 _) rfl ?_
          refine zw_goto 16 f53_61 (by decide +kernel) ?_
          exact ih ((k + 1)) _ _ _ _ _ K hJ  trivial  (zl1_ne rfl rfl hl0) zl1_eq (by omega) (by omega)
        · refine zw_aload_n 54 f53_53 rfl hl0 ?_
          refine zw_iload_n 55 f53_54 rfl hl1 ?_
          refine zw_virtual_v 58 0 0 [.ref 22, .int (nI k)] [(0, .ref 22), (1, .int (nI k))] f53_55 rfl n53_125 k53_125_10 rfl (hb_22 _ _ _ _) (by decide +kernel) (Nat.le_of_ble_eq_true rfl) rfl rfl (by decide +kernel) (by decide +kernel) rfl (Nat.le_of_ble_eq_true rfl) rfl ?_
          refine zWp.mono (ck_X10_seekFall_22 ro nv np I1 _ _ _ hJ k (by omega)) ?_
          rintro r h1 ⟨I_7, G_7, A_7, B_7, rfl, K_7, hI_7, rfl⟩
          refine ⟨rfl, ?_⟩
          have K_7 := KP.tr K K_7
          refine zw_iinc (nI (k + 1)) _ 61 f53_58 rfl hl1 (by decide +kernel) (nI_1 _) rfl ?_
          refine zw_goto 16 f53_61 (by decide +kernel) ?_
          exact ih ((k + 1)) _ _ _ _ _ K_7 hI_7  trivial  (zl1_ne rfl rfl hl0) zl1_eq (by omega) (by omega)
      · refine zw_aload_n 37 f53_36 rfl hl0 ?_
        refine zw_iload_n 38 f53_37 rfl hl1 ?_
        refine zw_virtual_v 41 0 0 [.ref 22, .int (nI k)] [(0, .ref 22), (1, .int (nI k))] f53_38 rfl n53_122 k53_122_10 rfl (hb_22 _ _ _ _) (by decide +kernel) (Nat.le_of_ble_eq_true rfl) rfl rfl (by decide +kernel) (by decide +kernel) rfl (Nat.le_of_ble_eq_true rfl) rfl ?_
        refine zWp.mono (ck_X10_seekRise_22 ro nv np I1 _ _ _ hJ k (by omega)) ?_
        rintro r h1 ⟨I_9, G_9, A_9, B_9, rfl, K_9, hI_9, rfl⟩
        refine ⟨rfl, ?_⟩
        have K_9 := KP.tr K K_9
        refine zw_goto 58 f53_41 (by decide +kernel) ?_
        refine zw_iinc (nI (k + 1)) _ 61 f53_58 rfl hl1 (by decide +kernel) (nI_1 _) rfl ?_
        refine zw_goto 16 f53_61 (by decide +kernel) ?_
        exact ih ((k + 1)) _ _ _ _ _ K_9 hI_9  trivial  (zl1_ne rfl rfl hl0) zl1_eq (by omega) (by omega)
set_option maxRecDepth 100000 in
set_option maxHeartbeats 0 in
theorem ck_X10_seekNext_22 (ro : UInt32 → Nat × (Nat → Int32)) (nv np : Nat) (I : Nat → Nat → Int32) (G : Nat → Nat → Int64) (A : Nat → Nat → Int32) (B : Nat → Nat → Int64) (hI : CI nv np I) : zWp ro 53 0 [(0, .ref 22)] [] (hS I G A B) 0 0 (zWk pW nv np I G A B zRt0) := by
  have hnv := hI.1.2
  have hnp := hI.2.1.2
  refine zw_aload_n 1 f53_0 rfl rfl ?_
  refine zw_virtual_v 4 0 0 [.ref 22] [(0, .ref 22)] f53_1 rfl n53_113 k53_113_10 rfl (hb_22 _ _ _ _) (by decide +kernel) (Nat.le_of_ble_eq_true rfl) rfl rfl (by decide +kernel) (by decide +kernel) rfl (Nat.le_of_ble_eq_true rfl) rfl ?_
  refine zWp.mono (ck_X10_reckonRates_22 ro nv np I _ _ _ hI ) ?_
  rintro r h1 ⟨I_2, G_2, A_2, B_2, rfl, K_2, hI_2, rfl⟩
  refine ⟨rfl, ?_⟩
  have K_2 := KP.tr KP.rf K_2
  refine zw_aload_n 5 f53_4 rfl rfl ?_
  refine zw_lconst 0 6 f53_5 rfl (by decide +kernel) ?_
  refine zw_put _ 9 f53_6 rfl g53_116_10 (hb_22 _ _ _ _) rfl (Nat.le_of_ble_eq_true rfl) (by decide +kernel) (hg_22_8 _ _ _ _ _) ?_
  refine zw_aload_n 10 f53_9 rfl rfl ?_
  refine zw_lconst 0 11 f53_10 rfl (by decide +kernel) ?_
  refine zw_put _ 14 f53_11 rfl g53_119_10 (hb_22 _ _ _ _) rfl (Nat.le_of_ble_eq_true rfl) (by decide +kernel) (hg_22_9 _ _ _ _ _) ?_
  refine zw_iconst 0 15 f53_14 rfl (by decide +kernel) ?_
  refine zw_istore_n _ 16 f53_15 rfl (by decide +kernel) rfl ?_
  exact lck_X10_seekNext_22_16 ro nv np I G A B hI (nv + 1) 0 _ _ _ _ _ (KP.g rfl (KP.g rfl K_2)) hI_2  trivial  (zl1_ne rfl rfl rfl) (show zld _ _ = some (.int (nI 0)) from zl1_eq) (by omega) (by omega)
set_option maxRecDepth 100000 in
set_option maxHeartbeats 0 in
theorem cp_X10_rests_22 (ro : UInt32 → Nat × (Nat → Int32)) (nv np : Nat) (I : Nat → Nat → Int32) (G : Nat → Nat → Int64) (A : Nat → Nat → Int32) (B : Nat → Nat → Int64) (hI : CI nv np I) : zWp ro 58 0 [(0, .ref 22)] [] (hS I G A B) 0 0 (fun r h1 => h1 = hS I G A B ∧ zRt2 r) := by
  have hnv := hI.1.2
  have hnp := hI.2.1.2
  refine zw_aload_n 1 f58_0 rfl rfl ?_
  refine zx_getG 4 f58_1 rfl g58_119_10 (hb_22 _ _ _ _) rfl (fun w1 hw1 => ?_)
  refine zw_lconst 0 5 f58_4 rfl (by decide +kernel) ?_
  refine zx_lcmp 6 f58_5 rfl (fun w2 hw2 => ?_)
  refine zw_if_ne 9 13 f58_6 (by decide +kernel) rfl (fun hc3 => ?_) (fun hc3 => ?_)
  · refine zw_iconst 0 14 f58_13 rfl (by decide +kernel) ?_
    refine zw_zreturn f58_14 r58 u58 (by decide +kernel) ?_
    exact ⟨rfl, ⟨_, rfl, (by decide +kernel)⟩⟩
  · refine zw_iconst 1 10 f58_9 rfl (by decide +kernel) ?_
    refine zw_goto 14 f58_10 (by decide +kernel) ?_
    refine zw_zreturn f58_14 r58 u58 (by decide +kernel) ?_
    exact ⟨rfl, ⟨_, rfl, (by decide +kernel)⟩⟩
set_option maxRecDepth 100000 in
set_option maxHeartbeats 0 in
theorem cp_X10_nextMomentAbove_22 (ro : UInt32 → Nat × (Nat → Int32)) (nv np : Nat) (I : Nat → Nat → Int32) (G : Nat → Nat → Int64) (A : Nat → Nat → Int32) (B : Nat → Nat → Int64) (hI : CI nv np I) : zWp ro 59 0 [(0, .ref 22)] [] (hS I G A B) 0 0 (fun r h1 => h1 = hS I G A B ∧ zRt3 r) := by
  have hnv := hI.1.2
  have hnp := hI.2.1.2
  refine zw_aload_n 1 f59_0 rfl rfl ?_
  refine zw_getfield 4 f59_1 rfl g59_12_10 (hb_22 _ _ _ _) rfl ?_
  refine zx_getG 7 f59_4 rfl g59_151_9 (hb_23 _ _ _ _) rfl (fun w1 hw1 => ?_)
  refine zw_aload_n 8 f59_7 rfl rfl ?_
  refine zx_getG 11 f59_8 rfl g59_119_10 (hb_22 _ _ _ _) rfl (fun w2 hw2 => ?_)
  refine zx_lmul 12 f59_11 rfl (fun w3 hw3 => ?_)
  refine zw_aload_n 13 f59_12 rfl rfl ?_
  refine zx_getG 16 f59_13 rfl g59_116_10 (hb_22 _ _ _ _) rfl (fun w4 hw4 => ?_)
  refine zx_ladd 17 f59_16 rfl (fun w5 hw5 => ?_)
  refine zw_lreturn f59_17 r59 u59 ?_
  exact ⟨rfl, ⟨_, rfl⟩⟩
set_option maxRecDepth 100000 in
set_option maxHeartbeats 0 in
theorem cp_X10_nextMomentBelow_22 (ro : UInt32 → Nat × (Nat → Int32)) (nv np : Nat) (I : Nat → Nat → Int32) (G : Nat → Nat → Int64) (A : Nat → Nat → Int32) (B : Nat → Nat → Int64) (hI : CI nv np I) : zWp ro 60 0 [(0, .ref 22)] [] (hS I G A B) 0 0 (fun r h1 => h1 = hS I G A B ∧ zRt3 r) := by
  have hnv := hI.1.2
  have hnp := hI.2.1.2
  refine zw_aload_n 1 f60_0 rfl rfl ?_
  refine zw_getfield 4 f60_1 rfl g60_12_10 (hb_22 _ _ _ _) rfl ?_
  refine zx_getG 7 f60_4 rfl g60_109_9 (hb_23 _ _ _ _) rfl (fun w1 hw1 => ?_)
  refine zw_aload_n 8 f60_7 rfl rfl ?_
  refine zx_getG 11 f60_8 rfl g60_119_10 (hb_22 _ _ _ _) rfl (fun w2 hw2 => ?_)
  refine zx_lmul 12 f60_11 rfl (fun w3 hw3 => ?_)
  refine zw_lreturn f60_12 r60 u60 ?_
  exact ⟨rfl, ⟨_, rfl⟩⟩
set_option maxRecDepth 100000 in
set_option maxHeartbeats 0 in
theorem cp_X10_nextIsBehind_22 (ro : UInt32 → Nat × (Nat → Int32)) (nv np : Nat) (I : Nat → Nat → Int32) (G : Nat → Nat → Int64) (A : Nat → Nat → Int32) (B : Nat → Nat → Int64) (hI : CI nv np I) (a : Int32) : zWp ro 61 0 [(0, .ref 22), (1, .int a)] [] (hS I G A B) 0 0 (fun r h1 => h1 = hS I G A B ∧ zRt2 r) := by
  have hnv := hI.1.2
  have hnp := hI.2.1.2
  refine zw_aload_n 1 f61_0 rfl rfl ?_
  refine zw_virtual_l 4 0 0 [.ref 22] [(0, .ref 22)] f61_1 rfl n61_154 k61_154_10 rfl (hb_22 _ _ _ _) (by decide +kernel) (Nat.le_of_ble_eq_true rfl) rfl rfl (by decide +kernel) (by decide +kernel) rfl (Nat.le_of_ble_eq_true rfl) rfl ?_
  refine zWp.mono (cp_X10_nextMomentAbove_22 ro nv np I _ _ _ hI ) ?_
  rintro r h1 ⟨rfl, ⟨w1, rfl⟩⟩
  refine ⟨_, rfl, ?_⟩
  refine zw_iload_n 5 f61_4 rfl rfl ?_
  refine zx_i2l 6 f61_5 rfl (fun w2 hw2 => ?_)
  refine zw_aload_n 7 f61_6 rfl rfl ?_
  refine zw_virtual_l 10 0 0 [.ref 22] [(0, .ref 22)] f61_7 rfl n61_158 k61_158_10 rfl (hb_22 _ _ _ _) (by decide +kernel) (Nat.le_of_ble_eq_true rfl) rfl rfl (by decide +kernel) (by decide +kernel) rfl (Nat.le_of_ble_eq_true rfl) rfl ?_
  refine zWp.mono (cp_X10_nextMomentBelow_22 ro nv np I _ _ _ hI ) ?_
  rintro r h1 ⟨rfl, ⟨w3, rfl⟩⟩
  refine ⟨_, rfl, ?_⟩
  refine zx_lmul 11 f61_10 rfl (fun w4 hw4 => ?_)
  refine zx_lcmp 12 f61_11 rfl (fun w5 hw5 => ?_)
  refine zw_if_le 15 19 f61_12 (by decide +kernel) rfl (fun hc6 => ?_) (fun hc6 => ?_)
  · refine zw_iconst 0 20 f61_19 rfl (by decide +kernel) ?_
    refine zw_zreturn f61_20 r61 u61 (by decide +kernel) ?_
    exact ⟨rfl, ⟨_, rfl, (by decide +kernel)⟩⟩
  · refine zw_iconst 1 16 f61_15 rfl (by decide +kernel) ?_
    refine zw_goto 20 f61_16 (by decide +kernel) ?_
    refine zw_zreturn f61_20 r61 u61 (by decide +kernel) ?_
    exact ⟨rfl, ⟨_, rfl, (by decide +kernel)⟩⟩
set_option maxRecDepth 100000 in
set_option maxHeartbeats 0 in
theorem cp_X10_isBehind_22 (ro : UInt32 → Nat × (Nat → Int32)) (nv np : Nat) (I : Nat → Nat → Int32) (G : Nat → Nat → Int64) (A : Nat → Nat → Int32) (B : Nat → Nat → Int64) (hI : CI nv np I) (a : Int32) : zWp ro 62 0 [(0, .ref 22), (1, .int a)] [] (hS I G A B) 0 0 (fun r h1 => h1 = hS I G A B ∧ zRt2 r) := by
  have hnv := hI.1.2
  have hnp := hI.2.1.2
  refine zw_aload_n 1 f62_0 rfl rfl ?_
  refine zw_getfield 4 f62_1 rfl g62_12_10 (hb_22 _ _ _ _) rfl ?_
  refine zx_getG 7 f62_4 rfl g62_151_9 (hb_23 _ _ _ _) rfl (fun w1 hw1 => ?_)
  refine zw_iload_n 8 f62_7 rfl rfl ?_
  refine zx_i2l 9 f62_8 rfl (fun w2 hw2 => ?_)
  refine zw_aload_n 10 f62_9 rfl rfl ?_
  refine zw_getfield 13 f62_10 rfl g62_12_10 (hb_22 _ _ _ _) rfl ?_
  refine zx_getG 16 f62_13 rfl g62_109_9 (hb_23 _ _ _ _) rfl (fun w3 hw3 => ?_)
  refine zx_lmul 17 f62_16 rfl (fun w4 hw4 => ?_)
  refine zx_lcmp 18 f62_17 rfl (fun w5 hw5 => ?_)
  refine zw_if_le 21 25 f62_18 (by decide +kernel) rfl (fun hc6 => ?_) (fun hc6 => ?_)
  · refine zw_iconst 0 26 f62_25 rfl (by decide +kernel) ?_
    refine zw_zreturn f62_26 r62 u62 (by decide +kernel) ?_
    exact ⟨rfl, ⟨_, rfl, (by decide +kernel)⟩⟩
  · refine zw_iconst 1 22 f62_21 rfl (by decide +kernel) ?_
    refine zw_goto 26 f62_22 (by decide +kernel) ?_
    refine zw_zreturn f62_26 r62 u62 (by decide +kernel) ?_
    exact ⟨rfl, ⟨_, rfl, (by decide +kernel)⟩⟩
set_option maxRecDepth 100000 in
set_option maxHeartbeats 0 in
theorem cp_X10_isAt_22 (ro : UInt32 → Nat × (Nat → Int32)) (nv np : Nat) (I : Nat → Nat → Int32) (G : Nat → Nat → Int64) (A : Nat → Nat → Int32) (B : Nat → Nat → Int64) (hI : CI nv np I) (a : Int32) : zWp ro 63 0 [(0, .ref 22), (1, .int a)] [] (hS I G A B) 0 0 (fun r h1 => h1 = hS I G A B ∧ zRt2 r) := by
  have hnv := hI.1.2
  have hnp := hI.2.1.2
  refine zw_aload_n 1 f63_0 rfl rfl ?_
  refine zw_getfield 4 f63_1 rfl g63_12_10 (hb_22 _ _ _ _) rfl ?_
  refine zx_getG 7 f63_4 rfl g63_151_9 (hb_23 _ _ _ _) rfl (fun w1 hw1 => ?_)
  refine zw_iload_n 8 f63_7 rfl rfl ?_
  refine zx_i2l 9 f63_8 rfl (fun w2 hw2 => ?_)
  refine zw_aload_n 10 f63_9 rfl rfl ?_
  refine zw_getfield 13 f63_10 rfl g63_12_10 (hb_22 _ _ _ _) rfl ?_
  refine zx_getG 16 f63_13 rfl g63_109_9 (hb_23 _ _ _ _) rfl (fun w3 hw3 => ?_)
  refine zx_lmul 17 f63_16 rfl (fun w4 hw4 => ?_)
  refine zx_lcmp 18 f63_17 rfl (fun w5 hw5 => ?_)
  refine zw_if_ne 21 25 f63_18 (by decide +kernel) rfl (fun hc6 => ?_) (fun hc6 => ?_)
  · refine zw_iconst 0 26 f63_25 rfl (by decide +kernel) ?_
    refine zw_zreturn f63_26 r63 u63 (by decide +kernel) ?_
    exact ⟨rfl, ⟨_, rfl, (by decide +kernel)⟩⟩
  · refine zw_iconst 1 22 f63_21 rfl (by decide +kernel) ?_
    refine zw_goto 26 f63_22 (by decide +kernel) ?_
    refine zw_zreturn f63_26 r63 u63 (by decide +kernel) ?_
    exact ⟨rfl, ⟨_, rfl, (by decide +kernel)⟩⟩
set_option maxRecDepth 100000 in
set_option maxHeartbeats 0 in
theorem cp_X10_isAhead_22 (ro : UInt32 → Nat × (Nat → Int32)) (nv np : Nat) (I : Nat → Nat → Int32) (G : Nat → Nat → Int64) (A : Nat → Nat → Int32) (B : Nat → Nat → Int64) (hI : CI nv np I) (a : Int32) : zWp ro 64 0 [(0, .ref 22), (1, .int a)] [] (hS I G A B) 0 0 (fun r h1 => h1 = hS I G A B ∧ zRt2 r) := by
  have hnv := hI.1.2
  have hnp := hI.2.1.2
  refine zw_iload_n 1 f64_0 rfl rfl ?_
  refine zx_i2l 2 f64_1 rfl (fun w1 hw1 => ?_)
  refine zw_aload_n 3 f64_2 rfl rfl ?_
  refine zw_getfield 6 f64_3 rfl g64_12_10 (hb_22 _ _ _ _) rfl ?_
  refine zx_getG 9 f64_6 rfl g64_109_9 (hb_23 _ _ _ _) rfl (fun w2 hw2 => ?_)
  refine zx_lmul 10 f64_9 rfl (fun w3 hw3 => ?_)
  refine zw_aload_n 11 f64_10 rfl rfl ?_
  refine zw_getfield 14 f64_11 rfl g64_12_10 (hb_22 _ _ _ _) rfl ?_
  refine zx_getG 17 f64_14 rfl g64_151_9 (hb_23 _ _ _ _) rfl (fun w4 hw4 => ?_)
  refine zx_lcmp 18 f64_17 rfl (fun w5 hw5 => ?_)
  refine zw_if_le 21 25 f64_18 (by decide +kernel) rfl (fun hc6 => ?_) (fun hc6 => ?_)
  · refine zw_iconst 0 26 f64_25 rfl (by decide +kernel) ?_
    refine zw_zreturn f64_26 r64 u64 (by decide +kernel) ?_
    exact ⟨rfl, ⟨_, rfl, (by decide +kernel)⟩⟩
  · refine zw_iconst 1 22 f64_21 rfl (by decide +kernel) ?_
    refine zw_goto 26 f64_22 (by decide +kernel) ?_
    refine zw_zreturn f64_26 r64 u64 (by decide +kernel) ?_
    exact ⟨rfl, ⟨_, rfl, (by decide +kernel)⟩⟩
set_option maxRecDepth 100000 in
set_option maxHeartbeats 0 in
theorem lcp_X10_inVessels_22_4 (ro : UInt32 → Nat × (Nat → Int32)) (nv np : Nat) (I : Nat → Nat → Int32) (G : Nat → Nat → Int64) (A : Nat → Nat → Int32) (B : Nat → Nat → Int64) (hI : CI nv np I) : ∀ (n k : Nat) (ls : List (Nat × Value)), ∀ (y1 : Int64), True → zld ls 0 = some (.ref 22) → zld ls 1 = some (.long y1) → zld ls 3 = some (.int (nI k)) → k ≤ nv → nv + 1 ≤ k + n → zWp ro 65 4 ls [] (hS I G A B) 0 0 (fun r h1 => h1 = hS I G A B ∧ zRt3 r) := by
  have hnv := hI.1.2
  have hnp := hI.2.1.2
  intro n
  induction n with
  | zero =>
    intro k ls y1 _ hl0 hl1 hl3 h1 h2
    exact absurd h2 (by omega)
  | succ n ih =>
    intro k ls y1 _ hl0 hl1 hl3 hk1 hk2
    refine zw_iload_n 5 f65_4 rfl hl3 ?_
    refine zw_aload_n 6 f65_5 rfl hl0 ?_
    refine zw_getfield 9 f65_6 rfl g65_37_10 (hb_22 _ _ _ _) rfl ?_
    refine zw_getI (nI nv) 12 f65_9 rfl g65_80_4 (hb_1 _ _ _ _) rfl hI.1.1 ?_
    refine zw_ic_ge 15 33 f65_12 (by decide +kernel) rfl (fun hc1 => ?_) (fun hc1 => ?_)
    · have hn_hc1 : nv ≤ k := zn_ge (by omega) (by omega) hc1
      refine zw_lload_n 34 f65_33 rfl hl1 ?_
      refine zw_lreturn f65_34 r65 u65 ?_
      exact ⟨rfl, ⟨_, rfl⟩⟩
    · have hn_hc1 : k < nv := zn_lt (by omega) (by omega) hc1
      refine zw_lload_n 16 f65_15 rfl hl1 ?_
      refine zw_aload_n 17 f65_16 rfl hl0 ?_
      refine zw_getfield 20 f65_17 rfl g65_12_10 (hb_22 _ _ _ _) rfl ?_
      refine zw_getfield 23 f65_20 rfl g65_87_9 (hb_23 _ _ _ _) rfl ?_
      refine zw_iload_n 24 f65_23 rfl hl3 ?_
      refine zx_laload k 25 f65_24 rfl (hb_24 _ _ _ _) (nI_clamp (by omega)) (nI_pos (by omega)) (by omega) (fun w2 hw2 => ?_)
      refine zx_ladd 26 f65_25 rfl (fun w3 hw3 => ?_)
      refine zw_lstore_n _ 27 f65_26 rfl (by decide +kernel) rfl ?_
      refine zw_iinc (nI (k + 1)) _ 30 f65_27 rfl (zl2_ne rfl rfl hl3) (by decide +kernel) (nI_1 _) rfl ?_
      refine zw_goto 4 f65_30 (by decide +kernel) ?_
      exact ih ((k + 1)) _ w3 trivial  (zl1_ne rfl rfl (zl2_ne rfl rfl hl0)) (zl1_ne rfl rfl zl2_eq) zl1_eq (by omega) (by omega)
set_option maxRecDepth 100000 in
set_option maxHeartbeats 0 in
theorem cp_X10_inVessels_22 (ro : UInt32 → Nat × (Nat → Int32)) (nv np : Nat) (I : Nat → Nat → Int32) (G : Nat → Nat → Int64) (A : Nat → Nat → Int32) (B : Nat → Nat → Int64) (hI : CI nv np I) : zWp ro 65 0 [(0, .ref 22)] [] (hS I G A B) 0 0 (fun r h1 => h1 = hS I G A B ∧ zRt3 r) := by
  have hnv := hI.1.2
  have hnp := hI.2.1.2
  refine zw_lconst 0 1 f65_0 rfl (by decide +kernel) ?_
  refine zw_lstore_n _ 2 f65_1 rfl (by decide +kernel) rfl ?_
  refine zw_iconst 0 3 f65_2 rfl (by decide +kernel) ?_
  refine zw_istore_n _ 4 f65_3 rfl (by decide +kernel) rfl ?_
  exact lcp_X10_inVessels_22_4 ro nv np I G A B hI (nv + 1) 0 _ 0 trivial  (zl1_ne rfl rfl (zl2_ne rfl rfl rfl)) (zl1_ne rfl rfl zl2_eq) (show zld _ _ = some (.int (nI 0)) from zl1_eq) (by omega) (by omega)
set_option maxRecDepth 100000 in
set_option maxHeartbeats 0 in
theorem lcp_X10_commonBehind_22_69 (ro : UInt32 → Nat × (Nat → Int32)) (nv np : Nat) (I : Nat → Nat → Int32) (G : Nat → Nat → Int64) (A : Nat → Nat → Int32) (B : Nat → Nat → Int64) (hI : CI nv np I) (a : Int64) (b : Int64) (c : Int64) : ∀ (n k : Nat) (ls : List (Nat × Value)), ∀ (y7 : Int64), True → zld ls 0 = some (.ref 22) → zld ls 1 = some (.long a) → zld ls 3 = some (.long b) → zld ls 5 = some (.long c) → zld ls 7 = some (.long y7) → zld ls 9 = some (.int (nI k)) → k ≤ nv → nv + 1 ≤ k + n → zWp ro 69 69 ls [] (hS I G A B) 0 0 (fun r h1 => h1 = hS I G A B ∧ zRt3 r) := by
  have hnv := hI.1.2
  have hnp := hI.2.1.2
  intro n
  induction n with
  | zero =>
    intro k ls y7 _ hl0 hl1 hl3 hl5 hl7 hl9 h1 h2
    exact absurd h2 (by omega)
  | succ n ih =>
    intro k ls y7 _ hl0 hl1 hl3 hl5 hl7 hl9 hk1 hk2
    refine zw_iload 71 f69_69 rfl hl9 ?_
    refine zw_aload_n 72 f69_71 rfl hl0 ?_
    refine zw_getfield 75 f69_72 rfl g69_37_10 (hb_22 _ _ _ _) rfl ?_
    refine zw_getI (nI nv) 78 f69_75 rfl g69_80_4 (hb_1 _ _ _ _) rfl hI.1.1 ?_
    refine zw_ic_ge 81 124 f69_78 (by decide +kernel) rfl (fun hc1 => ?_) (fun hc1 => ?_)
    · have hn_hc1 : nv ≤ k := zn_ge (by omega) (by omega) hc1
      refine zw_lload 126 f69_124 rfl hl7 ?_
      refine zw_lreturn f69_126 r69 u69 ?_
      exact ⟨rfl, ⟨_, rfl⟩⟩
    · have hn_hc1 : k < nv := zn_lt (by omega) (by omega) hc1
      refine zw_lload 83 f69_81 rfl hl7 ?_
      refine zw_lconst 1 84 f69_83 rfl (by decide +kernel) ?_
      refine zx_lcmp 85 f69_84 rfl (fun w2 hw2 => ?_)
      refine zw_if_le 88 124 f69_85 (by decide +kernel) rfl (fun hc3 => ?_) (fun hc3 => ?_)
      · refine zw_lload 126 f69_124 rfl hl7 ?_
        refine zw_lreturn f69_126 r69 u69 ?_
        exact ⟨rfl, ⟨_, rfl⟩⟩
      · refine zw_aload_n 89 f69_88 rfl hl0 ?_
        refine zw_getfield 92 f69_89 rfl g69_12_10 (hb_22 _ _ _ _) rfl ?_
        refine zw_getfield 95 f69_92 rfl g69_87_9 (hb_23 _ _ _ _) rfl ?_
        refine zw_iload 97 f69_95 rfl hl9 ?_
        refine zx_laload k 98 f69_97 rfl (hb_24 _ _ _ _) (nI_clamp (by omega)) (nI_pos (by omega)) (by omega) (fun w4 hw4 => ?_)
        refine zw_lload_n 99 f69_98 rfl hl1 ?_
        refine zx_lmul 100 f69_99 rfl (fun w5 hw5 => ?_)
        refine zw_aload_n 101 f69_100 rfl hl0 ?_
        refine zw_getfield 104 f69_101 rfl g69_22_10 (hb_22 _ _ _ _) rfl ?_
        refine zw_iload 106 f69_104 rfl hl9 ?_
        refine zx_iaload k 107 f69_106 rfl (hb_28 _ _ _ _) (nI_clamp (by omega)) (nI_pos (by omega)) (by omega) (fun w6 hw6 => ?_)
        refine zx_i2l 108 f69_107 rfl (fun w7 hw7 => ?_)
        refine zw_lload_n 109 f69_108 rfl hl3 ?_
        refine zx_lmul 110 f69_109 rfl (fun w8 hw8 => ?_)
        refine zx_ladd 111 f69_110 rfl (fun w9 hw9 => ?_)
        refine zw_lload 113 f69_111 rfl hl7 ?_
        refine zw_static_l 116 0 0 [.long w9, .long y7] [] [(0, .long w9), (2, .long y7)] f69_113 rfl k69_183_99 rfl (by decide +kernel) (Nat.le_of_ble_eq_true rfl) (Nat.le_of_ble_eq_true rfl) rfl rfl (by decide +kernel) (by decide +kernel) rfl (Nat.le_of_ble_eq_true rfl) rfl ?_
        refine zWp.mono (cp_X11_gcd ro nv np I _ _ _ hI w9 y7) ?_
        rintro r h1 ⟨rfl, ⟨w10, rfl⟩⟩
        refine ⟨_, rfl, ?_⟩
        refine zw_lstore _ 118 f69_116 rfl (by decide +kernel) rfl ?_
        refine zw_iinc (nI (k + 1)) _ 121 f69_118 rfl (zl2_ne rfl rfl hl9) (by decide +kernel) (nI_1 _) rfl ?_
        refine zw_goto 69 f69_121 (by decide +kernel) ?_
        exact ih ((k + 1)) _ w10 trivial  (zl1_ne rfl rfl (zl2_ne rfl rfl hl0)) (zl1_ne rfl rfl (zl2_ne rfl rfl hl1)) (zl1_ne rfl rfl (zl2_ne rfl rfl hl3)) (zl1_ne rfl rfl (zl2_ne rfl rfl hl5)) (zl1_ne rfl rfl zl2_eq) zl1_eq (by omega) (by omega)
set_option maxRecDepth 100000 in
set_option maxHeartbeats 0 in
theorem cp_X10_commonBehind_22 (ro : UInt32 → Nat × (Nat → Int32)) (nv np : Nat) (I : Nat → Nat → Int32) (G : Nat → Nat → Int64) (A : Nat → Nat → Int32) (B : Nat → Nat → Int64) (hI : CI nv np I) (a : Int64) (b : Int64) (c : Int64) : zWp ro 69 0 [(0, .ref 22), (1, .long a), (3, .long b), (5, .long c)] [] (hS I G A B) 0 0 (fun r h1 => h1 = hS I G A B ∧ zRt3 r) := by
  have hnv := hI.1.2
  have hnp := hI.2.1.2
  refine zw_aload_n 1 f69_0 rfl rfl ?_
  refine zw_getfield 4 f69_1 rfl g69_12_10 (hb_22 _ _ _ _) rfl ?_
  refine zx_getG 7 f69_4 rfl g69_151_9 (hb_23 _ _ _ _) rfl (fun w1 hw1 => ?_)
  refine zw_lload_n 8 f69_7 rfl rfl ?_
  refine zx_lmul 9 f69_8 rfl (fun w2 hw2 => ?_)
  refine zw_lload_n 10 f69_9 rfl rfl ?_
  refine zx_ladd 11 f69_10 rfl (fun w3 hw3 => ?_)
  refine zw_lload 13 f69_11 rfl rfl ?_
  refine zw_static_l 16 0 0 [.long w3, .long c] [] [(0, .long w3), (2, .long c)] f69_13 rfl k69_183_99 rfl (by decide +kernel) (Nat.le_of_ble_eq_true rfl) (Nat.le_of_ble_eq_true rfl) rfl rfl (by decide +kernel) (by decide +kernel) rfl (Nat.le_of_ble_eq_true rfl) rfl ?_
  refine zWp.mono (cp_X11_gcd ro nv np I _ _ _ hI w3 c) ?_
  rintro r h1 ⟨rfl, ⟨w4, rfl⟩⟩
  refine ⟨_, rfl, ?_⟩
  refine zw_lstore _ 18 f69_16 rfl (by decide +kernel) rfl ?_
  refine zw_aload_n 19 f69_18 rfl (zl2_ne rfl rfl rfl) ?_
  refine zw_getfield 22 f69_19 rfl g69_12_10 (hb_22 _ _ _ _) rfl ?_
  refine zx_getG 25 f69_22 rfl g69_177_9 (hb_23 _ _ _ _) rfl (fun w5 hw5 => ?_)
  refine zw_lload_n 26 f69_25 rfl (zl2_ne rfl rfl rfl) ?_
  refine zx_lmul 27 f69_26 rfl (fun w6 hw6 => ?_)
  refine zw_aload_n 28 f69_27 rfl (zl2_ne rfl rfl rfl) ?_
  refine zx_getI 31 f69_28 rfl g69_54_10 (hb_22 _ _ _ _) rfl (fun w7 hw7 => ?_)
  refine zx_i2l 32 f69_31 rfl (fun w8 hw8 => ?_)
  refine zw_lload_n 33 f69_32 rfl (zl2_ne rfl rfl rfl) ?_
  refine zx_lmul 34 f69_33 rfl (fun w9 hw9 => ?_)
  refine zx_ladd 35 f69_34 rfl (fun w10 hw10 => ?_)
  refine zw_lload 37 f69_35 rfl zl2_eq ?_
  refine zw_static_l 40 0 0 [.long w10, .long w4] [] [(0, .long w10), (2, .long w4)] f69_37 rfl k69_183_99 rfl (by decide +kernel) (Nat.le_of_ble_eq_true rfl) (Nat.le_of_ble_eq_true rfl) rfl rfl (by decide +kernel) (by decide +kernel) rfl (Nat.le_of_ble_eq_true rfl) rfl ?_
  refine zWp.mono (cp_X11_gcd ro nv np I _ _ _ hI w10 w4) ?_
  rintro r h1 ⟨rfl, ⟨w11, rfl⟩⟩
  refine ⟨_, rfl, ?_⟩
  refine zw_lstore _ 42 f69_40 rfl (by decide +kernel) rfl ?_
  refine zw_aload_n 43 f69_42 rfl (zl2_ne rfl rfl (zl2_ne rfl rfl rfl)) ?_
  refine zw_getfield 46 f69_43 rfl g69_12_10 (hb_22 _ _ _ _) rfl ?_
  refine zx_getG 49 f69_46 rfl g69_180_9 (hb_23 _ _ _ _) rfl (fun w12 hw12 => ?_)
  refine zw_lload_n 50 f69_49 rfl (zl2_ne rfl rfl (zl2_ne rfl rfl rfl)) ?_
  refine zx_lmul 51 f69_50 rfl (fun w13 hw13 => ?_)
  refine zw_aload_n 52 f69_51 rfl (zl2_ne rfl rfl (zl2_ne rfl rfl rfl)) ?_
  refine zx_getI 55 f69_52 rfl g69_58_10 (hb_22 _ _ _ _) rfl (fun w14 hw14 => ?_)
  refine zx_i2l 56 f69_55 rfl (fun w15 hw15 => ?_)
  refine zw_lload_n 57 f69_56 rfl (zl2_ne rfl rfl (zl2_ne rfl rfl rfl)) ?_
  refine zx_lmul 58 f69_57 rfl (fun w16 hw16 => ?_)
  refine zx_ladd 59 f69_58 rfl (fun w17 hw17 => ?_)
  refine zw_lload 61 f69_59 rfl zl2_eq ?_
  refine zw_static_l 64 0 0 [.long w17, .long w11] [] [(0, .long w17), (2, .long w11)] f69_61 rfl k69_183_99 rfl (by decide +kernel) (Nat.le_of_ble_eq_true rfl) (Nat.le_of_ble_eq_true rfl) rfl rfl (by decide +kernel) (by decide +kernel) rfl (Nat.le_of_ble_eq_true rfl) rfl ?_
  refine zWp.mono (cp_X11_gcd ro nv np I _ _ _ hI w17 w11) ?_
  rintro r h1 ⟨rfl, ⟨w18, rfl⟩⟩
  refine ⟨_, rfl, ?_⟩
  refine zw_lstore _ 66 f69_64 rfl (by decide +kernel) rfl ?_
  refine zw_iconst 0 67 f69_66 rfl (by decide +kernel) ?_
  refine zw_istore _ 69 f69_67 rfl (by decide +kernel) rfl ?_
  exact lcp_X10_commonBehind_22_69 ro nv np I G A B hI a b c (nv + 1) 0 _ w18 trivial  (zl1_ne rfl rfl (zl2_ne rfl rfl (zl2_ne rfl rfl (zl2_ne rfl rfl rfl)))) (zl1_ne rfl rfl (zl2_ne rfl rfl (zl2_ne rfl rfl (zl2_ne rfl rfl rfl)))) (zl1_ne rfl rfl (zl2_ne rfl rfl (zl2_ne rfl rfl (zl2_ne rfl rfl rfl)))) (zl1_ne rfl rfl (zl2_ne rfl rfl (zl2_ne rfl rfl (zl2_ne rfl rfl rfl)))) (zl1_ne rfl rfl zl2_eq) (show zld _ _ = some (.int (nI 0)) from zl1_eq) (by omega) (by omega)
set_option maxRecDepth 100000 in
set_option maxHeartbeats 0 in
theorem lck_X10_advance_22_132 (ro : UInt32 → Nat × (Nat → Int32)) (nv np : Nat) (I : Nat → Nat → Int32) (G : Nat → Nat → Int64) (A : Nat → Nat → Int32) (B : Nat → Nat → Int64) (hI : CI nv np I) (a : Int64) (b : Int64) : ∀ (n k : Nat) (ls : List (Nat × Value)) (I1 : Nat → Nat → Int32) (G1 : Nat → Nat → Int64) (A1 : Nat → Nat → Int32) (B1 : Nat → Nat → Int64), KP pW I G A B I1 G1 A1 B1 → CI nv np I1 → ∀ (y5 : Int64) (y7 : Int64), True → ¬ y7 = 0 → zld ls 0 = some (.ref 22) → zld ls 1 = some (.long a) → zld ls 3 = some (.long b) → zld ls 5 = some (.long y5) → zld ls 7 = some (.long y7) → zld ls 9 = some (.int (nI k)) → k ≤ nv → nv + 1 ≤ k + n → zWp ro 68 132 ls [] (hS I1 G1 A1 B1) 0 0 (zWk pW nv np I G A B zRt2) := by
  have hnv := hI.1.2
  have hnp := hI.2.1.2
  intro n
  induction n with
  | zero =>
    intro k ls I1 G1 A1 B1 K hJ y5 y7 _ hz7 hl0 hl1 hl3 hl5 hl7 hl9 h1 h2
    exact absurd h2 (by omega)
  | succ n ih =>
    intro k ls I1 G1 A1 B1 K hJ y5 y7 _ hz7 hl0 hl1 hl3 hl5 hl7 hl9 hk1 hk2
    refine zw_iload 134 f68_132 rfl hl9 ?_
    refine zw_aload_n 135 f68_134 rfl hl0 ?_
    refine zw_getfield 138 f68_135 rfl g68_37_10 (hb_22 _ _ _ _) rfl ?_
    refine zw_getI (nI nv) 141 f68_138 rfl g68_80_4 (hb_1 _ _ _ _) rfl hJ.1.1 ?_
    refine zw_ic_ge 144 186 f68_141 (by decide +kernel) rfl (fun hc1 => ?_) (fun hc1 => ?_)
    · have hn_hc1 : nv ≤ k := zn_ge (by omega) (by omega) hc1
      refine zw_iconst 1 187 f68_186 rfl (by decide +kernel) ?_
      refine zw_zreturn f68_187 r68 u68 (by decide +kernel) ?_
      exact ⟨_, _, _, _, rfl, K, hJ, ⟨_, rfl, (by decide +kernel)⟩⟩
    · have hn_hc1 : k < nv := zn_lt (by omega) (by omega) hc1
      refine zw_aload_n 145 f68_144 rfl hl0 ?_
      refine zw_getfield 148 f68_145 rfl g68_12_10 (hb_22 _ _ _ _) rfl ?_
      refine zw_getfield 151 f68_148 rfl g68_87_9 (hb_23 _ _ _ _) rfl ?_
      refine zw_iload 153 f68_151 rfl hl9 ?_
      refine zw_aload_n 154 f68_153 rfl hl0 ?_
      refine zw_getfield 157 f68_154 rfl g68_12_10 (hb_22 _ _ _ _) rfl ?_
      refine zw_getfield 160 f68_157 rfl g68_87_9 (hb_23 _ _ _ _) rfl ?_
      refine zw_iload 162 f68_160 rfl hl9 ?_
      refine zx_laload k 163 f68_162 rfl (hb_24 _ _ _ _) (nI_clamp (by omega)) (nI_pos (by omega)) (by omega) (fun w2 hw2 => ?_)
      refine zw_lload_n 164 f68_163 rfl hl1 ?_
      refine zx_lmul 165 f68_164 rfl (fun w3 hw3 => ?_)
      refine zw_aload_n 166 f68_165 rfl hl0 ?_
      refine zw_getfield 169 f68_166 rfl g68_22_10 (hb_22 _ _ _ _) rfl ?_
      refine zw_iload 171 f68_169 rfl hl9 ?_
      refine zx_iaload k 172 f68_171 rfl (hb_28 _ _ _ _) (nI_clamp (by omega)) (nI_pos (by omega)) (by omega) (fun w4 hw4 => ?_)
      refine zx_i2l 173 f68_172 rfl (fun w5 hw5 => ?_)
      refine zw_lload_n 174 f68_173 rfl hl3 ?_
      refine zx_lmul 175 f68_174 rfl (fun w6 hw6 => ?_)
      refine zx_ladd 176 f68_175 rfl (fun w7 hw7 => ?_)
      refine zw_lload 178 f68_176 rfl hl7 ?_
      refine zx_ldiv 179 f68_178 rfl hz7 (fun w8 hw8 => ?_)
      refine zw_lst k _ 180 f68_179 rfl (hb_24 _ _ _ _) (nI_clamp (by omega)) (nI_pos (by omega)) (by omega) (ha_24 _ _ _ _ _) ?_
      refine zw_iinc (nI (k + 1)) _ 183 f68_180 rfl hl9 (by decide +kernel) (nI_1 _) rfl ?_
      refine zw_goto 132 f68_183 (by decide +kernel) ?_
      exact ih ((k + 1)) _ _ _ _ _ (KP.b rfl K) hJ y5 y7 trivial hz7 (zl1_ne rfl rfl hl0) (zl1_ne rfl rfl hl1) (zl1_ne rfl rfl hl3) (zl1_ne rfl rfl hl5) (zl1_ne rfl rfl hl7) zl1_eq (by omega) (by omega)
set_option maxRecDepth 100000 in
set_option maxHeartbeats 0 in
theorem ck_X10_advance_22 (ro : UInt32 → Nat × (Nat → Int32)) (nv np : Nat) (I : Nat → Nat → Int32) (G : Nat → Nat → Int64) (A : Nat → Nat → Int32) (B : Nat → Nat → Int64) (hI : CI nv np I) (a : Int64) (b : Int64) : zWp ro 68 0 [(0, .ref 22), (1, .long a), (3, .long b)] [] (hS I G A B) 0 0 (zWk pW nv np I G A B zRt2) := by
  have hnv := hI.1.2
  have hnp := hI.2.1.2
  refine zw_aload_n 1 f68_0 rfl rfl ?_
  refine zw_getfield 4 f68_1 rfl g68_12_10 (hb_22 _ _ _ _) rfl ?_
  refine zx_getG 7 f68_4 rfl g68_109_9 (hb_23 _ _ _ _) rfl (fun w1 hw1 => ?_)
  refine zw_lload_n 8 f68_7 rfl rfl ?_
  refine zx_lmul 9 f68_8 rfl (fun w2 hw2 => ?_)
  refine zw_lstore _ 11 f68_9 rfl (by decide +kernel) rfl ?_
  refine zw_aload_n 12 f68_11 rfl (zl2_ne rfl rfl rfl) ?_
  refine zw_lload_n 13 f68_12 rfl (zl2_ne rfl rfl rfl) ?_
  refine zw_lload_n 14 f68_13 rfl (zl2_ne rfl rfl rfl) ?_
  refine zw_lload 16 f68_14 rfl zl2_eq ?_
  refine zw_virtual_l 19 0 0 [.ref 22, .long a, .long b, .long w2] [(0, .ref 22), (1, .long a), (3, .long b), (5, .long w2)] f68_16 rfl n68_171 k68_171_10 rfl (hb_22 _ _ _ _) (by decide +kernel) (Nat.le_of_ble_eq_true rfl) rfl rfl (by decide +kernel) (by decide +kernel) rfl (Nat.le_of_ble_eq_true rfl) rfl ?_
  refine zWp.mono (cp_X10_commonBehind_22 ro nv np I _ _ _ hI a b w2) ?_
  rintro r h1 ⟨rfl, ⟨w3, rfl⟩⟩
  refine ⟨_, rfl, ?_⟩
  refine zw_lstore _ 21 f68_19 rfl (by decide +kernel) rfl ?_
  refine zw_lload 23 f68_21 rfl zl2_eq ?_
  refine zw_lconst 0 24 f68_23 rfl (by decide +kernel) ?_
  refine zx_lcmp 25 f68_24 rfl (fun w4 hw4 => ?_)
  refine zw_if_eq 28 40 f68_25 (by decide +kernel) rfl (fun hc5 => ?_) (fun hc5 => ?_)
  · refine zw_iconst 0 41 f68_40 rfl (by decide +kernel) ?_
    refine zw_zreturn f68_41 r68 u68 (by decide +kernel) ?_
    exact ⟨_, _, _, _, rfl, KP.rf, hI, ⟨_, rfl, (by decide +kernel)⟩⟩
  · refine zw_lload 30 f68_28 rfl (zl2_ne rfl rfl zl2_eq) ?_
    refine zw_lload 32 f68_30 rfl zl2_eq ?_
    refine zx_ldiv 33 f68_32 rfl (zl_cmp0 hw4 hc5) (fun w6 hw6 => ?_)
    refine zw_ldc2_w 10000 36 f68_33 rfl (by decide +kernel) ?_
    refine zx_lcmp 37 f68_36 rfl (fun w7 hw7 => ?_)
    refine zw_if_le 40 42 f68_37 (by decide +kernel) rfl (fun hc8 => ?_) (fun hc8 => ?_)
    · refine zw_aload_n 43 f68_42 rfl (zl2_ne rfl rfl (zl2_ne rfl rfl rfl)) ?_
      refine zw_getfield 46 f68_43 rfl g68_12_10 (hb_22 _ _ _ _) rfl ?_
      refine zw_lload 48 f68_46 rfl (zl2_ne rfl rfl zl2_eq) ?_
      refine zw_lload 50 f68_48 rfl zl2_eq ?_
      refine zx_ldiv 51 f68_50 rfl (zl_cmp0 hw4 hc5) (fun w9 hw9 => ?_)
      refine zw_put _ 54 f68_51 rfl g68_109_9 (hb_23 _ _ _ _) rfl (Nat.le_of_ble_eq_true rfl) (by decide +kernel) (hg_23_0 _ _ _ _ _) ?_
      refine zw_aload_n 55 f68_54 rfl (zl2_ne rfl rfl (zl2_ne rfl rfl rfl)) ?_
      refine zw_getfield 58 f68_55 rfl g68_12_10 (hb_22 _ _ _ _) rfl ?_
      refine zw_aload_n 59 f68_58 rfl (zl2_ne rfl rfl (zl2_ne rfl rfl rfl)) ?_
      refine zw_getfield 62 f68_59 rfl g68_12_10 (hb_22 _ _ _ _) rfl ?_
      refine zx_getG 65 f68_62 rfl g68_151_9 (hb_23 _ _ _ _) rfl (fun w10 hw10 => ?_)
      refine zw_lload_n 66 f68_65 rfl (zl2_ne rfl rfl (zl2_ne rfl rfl rfl)) ?_
      refine zx_lmul 67 f68_66 rfl (fun w11 hw11 => ?_)
      refine zw_lload_n 68 f68_67 rfl (zl2_ne rfl rfl (zl2_ne rfl rfl rfl)) ?_
      refine zx_ladd 69 f68_68 rfl (fun w12 hw12 => ?_)
      refine zw_lload 71 f68_69 rfl zl2_eq ?_
      refine zx_ldiv 72 f68_71 rfl (zl_cmp0 hw4 hc5) (fun w13 hw13 => ?_)
      refine zw_put _ 75 f68_72 rfl g68_151_9 (hb_23 _ _ _ _) rfl (Nat.le_of_ble_eq_true rfl) (by decide +kernel) (hg_23_1 _ _ _ _ _) ?_
      refine zw_aload_n 76 f68_75 rfl (zl2_ne rfl rfl (zl2_ne rfl rfl rfl)) ?_
      refine zw_getfield 79 f68_76 rfl g68_12_10 (hb_22 _ _ _ _) rfl ?_
      refine zw_aload_n 80 f68_79 rfl (zl2_ne rfl rfl (zl2_ne rfl rfl rfl)) ?_
      refine zw_getfield 83 f68_80 rfl g68_12_10 (hb_22 _ _ _ _) rfl ?_
      refine zx_getG 86 f68_83 rfl g68_177_9 (hb_23 _ _ _ _) rfl (fun w14 hw14 => ?_)
      refine zw_lload_n 87 f68_86 rfl (zl2_ne rfl rfl (zl2_ne rfl rfl rfl)) ?_
      refine zx_lmul 88 f68_87 rfl (fun w15 hw15 => ?_)
      refine zw_aload_n 89 f68_88 rfl (zl2_ne rfl rfl (zl2_ne rfl rfl rfl)) ?_
      refine zx_getI 92 f68_89 rfl g68_54_10 (hb_22 _ _ _ _) rfl (fun w16 hw16 => ?_)
      refine zx_i2l 93 f68_92 rfl (fun w17 hw17 => ?_)
      refine zw_lload_n 94 f68_93 rfl (zl2_ne rfl rfl (zl2_ne rfl rfl rfl)) ?_
      refine zx_lmul 95 f68_94 rfl (fun w18 hw18 => ?_)
      refine zx_ladd 96 f68_95 rfl (fun w19 hw19 => ?_)
      refine zw_lload 98 f68_96 rfl zl2_eq ?_
      refine zx_ldiv 99 f68_98 rfl (zl_cmp0 hw4 hc5) (fun w20 hw20 => ?_)
      refine zw_put _ 102 f68_99 rfl g68_177_9 (hb_23 _ _ _ _) rfl (Nat.le_of_ble_eq_true rfl) (by decide +kernel) (hg_23_2 _ _ _ _ _) ?_
      refine zw_aload_n 103 f68_102 rfl (zl2_ne rfl rfl (zl2_ne rfl rfl rfl)) ?_
      refine zw_getfield 106 f68_103 rfl g68_12_10 (hb_22 _ _ _ _) rfl ?_
      refine zw_aload_n 107 f68_106 rfl (zl2_ne rfl rfl (zl2_ne rfl rfl rfl)) ?_
      refine zw_getfield 110 f68_107 rfl g68_12_10 (hb_22 _ _ _ _) rfl ?_
      refine zx_getG 113 f68_110 rfl g68_180_9 (hb_23 _ _ _ _) rfl (fun w21 hw21 => ?_)
      refine zw_lload_n 114 f68_113 rfl (zl2_ne rfl rfl (zl2_ne rfl rfl rfl)) ?_
      refine zx_lmul 115 f68_114 rfl (fun w22 hw22 => ?_)
      refine zw_aload_n 116 f68_115 rfl (zl2_ne rfl rfl (zl2_ne rfl rfl rfl)) ?_
      refine zx_getI 119 f68_116 rfl g68_58_10 (hb_22 _ _ _ _) rfl (fun w23 hw23 => ?_)
      refine zx_i2l 120 f68_119 rfl (fun w24 hw24 => ?_)
      refine zw_lload_n 121 f68_120 rfl (zl2_ne rfl rfl (zl2_ne rfl rfl rfl)) ?_
      refine zx_lmul 122 f68_121 rfl (fun w25 hw25 => ?_)
      refine zx_ladd 123 f68_122 rfl (fun w26 hw26 => ?_)
      refine zw_lload 125 f68_123 rfl zl2_eq ?_
      refine zx_ldiv 126 f68_125 rfl (zl_cmp0 hw4 hc5) (fun w27 hw27 => ?_)
      refine zw_put _ 129 f68_126 rfl g68_180_9 (hb_23 _ _ _ _) rfl (Nat.le_of_ble_eq_true rfl) (by decide +kernel) (hg_23_3 _ _ _ _ _) ?_
      refine zw_iconst 0 130 f68_129 rfl (by decide +kernel) ?_
      refine zw_istore _ 132 f68_130 rfl (by decide +kernel) rfl ?_
      exact lck_X10_advance_22_132 ro nv np I G A B hI a b (nv + 1) 0 _ _ _ _ _ (KP.g rfl (KP.g rfl (KP.g rfl (KP.g rfl KP.rf)))) hI w2 w3 trivial (zl_cmp0 hw4 hc5) (zl1_ne rfl rfl (zl2_ne rfl rfl (zl2_ne rfl rfl rfl))) (zl1_ne rfl rfl (zl2_ne rfl rfl (zl2_ne rfl rfl rfl))) (zl1_ne rfl rfl (zl2_ne rfl rfl (zl2_ne rfl rfl rfl))) (zl1_ne rfl rfl (zl2_ne rfl rfl zl2_eq)) (zl1_ne rfl rfl zl2_eq) (show zld _ _ = some (.int (nI 0)) from zl1_eq) (by omega) (by omega)
    · refine zw_iconst 0 41 f68_40 rfl (by decide +kernel) ?_
      refine zw_zreturn f68_41 r68 u68 (by decide +kernel) ?_
      exact ⟨_, _, _, _, rfl, KP.rf, hI, ⟨_, rfl, (by decide +kernel)⟩⟩
set_option maxRecDepth 100000 in
set_option maxHeartbeats 0 in
theorem ck_X10_happen_22 (ro : UInt32 → Nat × (Nat → Int32)) (nv np : Nat) (I : Nat → Nat → Int32) (G : Nat → Nat → Int64) (A : Nat → Nat → Int32) (B : Nat → Nat → Int64) (hI : CI nv np I) (a : Int32) (b : Int32) : zWp ro 75 0 [(0, .ref 22), (1, .int a), (2, .int b)] [] (hS I G A B) 0 0 (zWk pW nv np I G A B zRt0) := by
  have hnv := hI.1.2
  have hnp := hI.2.1.2
  refine zw_aload_n 1 f75_0 rfl rfl ?_
  obtain ⟨x1p, x1q, x1e⟩ := hI.2.2.2
  refine zw_getI (nI x1p) 4 f75_1 rfl g75_161_10 (hb_22 _ _ _ _) rfl x1e ?_
  refine zw_bipush 8 6 f75_4 rfl (by decide +kernel) ?_
  refine zw_ic_ge 9 39 f75_6 (by decide +kernel) rfl (fun hc2 => ?_) (fun hc2 => ?_)
  · have hn_hc2 : 8 ≤ x1p := zn_ge (by omega) (by omega) hc2
    refine zw_vreturn f75_39 r75 u75 ?_
    exact ⟨_, _, _, _, rfl, KP.rf, hI, rfl⟩
  · have hn_hc2 : x1p < 8 := zn_lt (by omega) (by omega) hc2
    refine zw_aload_n 10 f75_9 rfl rfl ?_
    refine zw_getfield 13 f75_10 rfl g75_31_10 (hb_22 _ _ _ _) rfl ?_
    refine zw_aload_n 14 f75_13 rfl rfl ?_
    refine zw_getI (nI x1p) 17 f75_14 rfl g75_161_10 (hb_22 _ _ _ _) rfl x1e ?_
    refine zw_iload_n 18 f75_17 rfl rfl ?_
    refine zw_ast x1p _ 19 f75_18 rfl (hb_31 _ _ _ _) (nI_clamp (by omega)) (nI_pos (by omega)) (by omega) (ha_31 _ _ _ _ _) ?_
    refine zw_aload_n 20 f75_19 rfl rfl ?_
    refine zw_getfield 23 f75_20 rfl g75_34_10 (hb_22 _ _ _ _) rfl ?_
    refine zw_aload_n 24 f75_23 rfl rfl ?_
    refine zw_getI (nI x1p) 27 f75_24 rfl g75_161_10 (hb_22 _ _ _ _) rfl x1e ?_
    refine zw_iload_n 28 f75_27 rfl rfl ?_
    refine zw_ast x1p _ 29 f75_28 rfl (hb_32 _ _ _ _) (nI_clamp (by omega)) (nI_pos (by omega)) (by omega) (ha_32 _ _ _ _ _) ?_
    refine zw_aload_n 30 f75_29 rfl rfl ?_
    refine zw_dup 31 f75_30 rfl rfl ?_
    refine zw_getI (nI x1p) 34 f75_31 rfl g75_161_10 (hb_22 _ _ _ _) rfl x1e ?_
    refine zw_iconst 1 35 f75_34 rfl (by decide +kernel) ?_
    refine zw_iadd (nI (x1p + 1)) 36 f75_35 rfl (nI_1 _) ?_
    refine zw_put _ 39 f75_36 rfl g75_161_10 (hb_22 _ _ _ _) rfl (Nat.le_of_ble_eq_true rfl) (by decide +kernel) (hi_22_12 _ _ _ _ _) ?_
    refine zw_vreturn f75_39 r75 u75 ?_
    exact ⟨_, _, _, _, rfl, (KP.i rfl (KP.a rfl (KP.a rfl KP.rf))), (show CI nv np _ from ⟨hI.1, hI.2.1, hI.2.2.1, ⟨(x1p + 1), (by omega), rfl⟩⟩), rfl⟩
set_option maxRecDepth 100000 in
set_option maxHeartbeats 0 in
theorem lck_X10_pourTo_22_9 (ro : UInt32 → Nat × (Nat → Int32)) (nv np : Nat) (I : Nat → Nat → Int32) (G : Nat → Nat → Int64) (A : Nat → Nat → Int32) (B : Nat → Nat → Int64) (hI : CI nv np I) (a : Int32) (b : Int64) : ∀ (n k : Nat) (ls : List (Nat × Value)) (I1 : Nat → Nat → Int32) (G1 : Nat → Nat → Int64) (A1 : Nat → Nat → Int32) (B1 : Nat → Nat → Int64), KP pW I G A B I1 G1 A1 B1 → CI nv np I1 → ∀ (y4 : Int32) (y5 : Int64), True → zld ls 0 = some (.ref 22) → zld ls 1 = some (.int a) → zld ls 2 = some (.long b) → zld ls 4 = some (.int y4) → zld ls 5 = some (.long y5) → zld ls 7 = some (.int (nI k)) → k ≤ 8 → 8 + 1 ≤ k + n → zWp ro 72 9 ls [] (hS I1 G1 A1 B1) 0 0 (zWk pW nv np I G A B zRt0) := by
  have hnv := hI.1.2
  have hnp := hI.2.1.2
  intro n
  induction n with
  | zero =>
    intro k ls I1 G1 A1 B1 K hJ y4 y5 _ hl0 hl1 hl2 hl4 hl5 hl7 h1 h2
    exact absurd h2 (by omega)
  | succ n ih =>
    intro k ls I1 G1 A1 B1 K hJ y4 y5 _ hl0 hl1 hl2 hl4 hl5 hl7 hk1 hk2
    refine zw_iload 11 f72_9 rfl hl7 ?_
    refine zw_bipush 8 13 f72_11 rfl (by decide +kernel) ?_
    refine zw_ic_ge 16 112 f72_13 (by decide +kernel) rfl (fun hc1 => ?_) (fun hc1 => ?_)
    · have hn_hc1 : 8 ≤ k := zn_ge (by omega) (by omega) hc1
      refine zw_aload_n 113 f72_112 rfl hl0 ?_
      refine zw_getfield 116 f72_113 rfl g72_12_10 (hb_22 _ _ _ _) rfl ?_
      refine zw_dup 117 f72_116 rfl rfl ?_
      refine zx_getG 120 f72_117 rfl g72_180_9 (hb_23 _ _ _ _) rfl (fun w2 hw2 => ?_)
      refine zw_lload 122 f72_120 rfl hl5 ?_
      refine zx_ladd 123 f72_122 rfl (fun w3 hw3 => ?_)
      refine zw_put _ 126 f72_123 rfl g72_180_9 (hb_23 _ _ _ _) rfl (Nat.le_of_ble_eq_true rfl) (by decide +kernel) (hg_23_3 _ _ _ _ _) ?_
      refine zw_vreturn f72_126 r72 u72 ?_
      exact ⟨_, _, _, _, rfl, (KP.g rfl K), hJ, rfl⟩
    · have hn_hc1 : k < 8 := zn_lt (by omega) (by omega) hc1
      refine zw_lload 18 f72_16 rfl hl5 ?_
      refine zw_lconst 0 19 f72_18 rfl (by decide +kernel) ?_
      refine zx_lcmp 20 f72_19 rfl (fun w4 hw4 => ?_)
      refine zw_if_le 23 112 f72_20 (by decide +kernel) rfl (fun hc5 => ?_) (fun hc5 => ?_)
      · refine zw_aload_n 113 f72_112 rfl hl0 ?_
        refine zw_getfield 116 f72_113 rfl g72_12_10 (hb_22 _ _ _ _) rfl ?_
        refine zw_dup 117 f72_116 rfl rfl ?_
        refine zx_getG 120 f72_117 rfl g72_180_9 (hb_23 _ _ _ _) rfl (fun w6 hw6 => ?_)
        refine zw_lload 122 f72_120 rfl hl5 ?_
        refine zx_ladd 123 f72_122 rfl (fun w7 hw7 => ?_)
        refine zw_put _ 126 f72_123 rfl g72_180_9 (hb_23 _ _ _ _) rfl (Nat.le_of_ble_eq_true rfl) (by decide +kernel) (hg_23_3 _ _ _ _ _) ?_
        refine zw_vreturn f72_126 r72 u72 ?_
        exact ⟨_, _, _, _, rfl, (KP.g rfl K), hJ, rfl⟩
      · refine zw_aload_n 24 f72_23 rfl hl0 ?_
        refine zw_getfield 27 f72_24 rfl g72_37_10 (hb_22 _ _ _ _) rfl ?_
        refine zw_iload 29 f72_27 rfl hl4 ?_
        refine zw_virtual_i 32 0 0 [.ref 1, .int y4] [(0, .ref 1), (1, .int y4)] f72_29 rfl n72_103 k72_103_4 rfl (hb_1 _ _ _ _) (by decide +kernel) (Nat.le_of_ble_eq_true rfl) rfl rfl (by decide +kernel) (by decide +kernel) rfl (Nat.le_of_ble_eq_true rfl) rfl ?_
        refine zw_iload_n 1 f13_0 rfl rfl ?_
        refine zw_if_lt 4 22 f13_1 (by decide +kernel) rfl (fun hc8 => ?_) (fun hc8 => ?_)
        · refine zw_iconst 0 23 f13_22 rfl (by decide +kernel) ?_
          refine zw_zreturn f13_23 r13 u13 (by decide +kernel) ⟨_, rfl, ?_⟩
          refine zw_if_eq_t 112 f72_32 (by decide +kernel) (by decide +kernel) ?_
          refine zw_aload_n 113 f72_112 rfl hl0 ?_
          refine zw_getfield 116 f72_113 rfl g72_12_10 (hb_22 _ _ _ _) rfl ?_
          refine zw_dup 117 f72_116 rfl rfl ?_
          refine zx_getG 120 f72_117 rfl g72_180_9 (hb_23 _ _ _ _) rfl (fun w9 hw9 => ?_)
          refine zw_lload 122 f72_120 rfl hl5 ?_
          refine zx_ladd 123 f72_122 rfl (fun w10 hw10 => ?_)
          refine zw_put _ 126 f72_123 rfl g72_180_9 (hb_23 _ _ _ _) rfl (Nat.le_of_ble_eq_true rfl) (by decide +kernel) (hg_23_3 _ _ _ _ _) ?_
          refine zw_vreturn f72_126 r72 u72 ?_
          exact ⟨_, _, _, _, rfl, (KP.g rfl K), hJ, rfl⟩
        · refine zw_iload_n 5 f13_4 rfl rfl ?_
          refine zw_aload_n 6 f13_5 rfl rfl ?_
          refine zw_getI (nI nv) 9 f13_6 rfl g13_39_4 (hb_1 _ _ _ _) rfl hJ.1.1 ?_
          refine zw_ic_ge 12 22 f13_9 (by decide +kernel) rfl (fun hc11 => ?_) (fun hc11 => ?_)
          · refine zw_iconst 0 23 f13_22 rfl (by decide +kernel) ?_
            refine zw_zreturn f13_23 r13 u13 (by decide +kernel) ⟨_, rfl, ?_⟩
            refine zw_if_eq_t 112 f72_32 (by decide +kernel) (by decide +kernel) ?_
            refine zw_aload_n 113 f72_112 rfl hl0 ?_
            refine zw_getfield 116 f72_113 rfl g72_12_10 (hb_22 _ _ _ _) rfl ?_
            refine zw_dup 117 f72_116 rfl rfl ?_
            refine zx_getG 120 f72_117 rfl g72_180_9 (hb_23 _ _ _ _) rfl (fun w12 hw12 => ?_)
            refine zw_lload 122 f72_120 rfl hl5 ?_
            refine zx_ladd 123 f72_122 rfl (fun w13 hw13 => ?_)
            refine zw_put _ 126 f72_123 rfl g72_180_9 (hb_23 _ _ _ _) rfl (Nat.le_of_ble_eq_true rfl) (by decide +kernel) (hg_23_3 _ _ _ _ _) ?_
            refine zw_vreturn f72_126 r72 u72 ?_
            exact ⟨_, _, _, _, rfl, (KP.g rfl K), hJ, rfl⟩
          · refine zw_iload_n 13 f13_12 rfl rfl ?_
            refine zw_bipush 8 15 f13_13 rfl (by decide +kernel) ?_
            refine zw_ic_ge 18 22 f13_15 (by decide +kernel) rfl (fun hc14 => ?_) (fun hc14 => ?_)
            · refine zw_iconst 0 23 f13_22 rfl (by decide +kernel) ?_
              refine zw_zreturn f13_23 r13 u13 (by decide +kernel) ⟨_, rfl, ?_⟩
              refine zw_if_eq_t 112 f72_32 (by decide +kernel) (by decide +kernel) ?_
              refine zw_aload_n 113 f72_112 rfl hl0 ?_
              refine zw_getfield 116 f72_113 rfl g72_12_10 (hb_22 _ _ _ _) rfl ?_
              refine zw_dup 117 f72_116 rfl rfl ?_
              refine zx_getG 120 f72_117 rfl g72_180_9 (hb_23 _ _ _ _) rfl (fun w15 hw15 => ?_)
              refine zw_lload 122 f72_120 rfl hl5 ?_
              refine zx_ladd 123 f72_122 rfl (fun w16 hw16 => ?_)
              refine zw_put _ 126 f72_123 rfl g72_180_9 (hb_23 _ _ _ _) rfl (Nat.le_of_ble_eq_true rfl) (by decide +kernel) (hg_23_3 _ _ _ _ _) ?_
              refine zw_vreturn f72_126 r72 u72 ?_
              exact ⟨_, _, _, _, rfl, (KP.g rfl K), hJ, rfl⟩
            · refine zw_iconst 1 19 f13_18 rfl (by decide +kernel) ?_
              refine zw_goto 23 f13_19 (by decide +kernel) ?_
              refine zw_zreturn f13_23 r13 u13 (by decide +kernel) ⟨_, rfl, ?_⟩
              refine zw_if_eq_f 35 112 f72_32 (by decide +kernel) rfl (by decide +kernel) ?_
              refine zw_lload 37 f72_35 rfl hl5 ?_
              refine zw_aload_n 38 f72_37 rfl hl0 ?_
              refine zw_getfield 41 f72_38 rfl g72_37_10 (hb_22 _ _ _ _) rfl ?_
              refine zw_getfield 44 f72_41 rfl g72_106_4 (hb_1 _ _ _ _) rfl ?_
              refine zw_iload 46 f72_44 rfl hl4 ?_
              refine zx_iaload y4.toNatClampNeg 47 f72_46 rfl (hb_3 _ _ _ _) rfl hc8 (zix (by decide) hc8 hc14) (fun w17 hw17 => ?_)
              refine zx_i2l 48 f72_47 rfl (fun w18 hw18 => ?_)
              refine zw_aload_n 49 f72_48 rfl hl0 ?_
              refine zw_getfield 52 f72_49 rfl g72_12_10 (hb_22 _ _ _ _) rfl ?_
              refine zx_getG 55 f72_52 rfl g72_109_9 (hb_23 _ _ _ _) rfl (fun w19 hw19 => ?_)
              refine zx_lmul 56 f72_55 rfl (fun w20 hw20 => ?_)
              refine zw_aload_n 57 f72_56 rfl hl0 ?_
              refine zw_getfield 60 f72_57 rfl g72_12_10 (hb_22 _ _ _ _) rfl ?_
              refine zw_getfield 63 f72_60 rfl g72_87_9 (hb_23 _ _ _ _) rfl ?_
              refine zw_iload 65 f72_63 rfl hl4 ?_
              refine zx_laload y4.toNatClampNeg 66 f72_65 rfl (hb_24 _ _ _ _) rfl hc8 (zix (by decide) hc8 hc14) (fun w21 hw21 => ?_)
              refine zx_lsub 67 f72_66 rfl (fun w22 hw22 => ?_)
              refine zw_static_l 70 0 0 [.long y5, .long w22] [] [(0, .long y5), (2, .long w22)] f72_67 rfl k72_206_99 rfl (by decide +kernel) (Nat.le_of_ble_eq_true rfl) (Nat.le_of_ble_eq_true rfl) rfl rfl (by decide +kernel) (by decide +kernel) rfl (Nat.le_of_ble_eq_true rfl) rfl ?_
              refine zWp.mono (cp_J9_min_f86c9 ro nv np I1 _ _ _ hJ y5 w22) ?_
              rintro r h1 ⟨rfl, ⟨w23, rfl⟩⟩
              refine ⟨_, rfl, ?_⟩
              refine zw_lstore _ 72 f72_70 rfl (by decide +kernel) rfl ?_
              refine zw_aload_n 73 f72_72 rfl (zl2_ne rfl rfl hl0) ?_
              refine zw_getfield 76 f72_73 rfl g72_12_10 (hb_22 _ _ _ _) rfl ?_
              refine zw_getfield 79 f72_76 rfl g72_87_9 (hb_23 _ _ _ _) rfl ?_
              refine zw_iload 81 f72_79 rfl (zl2_ne rfl rfl hl4) ?_
              refine zw_dup2 82 f72_81 rfl rfl rfl ?_
              refine zx_laload y4.toNatClampNeg 83 f72_82 rfl (hb_24 _ _ _ _) rfl hc8 (zix (by decide) hc8 hc14) (fun w24 hw24 => ?_)
              refine zw_lload 85 f72_83 rfl zl2_eq ?_
              refine zx_ladd 86 f72_85 rfl (fun w25 hw25 => ?_)
              refine zw_lst y4.toNatClampNeg _ 87 f72_86 rfl (hb_24 _ _ _ _) rfl hc8 (zix (by decide) hc8 hc14) (ha_24 _ _ _ _ _) ?_
              refine zw_lload 89 f72_87 rfl (zl2_ne rfl rfl hl5) ?_
              refine zw_lload 91 f72_89 rfl zl2_eq ?_
              refine zx_lsub 92 f72_91 rfl (fun w26 hw26 => ?_)
              refine zw_lstore _ 94 f72_92 rfl (by decide +kernel) rfl ?_
              refine zw_aload_n 95 f72_94 rfl (zl2_ne rfl rfl (zl2_ne rfl rfl hl0)) ?_
              refine zw_getfield 98 f72_95 rfl g72_37_10 (hb_22 _ _ _ _) rfl ?_
              refine zw_getfield 101 f72_98 rfl g72_100_4 (hb_1 _ _ _ _) rfl ?_
              refine zw_iload 103 f72_101 rfl (zl2_ne rfl rfl (zl2_ne rfl rfl hl4)) ?_
              refine zx_iaload y4.toNatClampNeg 104 f72_103 rfl (hb_8 _ _ _ _) rfl hc8 (zix (by decide) hc8 hc14) (fun w27 hw27 => ?_)
              refine zw_istore _ 106 f72_104 rfl (by decide +kernel) rfl ?_
              refine zw_iinc (nI (k + 1)) _ 109 f72_106 rfl (zl1_ne rfl rfl (zl2_ne rfl rfl (zl2_ne rfl rfl hl7))) (by decide +kernel) (nI_1 _) rfl ?_
              refine zw_goto 9 f72_109 (by decide +kernel) ?_
              exact ih ((k + 1)) _ _ _ _ _ (KP.b rfl K) hJ w27 w26 trivial  (zl1_ne rfl rfl (zl1_ne rfl rfl (zl2_ne rfl rfl (zl2_ne rfl rfl hl0)))) (zl1_ne rfl rfl (zl1_ne rfl rfl (zl2_ne rfl rfl (zl2_ne rfl rfl hl1)))) (zl1_ne rfl rfl (zl1_ne rfl rfl (zl2_ne rfl rfl (zl2_ne rfl rfl hl2)))) (zl1_ne rfl rfl zl1_eq) (zl1_ne rfl rfl (zl1_ne rfl rfl zl2_eq)) zl1_eq (by omega) (by omega)
set_option maxRecDepth 100000 in
set_option maxHeartbeats 0 in
theorem ck_X10_pourTo_22 (ro : UInt32 → Nat × (Nat → Int32)) (nv np : Nat) (I : Nat → Nat → Int32) (G : Nat → Nat → Int64) (A : Nat → Nat → Int32) (B : Nat → Nat → Int64) (hI : CI nv np I) (a : Int32) (b : Int64) : zWp ro 72 0 [(0, .ref 22), (1, .int a), (2, .long b)] [] (hS I G A B) 0 0 (zWk pW nv np I G A B zRt0) := by
  have hnv := hI.1.2
  have hnp := hI.2.1.2
  refine zw_iload_n 1 f72_0 rfl rfl ?_
  refine zw_istore _ 3 f72_1 rfl (by decide +kernel) rfl ?_
  refine zw_lload_n 4 f72_3 rfl (zl1_ne rfl rfl rfl) ?_
  refine zw_lstore _ 6 f72_4 rfl (by decide +kernel) rfl ?_
  refine zw_iconst 0 7 f72_6 rfl (by decide +kernel) ?_
  refine zw_istore _ 9 f72_7 rfl (by decide +kernel) rfl ?_
  exact lck_X10_pourTo_22_9 ro nv np I G A B hI a b (8 + 1) 0 _ _ _ _ _ KP.rf hI a b trivial  (zl1_ne rfl rfl (zl2_ne rfl rfl (zl1_ne rfl rfl rfl))) (zl1_ne rfl rfl (zl2_ne rfl rfl (zl1_ne rfl rfl rfl))) (zl1_ne rfl rfl (zl2_ne rfl rfl (zl1_ne rfl rfl rfl))) (zl1_ne rfl rfl (zl2_ne rfl rfl zl1_eq)) (zl1_ne rfl rfl zl2_eq) (show zld _ _ = some (.int (nI 0)) from zl1_eq) (by omega) (by omega)
set_option maxRecDepth 100000 in
set_option maxHeartbeats 0 in
theorem ck_X10_tip_22 (ro : UInt32 → Nat × (Nat → Int32)) (nv np : Nat) (I : Nat → Nat → Int32) (G : Nat → Nat → Int64) (A : Nat → Nat → Int32) (B : Nat → Nat → Int64) (hI : CI nv np I) (a : Nat) (ha : a < 8) : zWp ro 71 0 [(0, .ref 22), (1, .int (nI a))] [] (hS I G A B) 0 0 (zWk pW nv np I G A B zRt0) := by
  have hnv := hI.1.2
  have hnp := hI.2.1.2
  refine zw_aload_n 1 f71_0 rfl rfl ?_
  refine zw_getfield 4 f71_1 rfl g71_12_10 (hb_22 _ _ _ _) rfl ?_
  refine zw_getfield 7 f71_4 rfl g71_87_9 (hb_23 _ _ _ _) rfl ?_
  refine zw_iload_n 8 f71_7 rfl rfl ?_
  refine zx_laload a 9 f71_8 rfl (hb_24 _ _ _ _) (nI_clamp (by omega)) (nI_pos (by omega)) (by omega) (fun w1 hw1 => ?_)
  refine zw_lstore_n _ 10 f71_9 rfl (by decide +kernel) rfl ?_
  refine zw_aload_n 11 f71_10 rfl (zl2_ne rfl rfl rfl) ?_
  refine zw_getfield 14 f71_11 rfl g71_12_10 (hb_22 _ _ _ _) rfl ?_
  refine zw_getfield 17 f71_14 rfl g71_87_9 (hb_23 _ _ _ _) rfl ?_
  refine zw_iload_n 18 f71_17 rfl (zl2_ne rfl rfl rfl) ?_
  refine zw_lconst 0 19 f71_18 rfl (by decide +kernel) ?_
  refine zw_lst a _ 20 f71_19 rfl (hb_24 _ _ _ _) (nI_clamp (by omega)) (nI_pos (by omega)) (by omega) (ha_24 _ _ _ _ _) ?_
  refine zw_aload_n 21 f71_20 rfl (zl2_ne rfl rfl rfl) ?_
  refine zw_aload_n 22 f71_21 rfl (zl2_ne rfl rfl rfl) ?_
  refine zw_getfield 25 f71_22 rfl g71_37_10 (hb_22 _ _ _ _) rfl ?_
  refine zw_getfield 28 f71_25 rfl g71_196_4 (hb_1 _ _ _ _) rfl ?_
  refine zw_iload_n 29 f71_28 rfl (zl2_ne rfl rfl rfl) ?_
  refine zx_iaload a 30 f71_29 rfl (hb_7 _ _ _ _) (nI_clamp (by omega)) (nI_pos (by omega)) (by omega) (fun w2 hw2 => ?_)
  refine zw_lload_n 31 f71_30 rfl zl2_eq ?_
  refine zw_virtual_v 34 0 0 [.ref 22, .int w2, .long w1] [(0, .ref 22), (1, .int w2), (2, .long w1)] f71_31 rfl n71_199 k71_199_10 rfl (hb_22 _ _ _ _) (by decide +kernel) (Nat.le_of_ble_eq_true rfl) rfl rfl (by decide +kernel) (by decide +kernel) rfl (Nat.le_of_ble_eq_true rfl) rfl ?_
  refine zWp.mono (ck_X10_pourTo_22 ro nv np I _ _ _ hI w2 w1) ?_
  rintro r h1 ⟨I_4, G_4, A_4, B_4, rfl, K_4, hI_4, rfl⟩
  refine ⟨rfl, ?_⟩
  have K_4 := KP.tr (KP.b rfl KP.rf) K_4
  refine zw_aload_n 35 f71_34 rfl (zl2_ne rfl rfl rfl) ?_
  refine zw_iconst 1 36 f71_35 rfl (by decide +kernel) ?_
  refine zw_iload_n 37 f71_36 rfl (zl2_ne rfl rfl rfl) ?_
  refine zw_virtual_v 40 0 0 [.ref 22, .int 1, .int (nI a)] [(0, .ref 22), (1, .int 1), (2, .int (nI a))] f71_37 rfl n71_203 k71_203_10 rfl (hb_22 _ _ _ _) (by decide +kernel) (Nat.le_of_ble_eq_true rfl) rfl rfl (by decide +kernel) (by decide +kernel) rfl (Nat.le_of_ble_eq_true rfl) rfl ?_
  refine zWp.mono (ck_X10_happen_22 ro nv np I_4 _ _ _ hI_4 1 (nI a)) ?_
  rintro r h1 ⟨I_6, G_6, A_6, B_6, rfl, K_6, hI_6, rfl⟩
  refine ⟨rfl, ?_⟩
  have K_6 := KP.tr K_4 K_6
  refine zw_vreturn f71_40 r71 u71 ?_
  exact ⟨_, _, _, _, rfl, K_6, hI_6, rfl⟩
set_option maxRecDepth 100000 in
set_option maxHeartbeats 0 in
theorem ck_X10_settleSiphon_22 (ro : UInt32 → Nat × (Nat → Int32)) (nv np : Nat) (I : Nat → Nat → Int32) (G : Nat → Nat → Int64) (A : Nat → Nat → Int32) (B : Nat → Nat → Int64) (hI : CI nv np I) (a : Nat) (ha : a < 8) : zWp ro 73 0 [(0, .ref 22), (1, .int (nI a))] [] (hS I G A B) 0 0 (zWk pW nv np I G A B zRt0) := by
  have hnv := hI.1.2
  have hnp := hI.2.1.2
  refine zw_aload_n 1 f73_0 rfl rfl ?_
  refine zw_getfield 4 f73_1 rfl g73_12_10 (hb_22 _ _ _ _) rfl ?_
  refine zw_iload_n 5 f73_4 rfl rfl ?_
  refine zw_virtual_i 8 0 0 [.ref 23, .int (nI a)] [(0, .ref 23), (1, .int (nI a))] f73_5 rfl n73_51 k73_51_9 rfl (hb_23 _ _ _ _) (by decide +kernel) (Nat.le_of_ble_eq_true rfl) rfl rfl (by decide +kernel) (by decide +kernel) rfl (Nat.le_of_ble_eq_true rfl) rfl ?_
  refine zWp.mono (cp_X9_isSiphoning_23 ro nv np I _ _ _ hI (nI a)) ?_
  rintro r h1 ⟨rfl, ⟨w1, rfl, hw1⟩⟩
  refine ⟨_, rfl, ?_⟩
  refine zw_if_ne 11 60 f73_8 (by decide +kernel) rfl (fun hc2 => ?_) (fun hc2 => ?_)
  · refine zw_aload_n 61 f73_60 rfl rfl ?_
    refine zw_getfield 64 f73_61 rfl g73_12_10 (hb_22 _ _ _ _) rfl ?_
    refine zw_getfield 67 f73_64 rfl g73_87_9 (hb_23 _ _ _ _) rfl ?_
    refine zw_iload_n 68 f73_67 rfl rfl ?_
    refine zx_laload a 69 f73_68 rfl (hb_24 _ _ _ _) (nI_clamp (by omega)) (nI_pos (by omega)) (by omega) (fun w3 hw3 => ?_)
    refine zw_lconst 0 70 f73_69 rfl (by decide +kernel) ?_
    refine zx_lcmp 71 f73_70 rfl (fun w4 hw4 => ?_)
    refine zw_if_ne 74 89 f73_71 (by decide +kernel) rfl (fun hc5 => ?_) (fun hc5 => ?_)
    · refine zw_vreturn f73_89 r73 u73 ?_
      exact ⟨_, _, _, _, rfl, KP.rf, hI, rfl⟩
    · refine zw_aload_n 75 f73_74 rfl rfl ?_
      refine zw_getfield 78 f73_75 rfl g73_12_10 (hb_22 _ _ _ _) rfl ?_
      refine zw_iload_n 79 f73_78 rfl rfl ?_
      refine zw_iconst 0 80 f73_79 rfl (by decide +kernel) ?_
      refine zw_virtual_v 83 0 0 [.ref 23, .int (nI a), .int 0] [(0, .ref 23), (1, .int (nI a)), (2, .int 0)] f73_80 rfl n73_208 k73_208_9 rfl (hb_23 _ _ _ _) (by decide +kernel) (Nat.le_of_ble_eq_true rfl) rfl rfl (by decide +kernel) (by decide +kernel) rfl (Nat.le_of_ble_eq_true rfl) rfl ?_
      refine zWp.mono (ck_X9_setSiphoning_23 ro nv np I _ _ _ hI (nI a) 0) ?_
      rintro r h1 ⟨I_7, G_7, A_7, B_7, rfl, K_7, hI_7, rfl⟩
      refine ⟨rfl, ?_⟩
      have K_7 := KP.tr KP.rf K_7
      refine zw_aload_n 84 f73_83 rfl rfl ?_
      refine zw_iconst 3 85 f73_84 rfl (by decide +kernel) ?_
      refine zw_iload_n 86 f73_85 rfl rfl ?_
      refine zw_virtual_v 89 0 0 [.ref 22, .int 3, .int (nI a)] [(0, .ref 22), (1, .int 3), (2, .int (nI a))] f73_86 rfl n73_203 k73_203_10 rfl (hb_22 _ _ _ _) (by decide +kernel) (Nat.le_of_ble_eq_true rfl) rfl rfl (by decide +kernel) (by decide +kernel) rfl (Nat.le_of_ble_eq_true rfl) rfl ?_
      refine zWp.mono (ck_X10_happen_22 ro nv np I_7 _ _ _ hI_7 3 (nI a)) ?_
      rintro r h1 ⟨I_9, G_9, A_9, B_9, rfl, K_9, hI_9, rfl⟩
      refine ⟨rfl, ?_⟩
      have K_9 := KP.tr K_7 K_9
      refine zw_vreturn f73_89 r73 u73 ?_
      exact ⟨_, _, _, _, rfl, K_9, hI_9, rfl⟩
  · refine zw_aload_n 12 f73_11 rfl rfl ?_
    refine zw_getfield 15 f73_12 rfl g73_12_10 (hb_22 _ _ _ _) rfl ?_
    refine zw_getfield 18 f73_15 rfl g73_87_9 (hb_23 _ _ _ _) rfl ?_
    refine zw_iload_n 19 f73_18 rfl rfl ?_
    refine zx_laload a 20 f73_19 rfl (hb_24 _ _ _ _) (nI_clamp (by omega)) (nI_pos (by omega)) (by omega) (fun w10 hw10 => ?_)
    refine zw_aload_n 21 f73_20 rfl rfl ?_
    refine zw_getfield 24 f73_21 rfl g73_37_10 (hb_22 _ _ _ _) rfl ?_
    refine zw_getfield 27 f73_24 rfl g73_139_4 (hb_1 _ _ _ _) rfl ?_
    refine zw_iload_n 28 f73_27 rfl rfl ?_
    refine zx_iaload a 29 f73_28 rfl (hb_4 _ _ _ _) (nI_clamp (by omega)) (nI_pos (by omega)) (by omega) (fun w11 hw11 => ?_)
    refine zx_i2l 30 f73_29 rfl (fun w12 hw12 => ?_)
    refine zw_aload_n 31 f73_30 rfl rfl ?_
    refine zw_getfield 34 f73_31 rfl g73_12_10 (hb_22 _ _ _ _) rfl ?_
    refine zx_getG 37 f73_34 rfl g73_109_9 (hb_23 _ _ _ _) rfl (fun w13 hw13 => ?_)
    refine zx_lmul 38 f73_37 rfl (fun w14 hw14 => ?_)
    refine zx_lcmp 39 f73_38 rfl (fun w15 hw15 => ?_)
    refine zw_if_lt 42 89 f73_39 (by decide +kernel) rfl (fun hc16 => ?_) (fun hc16 => ?_)
    · refine zw_vreturn f73_89 r73 u73 ?_
      exact ⟨_, _, _, _, rfl, KP.rf, hI, rfl⟩
    · refine zw_aload_n 43 f73_42 rfl rfl ?_
      refine zw_getfield 46 f73_43 rfl g73_12_10 (hb_22 _ _ _ _) rfl ?_
      refine zw_iload_n 47 f73_46 rfl rfl ?_
      refine zw_iconst 1 48 f73_47 rfl (by decide +kernel) ?_
      refine zw_virtual_v 51 0 0 [.ref 23, .int (nI a), .int 1] [(0, .ref 23), (1, .int (nI a)), (2, .int 1)] f73_48 rfl n73_208 k73_208_9 rfl (hb_23 _ _ _ _) (by decide +kernel) (Nat.le_of_ble_eq_true rfl) rfl rfl (by decide +kernel) (by decide +kernel) rfl (Nat.le_of_ble_eq_true rfl) rfl ?_
      refine zWp.mono (ck_X9_setSiphoning_23 ro nv np I _ _ _ hI (nI a) 1) ?_
      rintro r h1 ⟨I_18, G_18, A_18, B_18, rfl, K_18, hI_18, rfl⟩
      refine ⟨rfl, ?_⟩
      have K_18 := KP.tr KP.rf K_18
      refine zw_aload_n 52 f73_51 rfl rfl ?_
      refine zw_iconst 2 53 f73_52 rfl (by decide +kernel) ?_
      refine zw_iload_n 54 f73_53 rfl rfl ?_
      refine zw_virtual_v 57 0 0 [.ref 22, .int 2, .int (nI a)] [(0, .ref 22), (1, .int 2), (2, .int (nI a))] f73_54 rfl n73_203 k73_203_10 rfl (hb_22 _ _ _ _) (by decide +kernel) (Nat.le_of_ble_eq_true rfl) rfl rfl (by decide +kernel) (by decide +kernel) rfl (Nat.le_of_ble_eq_true rfl) rfl ?_
      refine zWp.mono (ck_X10_happen_22 ro nv np I_18 _ _ _ hI_18 2 (nI a)) ?_
      rintro r h1 ⟨I_20, G_20, A_20, B_20, rfl, K_20, hI_20, rfl⟩
      refine ⟨rfl, ?_⟩
      have K_20 := KP.tr K_18 K_20
      refine zw_goto 89 f73_57 (by decide +kernel) ?_
      refine zw_vreturn f73_89 r73 u73 ?_
      exact ⟨_, _, _, _, rfl, K_20, hI_20, rfl⟩
set_option maxRecDepth 100000 in
set_option maxHeartbeats 0 in
theorem ck_X10_settleFloat_22 (ro : UInt32 → Nat × (Nat → Int32)) (nv np : Nat) (I : Nat → Nat → Int32) (G : Nat → Nat → Int64) (A : Nat → Nat → Int32) (B : Nat → Nat → Int64) (hI : CI nv np I) (a : Nat) (ha : a < 8) : zWp ro 74 0 [(0, .ref 22), (1, .int (nI a))] [] (hS I G A B) 0 0 (zWk pW nv np I G A B zRt0) := by
  have hnv := hI.1.2
  have hnp := hI.2.1.2
  refine zw_aload_n 1 f74_0 rfl rfl ?_
  refine zw_iload_n 2 f74_1 rfl rfl ?_
  refine zw_iconst 1 3 f74_2 rfl (by decide +kernel) ?_
  refine zw_virtual_i 6 0 0 [.ref 22, .int (nI a), .int 1] [(0, .ref 22), (1, .int (nI a)), (2, .int 1)] f74_3 rfl n74_135 k74_135_10 rfl (hb_22 _ _ _ _) (by decide +kernel) (Nat.le_of_ble_eq_true rfl) rfl rfl (by decide +kernel) (by decide +kernel) rfl (Nat.le_of_ble_eq_true rfl) rfl ?_
  refine zWp.mono (cp_X10_ownIs_22 ro nv np I _ _ _ hI a (by omega) 1) ?_
  rintro r h1 ⟨rfl, ⟨w1, rfl, hw1⟩⟩
  refine ⟨_, rfl, ?_⟩
  refine zw_if_eq 9 79 f74_6 (by decide +kernel) rfl (fun hc2 => ?_) (fun hc2 => ?_)
  · refine zw_aload_n 80 f74_79 rfl rfl ?_
    refine zw_iload_n 81 f74_80 rfl rfl ?_
    refine zw_iconst 0 82 f74_81 rfl (by decide +kernel) ?_
    refine zw_virtual_i 85 0 0 [.ref 22, .int (nI a), .int 0] [(0, .ref 22), (1, .int (nI a)), (2, .int 0)] f74_82 rfl n74_135 k74_135_10 rfl (hb_22 _ _ _ _) (by decide +kernel) (Nat.le_of_ble_eq_true rfl) rfl rfl (by decide +kernel) (by decide +kernel) rfl (Nat.le_of_ble_eq_true rfl) rfl ?_
    refine zWp.mono (cp_X10_ownIs_22 ro nv np I _ _ _ hI a (by omega) 0) ?_
    rintro r h1 ⟨rfl, ⟨w3, rfl, hw3⟩⟩
    refine ⟨_, rfl, ?_⟩
    refine zw_if_eq 88 142 f74_85 (by decide +kernel) rfl (fun hc4 => ?_) (fun hc4 => ?_)
    · refine zw_vreturn f74_142 r74 u74 ?_
      exact ⟨_, _, _, _, rfl, KP.rf, hI, rfl⟩
    · refine zw_aload_n 89 f74_88 rfl rfl ?_
      refine zw_getfield 92 f74_89 rfl g74_12_10 (hb_22 _ _ _ _) rfl ?_
      refine zw_getfield 95 f74_92 rfl g74_87_9 (hb_23 _ _ _ _) rfl ?_
      refine zw_iload_n 96 f74_95 rfl rfl ?_
      refine zx_laload a 97 f74_96 rfl (hb_24 _ _ _ _) (nI_clamp (by omega)) (nI_pos (by omega)) (by omega) (fun w5 hw5 => ?_)
      refine zw_aload_n 98 f74_97 rfl rfl ?_
      refine zw_getfield 101 f74_98 rfl g74_37_10 (hb_22 _ _ _ _) rfl ?_
      refine zw_getfield 104 f74_101 rfl g74_142_4 (hb_1 _ _ _ _) rfl ?_
      refine zw_iload_n 105 f74_104 rfl rfl ?_
      refine zx_iaload a 106 f74_105 rfl (hb_5 _ _ _ _) (nI_clamp (by omega)) (nI_pos (by omega)) (by omega) (fun w6 hw6 => ?_)
      refine zx_i2l 107 f74_106 rfl (fun w7 hw7 => ?_)
      refine zw_aload_n 108 f74_107 rfl rfl ?_
      refine zw_getfield 111 f74_108 rfl g74_12_10 (hb_22 _ _ _ _) rfl ?_
      refine zx_getG 114 f74_111 rfl g74_109_9 (hb_23 _ _ _ _) rfl (fun w8 hw8 => ?_)
      refine zx_lmul 115 f74_114 rfl (fun w9 hw9 => ?_)
      refine zx_lcmp 116 f74_115 rfl (fun w10 hw10 => ?_)
      refine zw_if_gt 119 142 f74_116 (by decide +kernel) rfl (fun hc11 => ?_) (fun hc11 => ?_)
      · refine zw_vreturn f74_142 r74 u74 ?_
        exact ⟨_, _, _, _, rfl, KP.rf, hI, rfl⟩
      · refine zw_aload_n 120 f74_119 rfl rfl ?_
        refine zw_getfield 123 f74_120 rfl g74_12_10 (hb_22 _ _ _ _) rfl ?_
        refine zw_aload_n 124 f74_123 rfl rfl ?_
        refine zw_getfield 127 f74_124 rfl g74_37_10 (hb_22 _ _ _ _) rfl ?_
        refine zw_getfield 130 f74_127 rfl g74_148_4 (hb_1 _ _ _ _) rfl ?_
        refine zw_iload_n 131 f74_130 rfl rfl ?_
        refine zx_iaload a 132 f74_131 rfl (hb_6 _ _ _ _) (nI_clamp (by omega)) (nI_pos (by omega)) (by omega) (fun w12 hw12 => ?_)
        refine zw_iconst 1 133 f74_132 rfl (by decide +kernel) ?_
        refine zw_virtual_v 136 0 0 [.ref 23, .int w12, .int 1] [(0, .ref 23), (1, .int w12), (2, .int 1)] f74_133 rfl n74_212 k74_212_9 rfl (hb_23 _ _ _ _) (by decide +kernel) (Nat.le_of_ble_eq_true rfl) rfl rfl (by decide +kernel) (by decide +kernel) rfl (Nat.le_of_ble_eq_true rfl) rfl ?_
        refine zWp.mono (ck_X9_setOpen_23 ro nv np I _ _ _ hI w12 1) ?_
        rintro r h1 ⟨I_14, G_14, A_14, B_14, rfl, K_14, hI_14, rfl⟩
        refine ⟨rfl, ?_⟩
        have K_14 := KP.tr KP.rf K_14
        refine zw_aload_n 137 f74_136 rfl rfl ?_
        refine zw_iconst 5 138 f74_137 rfl (by decide +kernel) ?_
        refine zw_iload_n 139 f74_138 rfl rfl ?_
        refine zw_virtual_v 142 0 0 [.ref 22, .int 5, .int (nI a)] [(0, .ref 22), (1, .int 5), (2, .int (nI a))] f74_139 rfl n74_203 k74_203_10 rfl (hb_22 _ _ _ _) (by decide +kernel) (Nat.le_of_ble_eq_true rfl) rfl rfl (by decide +kernel) (by decide +kernel) rfl (Nat.le_of_ble_eq_true rfl) rfl ?_
        refine zWp.mono (ck_X10_happen_22 ro nv np I_14 _ _ _ hI_14 5 (nI a)) ?_
        rintro r h1 ⟨I_16, G_16, A_16, B_16, rfl, K_16, hI_16, rfl⟩
        refine ⟨rfl, ?_⟩
        have K_16 := KP.tr K_14 K_16
        refine zw_vreturn f74_142 r74 u74 ?_
        exact ⟨_, _, _, _, rfl, K_16, hI_16, rfl⟩
  · refine zw_aload_n 10 f74_9 rfl rfl ?_
    refine zw_getfield 13 f74_10 rfl g74_12_10 (hb_22 _ _ _ _) rfl ?_
    refine zw_getfield 16 f74_13 rfl g74_87_9 (hb_23 _ _ _ _) rfl ?_
    refine zw_iload_n 17 f74_16 rfl rfl ?_
    refine zx_laload a 18 f74_17 rfl (hb_24 _ _ _ _) (nI_clamp (by omega)) (nI_pos (by omega)) (by omega) (fun w17 hw17 => ?_)
    refine zw_aload_n 19 f74_18 rfl rfl ?_
    refine zw_getfield 22 f74_19 rfl g74_37_10 (hb_22 _ _ _ _) rfl ?_
    refine zw_getfield 25 f74_22 rfl g74_139_4 (hb_1 _ _ _ _) rfl ?_
    refine zw_iload_n 26 f74_25 rfl rfl ?_
    refine zx_iaload a 27 f74_26 rfl (hb_4 _ _ _ _) (nI_clamp (by omega)) (nI_pos (by omega)) (by omega) (fun w18 hw18 => ?_)
    refine zx_i2l 28 f74_27 rfl (fun w19 hw19 => ?_)
    refine zw_aload_n 29 f74_28 rfl rfl ?_
    refine zw_getfield 32 f74_29 rfl g74_12_10 (hb_22 _ _ _ _) rfl ?_
    refine zx_getG 35 f74_32 rfl g74_109_9 (hb_23 _ _ _ _) rfl (fun w20 hw20 => ?_)
    refine zx_lmul 36 f74_35 rfl (fun w21 hw21 => ?_)
    refine zx_lcmp 37 f74_36 rfl (fun w22 hw22 => ?_)
    refine zw_if_lt 40 142 f74_37 (by decide +kernel) rfl (fun hc23 => ?_) (fun hc23 => ?_)
    · refine zw_vreturn f74_142 r74 u74 ?_
      exact ⟨_, _, _, _, rfl, KP.rf, hI, rfl⟩
    · refine zw_aload_n 41 f74_40 rfl rfl ?_
      refine zw_getfield 44 f74_41 rfl g74_12_10 (hb_22 _ _ _ _) rfl ?_
      refine zw_aload_n 45 f74_44 rfl rfl ?_
      refine zw_getfield 48 f74_45 rfl g74_37_10 (hb_22 _ _ _ _) rfl ?_
      refine zw_getfield 51 f74_48 rfl g74_148_4 (hb_1 _ _ _ _) rfl ?_
      refine zw_iload_n 52 f74_51 rfl rfl ?_
      refine zx_iaload a 53 f74_52 rfl (hb_6 _ _ _ _) (nI_clamp (by omega)) (nI_pos (by omega)) (by omega) (fun w24 hw24 => ?_)
      refine zw_iconst 0 54 f74_53 rfl (by decide +kernel) ?_
      refine zw_virtual_v 57 0 0 [.ref 23, .int w24, .int 0] [(0, .ref 23), (1, .int w24), (2, .int 0)] f74_54 rfl n74_212 k74_212_9 rfl (hb_23 _ _ _ _) (by decide +kernel) (Nat.le_of_ble_eq_true rfl) rfl rfl (by decide +kernel) (by decide +kernel) rfl (Nat.le_of_ble_eq_true rfl) rfl ?_
      refine zWp.mono (ck_X9_setOpen_23 ro nv np I _ _ _ hI w24 0) ?_
      rintro r h1 ⟨I_26, G_26, A_26, B_26, rfl, K_26, hI_26, rfl⟩
      refine ⟨rfl, ?_⟩
      have K_26 := KP.tr KP.rf K_26
      refine zw_aload_n 58 f74_57 rfl rfl ?_
      refine zw_getfield 61 f74_58 rfl g74_12_10 (hb_22 _ _ _ _) rfl ?_
      refine zw_getfield 64 f74_61 rfl g74_215_9 (hb_23 _ _ _ _) rfl ?_
      refine zw_iload_n 65 f74_64 rfl rfl ?_
      refine zw_dup2 66 f74_65 rfl rfl rfl ?_
      refine zx_iaload a 67 f74_66 rfl (hb_25 _ _ _ _) (nI_clamp (by omega)) (nI_pos (by omega)) (by omega) (fun w27 hw27 => ?_)
      refine zw_iconst 1 68 f74_67 rfl (by decide +kernel) ?_
      refine zx_iadd 69 f74_68 rfl (fun w28 hw28 => ?_)
      refine zw_ast a _ 70 f74_69 rfl (hb_25 _ _ _ _) (nI_clamp (by omega)) (nI_pos (by omega)) (by omega) (ha_25 _ _ _ _ _) ?_
      refine zw_aload_n 71 f74_70 rfl rfl ?_
      refine zw_iconst 4 72 f74_71 rfl (by decide +kernel) ?_
      refine zw_iload_n 73 f74_72 rfl rfl ?_
      refine zw_virtual_v 76 0 0 [.ref 22, .int 4, .int (nI a)] [(0, .ref 22), (1, .int 4), (2, .int (nI a))] f74_73 rfl n74_203 k74_203_10 rfl (hb_22 _ _ _ _) (by decide +kernel) (Nat.le_of_ble_eq_true rfl) rfl rfl (by decide +kernel) (by decide +kernel) rfl (Nat.le_of_ble_eq_true rfl) rfl ?_
      refine zWp.mono (ck_X10_happen_22 ro nv np I_26 _ _ _ hI_26 4 (nI a)) ?_
      rintro r h1 ⟨I_30, G_30, A_30, B_30, rfl, K_30, hI_30, rfl⟩
      refine ⟨rfl, ?_⟩
      have K_30 := KP.tr (KP.a rfl K_26) K_30
      refine zw_goto 142 f74_76 (by decide +kernel) ?_
      refine zw_vreturn f74_142 r74 u74 ?_
      exact ⟨_, _, _, _, rfl, K_30, hI_30, rfl⟩
set_option maxRecDepth 100000 in
set_option maxHeartbeats 0 in
theorem lck_X10_settle_22_87 (ro : UInt32 → Nat × (Nat → Int32)) (nv np : Nat) (I : Nat → Nat → Int32) (G : Nat → Nat → Int64) (A : Nat → Nat → Int32) (B : Nat → Nat → Int64) (hI : CI nv np I) : ∀ (n k : Nat) (ls : List (Nat × Value)) (I1 : Nat → Nat → Int32) (G1 : Nat → Nat → Int64) (A1 : Nat → Nat → Int32) (B1 : Nat → Nat → Int64), KP pW I G A B I1 G1 A1 B1 → CI nv np I1 → True → zld ls 0 = some (.ref 22) → zld ls 1 = some (.int (nI k)) → k ≤ nv → nv + 1 ≤ k + n → zWp ro 70 87 ls [] (hS I1 G1 A1 B1) 0 0 (zWk pW nv np I G A B zRt0) := by
  have hnv := hI.1.2
  have hnp := hI.2.1.2
  intro n
  induction n with
  | zero =>
    intro k ls I1 G1 A1 B1 K hJ _ hl0 hl1 h1 h2
    exact absurd h2 (by omega)
  | succ n ih =>
    intro k ls I1 G1 A1 B1 K hJ _ hl0 hl1 hk1 hk2
    refine zw_iload_n 88 f70_87 rfl hl1 ?_
    refine zw_aload_n 89 f70_88 rfl hl0 ?_
    refine zw_getfield 92 f70_89 rfl g70_37_10 (hb_22 _ _ _ _) rfl ?_
    refine zw_getI (nI nv) 95 f70_92 rfl g70_80_4 (hb_1 _ _ _ _) rfl hJ.1.1 ?_
    refine zw_ic_ge 98 109 f70_95 (by decide +kernel) rfl (fun hc1 => ?_) (fun hc1 => ?_)
    · have hn_hc1 : nv ≤ k := zn_ge (by omega) (by omega) hc1
      refine zw_aload_n 110 f70_109 rfl hl0 ?_
      refine zw_lconst 1 111 f70_110 rfl (by decide +kernel) ?_
      refine zw_lconst 0 112 f70_111 rfl (by decide +kernel) ?_
      refine zw_virtual_i 115 0 0 [.ref 22, .long 1, .long 0] [(0, .ref 22), (1, .long 1), (3, .long 0)] f70_112 rfl n70_164 k70_164_10 rfl (hb_22 _ _ _ _) (by decide +kernel) (Nat.le_of_ble_eq_true rfl) rfl rfl (by decide +kernel) (by decide +kernel) rfl (Nat.le_of_ble_eq_true rfl) rfl ?_
      refine zWp.mono (ck_X10_advance_22 ro nv np I1 _ _ _ hJ 1 0) ?_
      rintro r h1 ⟨I_3, G_3, A_3, B_3, rfl, K_3, hI_3, ⟨w2, rfl, hw2⟩⟩
      refine ⟨_, rfl, ?_⟩
      have K_3 := KP.tr K K_3
      refine zw_pop 116 f70_115 rfl rfl ?_
      refine zw_vreturn f70_116 r70 u70 ?_
      exact ⟨_, _, _, _, rfl, K_3, hI_3, rfl⟩
    · have hn_hc1 : k < nv := zn_lt (by omega) (by omega) hc1
      refine zw_aload_n 99 f70_98 rfl hl0 ?_
      refine zw_iload_n 100 f70_99 rfl hl1 ?_
      refine zw_virtual_v 103 0 0 [.ref 22, .int (nI k)] [(0, .ref 22), (1, .int (nI k))] f70_100 rfl n70_193 k70_193_10 rfl (hb_22 _ _ _ _) (by decide +kernel) (Nat.le_of_ble_eq_true rfl) rfl rfl (by decide +kernel) (by decide +kernel) rfl (Nat.le_of_ble_eq_true rfl) rfl ?_
      refine zWp.mono (ck_X10_settleFloat_22 ro nv np I1 _ _ _ hJ k (by omega)) ?_
      rintro r h1 ⟨I_5, G_5, A_5, B_5, rfl, K_5, hI_5, rfl⟩
      refine ⟨rfl, ?_⟩
      have K_5 := KP.tr K K_5
      refine zw_iinc (nI (k + 1)) _ 106 f70_103 rfl hl1 (by decide +kernel) (nI_1 _) rfl ?_
      refine zw_goto 87 f70_106 (by decide +kernel) ?_
      exact ih ((k + 1)) _ _ _ _ _ K_5 hI_5  trivial  (zl1_ne rfl rfl hl0) zl1_eq (by omega) (by omega)
set_option maxRecDepth 100000 in
set_option maxHeartbeats 0 in
theorem lck_X10_settle_22_51 (ro : UInt32 → Nat × (Nat → Int32)) (nv np : Nat) (I : Nat → Nat → Int32) (G : Nat → Nat → Int64) (A : Nat → Nat → Int32) (B : Nat → Nat → Int64) (hI : CI nv np I) : ∀ (n k : Nat) (ls : List (Nat × Value)) (I1 : Nat → Nat → Int32) (G1 : Nat → Nat → Int64) (A1 : Nat → Nat → Int32) (B1 : Nat → Nat → Int64), KP pW I G A B I1 G1 A1 B1 → CI nv np I1 → True → zld ls 0 = some (.ref 22) → zld ls 1 = some (.int (nI k)) → k ≤ nv → nv + 1 ≤ k + n → zWp ro 70 51 ls [] (hS I1 G1 A1 B1) 0 0 (zWk pW nv np I G A B zRt0) := by
  have hnv := hI.1.2
  have hnp := hI.2.1.2
  intro n
  induction n with
  | zero =>
    intro k ls I1 G1 A1 B1 K hJ _ hl0 hl1 h1 h2
    exact absurd h2 (by omega)
  | succ n ih =>
    intro k ls I1 G1 A1 B1 K hJ _ hl0 hl1 hk1 hk2
    refine zw_iload_n 52 f70_51 rfl hl1 ?_
    refine zw_aload_n 53 f70_52 rfl hl0 ?_
    refine zw_getfield 56 f70_53 rfl g70_37_10 (hb_22 _ _ _ _) rfl ?_
    refine zw_getI (nI nv) 59 f70_56 rfl g70_80_4 (hb_1 _ _ _ _) rfl hJ.1.1 ?_
    refine zw_ic_ge 62 85 f70_59 (by decide +kernel) rfl (fun hc1 => ?_) (fun hc1 => ?_)
    · have hn_hc1 : nv ≤ k := zn_ge (by omega) (by omega) hc1
      refine zw_iconst 0 86 f70_85 rfl (by decide +kernel) ?_
      refine zw_istore_n _ 87 f70_86 rfl (by decide +kernel) rfl ?_
      exact lck_X10_settle_22_87 ro nv np I G A B hI (nv + 1) 0 _ _ _ _ _ K hJ  trivial  (zl1_ne rfl rfl hl0) (show zld _ _ = some (.int (nI 0)) from zl1_eq) (by omega) (by omega)
    · have hn_hc1 : k < nv := zn_lt (by omega) (by omega) hc1
      refine zw_aload_n 63 f70_62 rfl hl0 ?_
      refine zw_getfield 66 f70_63 rfl g70_37_10 (hb_22 _ _ _ _) rfl ?_
      refine zw_iload_n 67 f70_66 rfl hl1 ?_
      refine zw_virtual_i 70 0 0 [.ref 1, .int (nI k)] [(0, .ref 1), (1, .int (nI k))] f70_67 rfl n70_132 k70_132_4 rfl (hb_1 _ _ _ _) (by decide +kernel) (Nat.le_of_ble_eq_true rfl) rfl rfl (by decide +kernel) (by decide +kernel) rfl (Nat.le_of_ble_eq_true rfl) rfl ?_
      refine zWp.mono (cp_X4_kindOf ro nv np I1 _ _ _ hJ (nI k)) ?_
      rintro r h1 ⟨rfl, ⟨w2, rfl⟩⟩
      refine ⟨_, rfl, ?_⟩
      refine zw_iconst 1 71 f70_70 rfl (by decide +kernel) ?_
      refine zw_ic_ne 74 79 f70_71 (by decide +kernel) rfl (fun hc3 => ?_) (fun hc3 => ?_)
      · refine zw_iinc (nI (k + 1)) _ 82 f70_79 rfl hl1 (by decide +kernel) (nI_1 _) rfl ?_
        refine zw_goto 51 f70_82 (by decide +kernel) ?_
        exact ih ((k + 1)) _ _ _ _ _ K hJ  trivial  (zl1_ne rfl rfl hl0) zl1_eq (by omega) (by omega)
      · refine zw_aload_n 75 f70_74 rfl hl0 ?_
        refine zw_iload_n 76 f70_75 rfl hl1 ?_
        refine zw_virtual_v 79 0 0 [.ref 22, .int (nI k)] [(0, .ref 22), (1, .int (nI k))] f70_76 rfl n70_190 k70_190_10 rfl (hb_22 _ _ _ _) (by decide +kernel) (Nat.le_of_ble_eq_true rfl) rfl rfl (by decide +kernel) (by decide +kernel) rfl (Nat.le_of_ble_eq_true rfl) rfl ?_
        refine zWp.mono (ck_X10_settleSiphon_22 ro nv np I1 _ _ _ hJ k (by omega)) ?_
        rintro r h1 ⟨I_5, G_5, A_5, B_5, rfl, K_5, hI_5, rfl⟩
        refine ⟨rfl, ?_⟩
        have K_5 := KP.tr K K_5
        refine zw_iinc (nI (k + 1)) _ 82 f70_79 rfl hl1 (by decide +kernel) (nI_1 _) rfl ?_
        refine zw_goto 51 f70_82 (by decide +kernel) ?_
        exact ih ((k + 1)) _ _ _ _ _ K_5 hI_5  trivial  (zl1_ne rfl rfl hl0) zl1_eq (by omega) (by omega)
set_option maxRecDepth 100000 in
set_option maxHeartbeats 0 in
theorem lck_X10_settle_22_7 (ro : UInt32 → Nat × (Nat → Int32)) (nv np : Nat) (I : Nat → Nat → Int32) (G : Nat → Nat → Int64) (A : Nat → Nat → Int32) (B : Nat → Nat → Int64) (hI : CI nv np I) : ∀ (n k : Nat) (ls : List (Nat × Value)) (I1 : Nat → Nat → Int32) (G1 : Nat → Nat → Int64) (A1 : Nat → Nat → Int32) (B1 : Nat → Nat → Int64), KP pW I G A B I1 G1 A1 B1 → CI nv np I1 → True → zld ls 0 = some (.ref 22) → zld ls 1 = some (.int (nI k)) → k ≤ nv → nv + 1 ≤ k + n → zWp ro 70 7 ls [] (hS I1 G1 A1 B1) 0 0 (zWk pW nv np I G A B zRt0) := by
  have hnv := hI.1.2
  have hnp := hI.2.1.2
  intro n
  induction n with
  | zero =>
    intro k ls I1 G1 A1 B1 K hJ _ hl0 hl1 h1 h2
    exact absurd h2 (by omega)
  | succ n ih =>
    intro k ls I1 G1 A1 B1 K hJ _ hl0 hl1 hk1 hk2
    refine zw_iload_n 8 f70_7 rfl hl1 ?_
    refine zw_aload_n 9 f70_8 rfl hl0 ?_
    refine zw_getfield 12 f70_9 rfl g70_37_10 (hb_22 _ _ _ _) rfl ?_
    refine zw_getI (nI nv) 15 f70_12 rfl g70_80_4 (hb_1 _ _ _ _) rfl hJ.1.1 ?_
    refine zw_ic_ge 18 49 f70_15 (by decide +kernel) rfl (fun hc1 => ?_) (fun hc1 => ?_)
    · have hn_hc1 : nv ≤ k := zn_ge (by omega) (by omega) hc1
      refine zw_iconst 0 50 f70_49 rfl (by decide +kernel) ?_
      refine zw_istore_n _ 51 f70_50 rfl (by decide +kernel) rfl ?_
      exact lck_X10_settle_22_51 ro nv np I G A B hI (nv + 1) 0 _ _ _ _ _ K hJ  trivial  (zl1_ne rfl rfl hl0) (show zld _ _ = some (.int (nI 0)) from zl1_eq) (by omega) (by omega)
    · have hn_hc1 : k < nv := zn_lt (by omega) (by omega) hc1
      refine zw_aload_n 19 f70_18 rfl hl0 ?_
      refine zw_getfield 22 f70_19 rfl g70_37_10 (hb_22 _ _ _ _) rfl ?_
      refine zw_iload_n 23 f70_22 rfl hl1 ?_
      refine zw_virtual_i 26 0 0 [.ref 1, .int (nI k)] [(0, .ref 1), (1, .int (nI k))] f70_23 rfl n70_132 k70_132_4 rfl (hb_1 _ _ _ _) (by decide +kernel) (Nat.le_of_ble_eq_true rfl) rfl rfl (by decide +kernel) (by decide +kernel) rfl (Nat.le_of_ble_eq_true rfl) rfl ?_
      refine zWp.mono (cp_X4_kindOf ro nv np I1 _ _ _ hJ (nI k)) ?_
      rintro r h1 ⟨rfl, ⟨w2, rfl⟩⟩
      refine ⟨_, rfl, ?_⟩
      refine zw_iconst 2 27 f70_26 rfl (by decide +kernel) ?_
      refine zw_ic_ne 30 43 f70_27 (by decide +kernel) rfl (fun hc3 => ?_) (fun hc3 => ?_)
      · refine zw_iinc (nI (k + 1)) _ 46 f70_43 rfl hl1 (by decide +kernel) (nI_1 _) rfl ?_
        refine zw_goto 7 f70_46 (by decide +kernel) ?_
        exact ih ((k + 1)) _ _ _ _ _ K hJ  trivial  (zl1_ne rfl rfl hl0) zl1_eq (by omega) (by omega)
      · refine zw_aload_n 31 f70_30 rfl hl0 ?_
        refine zw_iload_n 32 f70_31 rfl hl1 ?_
        refine zw_virtual_i 35 0 0 [.ref 22, .int (nI k)] [(0, .ref 22), (1, .int (nI k))] f70_32 rfl n70_97 k70_97_10 rfl (hb_22 _ _ _ _) (by decide +kernel) (Nat.le_of_ble_eq_true rfl) rfl rfl (by decide +kernel) (by decide +kernel) rfl (Nat.le_of_ble_eq_true rfl) rfl ?_
        refine zWp.mono (cp_X10_isFull_22 ro nv np I1 _ _ _ hJ k (by omega)) ?_
        rintro r h1 ⟨rfl, ⟨w4, rfl, hw4⟩⟩
        refine ⟨_, rfl, ?_⟩
        refine zw_if_eq 38 43 f70_35 (by decide +kernel) rfl (fun hc5 => ?_) (fun hc5 => ?_)
        · refine zw_iinc (nI (k + 1)) _ 46 f70_43 rfl hl1 (by decide +kernel) (nI_1 _) rfl ?_
          refine zw_goto 7 f70_46 (by decide +kernel) ?_
          exact ih ((k + 1)) _ _ _ _ _ K hJ  trivial  (zl1_ne rfl rfl hl0) zl1_eq (by omega) (by omega)
        · refine zw_aload_n 39 f70_38 rfl hl0 ?_
          refine zw_iload_n 40 f70_39 rfl hl1 ?_
          refine zw_virtual_v 43 0 0 [.ref 22, .int (nI k)] [(0, .ref 22), (1, .int (nI k))] f70_40 rfl n70_187 k70_187_10 rfl (hb_22 _ _ _ _) (by decide +kernel) (Nat.le_of_ble_eq_true rfl) rfl rfl (by decide +kernel) (by decide +kernel) rfl (Nat.le_of_ble_eq_true rfl) rfl ?_
          refine zWp.mono (ck_X10_tip_22 ro nv np I1 _ _ _ hJ k (by omega)) ?_
          rintro r h1 ⟨I_7, G_7, A_7, B_7, rfl, K_7, hI_7, rfl⟩
          refine ⟨rfl, ?_⟩
          have K_7 := KP.tr K K_7
          refine zw_iinc (nI (k + 1)) _ 46 f70_43 rfl hl1 (by decide +kernel) (nI_1 _) rfl ?_
          refine zw_goto 7 f70_46 (by decide +kernel) ?_
          exact ih ((k + 1)) _ _ _ _ _ K_7 hI_7  trivial  (zl1_ne rfl rfl hl0) zl1_eq (by omega) (by omega)
set_option maxRecDepth 100000 in
set_option maxHeartbeats 0 in
theorem ck_X10_settle_22 (ro : UInt32 → Nat × (Nat → Int32)) (nv np : Nat) (I : Nat → Nat → Int32) (G : Nat → Nat → Int64) (A : Nat → Nat → Int32) (B : Nat → Nat → Int64) (hI : CI nv np I) : zWp ro 70 0 [(0, .ref 22)] [] (hS I G A B) 0 0 (zWk pW nv np I G A B zRt0) := by
  have hnv := hI.1.2
  have hnp := hI.2.1.2
  refine zw_aload_n 1 f70_0 rfl rfl ?_
  refine zw_iconst 0 2 f70_1 rfl (by decide +kernel) ?_
  refine zw_put _ 5 f70_2 rfl g70_161_10 (hb_22 _ _ _ _) rfl (Nat.le_of_ble_eq_true rfl) (by decide +kernel) (hi_22_12 _ _ _ _ _) ?_
  refine zw_iconst 0 6 f70_5 rfl (by decide +kernel) ?_
  refine zw_istore_n _ 7 f70_6 rfl (by decide +kernel) rfl ?_
  exact lck_X10_settle_22_7 ro nv np I G A B hI (nv + 1) 0 _ _ _ _ _ (KP.i rfl KP.rf) (show CI nv np _ from ⟨hI.1, hI.2.1, hI.2.2.1, ⟨0, (by decide +kernel), rfl⟩⟩)  trivial  (zl1_ne rfl rfl rfl) (show zld _ _ = some (.int (nI 0)) from zl1_eq) (by omega) (by omega)
set_option maxRecDepth 100000 in
set_option maxHeartbeats 0 in
theorem ck_X10_step_22 (ro : UInt32 → Nat × (Nat → Int32)) (nv np : Nat) (I : Nat → Nat → Int32) (G : Nat → Nat → Int64) (A : Nat → Nat → Int32) (B : Nat → Nat → Int64) (hI : CI nv np I) : zWp ro 66 0 [(0, .ref 22)] [] (hS I G A B) 0 0 (zWk pW nv np I G A B zRt2) := by
  have hnv := hI.1.2
  have hnp := hI.2.1.2
  refine zw_aload_n 1 f66_0 rfl rfl ?_
  refine zw_iconst 0 2 f66_1 rfl (by decide +kernel) ?_
  refine zw_put _ 5 f66_2 rfl g66_161_10 (hb_22 _ _ _ _) rfl (Nat.le_of_ble_eq_true rfl) (by decide +kernel) (hi_22_12 _ _ _ _ _) ?_
  refine zw_aload_n 6 f66_5 rfl rfl ?_
  refine zw_aload_n 7 f66_6 rfl rfl ?_
  refine zx_getG 10 f66_7 rfl g66_119_10 (hb_22 _ _ _ _) rfl (fun w1 hw1 => ?_)
  refine zw_aload_n 11 f66_10 rfl rfl ?_
  refine zx_getG 14 f66_11 rfl g66_116_10 (hb_22 _ _ _ _) rfl (fun w2 hw2 => ?_)
  refine zw_virtual_i 17 0 0 [.ref 22, .long w1, .long w2] [(0, .ref 22), (1, .long w1), (3, .long w2)] f66_14 rfl n66_164 k66_164_10 rfl (hb_22 _ _ _ _) (by decide +kernel) (Nat.le_of_ble_eq_true rfl) rfl rfl (by decide +kernel) (by decide +kernel) rfl (Nat.le_of_ble_eq_true rfl) rfl ?_
  refine zWp.mono (ck_X10_advance_22 ro nv np (upd2 I 22 12 0) _ _ _ (show CI nv np _ from ⟨hI.1, hI.2.1, hI.2.2.1, ⟨0, (by decide +kernel), rfl⟩⟩) w1 w2) ?_
  rintro r h1 ⟨I_4, G_4, A_4, B_4, rfl, K_4, hI_4, ⟨w3, rfl, hw3⟩⟩
  refine ⟨_, rfl, ?_⟩
  have K_4 := KP.tr (KP.i rfl KP.rf) K_4
  refine zw_if_ne 20 22 f66_17 (by decide +kernel) rfl (fun hc5 => ?_) (fun hc5 => ?_)
  · refine zw_aload_n 23 f66_22 rfl rfl ?_
    refine zw_virtual_v 26 0 0 [.ref 22] [(0, .ref 22)] f66_23 rfl n66_168 k66_168_10 rfl (hb_22 _ _ _ _) (by decide +kernel) (Nat.le_of_ble_eq_true rfl) rfl rfl (by decide +kernel) (by decide +kernel) rfl (Nat.le_of_ble_eq_true rfl) rfl ?_
    refine zWp.mono (ck_X10_settle_22 ro nv np I_4 _ _ _ hI_4 ) ?_
    rintro r h1 ⟨I_7, G_7, A_7, B_7, rfl, K_7, hI_7, rfl⟩
    refine ⟨rfl, ?_⟩
    have K_7 := KP.tr K_4 K_7
    refine zw_iconst 1 27 f66_26 rfl (by decide +kernel) ?_
    refine zw_zreturn f66_27 r66 u66 (by decide +kernel) ?_
    exact ⟨_, _, _, _, rfl, K_7, hI_7, ⟨_, rfl, (by decide +kernel)⟩⟩
  · refine zw_iconst 0 21 f66_20 rfl (by decide +kernel) ?_
    refine zw_zreturn f66_21 r66 u66 (by decide +kernel) ?_
    exact ⟨_, _, _, _, rfl, K_4, hI_4, ⟨_, rfl, (by decide +kernel)⟩⟩
set_option maxRecDepth 100000 in
set_option maxHeartbeats 0 in
theorem ck_X10_passTo_22 (ro : UInt32 → Nat × (Nat → Int32)) (nv np : Nat) (I : Nat → Nat → Int32) (G : Nat → Nat → Int64) (A : Nat → Nat → Int32) (B : Nat → Nat → Int64) (hI : CI nv np I) (a : Int32) : zWp ro 67 0 [(0, .ref 22), (1, .int a)] [] (hS I G A B) 0 0 (zWk pW nv np I G A B zRt0) := by
  have hnv := hI.1.2
  have hnp := hI.2.1.2
  refine zw_aload_n 1 f67_0 rfl rfl ?_
  refine zw_lconst 1 2 f67_1 rfl (by decide +kernel) ?_
  refine zw_iload_n 3 f67_2 rfl rfl ?_
  refine zx_i2l 4 f67_3 rfl (fun w1 hw1 => ?_)
  refine zw_aload_n 5 f67_4 rfl rfl ?_
  refine zw_getfield 8 f67_5 rfl g67_12_10 (hb_22 _ _ _ _) rfl ?_
  refine zx_getG 11 f67_8 rfl g67_109_9 (hb_23 _ _ _ _) rfl (fun w2 hw2 => ?_)
  refine zx_lmul 12 f67_11 rfl (fun w3 hw3 => ?_)
  refine zw_aload_n 13 f67_12 rfl rfl ?_
  refine zw_getfield 16 f67_13 rfl g67_12_10 (hb_22 _ _ _ _) rfl ?_
  refine zx_getG 19 f67_16 rfl g67_151_9 (hb_23 _ _ _ _) rfl (fun w4 hw4 => ?_)
  refine zx_lsub 20 f67_19 rfl (fun w5 hw5 => ?_)
  refine zw_virtual_i 23 0 0 [.ref 22, .long 1, .long w5] [(0, .ref 22), (1, .long 1), (3, .long w5)] f67_20 rfl n67_164 k67_164_10 rfl (hb_22 _ _ _ _) (by decide +kernel) (Nat.le_of_ble_eq_true rfl) rfl rfl (by decide +kernel) (by decide +kernel) rfl (Nat.le_of_ble_eq_true rfl) rfl ?_
  refine zWp.mono (ck_X10_advance_22 ro nv np I _ _ _ hI 1 w5) ?_
  rintro r h1 ⟨I_7, G_7, A_7, B_7, rfl, K_7, hI_7, ⟨w6, rfl, hw6⟩⟩
  refine ⟨_, rfl, ?_⟩
  have K_7 := KP.tr KP.rf K_7
  refine zw_pop 24 f67_23 rfl rfl ?_
  refine zw_vreturn f67_24 r67 u67 ?_
  exact ⟨_, _, _, _, rfl, K_7, hI_7, rfl⟩
set_option maxRecDepth 100000 in
set_option maxHeartbeats 0 in
theorem lcp_X10_hasHappened_22_2 (ro : UInt32 → Nat × (Nat → Int32)) (nv np : Nat) (I : Nat → Nat → Int32) (G : Nat → Nat → Int64) (A : Nat → Nat → Int32) (B : Nat → Nat → Int64) (hI : CI nv np I) (a : Int32) (b : Int32) : ∀ (n k : Nat) (ls : List (Nat × Value)), True → zld ls 0 = some (.ref 22) → zld ls 1 = some (.int a) → zld ls 2 = some (.int b) → zld ls 3 = some (.int (nI k)) → k ≤ 8 → 8 + 1 ≤ k + n → zWp ro 76 2 ls [] (hS I G A B) 0 0 (fun r h1 => h1 = hS I G A B ∧ zRt2 r) := by
  have hnv := hI.1.2
  have hnp := hI.2.1.2
  intro n
  induction n with
  | zero =>
    intro k ls _ hl0 hl1 hl2 hl3 h1 h2
    exact absurd h2 (by omega)
  | succ n ih =>
    intro k ls _ hl0 hl1 hl2 hl3 hk1 hk2
    refine zw_iload_n 3 f76_2 rfl hl3 ?_
    refine zw_aload_n 4 f76_3 rfl hl0 ?_
    obtain ⟨x1p, x1q, x1e⟩ := hI.2.2.2
    refine zw_getI (nI x1p) 7 f76_4 rfl g76_161_10 (hb_22 _ _ _ _) rfl x1e ?_
    refine zw_ic_ge 10 44 f76_7 (by decide +kernel) rfl (fun hc2 => ?_) (fun hc2 => ?_)
    · have hn_hc2 : x1p ≤ k := zn_ge (by omega) (by omega) hc2
      refine zw_iconst 0 45 f76_44 rfl (by decide +kernel) ?_
      refine zw_zreturn f76_45 r76 u76 (by decide +kernel) ?_
      exact ⟨rfl, ⟨_, rfl, (by decide +kernel)⟩⟩
    · have hn_hc2 : k < x1p := zn_lt (by omega) (by omega) hc2
      refine zw_iload_n 11 f76_10 rfl hl3 ?_
      refine zw_bipush 8 13 f76_11 rfl (by decide +kernel) ?_
      refine zw_ic_ge 16 44 f76_13 (by decide +kernel) rfl (fun hc3 => ?_) (fun hc3 => ?_)
      · have hn_hc3 : 8 ≤ k := zn_ge (by omega) (by omega) hc3
        refine zw_iconst 0 45 f76_44 rfl (by decide +kernel) ?_
        refine zw_zreturn f76_45 r76 u76 (by decide +kernel) ?_
        exact ⟨rfl, ⟨_, rfl, (by decide +kernel)⟩⟩
      · have hn_hc3 : k < 8 := zn_lt (by omega) (by omega) hc3
        refine zw_aload_n 17 f76_16 rfl hl0 ?_
        refine zw_getfield 20 f76_17 rfl g76_31_10 (hb_22 _ _ _ _) rfl ?_
        refine zw_iload_n 21 f76_20 rfl hl3 ?_
        refine zx_iaload k 22 f76_21 rfl (hb_31 _ _ _ _) (nI_clamp (by omega)) (nI_pos (by omega)) (by omega) (fun w4 hw4 => ?_)
        refine zw_iload_n 23 f76_22 rfl hl1 ?_
        refine zw_ic_ne 26 38 f76_23 (by decide +kernel) rfl (fun hc5 => ?_) (fun hc5 => ?_)
        · refine zw_iinc (nI (k + 1)) _ 41 f76_38 rfl hl3 (by decide +kernel) (nI_1 _) rfl ?_
          refine zw_goto 2 f76_41 (by decide +kernel) ?_
          exact ih ((k + 1)) _  trivial  (zl1_ne rfl rfl hl0) (zl1_ne rfl rfl hl1) (zl1_ne rfl rfl hl2) zl1_eq (by omega) (by omega)
        · refine zw_aload_n 27 f76_26 rfl hl0 ?_
          refine zw_getfield 30 f76_27 rfl g76_34_10 (hb_22 _ _ _ _) rfl ?_
          refine zw_iload_n 31 f76_30 rfl hl3 ?_
          refine zx_iaload k 32 f76_31 rfl (hb_32 _ _ _ _) (nI_clamp (by omega)) (nI_pos (by omega)) (by omega) (fun w6 hw6 => ?_)
          refine zw_iload_n 33 f76_32 rfl hl2 ?_
          refine zw_ic_ne 36 38 f76_33 (by decide +kernel) rfl (fun hc7 => ?_) (fun hc7 => ?_)
          · refine zw_iinc (nI (k + 1)) _ 41 f76_38 rfl hl3 (by decide +kernel) (nI_1 _) rfl ?_
            refine zw_goto 2 f76_41 (by decide +kernel) ?_
            exact ih ((k + 1)) _  trivial  (zl1_ne rfl rfl hl0) (zl1_ne rfl rfl hl1) (zl1_ne rfl rfl hl2) zl1_eq (by omega) (by omega)
          · refine zw_iconst 1 37 f76_36 rfl (by decide +kernel) ?_
            refine zw_zreturn f76_37 r76 u76 (by decide +kernel) ?_
            exact ⟨rfl, ⟨_, rfl, (by decide +kernel)⟩⟩
set_option maxRecDepth 100000 in
set_option maxHeartbeats 0 in
theorem cp_X10_hasHappened_22 (ro : UInt32 → Nat × (Nat → Int32)) (nv np : Nat) (I : Nat → Nat → Int32) (G : Nat → Nat → Int64) (A : Nat → Nat → Int32) (B : Nat → Nat → Int64) (hI : CI nv np I) (a : Int32) (b : Int32) : zWp ro 76 0 [(0, .ref 22), (1, .int a), (2, .int b)] [] (hS I G A B) 0 0 (fun r h1 => h1 = hS I G A B ∧ zRt2 r) := by
  have hnv := hI.1.2
  have hnp := hI.2.1.2
  refine zw_iconst 0 1 f76_0 rfl (by decide +kernel) ?_
  refine zw_istore_n _ 2 f76_1 rfl (by decide +kernel) rfl ?_
  exact lcp_X10_hasHappened_22_2 ro nv np I G A B hI a b (8 + 1) 0 _  trivial  (zl1_ne rfl rfl rfl) (zl1_ne rfl rfl rfl) (zl1_ne rfl rfl rfl) (show zld _ _ = some (.int (nI 0)) from zl1_eq) (by omega) (by omega)
