noncomputable def cI {α : Type} (p : Prop) (x y : α) : α := @ite α p (Classical.propDecidable p) x y
theorem cI_y {α : Type} {p : Prop} {x y : α} (h : p) : cI p x y = x := if_pos h
theorem cI_n {α : Type} {p : Prop} {x y : α} (h : ¬ p) : cI p x y = y := if_neg h
theorem sw_ne {a j : Int32} {n : Int} (h : a.toInt < 0 ∨ n < a.toInt) (hj : 0 ≤ j.toInt ∧ j.toInt ≤ n) : ¬ a = j := by
  intro e
  rw [e] at h
  omega
def wSm (lev : Nat → Int64) : Nat → Int64
  | 0 => 0
  | k + 1 => wSm lev k + lev k
noncomputable def an_sum (nv : Nat) (W : qW) (y : Int64) (a : Int32) : Int64 := cI (a = 0) (rAb W.2.2.1 W.1) (cI (a = 1) (rBe W.2.2.1 W.1) (cI (a = 2) y (cI (a = 3) (rAb W.2.2.2.1 W.1) (cI (a = 4) (rBe W.2.2.2.1 W.1) (cI (a = 5) (rAb (wSm W.2.2.2.2.1 nv) W.1) (cI (a = 6) (rBe (wSm W.2.2.2.2.1 nv) W.1) (-1)))))))
theorem wSm_nn {nv : Nat} {T K : Int} {P : Nat → Nat → Int32} {W : qW} {np : Nat} (hp : MPa nv np P) (hW : wOk nv T K P W) : ∀ k, k ≤ nv → 0 ≤ (wSm W.2.2.2.2.1 k).toInt ∧ (wSm W.2.2.2.2.1 k).toInt ≤ 2000000 * k := by
  intro k
  induction k with
  | zero => intro _; rw [wSm, i64_0]; omega
  | succ k ih =>
    intro hk
    have i := ih (by omega)
    have h8 := hp.1
    have hb := (hp.2.2.1 k (by omega)).1
    have hg : 1 ≤ W.1.toInt ∧ W.1.toInt ≤ 10000 := hW.1.1
    have m := (mBrim (a := P 54 k) (g := W.1) ⟨by omega, hb.2⟩ hg).2.2
    have l : 0 ≤ (W.2.2.2.2.1 k).toInt ∧ (W.2.2.2.2.1 k).toInt ≤ (P 54 k).toInt * W.1.toInt := hW.1.2.1 k (by omega)
    rw [wSm, i64_add (by omega) (by omega)]
    omega
set_option maxRecDepth 100000 in
set_option maxHeartbeats 0 in
theorem lcx_inv (ro : UInt32 → Nat × (Nat → Int32)) (nv np : Nat) (P : Nat → Nat → Int32) (W : qW) (I : Nat → Nat → Int32) (G : Nat → Nat → Int64) (A : Nat → Nat → Int32) (B : Nat → Nat → Int64) (hR : cRS 11 nv np P W I G A B) (hp : MPa nv np P) : ∀ (n k : Nat) (ls : List (Nat × Value)), zld ls 0 = some (.ref 11) → zld ls 1 = some (.long (wSm W.2.2.2.2.1 k)) → zld ls 3 = some (.int (nI k)) → k ≤ nv → nv + 1 ≤ k + n → zWp ro 65 4 ls [] (hS I G A B) 0 0 (fun r h1 => h1 = hS I G A B ∧ r = some (.long (wSm W.2.2.2.2.1 nv))) := by
  have h8 := hp.1
  intro n
  induction n with
  | zero =>
    intro k ls _ _ _ a c
    exact absurd c (by omega)
  | succ n ih =>
    intro k ls h0 h1 h3 hk1 hk2
    refine zw_iload_n 5 f65_4 rfl h3 ?_
    refine zw_aload_n 6 f65_5 rfl h0 ?_
    refine zw_getfield 9 f65_6 rfl g65_37_10 (hb_11 _ _ _ _) rfl ?_
    refine zw_getI (nI nv) 12 f65_9 rfl g65_80_4 (hb_1 _ _ _ _) rfl hR.1.1 ?_
    refine zw_ic_ge 15 33 f65_12 (by decide +kernel) rfl (fun hc1 => ?_) (fun hc1 => ?_)
    · have hn_hc1 : nv ≤ k := zn_ge (by omega) (by omega) hc1
      refine zw_lload_n 34 f65_33 rfl h1 ?_
      refine zw_lreturn f65_34 r65 u65 ?_
      have hk : k = nv := by omega
      rw [hk]
      exact ⟨rfl, rfl⟩
    · have hn_hc1 : k < nv := zn_lt (by omega) (by omega) hc1
      refine zw_lload_n 16 f65_15 rfl h1 ?_
      refine zw_aload_n 17 f65_16 rfl h0 ?_
      refine zw_getfield 20 f65_17 rfl g65_12_10 (hb_11 _ _ _ _) rfl ?_
      refine zw_getfield 23 f65_20 rfl g65_87_9 (hb_12 _ _ _ _) rfl ?_
      refine zw_iload_n 24 f65_23 rfl h3 ?_
      refine zw_laload k ((W.2.2.2.2.1) k) 25 f65_24 rfl (hb_13 _ _ _ _) (nI_clamp (by omega)) (nI_pos (by omega)) (by omega) (congrFun (hR.2.2.2.1) k) ?_
      refine zw_ladd ((wSm W.2.2.2.2.1 k) + ((W.2.2.2.2.1) k)) 26 f65_25 rfl rfl ?_
      refine zw_lstore_n _ 27 f65_26 rfl (by decide +kernel) rfl ?_
      refine zw_iinc (nI (k + 1)) _ 30 f65_27 rfl (zl2_ne rfl rfl h3) (by decide +kernel) (nI_1 _) rfl ?_
      refine zw_goto 4 f65_30 (by decide +kernel) ?_
      exact ih (k + 1) _ (zl1_ne rfl rfl (zl2_ne rfl rfl h0)) (zl1_ne rfl rfl zl2_eq) zl1_eq (by omega) (by omega)
set_option maxRecDepth 100000 in
set_option maxHeartbeats 0 in
theorem cx_inv (ro : UInt32 → Nat × (Nat → Int32)) (nv np : Nat) (P : Nat → Nat → Int32) (W : qW) (I : Nat → Nat → Int32) (G : Nat → Nat → Int64) (A : Nat → Nat → Int32) (B : Nat → Nat → Int64) (hR : cRS 11 nv np P W I G A B) (hp : MPa nv np P) : zWp ro 65 0 [(0, .ref 11)] [] (hS I G A B) 0 0 (fun r h1 => h1 = hS I G A B ∧ r = some (.long (wSm W.2.2.2.2.1 nv))) := by
  have h8 := hp.1
  refine zw_lconst 0 1 f65_0 rfl (by decide +kernel) ?_
  refine zw_lstore_n _ 2 f65_1 rfl (by decide +kernel) rfl ?_
  refine zw_iconst 0 3 f65_2 rfl (by decide +kernel) ?_
  refine zw_istore_n _ 4 f65_3 rfl (by decide +kernel) rfl ?_
  exact lcx_inv ro nv np P W I G A B hR hp (nv + 1) 0 _ (zl1_ne rfl rfl (zl2_ne rfl rfl rfl)) (zl1_ne rfl rfl zl2_eq) zl1_eq (by omega) (by omega)
set_option maxRecDepth 100000 in
set_option maxHeartbeats 0 in
theorem cq_sum (ro : UInt32 → Nat × (Nat → Int32)) (nv np : Nat) (P : Nat → Nat → Int32) (W : qW) (I : Nat → Nat → Int32) (G : Nat → Nat → Int64) (A : Nat → Nat → Int32) (B : Nat → Nat → Int64) (hR : cRS 11 nv np P W I G A B) (hp : MPa nv np P) (T K : Int) (hW : wOk nv T K P W) (y : Int64) (hy : G 12 4 = y) (a : Int32) : zWp ro 98 0 [(0, .ref 0), (1, .int a)] [] (hS I G A B) 0 0 (fun r h1 => h1 = hS I G A B ∧ r = some (.long (an_sum nv W y a))) := by
  have h8 := hp.1
  have hg0 : 0 < W.1.toInt := hW.1.1.1
  have hs0 : 0 ≤ W.2.2.1.toInt := hW.2.2.1.1
  have hd0 : 0 ≤ W.2.2.2.1.toInt := hW.2.2.2.1
  have hm0 := (wSm_nn hp hW nv (Nat.le_refl _)).1
  refine zw_aload_n 1 f98_0 rfl rfl ?_
  refine zw_getfield 4 f98_1 rfl g98_21_11 (hb_0 _ _ _ _) rfl ?_
  refine zw_getfield 7 f98_4 rfl g98_134_10 (hb_11 _ _ _ _) rfl ?_
  refine zw_astore_n _ 8 f98_7 rfl (by decide +kernel) rfl ?_
  refine zw_iload_n 9 f98_8 rfl (zl1_ne rfl rfl rfl) ?_
  rcases zl_sw 6 (by decide) a with hs1 | ⟨hs1k, hs1l, hs1e⟩
  · refine zw_table_o 103 f98_9 hs1 (by decide +kernel) ?_
    refine zw_ldc2_w (-1) 106 f98_103 rfl (by decide +kernel) ?_
    refine zw_lreturn f98_106 r98 u98 ?_
    exact ⟨rfl, by rw [show an_sum nv W y a = (-1) from ((cI_n (sw_ne hs1 (by decide))).trans ((cI_n (sw_ne hs1 (by decide))).trans ((cI_n (sw_ne hs1 (by decide))).trans ((cI_n (sw_ne hs1 (by decide))).trans ((cI_n (sw_ne hs1 (by decide))).trans ((cI_n (sw_ne hs1 (by decide))).trans ((cI_n (sw_ne hs1 (by decide))).trans rfl)))))))]⟩
  · rcases (show hs1k = 0 ∨ hs1k = 1 ∨ hs1k = 2 ∨ hs1k = 3 ∨ hs1k = 4 ∨ hs1k = 5 ∨ hs1k = 6 by omega) with rfl | rfl | rfl | rfl | rfl | rfl | rfl
    · refine zw_table_k 43 52 f98_9 hs1e (by decide +kernel) (by decide +kernel) (by decide +kernel) ?_
      refine zw_aload_n 53 f98_52 rfl zl1_eq ?_
      refine zw_getG W.2.2.1 56 f98_53 rfl g98_260_9 (hb_12 _ _ _ _) rfl hR.2.2.1.2.2.1 ?_
      refine zw_aload_n 57 f98_56 rfl zl1_eq ?_
      refine zw_getG W.1 60 f98_57 rfl g98_151_9 (hb_12 _ _ _ _) rfl hR.2.2.1.1 ?_
      refine zw_iload_n 61 f98_60 rfl (zl1_ne rfl rfl rfl) ?_
      refine zw_static_l 64 0 0 [.long W.2.2.1, .long W.1, .int a] [] [(0, .long W.2.2.1), (2, .long W.1), (4, .int a)] f98_61 rfl k98_210_99 rfl (by decide +kernel) (Nat.le_of_ble_eq_true rfl) (Nat.le_of_ble_eq_true rfl) rfl rfl (by decide +kernel) (by decide +kernel) rfl (Nat.le_of_ble_eq_true rfl) rfl ?_
      refine zw_iload 2 f118_0 rfl rfl ?_
      refine zw_if_ne_f 5 13 f118_2 (by decide +kernel) rfl (by rw [hs1e]; decide) ?_
      refine zw_lload_n 6 f118_5 rfl rfl ?_
      refine zw_lload_n 7 f118_6 rfl rfl ?_
      refine zw_static_l 10 0 0 [.long W.2.2.1, .long W.1] [] [(0, .long W.2.2.1), (2, .long W.1)] f118_7 rfl k118_194_99 rfl (by decide +kernel) (Nat.le_of_ble_eq_true rfl) (Nat.le_of_ble_eq_true rfl) rfl rfl (by decide +kernel) (by decide +kernel) rfl (Nat.le_of_ble_eq_true rfl) rfl ?_
      refine zw_lload_n 1 f116_0 rfl rfl ?_
      refine zw_lload_n 2 f116_1 rfl rfl ?_
      refine zw_static_l 5 0 0 [.long W.2.2.1, .long W.1] [] [(0, .long W.2.2.1), (2, .long W.1)] f116_2 rfl k116_336_99 rfl (by decide +kernel) (Nat.le_of_ble_eq_true rfl) (Nat.le_of_ble_eq_true rfl) rfl rfl (by decide +kernel) (by decide +kernel) rfl (Nat.le_of_ble_eq_true rfl) rfl ?_
      refine zWp.mono (cx_gcd ro _ W.2.2.1 W.1) ?_
      rintro r h1 ⟨rfl, rfl⟩
      refine ⟨_, rfl, ?_⟩
      refine zw_lstore _ 7 f116_5 rfl (by decide +kernel) rfl ?_
      refine zw_lload 9 f116_7 rfl zl2_eq ?_
      refine zw_lconst 0 10 f116_9 rfl (by decide +kernel) ?_
      refine zw_lcmp (lg_cmp (cGc W.2.2.1 W.1) 0) 11 f116_10 rfl rfl ?_
      refine zw_if_ne_t 18 f116_11 (by decide +kernel) (fun q => cGc_ne0 ((lg_cmp_eq _ _).mp q)) ?_
      refine zw_lload_n 19 f116_18 rfl (zl2_ne rfl rfl rfl) ?_
      refine zw_lload 21 f116_19 rfl zl2_eq ?_
      refine zw_ldiv (W.2.2.1 / (cGc W.2.2.1 W.1)) 22 f116_21 rfl cGc_ne0 rfl ?_
      refine zw_lreturn f116_22 r116 u116 ⟨_, rfl, ?_⟩
      refine zw_goto 18 f118_10 (by decide +kernel) ?_
      refine zw_lreturn f118_18 r118 u118 ⟨_, rfl, ?_⟩
      refine zw_lreturn f98_64 r98 u98 ?_
      exact ⟨rfl, by rw [show an_sum nv W y a = (W.2.2.1 / (cGc W.2.2.1 W.1)) from ((cI_y (show a = 0 from hs1e)).trans (rAb_c hs0 hg0).1.symm)]⟩
    · refine zw_table_k 43 52 f98_9 hs1e (by decide +kernel) (by decide +kernel) (by decide +kernel) ?_
      refine zw_aload_n 53 f98_52 rfl zl1_eq ?_
      refine zw_getG W.2.2.1 56 f98_53 rfl g98_260_9 (hb_12 _ _ _ _) rfl hR.2.2.1.2.2.1 ?_
      refine zw_aload_n 57 f98_56 rfl zl1_eq ?_
      refine zw_getG W.1 60 f98_57 rfl g98_151_9 (hb_12 _ _ _ _) rfl hR.2.2.1.1 ?_
      refine zw_iload_n 61 f98_60 rfl (zl1_ne rfl rfl rfl) ?_
      refine zw_static_l 64 0 0 [.long W.2.2.1, .long W.1, .int a] [] [(0, .long W.2.2.1), (2, .long W.1), (4, .int a)] f98_61 rfl k98_210_99 rfl (by decide +kernel) (Nat.le_of_ble_eq_true rfl) (Nat.le_of_ble_eq_true rfl) rfl rfl (by decide +kernel) (by decide +kernel) rfl (Nat.le_of_ble_eq_true rfl) rfl ?_
      refine zw_iload 2 f118_0 rfl rfl ?_
      refine zw_if_ne_t 13 f118_2 (by decide +kernel) (by rw [hs1e]; decide) ?_
      refine zw_lload_n 14 f118_13 rfl rfl ?_
      refine zw_lload_n 15 f118_14 rfl rfl ?_
      refine zw_static_l 18 0 0 [.long W.2.2.1, .long W.1] [] [(0, .long W.2.2.1), (2, .long W.1)] f118_15 rfl k118_198_99 rfl (by decide +kernel) (Nat.le_of_ble_eq_true rfl) (Nat.le_of_ble_eq_true rfl) rfl rfl (by decide +kernel) (by decide +kernel) rfl (Nat.le_of_ble_eq_true rfl) rfl ?_
      refine zw_lload_n 1 f117_0 rfl rfl ?_
      refine zw_lload_n 2 f117_1 rfl rfl ?_
      refine zw_static_l 5 0 0 [.long W.2.2.1, .long W.1] [] [(0, .long W.2.2.1), (2, .long W.1)] f117_2 rfl k117_336_99 rfl (by decide +kernel) (Nat.le_of_ble_eq_true rfl) (Nat.le_of_ble_eq_true rfl) rfl rfl (by decide +kernel) (by decide +kernel) rfl (Nat.le_of_ble_eq_true rfl) rfl ?_
      refine zWp.mono (cx_gcd ro _ W.2.2.1 W.1) ?_
      rintro r h1 ⟨rfl, rfl⟩
      refine ⟨_, rfl, ?_⟩
      refine zw_lstore _ 7 f117_5 rfl (by decide +kernel) rfl ?_
      refine zw_lload 9 f117_7 rfl zl2_eq ?_
      refine zw_lconst 0 10 f117_9 rfl (by decide +kernel) ?_
      refine zw_lcmp (lg_cmp (cGc W.2.2.1 W.1) 0) 11 f117_10 rfl rfl ?_
      refine zw_if_ne_t 18 f117_11 (by decide +kernel) (fun q => cGc_ne0 ((lg_cmp_eq _ _).mp q)) ?_
      refine zw_lload_n 19 f117_18 rfl (zl2_ne rfl rfl rfl) ?_
      refine zw_lload 21 f117_19 rfl zl2_eq ?_
      refine zw_ldiv (W.1 / (cGc W.2.2.1 W.1)) 22 f117_21 rfl cGc_ne0 rfl ?_
      refine zw_lreturn f117_22 r117 u117 ⟨_, rfl, ?_⟩
      refine zw_lreturn f118_18 r118 u118 ⟨_, rfl, ?_⟩
      refine zw_lreturn f98_64 r98 u98 ?_
      exact ⟨rfl, by rw [show an_sum nv W y a = (W.1 / (cGc W.2.2.1 W.1)) from ((cI_n (kne (show a = 1 from hs1e) (by decide))).trans ((cI_y (show a = 1 from hs1e)).trans (rAb_c hs0 hg0).2.symm))]⟩
    · refine zw_table_k 56 65 f98_9 hs1e (by decide +kernel) (by decide +kernel) (by decide +kernel) ?_
      refine zw_aload_n 66 f98_65 rfl zl1_eq ?_
      refine zw_getG y 69 f98_66 rfl g98_147_9 (hb_12 _ _ _ _) rfl hy ?_
      refine zw_lreturn f98_69 r98 u98 ?_
      exact ⟨rfl, by rw [show an_sum nv W y a = y from ((cI_n (kne (show a = 2 from hs1e) (by decide))).trans ((cI_n (kne (show a = 2 from hs1e) (by decide))).trans ((cI_y (show a = 2 from hs1e)).trans rfl)))]⟩
    · refine zw_table_k 61 70 f98_9 hs1e (by decide +kernel) (by decide +kernel) (by decide +kernel) ?_
      refine zw_aload_n 71 f98_70 rfl zl1_eq ?_
      refine zw_getG W.2.2.2.1 74 f98_71 rfl g98_263_9 (hb_12 _ _ _ _) rfl hR.2.2.1.2.2.2 ?_
      refine zw_aload_n 75 f98_74 rfl zl1_eq ?_
      refine zw_getG W.1 78 f98_75 rfl g98_151_9 (hb_12 _ _ _ _) rfl hR.2.2.1.1 ?_
      refine zw_iload_n 79 f98_78 rfl (zl1_ne rfl rfl rfl) ?_
      refine zw_iconst 3 80 f98_79 rfl (by decide +kernel) ?_
      refine zw_isub (a - 3) 81 f98_80 rfl rfl ?_
      refine zw_static_l 84 0 0 [.long W.2.2.2.1, .long W.1, .int (a - 3)] [] [(0, .long W.2.2.2.1), (2, .long W.1), (4, .int (a - 3))] f98_81 rfl k98_210_99 rfl (by decide +kernel) (Nat.le_of_ble_eq_true rfl) (Nat.le_of_ble_eq_true rfl) rfl rfl (by decide +kernel) (by decide +kernel) rfl (Nat.le_of_ble_eq_true rfl) rfl ?_
      refine zw_iload 2 f118_0 rfl rfl ?_
      refine zw_if_ne_f 5 13 f118_2 (by decide +kernel) rfl (by rw [hs1e]; decide) ?_
      refine zw_lload_n 6 f118_5 rfl rfl ?_
      refine zw_lload_n 7 f118_6 rfl rfl ?_
      refine zw_static_l 10 0 0 [.long W.2.2.2.1, .long W.1] [] [(0, .long W.2.2.2.1), (2, .long W.1)] f118_7 rfl k118_194_99 rfl (by decide +kernel) (Nat.le_of_ble_eq_true rfl) (Nat.le_of_ble_eq_true rfl) rfl rfl (by decide +kernel) (by decide +kernel) rfl (Nat.le_of_ble_eq_true rfl) rfl ?_
      refine zw_lload_n 1 f116_0 rfl rfl ?_
      refine zw_lload_n 2 f116_1 rfl rfl ?_
      refine zw_static_l 5 0 0 [.long W.2.2.2.1, .long W.1] [] [(0, .long W.2.2.2.1), (2, .long W.1)] f116_2 rfl k116_336_99 rfl (by decide +kernel) (Nat.le_of_ble_eq_true rfl) (Nat.le_of_ble_eq_true rfl) rfl rfl (by decide +kernel) (by decide +kernel) rfl (Nat.le_of_ble_eq_true rfl) rfl ?_
      refine zWp.mono (cx_gcd ro _ W.2.2.2.1 W.1) ?_
      rintro r h1 ⟨rfl, rfl⟩
      refine ⟨_, rfl, ?_⟩
      refine zw_lstore _ 7 f116_5 rfl (by decide +kernel) rfl ?_
      refine zw_lload 9 f116_7 rfl zl2_eq ?_
      refine zw_lconst 0 10 f116_9 rfl (by decide +kernel) ?_
      refine zw_lcmp (lg_cmp (cGc W.2.2.2.1 W.1) 0) 11 f116_10 rfl rfl ?_
      refine zw_if_ne_t 18 f116_11 (by decide +kernel) (fun q => cGc_ne0 ((lg_cmp_eq _ _).mp q)) ?_
      refine zw_lload_n 19 f116_18 rfl (zl2_ne rfl rfl rfl) ?_
      refine zw_lload 21 f116_19 rfl zl2_eq ?_
      refine zw_ldiv (W.2.2.2.1 / (cGc W.2.2.2.1 W.1)) 22 f116_21 rfl cGc_ne0 rfl ?_
      refine zw_lreturn f116_22 r116 u116 ⟨_, rfl, ?_⟩
      refine zw_goto 18 f118_10 (by decide +kernel) ?_
      refine zw_lreturn f118_18 r118 u118 ⟨_, rfl, ?_⟩
      refine zw_lreturn f98_84 r98 u98 ?_
      exact ⟨rfl, by rw [show an_sum nv W y a = (W.2.2.2.1 / (cGc W.2.2.2.1 W.1)) from ((cI_n (kne (show a = 3 from hs1e) (by decide))).trans ((cI_n (kne (show a = 3 from hs1e) (by decide))).trans ((cI_n (kne (show a = 3 from hs1e) (by decide))).trans ((cI_y (show a = 3 from hs1e)).trans (rAb_c hd0 hg0).1.symm))))]⟩
    · refine zw_table_k 61 70 f98_9 hs1e (by decide +kernel) (by decide +kernel) (by decide +kernel) ?_
      refine zw_aload_n 71 f98_70 rfl zl1_eq ?_
      refine zw_getG W.2.2.2.1 74 f98_71 rfl g98_263_9 (hb_12 _ _ _ _) rfl hR.2.2.1.2.2.2 ?_
      refine zw_aload_n 75 f98_74 rfl zl1_eq ?_
      refine zw_getG W.1 78 f98_75 rfl g98_151_9 (hb_12 _ _ _ _) rfl hR.2.2.1.1 ?_
      refine zw_iload_n 79 f98_78 rfl (zl1_ne rfl rfl rfl) ?_
      refine zw_iconst 3 80 f98_79 rfl (by decide +kernel) ?_
      refine zw_isub (a - 3) 81 f98_80 rfl rfl ?_
      refine zw_static_l 84 0 0 [.long W.2.2.2.1, .long W.1, .int (a - 3)] [] [(0, .long W.2.2.2.1), (2, .long W.1), (4, .int (a - 3))] f98_81 rfl k98_210_99 rfl (by decide +kernel) (Nat.le_of_ble_eq_true rfl) (Nat.le_of_ble_eq_true rfl) rfl rfl (by decide +kernel) (by decide +kernel) rfl (Nat.le_of_ble_eq_true rfl) rfl ?_
      refine zw_iload 2 f118_0 rfl rfl ?_
      refine zw_if_ne_t 13 f118_2 (by decide +kernel) (by rw [hs1e]; decide) ?_
      refine zw_lload_n 14 f118_13 rfl rfl ?_
      refine zw_lload_n 15 f118_14 rfl rfl ?_
      refine zw_static_l 18 0 0 [.long W.2.2.2.1, .long W.1] [] [(0, .long W.2.2.2.1), (2, .long W.1)] f118_15 rfl k118_198_99 rfl (by decide +kernel) (Nat.le_of_ble_eq_true rfl) (Nat.le_of_ble_eq_true rfl) rfl rfl (by decide +kernel) (by decide +kernel) rfl (Nat.le_of_ble_eq_true rfl) rfl ?_
      refine zw_lload_n 1 f117_0 rfl rfl ?_
      refine zw_lload_n 2 f117_1 rfl rfl ?_
      refine zw_static_l 5 0 0 [.long W.2.2.2.1, .long W.1] [] [(0, .long W.2.2.2.1), (2, .long W.1)] f117_2 rfl k117_336_99 rfl (by decide +kernel) (Nat.le_of_ble_eq_true rfl) (Nat.le_of_ble_eq_true rfl) rfl rfl (by decide +kernel) (by decide +kernel) rfl (Nat.le_of_ble_eq_true rfl) rfl ?_
      refine zWp.mono (cx_gcd ro _ W.2.2.2.1 W.1) ?_
      rintro r h1 ⟨rfl, rfl⟩
      refine ⟨_, rfl, ?_⟩
      refine zw_lstore _ 7 f117_5 rfl (by decide +kernel) rfl ?_
      refine zw_lload 9 f117_7 rfl zl2_eq ?_
      refine zw_lconst 0 10 f117_9 rfl (by decide +kernel) ?_
      refine zw_lcmp (lg_cmp (cGc W.2.2.2.1 W.1) 0) 11 f117_10 rfl rfl ?_
      refine zw_if_ne_t 18 f117_11 (by decide +kernel) (fun q => cGc_ne0 ((lg_cmp_eq _ _).mp q)) ?_
      refine zw_lload_n 19 f117_18 rfl (zl2_ne rfl rfl rfl) ?_
      refine zw_lload 21 f117_19 rfl zl2_eq ?_
      refine zw_ldiv (W.1 / (cGc W.2.2.2.1 W.1)) 22 f117_21 rfl cGc_ne0 rfl ?_
      refine zw_lreturn f117_22 r117 u117 ⟨_, rfl, ?_⟩
      refine zw_lreturn f118_18 r118 u118 ⟨_, rfl, ?_⟩
      refine zw_lreturn f98_84 r98 u98 ?_
      exact ⟨rfl, by rw [show an_sum nv W y a = (W.1 / (cGc W.2.2.2.1 W.1)) from ((cI_n (kne (show a = 4 from hs1e) (by decide))).trans ((cI_n (kne (show a = 4 from hs1e) (by decide))).trans ((cI_n (kne (show a = 4 from hs1e) (by decide))).trans ((cI_n (kne (show a = 4 from hs1e) (by decide))).trans ((cI_y (show a = 4 from hs1e)).trans (rAb_c hd0 hg0).2.symm)))))]⟩
    · refine zw_table_k 76 85 f98_9 hs1e (by decide +kernel) (by decide +kernel) (by decide +kernel) ?_
      refine zw_aload_n 86 f98_85 rfl (zl1_ne rfl rfl rfl) ?_
      refine zw_getfield 89 f98_86 rfl g98_21_11 (hb_0 _ _ _ _) rfl ?_
      refine zw_virtual_l 92 0 0 [.ref 11] [(0, .ref 11)] f98_89 rfl n98_266 k98_266_10 rfl (hb_11 _ _ _ _) (by decide +kernel) (Nat.le_of_ble_eq_true rfl) rfl rfl (by decide +kernel) (by decide +kernel) rfl (Nat.le_of_ble_eq_true rfl) rfl ?_
      refine zWp.mono (cx_inv ro nv np P W I G A B hR hp) ?_
      rintro r h1 ⟨rfl, rfl⟩
      refine ⟨_, rfl, ?_⟩
      refine zw_aload_n 93 f98_92 rfl zl1_eq ?_
      refine zw_getG W.1 96 f98_93 rfl g98_151_9 (hb_12 _ _ _ _) rfl hR.2.2.1.1 ?_
      refine zw_iload_n 97 f98_96 rfl (zl1_ne rfl rfl rfl) ?_
      refine zw_iconst 5 98 f98_97 rfl (by decide +kernel) ?_
      refine zw_isub (a - 5) 99 f98_98 rfl rfl ?_
      refine zw_static_l 102 0 0 [.long (wSm W.2.2.2.2.1 nv), .long W.1, .int (a - 5)] [] [(0, .long (wSm W.2.2.2.2.1 nv)), (2, .long W.1), (4, .int (a - 5))] f98_99 rfl k98_210_99 rfl (by decide +kernel) (Nat.le_of_ble_eq_true rfl) (Nat.le_of_ble_eq_true rfl) rfl rfl (by decide +kernel) (by decide +kernel) rfl (Nat.le_of_ble_eq_true rfl) rfl ?_
      refine zw_iload 2 f118_0 rfl rfl ?_
      refine zw_if_ne_f 5 13 f118_2 (by decide +kernel) rfl (by rw [hs1e]; decide) ?_
      refine zw_lload_n 6 f118_5 rfl rfl ?_
      refine zw_lload_n 7 f118_6 rfl rfl ?_
      refine zw_static_l 10 0 0 [.long (wSm W.2.2.2.2.1 nv), .long W.1] [] [(0, .long (wSm W.2.2.2.2.1 nv)), (2, .long W.1)] f118_7 rfl k118_194_99 rfl (by decide +kernel) (Nat.le_of_ble_eq_true rfl) (Nat.le_of_ble_eq_true rfl) rfl rfl (by decide +kernel) (by decide +kernel) rfl (Nat.le_of_ble_eq_true rfl) rfl ?_
      refine zw_lload_n 1 f116_0 rfl rfl ?_
      refine zw_lload_n 2 f116_1 rfl rfl ?_
      refine zw_static_l 5 0 0 [.long (wSm W.2.2.2.2.1 nv), .long W.1] [] [(0, .long (wSm W.2.2.2.2.1 nv)), (2, .long W.1)] f116_2 rfl k116_336_99 rfl (by decide +kernel) (Nat.le_of_ble_eq_true rfl) (Nat.le_of_ble_eq_true rfl) rfl rfl (by decide +kernel) (by decide +kernel) rfl (Nat.le_of_ble_eq_true rfl) rfl ?_
      refine zWp.mono (cx_gcd ro _ (wSm W.2.2.2.2.1 nv) W.1) ?_
      rintro r h1 ⟨rfl, rfl⟩
      refine ⟨_, rfl, ?_⟩
      refine zw_lstore _ 7 f116_5 rfl (by decide +kernel) rfl ?_
      refine zw_lload 9 f116_7 rfl zl2_eq ?_
      refine zw_lconst 0 10 f116_9 rfl (by decide +kernel) ?_
      refine zw_lcmp (lg_cmp (cGc (wSm W.2.2.2.2.1 nv) W.1) 0) 11 f116_10 rfl rfl ?_
      refine zw_if_ne_t 18 f116_11 (by decide +kernel) (fun q => cGc_ne0 ((lg_cmp_eq _ _).mp q)) ?_
      refine zw_lload_n 19 f116_18 rfl (zl2_ne rfl rfl rfl) ?_
      refine zw_lload 21 f116_19 rfl zl2_eq ?_
      refine zw_ldiv ((wSm W.2.2.2.2.1 nv) / (cGc (wSm W.2.2.2.2.1 nv) W.1)) 22 f116_21 rfl cGc_ne0 rfl ?_
      refine zw_lreturn f116_22 r116 u116 ⟨_, rfl, ?_⟩
      refine zw_goto 18 f118_10 (by decide +kernel) ?_
      refine zw_lreturn f118_18 r118 u118 ⟨_, rfl, ?_⟩
      refine zw_lreturn f98_102 r98 u98 ?_
      exact ⟨rfl, by rw [show an_sum nv W y a = ((wSm W.2.2.2.2.1 nv) / (cGc (wSm W.2.2.2.2.1 nv) W.1)) from ((cI_n (kne (show a = 5 from hs1e) (by decide))).trans ((cI_n (kne (show a = 5 from hs1e) (by decide))).trans ((cI_n (kne (show a = 5 from hs1e) (by decide))).trans ((cI_n (kne (show a = 5 from hs1e) (by decide))).trans ((cI_n (kne (show a = 5 from hs1e) (by decide))).trans ((cI_y (show a = 5 from hs1e)).trans (rAb_c hm0 hg0).1.symm))))))]⟩
    · refine zw_table_k 76 85 f98_9 hs1e (by decide +kernel) (by decide +kernel) (by decide +kernel) ?_
      refine zw_aload_n 86 f98_85 rfl (zl1_ne rfl rfl rfl) ?_
      refine zw_getfield 89 f98_86 rfl g98_21_11 (hb_0 _ _ _ _) rfl ?_
      refine zw_virtual_l 92 0 0 [.ref 11] [(0, .ref 11)] f98_89 rfl n98_266 k98_266_10 rfl (hb_11 _ _ _ _) (by decide +kernel) (Nat.le_of_ble_eq_true rfl) rfl rfl (by decide +kernel) (by decide +kernel) rfl (Nat.le_of_ble_eq_true rfl) rfl ?_
      refine zWp.mono (cx_inv ro nv np P W I G A B hR hp) ?_
      rintro r h1 ⟨rfl, rfl⟩
      refine ⟨_, rfl, ?_⟩
      refine zw_aload_n 93 f98_92 rfl zl1_eq ?_
      refine zw_getG W.1 96 f98_93 rfl g98_151_9 (hb_12 _ _ _ _) rfl hR.2.2.1.1 ?_
      refine zw_iload_n 97 f98_96 rfl (zl1_ne rfl rfl rfl) ?_
      refine zw_iconst 5 98 f98_97 rfl (by decide +kernel) ?_
      refine zw_isub (a - 5) 99 f98_98 rfl rfl ?_
      refine zw_static_l 102 0 0 [.long (wSm W.2.2.2.2.1 nv), .long W.1, .int (a - 5)] [] [(0, .long (wSm W.2.2.2.2.1 nv)), (2, .long W.1), (4, .int (a - 5))] f98_99 rfl k98_210_99 rfl (by decide +kernel) (Nat.le_of_ble_eq_true rfl) (Nat.le_of_ble_eq_true rfl) rfl rfl (by decide +kernel) (by decide +kernel) rfl (Nat.le_of_ble_eq_true rfl) rfl ?_
      refine zw_iload 2 f118_0 rfl rfl ?_
      refine zw_if_ne_t 13 f118_2 (by decide +kernel) (by rw [hs1e]; decide) ?_
      refine zw_lload_n 14 f118_13 rfl rfl ?_
      refine zw_lload_n 15 f118_14 rfl rfl ?_
      refine zw_static_l 18 0 0 [.long (wSm W.2.2.2.2.1 nv), .long W.1] [] [(0, .long (wSm W.2.2.2.2.1 nv)), (2, .long W.1)] f118_15 rfl k118_198_99 rfl (by decide +kernel) (Nat.le_of_ble_eq_true rfl) (Nat.le_of_ble_eq_true rfl) rfl rfl (by decide +kernel) (by decide +kernel) rfl (Nat.le_of_ble_eq_true rfl) rfl ?_
      refine zw_lload_n 1 f117_0 rfl rfl ?_
      refine zw_lload_n 2 f117_1 rfl rfl ?_
      refine zw_static_l 5 0 0 [.long (wSm W.2.2.2.2.1 nv), .long W.1] [] [(0, .long (wSm W.2.2.2.2.1 nv)), (2, .long W.1)] f117_2 rfl k117_336_99 rfl (by decide +kernel) (Nat.le_of_ble_eq_true rfl) (Nat.le_of_ble_eq_true rfl) rfl rfl (by decide +kernel) (by decide +kernel) rfl (Nat.le_of_ble_eq_true rfl) rfl ?_
      refine zWp.mono (cx_gcd ro _ (wSm W.2.2.2.2.1 nv) W.1) ?_
      rintro r h1 ⟨rfl, rfl⟩
      refine ⟨_, rfl, ?_⟩
      refine zw_lstore _ 7 f117_5 rfl (by decide +kernel) rfl ?_
      refine zw_lload 9 f117_7 rfl zl2_eq ?_
      refine zw_lconst 0 10 f117_9 rfl (by decide +kernel) ?_
      refine zw_lcmp (lg_cmp (cGc (wSm W.2.2.2.2.1 nv) W.1) 0) 11 f117_10 rfl rfl ?_
      refine zw_if_ne_t 18 f117_11 (by decide +kernel) (fun q => cGc_ne0 ((lg_cmp_eq _ _).mp q)) ?_
      refine zw_lload_n 19 f117_18 rfl (zl2_ne rfl rfl rfl) ?_
      refine zw_lload 21 f117_19 rfl zl2_eq ?_
      refine zw_ldiv (W.1 / (cGc (wSm W.2.2.2.2.1 nv) W.1)) 22 f117_21 rfl cGc_ne0 rfl ?_
      refine zw_lreturn f117_22 r117 u117 ⟨_, rfl, ?_⟩
      refine zw_lreturn f118_18 r118 u118 ⟨_, rfl, ?_⟩
      refine zw_lreturn f98_102 r98 u98 ?_
      exact ⟨rfl, by rw [show an_sum nv W y a = (W.1 / (cGc (wSm W.2.2.2.2.1 nv) W.1)) from ((cI_n (kne (show a = 6 from hs1e) (by decide))).trans ((cI_n (kne (show a = 6 from hs1e) (by decide))).trans ((cI_n (kne (show a = 6 from hs1e) (by decide))).trans ((cI_n (kne (show a = 6 from hs1e) (by decide))).trans ((cI_n (kne (show a = 6 from hs1e) (by decide))).trans ((cI_n (kne (show a = 6 from hs1e) (by decide))).trans ((cI_y (show a = 6 from hs1e)).trans (rAb_c hm0 hg0).2.symm)))))))]⟩
set_option maxRecDepth 100000 in
set_option maxHeartbeats 0 in
theorem lmx_sum (ro : UInt32 → Nat × (Nat → Int32)) (nv np : Nat) (P : Nat → Nat → Int32) (W : qW) (L : qLog) (I : Nat → Nat → Int32) (G : Nat → Nat → Int64) (A : Nat → Nat → Int32) (B : Nat → Nat → Int64) (hR : mRS nv np P W L I G A B) (hp : MPa nv np P) (hg : 1 ≤ W.1.toInt) (y : Int64) (hy : G 52 21 = y) (a : Int32) : ∀ (n k : Nat) (ls : List (Nat × Value)), zld ls 0 = some (.ref 52) → zld ls 1 = some (.int a) → zld ls 2 = some (.long (wSm W.2.2.2.2.1 k)) → zld ls 4 = some (.int (nI k)) → k ≤ nv → nv + 1 ≤ k + n → zWp ro 164 5 ls [] (hS I G A B) 0 0 (fun r h1 => h1 = hS I G A B ∧ r = some (.long (an_sum nv W y a))) := by
  have h8 := hp.1
  intro n
  induction n with
  | zero =>
    intro k ls _ _ _ _ a c
    exact absurd c (by omega)
  | succ n ih =>
    intro k ls h0 h1 h2 h4 hk1 hk2
    refine zw_iload 7 f164_5 rfl h4 ?_
    refine zw_aload_n 8 f164_7 rfl h0 ?_
    refine zw_getI (nI nv) 11 f164_8 rfl g164_114_12 (hb_52 _ _ _ _) rfl hR.1.1 ?_
    refine zw_ic_ge 14 30 f164_11 (by decide +kernel) rfl (fun hc1 => ?_) (fun hc1 => ?_)
    · have hn_hc1 : nv ≤ k := zn_ge (by omega) (by omega) hc1
      refine zw_iload_n 31 f164_30 rfl h1 ?_
      rcases zl_sw 6 (by decide) a with hs2 | ⟨hs2k, hs2l, hs2e⟩
      · refine zw_table_o 117 f164_31 hs2 (by decide +kernel) ?_
        refine zw_ldc2_w (-1) 120 f164_117 rfl (by decide +kernel) ?_
        refine zw_lreturn f164_120 r164 u164 ?_
        have hk : k = nv := by omega
        subst hk
        exact ⟨rfl, by rw [show an_sum k W y a = (-1) from ((cI_n (sw_ne hs2 (by decide))).trans ((cI_n (sw_ne hs2 (by decide))).trans ((cI_n (sw_ne hs2 (by decide))).trans ((cI_n (sw_ne hs2 (by decide))).trans ((cI_n (sw_ne hs2 (by decide))).trans ((cI_n (sw_ne hs2 (by decide))).trans ((cI_n (sw_ne hs2 (by decide))).trans rfl)))))))]⟩
      · rcases (show hs2k = 0 ∨ hs2k = 1 ∨ hs2k = 2 ∨ hs2k = 3 ∨ hs2k = 4 ∨ hs2k = 5 ∨ hs2k = 6 by omega) with rfl | rfl | rfl | rfl | rfl | rfl | rfl
        · refine zw_table_k 41 72 f164_31 hs2e (by decide +kernel) (by decide +kernel) (by decide +kernel) ?_
          refine zw_aload_n 73 f164_72 rfl h0 ?_
          refine zw_getG W.2.2.1 76 f164_73 rfl g164_175_12 (hb_52 _ _ _ _) rfl hR.sp ?_
          refine zw_aload_n 77 f164_76 rfl h0 ?_
          refine zw_getG W.1 80 f164_77 rfl g164_40_12 (hb_52 _ _ _ _) rfl hR.g ?_
          refine zw_iload_n 81 f164_80 rfl h1 ?_
          refine zw_static_l 84 0 0 [.long W.2.2.1, .long W.1, .int a] [] [(0, .long W.2.2.1), (2, .long W.1), (4, .int a)] f164_81 rfl k164_239_99 rfl (by decide +kernel) (Nat.le_of_ble_eq_true rfl) (Nat.le_of_ble_eq_true rfl) rfl rfl (by decide +kernel) (by decide +kernel) rfl (Nat.le_of_ble_eq_true rfl) rfl ?_
          refine zw_lload_n 1 f153_0 rfl rfl ?_
          refine zw_lload_n 2 f153_1 rfl rfl ?_
          refine zw_static_l 5 0 0 [.long W.2.2.1, .long W.1] [] [(0, .long W.2.2.1), (2, .long W.1)] f153_2 rfl k153_164_99 rfl (by decide +kernel) (Nat.le_of_ble_eq_true rfl) (Nat.le_of_ble_eq_true rfl) rfl rfl (by decide +kernel) (by decide +kernel) rfl (Nat.le_of_ble_eq_true rfl) rfl ?_
          refine zWp.mono (mm_divisor ro _ W.2.2.1 W.1) ?_
          rintro r h1 ⟨rfl, rfl⟩
          refine ⟨_, rfl, ?_⟩
          refine zw_lstore _ 7 f153_5 rfl (by decide +kernel) rfl ?_
          refine zw_iload 9 f153_7 rfl (zl2_ne rfl rfl rfl) ?_
          refine zw_if_ne_f 12 19 f153_9 (by decide +kernel) rfl (by rw [hs2e]; decide) ?_
          refine zw_lload_n 13 f153_12 rfl (zl2_ne rfl rfl rfl) ?_
          refine zw_lload 15 f153_13 rfl zl2_eq ?_
          refine zw_ldiv (W.2.2.1 / (mD W.2.2.1 W.1)) 16 f153_15 rfl (mD_ne0 (i64_ne0 hg)) rfl ?_
          refine zw_goto 23 f153_16 (by decide +kernel) ?_
          refine zw_lreturn f153_23 r153 u153 ⟨_, rfl, ?_⟩
          refine zw_lreturn f164_84 r164 u164 ?_
          have hk : k = nv := by omega
          subst hk
          exact ⟨rfl, by rw [show an_sum k W y a = (W.2.2.1 / (mD W.2.2.1 W.1)) from ((cI_y (show a = 0 from hs2e)).trans rfl)]⟩
        · refine zw_table_k 41 72 f164_31 hs2e (by decide +kernel) (by decide +kernel) (by decide +kernel) ?_
          refine zw_aload_n 73 f164_72 rfl h0 ?_
          refine zw_getG W.2.2.1 76 f164_73 rfl g164_175_12 (hb_52 _ _ _ _) rfl hR.sp ?_
          refine zw_aload_n 77 f164_76 rfl h0 ?_
          refine zw_getG W.1 80 f164_77 rfl g164_40_12 (hb_52 _ _ _ _) rfl hR.g ?_
          refine zw_iload_n 81 f164_80 rfl h1 ?_
          refine zw_static_l 84 0 0 [.long W.2.2.1, .long W.1, .int a] [] [(0, .long W.2.2.1), (2, .long W.1), (4, .int a)] f164_81 rfl k164_239_99 rfl (by decide +kernel) (Nat.le_of_ble_eq_true rfl) (Nat.le_of_ble_eq_true rfl) rfl rfl (by decide +kernel) (by decide +kernel) rfl (Nat.le_of_ble_eq_true rfl) rfl ?_
          refine zw_lload_n 1 f153_0 rfl rfl ?_
          refine zw_lload_n 2 f153_1 rfl rfl ?_
          refine zw_static_l 5 0 0 [.long W.2.2.1, .long W.1] [] [(0, .long W.2.2.1), (2, .long W.1)] f153_2 rfl k153_164_99 rfl (by decide +kernel) (Nat.le_of_ble_eq_true rfl) (Nat.le_of_ble_eq_true rfl) rfl rfl (by decide +kernel) (by decide +kernel) rfl (Nat.le_of_ble_eq_true rfl) rfl ?_
          refine zWp.mono (mm_divisor ro _ W.2.2.1 W.1) ?_
          rintro r h1 ⟨rfl, rfl⟩
          refine ⟨_, rfl, ?_⟩
          refine zw_lstore _ 7 f153_5 rfl (by decide +kernel) rfl ?_
          refine zw_iload 9 f153_7 rfl (zl2_ne rfl rfl rfl) ?_
          refine zw_if_ne_t 19 f153_9 (by decide +kernel) (by rw [hs2e]; decide) ?_
          refine zw_lload_n 20 f153_19 rfl (zl2_ne rfl rfl rfl) ?_
          refine zw_lload 22 f153_20 rfl zl2_eq ?_
          refine zw_ldiv (W.1 / (mD W.2.2.1 W.1)) 23 f153_22 rfl (mD_ne0 (i64_ne0 hg)) rfl ?_
          refine zw_lreturn f153_23 r153 u153 ⟨_, rfl, ?_⟩
          refine zw_lreturn f164_84 r164 u164 ?_
          have hk : k = nv := by omega
          subst hk
          exact ⟨rfl, by rw [show an_sum k W y a = (W.1 / (mD W.2.2.1 W.1)) from ((cI_n (kne (show a = 1 from hs2e) (by decide))).trans ((cI_y (show a = 1 from hs2e)).trans rfl))]⟩
        · refine zw_table_k 54 85 f164_31 hs2e (by decide +kernel) (by decide +kernel) (by decide +kernel) ?_
          refine zw_aload_n 86 f164_85 rfl h0 ?_
          refine zw_getG y 89 f164_86 rfl g164_225_12 (hb_52 _ _ _ _) rfl hy ?_
          refine zw_lreturn f164_89 r164 u164 ?_
          have hk : k = nv := by omega
          subst hk
          exact ⟨rfl, by rw [show an_sum k W y a = y from ((cI_n (kne (show a = 2 from hs2e) (by decide))).trans ((cI_n (kne (show a = 2 from hs2e) (by decide))).trans ((cI_y (show a = 2 from hs2e)).trans rfl)))]⟩
        · refine zw_table_k 59 90 f164_31 hs2e (by decide +kernel) (by decide +kernel) (by decide +kernel) ?_
          refine zw_aload_n 91 f164_90 rfl h0 ?_
          refine zw_getG W.2.2.2.1 94 f164_91 rfl g164_178_12 (hb_52 _ _ _ _) rfl hR.dr ?_
          refine zw_aload_n 95 f164_94 rfl h0 ?_
          refine zw_getG W.1 98 f164_95 rfl g164_40_12 (hb_52 _ _ _ _) rfl hR.g ?_
          refine zw_iload_n 99 f164_98 rfl h1 ?_
          refine zw_iconst 3 100 f164_99 rfl (by decide +kernel) ?_
          refine zw_isub (a - 3) 101 f164_100 rfl rfl ?_
          refine zw_static_l 104 0 0 [.long W.2.2.2.1, .long W.1, .int (a - 3)] [] [(0, .long W.2.2.2.1), (2, .long W.1), (4, .int (a - 3))] f164_101 rfl k164_239_99 rfl (by decide +kernel) (Nat.le_of_ble_eq_true rfl) (Nat.le_of_ble_eq_true rfl) rfl rfl (by decide +kernel) (by decide +kernel) rfl (Nat.le_of_ble_eq_true rfl) rfl ?_
          refine zw_lload_n 1 f153_0 rfl rfl ?_
          refine zw_lload_n 2 f153_1 rfl rfl ?_
          refine zw_static_l 5 0 0 [.long W.2.2.2.1, .long W.1] [] [(0, .long W.2.2.2.1), (2, .long W.1)] f153_2 rfl k153_164_99 rfl (by decide +kernel) (Nat.le_of_ble_eq_true rfl) (Nat.le_of_ble_eq_true rfl) rfl rfl (by decide +kernel) (by decide +kernel) rfl (Nat.le_of_ble_eq_true rfl) rfl ?_
          refine zWp.mono (mm_divisor ro _ W.2.2.2.1 W.1) ?_
          rintro r h1 ⟨rfl, rfl⟩
          refine ⟨_, rfl, ?_⟩
          refine zw_lstore _ 7 f153_5 rfl (by decide +kernel) rfl ?_
          refine zw_iload 9 f153_7 rfl (zl2_ne rfl rfl rfl) ?_
          refine zw_if_ne_f 12 19 f153_9 (by decide +kernel) rfl (by rw [hs2e]; decide) ?_
          refine zw_lload_n 13 f153_12 rfl (zl2_ne rfl rfl rfl) ?_
          refine zw_lload 15 f153_13 rfl zl2_eq ?_
          refine zw_ldiv (W.2.2.2.1 / (mD W.2.2.2.1 W.1)) 16 f153_15 rfl (mD_ne0 (i64_ne0 hg)) rfl ?_
          refine zw_goto 23 f153_16 (by decide +kernel) ?_
          refine zw_lreturn f153_23 r153 u153 ⟨_, rfl, ?_⟩
          refine zw_lreturn f164_104 r164 u164 ?_
          have hk : k = nv := by omega
          subst hk
          exact ⟨rfl, by rw [show an_sum k W y a = (W.2.2.2.1 / (mD W.2.2.2.1 W.1)) from ((cI_n (kne (show a = 3 from hs2e) (by decide))).trans ((cI_n (kne (show a = 3 from hs2e) (by decide))).trans ((cI_n (kne (show a = 3 from hs2e) (by decide))).trans ((cI_y (show a = 3 from hs2e)).trans rfl))))]⟩
        · refine zw_table_k 59 90 f164_31 hs2e (by decide +kernel) (by decide +kernel) (by decide +kernel) ?_
          refine zw_aload_n 91 f164_90 rfl h0 ?_
          refine zw_getG W.2.2.2.1 94 f164_91 rfl g164_178_12 (hb_52 _ _ _ _) rfl hR.dr ?_
          refine zw_aload_n 95 f164_94 rfl h0 ?_
          refine zw_getG W.1 98 f164_95 rfl g164_40_12 (hb_52 _ _ _ _) rfl hR.g ?_
          refine zw_iload_n 99 f164_98 rfl h1 ?_
          refine zw_iconst 3 100 f164_99 rfl (by decide +kernel) ?_
          refine zw_isub (a - 3) 101 f164_100 rfl rfl ?_
          refine zw_static_l 104 0 0 [.long W.2.2.2.1, .long W.1, .int (a - 3)] [] [(0, .long W.2.2.2.1), (2, .long W.1), (4, .int (a - 3))] f164_101 rfl k164_239_99 rfl (by decide +kernel) (Nat.le_of_ble_eq_true rfl) (Nat.le_of_ble_eq_true rfl) rfl rfl (by decide +kernel) (by decide +kernel) rfl (Nat.le_of_ble_eq_true rfl) rfl ?_
          refine zw_lload_n 1 f153_0 rfl rfl ?_
          refine zw_lload_n 2 f153_1 rfl rfl ?_
          refine zw_static_l 5 0 0 [.long W.2.2.2.1, .long W.1] [] [(0, .long W.2.2.2.1), (2, .long W.1)] f153_2 rfl k153_164_99 rfl (by decide +kernel) (Nat.le_of_ble_eq_true rfl) (Nat.le_of_ble_eq_true rfl) rfl rfl (by decide +kernel) (by decide +kernel) rfl (Nat.le_of_ble_eq_true rfl) rfl ?_
          refine zWp.mono (mm_divisor ro _ W.2.2.2.1 W.1) ?_
          rintro r h1 ⟨rfl, rfl⟩
          refine ⟨_, rfl, ?_⟩
          refine zw_lstore _ 7 f153_5 rfl (by decide +kernel) rfl ?_
          refine zw_iload 9 f153_7 rfl (zl2_ne rfl rfl rfl) ?_
          refine zw_if_ne_t 19 f153_9 (by decide +kernel) (by rw [hs2e]; decide) ?_
          refine zw_lload_n 20 f153_19 rfl (zl2_ne rfl rfl rfl) ?_
          refine zw_lload 22 f153_20 rfl zl2_eq ?_
          refine zw_ldiv (W.1 / (mD W.2.2.2.1 W.1)) 23 f153_22 rfl (mD_ne0 (i64_ne0 hg)) rfl ?_
          refine zw_lreturn f153_23 r153 u153 ⟨_, rfl, ?_⟩
          refine zw_lreturn f164_104 r164 u164 ?_
          have hk : k = nv := by omega
          subst hk
          exact ⟨rfl, by rw [show an_sum k W y a = (W.1 / (mD W.2.2.2.1 W.1)) from ((cI_n (kne (show a = 4 from hs2e) (by decide))).trans ((cI_n (kne (show a = 4 from hs2e) (by decide))).trans ((cI_n (kne (show a = 4 from hs2e) (by decide))).trans ((cI_n (kne (show a = 4 from hs2e) (by decide))).trans ((cI_y (show a = 4 from hs2e)).trans rfl)))))]⟩
        · refine zw_table_k 74 105 f164_31 hs2e (by decide +kernel) (by decide +kernel) (by decide +kernel) ?_
          refine zw_lload_n 106 f164_105 rfl h2 ?_
          refine zw_aload_n 107 f164_106 rfl h0 ?_
          refine zw_getG W.1 110 f164_107 rfl g164_40_12 (hb_52 _ _ _ _) rfl hR.g ?_
          refine zw_iload_n 111 f164_110 rfl h1 ?_
          refine zw_iconst 5 112 f164_111 rfl (by decide +kernel) ?_
          refine zw_isub (a - 5) 113 f164_112 rfl rfl ?_
          refine zw_static_l 116 0 0 [.long (wSm W.2.2.2.2.1 k), .long W.1, .int (a - 5)] [] [(0, .long (wSm W.2.2.2.2.1 k)), (2, .long W.1), (4, .int (a - 5))] f164_113 rfl k164_239_99 rfl (by decide +kernel) (Nat.le_of_ble_eq_true rfl) (Nat.le_of_ble_eq_true rfl) rfl rfl (by decide +kernel) (by decide +kernel) rfl (Nat.le_of_ble_eq_true rfl) rfl ?_
          refine zw_lload_n 1 f153_0 rfl rfl ?_
          refine zw_lload_n 2 f153_1 rfl rfl ?_
          refine zw_static_l 5 0 0 [.long (wSm W.2.2.2.2.1 k), .long W.1] [] [(0, .long (wSm W.2.2.2.2.1 k)), (2, .long W.1)] f153_2 rfl k153_164_99 rfl (by decide +kernel) (Nat.le_of_ble_eq_true rfl) (Nat.le_of_ble_eq_true rfl) rfl rfl (by decide +kernel) (by decide +kernel) rfl (Nat.le_of_ble_eq_true rfl) rfl ?_
          refine zWp.mono (mm_divisor ro _ (wSm W.2.2.2.2.1 k) W.1) ?_
          rintro r h1 ⟨rfl, rfl⟩
          refine ⟨_, rfl, ?_⟩
          refine zw_lstore _ 7 f153_5 rfl (by decide +kernel) rfl ?_
          refine zw_iload 9 f153_7 rfl (zl2_ne rfl rfl rfl) ?_
          refine zw_if_ne_f 12 19 f153_9 (by decide +kernel) rfl (by rw [hs2e]; decide) ?_
          refine zw_lload_n 13 f153_12 rfl (zl2_ne rfl rfl rfl) ?_
          refine zw_lload 15 f153_13 rfl zl2_eq ?_
          refine zw_ldiv ((wSm W.2.2.2.2.1 k) / (mD (wSm W.2.2.2.2.1 k) W.1)) 16 f153_15 rfl (mD_ne0 (i64_ne0 hg)) rfl ?_
          refine zw_goto 23 f153_16 (by decide +kernel) ?_
          refine zw_lreturn f153_23 r153 u153 ⟨_, rfl, ?_⟩
          refine zw_lreturn f164_116 r164 u164 ?_
          have hk : k = nv := by omega
          subst hk
          exact ⟨rfl, by rw [show an_sum k W y a = ((wSm W.2.2.2.2.1 k) / (mD (wSm W.2.2.2.2.1 k) W.1)) from ((cI_n (kne (show a = 5 from hs2e) (by decide))).trans ((cI_n (kne (show a = 5 from hs2e) (by decide))).trans ((cI_n (kne (show a = 5 from hs2e) (by decide))).trans ((cI_n (kne (show a = 5 from hs2e) (by decide))).trans ((cI_n (kne (show a = 5 from hs2e) (by decide))).trans ((cI_y (show a = 5 from hs2e)).trans rfl))))))]⟩
        · refine zw_table_k 74 105 f164_31 hs2e (by decide +kernel) (by decide +kernel) (by decide +kernel) ?_
          refine zw_lload_n 106 f164_105 rfl h2 ?_
          refine zw_aload_n 107 f164_106 rfl h0 ?_
          refine zw_getG W.1 110 f164_107 rfl g164_40_12 (hb_52 _ _ _ _) rfl hR.g ?_
          refine zw_iload_n 111 f164_110 rfl h1 ?_
          refine zw_iconst 5 112 f164_111 rfl (by decide +kernel) ?_
          refine zw_isub (a - 5) 113 f164_112 rfl rfl ?_
          refine zw_static_l 116 0 0 [.long (wSm W.2.2.2.2.1 k), .long W.1, .int (a - 5)] [] [(0, .long (wSm W.2.2.2.2.1 k)), (2, .long W.1), (4, .int (a - 5))] f164_113 rfl k164_239_99 rfl (by decide +kernel) (Nat.le_of_ble_eq_true rfl) (Nat.le_of_ble_eq_true rfl) rfl rfl (by decide +kernel) (by decide +kernel) rfl (Nat.le_of_ble_eq_true rfl) rfl ?_
          refine zw_lload_n 1 f153_0 rfl rfl ?_
          refine zw_lload_n 2 f153_1 rfl rfl ?_
          refine zw_static_l 5 0 0 [.long (wSm W.2.2.2.2.1 k), .long W.1] [] [(0, .long (wSm W.2.2.2.2.1 k)), (2, .long W.1)] f153_2 rfl k153_164_99 rfl (by decide +kernel) (Nat.le_of_ble_eq_true rfl) (Nat.le_of_ble_eq_true rfl) rfl rfl (by decide +kernel) (by decide +kernel) rfl (Nat.le_of_ble_eq_true rfl) rfl ?_
          refine zWp.mono (mm_divisor ro _ (wSm W.2.2.2.2.1 k) W.1) ?_
          rintro r h1 ⟨rfl, rfl⟩
          refine ⟨_, rfl, ?_⟩
          refine zw_lstore _ 7 f153_5 rfl (by decide +kernel) rfl ?_
          refine zw_iload 9 f153_7 rfl (zl2_ne rfl rfl rfl) ?_
          refine zw_if_ne_t 19 f153_9 (by decide +kernel) (by rw [hs2e]; decide) ?_
          refine zw_lload_n 20 f153_19 rfl (zl2_ne rfl rfl rfl) ?_
          refine zw_lload 22 f153_20 rfl zl2_eq ?_
          refine zw_ldiv (W.1 / (mD (wSm W.2.2.2.2.1 k) W.1)) 23 f153_22 rfl (mD_ne0 (i64_ne0 hg)) rfl ?_
          refine zw_lreturn f153_23 r153 u153 ⟨_, rfl, ?_⟩
          refine zw_lreturn f164_116 r164 u164 ?_
          have hk : k = nv := by omega
          subst hk
          exact ⟨rfl, by rw [show an_sum k W y a = (W.1 / (mD (wSm W.2.2.2.2.1 k) W.1)) from ((cI_n (kne (show a = 6 from hs2e) (by decide))).trans ((cI_n (kne (show a = 6 from hs2e) (by decide))).trans ((cI_n (kne (show a = 6 from hs2e) (by decide))).trans ((cI_n (kne (show a = 6 from hs2e) (by decide))).trans ((cI_n (kne (show a = 6 from hs2e) (by decide))).trans ((cI_n (kne (show a = 6 from hs2e) (by decide))).trans ((cI_y (show a = 6 from hs2e)).trans rfl)))))))]⟩
    · have hn_hc1 : k < nv := zn_lt (by omega) (by omega) hc1
      refine zw_lload_n 15 f164_14 rfl h2 ?_
      refine zw_aload_n 16 f164_15 rfl h0 ?_
      refine zw_getfield 19 f164_16 rfl g164_44_12 (hb_52 _ _ _ _) rfl ?_
      refine zw_iload 21 f164_19 rfl h4 ?_
      refine zw_laload k ((W.2.2.2.2.1) k) 22 f164_21 rfl (hb_63 _ _ _ _) (nI_clamp (by omega)) (nI_pos (by omega)) (by omega) (congrFun (hR.lev) k) ?_
      refine zw_ladd ((wSm W.2.2.2.2.1 k) + ((W.2.2.2.2.1) k)) 23 f164_22 rfl rfl ?_
      refine zw_lstore_n _ 24 f164_23 rfl (by decide +kernel) rfl ?_
      refine zw_iinc (nI (k + 1)) _ 27 f164_24 rfl (zl2_ne rfl rfl h4) (by decide +kernel) (nI_1 _) rfl ?_
      refine zw_goto 5 f164_27 (by decide +kernel) ?_
      exact ih (k + 1) _ (zl1_ne rfl rfl (zl2_ne rfl rfl h0)) (zl1_ne rfl rfl (zl2_ne rfl rfl h1)) (zl1_ne rfl rfl zl2_eq) zl1_eq (by omega) (by omega)
set_option maxRecDepth 100000 in
set_option maxHeartbeats 0 in
theorem mx_sum (ro : UInt32 → Nat × (Nat → Int32)) (nv np : Nat) (P : Nat → Nat → Int32) (W : qW) (L : qLog) (I : Nat → Nat → Int32) (G : Nat → Nat → Int64) (A : Nat → Nat → Int32) (B : Nat → Nat → Int64) (hR : mRS nv np P W L I G A B) (hp : MPa nv np P) (hg : 1 ≤ W.1.toInt) (y : Int64) (hy : G 52 21 = y) (a : Int32) : zWp ro 164 0 [(0, .ref 52), (1, .int a)] [] (hS I G A B) 0 0 (fun r h1 => h1 = hS I G A B ∧ r = some (.long (an_sum nv W y a))) := by
  have h8 := hp.1
  refine zw_lconst 0 1 f164_0 rfl (by decide +kernel) ?_
  refine zw_lstore_n _ 2 f164_1 rfl (by decide +kernel) rfl ?_
  refine zw_iconst 0 3 f164_2 rfl (by decide +kernel) ?_
  refine zw_istore _ 5 f164_3 rfl (by decide +kernel) rfl ?_
  exact lmx_sum ro nv np P W L I G A B hR hp hg y hy a (nv + 1) 0 _ (zl1_ne rfl rfl (zl2_ne rfl rfl rfl)) (zl1_ne rfl rfl (zl2_ne rfl rfl rfl)) (zl1_ne rfl rfl zl2_eq) zl1_eq (by omega) (by omega)
set_option maxHeartbeats 0 in
theorem pairX_sumx (ro : UInt32 → Nat × (Nat → Int32)) (k : Nat) (I : Nat → Nat → Int32) (G : Nat → Nat → Int64) (A : Nat → Nat → Int32) (B : Nat → Nat → Int64) (h : zCx k I G A B) (hk : k < 512) (a : Int32) : zWp ro 98 0 [(0, .ref 0), (1, .int a)] [] (hS I G A B) 0 0 (zPY ro 164 [(0, .ref 52), (1, .int a)] k (fun v w => v = w)) := by
  obtain ⟨nv, np, W, L, F, R, ow, kd, lw, lg, bh⟩ := h
  have fn := F.2.2.2.2.2
  refine zWp.mono (cq_sum ro nv np A W I G A B R F.2.1 10000 (242600 * k) F.2.2.1.1 (G 12 4) rfl a) ?_
  rintro r h1 ⟨rfl, rfl⟩
  refine ⟨_, rfl, zWp.mono (mx_sum ro nv np A W L I G A B F.1 F.2.1 F.2.2.1.1.1.1.1 (G 12 4) bh.symm a) ?_⟩
  rintro r2 h2 ⟨rfl, rfl⟩
  refine ⟨_, rfl, ?_, rfl⟩
  exact zCx.mk (pf := fun _ _ => false) (pa := fun _ => false) (zRf.of F.1 F.2.1 F.2.2.1 F.2.2.2.1 F.2.2.2.2.1 fn) (by omega) (by omega) R PE.rf KQ.rf (fun _ _ _ => rfl) (fun _ _ => rfl) ow kd lw lg bh
theorem pair2_sumx (ro : UInt32 → Nat × (Nat → Int32)) (k : Nat) (I : Nat → Nat → Int32) (G : Nat → Nat → Int64) (A : Nat → Nat → Int32) (B : Nat → Nat → Int64) (h : zL2 k I G A B) (hk : k < 512) (a : Int32) : zWp ro 98 0 [(0, .ref 0), (1, .int a)] [] (hS I G A B) 0 0 (zP3 ro 164 [(0, .ref 52), (1, .int a)] k (fun v w => v = w)) := by
  obtain ⟨h1, I3, G3, A3, B3, eh, hx⟩ := h
  have p1 := pair_sum ro k I G A B h1 hk a
  have p2 := pairX_sumx ro k I3 G3 A3 B3 hx hk a
  rw [← eh] at p2
  exact zL_and p1 p2
