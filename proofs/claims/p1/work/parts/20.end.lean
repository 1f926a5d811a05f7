theorem zl_k {a : Int32} (n : Nat) (hn : n < 100) (h1 : ¬ a < 0) (h2 : ¬ nI n < a) : ∃ k : Nat, k ≤ n ∧ a = nI k := by
  rcases zl_sw n hn a with h | h
  · exfalso
    rw [Int32.lt_iff_toInt_lt] at h1 h2
    have e0 : (0 : Int32).toInt = 0 := by decide
    rw [nI_toInt (by omega)] at h2
    omega
  · exact h
set_option maxRecDepth 100000 in
theorem l_op0 (xs : Nat → Int32) (e0 : xs 0 &&& 31 = 0) : zWp (zro 6 xs) 189 18 [(3, .int 0), (2, .ref 52), (1, .ref 0), (0, .float 0)] [] hF 82 7398 (fun r _ => r = some (.int 1)) := by
  by_cases h1 : xs 1 < 0
  · exact l_vessel_r1 xs e0 h1
  by_cases h2 : 4 < xs 1
  · exact l_vessel_r2 xs e0 h1 h2
  by_cases h3 : xs 2 < 1
  · exact l_vessel_r3 xs e0 h1 h2 h3
  by_cases h4 : 200 < xs 2
  · exact l_vessel_r4 xs e0 h1 h2 h3 h4
  obtain ⟨k, hk, e1⟩ := zl_k 4 (by decide) h1 h2
  rcases (show k = 0 ∨ k = 1 ∨ k = 2 ∨ k = 3 ∨ k = 4 by omega) with rfl | rfl | rfl | rfl | rfl
  · exact l_vessel_k0 xs e0 e1 h3 h4
  · exact l_vessel_k1 xs e0 e1 h3 h4
  · exact l_vessel_k2 xs e0 e1 h3 h4
  · exact l_vessel_k3 xs e0 e1 h3 h4
  · exact l_vessel_k4 xs e0 e1 h3 h4

set_option maxRecDepth 100000 in
theorem l_op1 (xs : Nat → Int32) (e0 : xs 0 &&& 31 = 1) : zWp (zro 6 xs) 189 18 [(3, .int 0), (2, .ref 52), (1, .ref 0), (0, .float 0)] [] hF 82 7398 (fun r _ => r = some (.int 1)) := by
  exact l_marks_r xs e0

set_option maxRecDepth 100000 in
theorem l_op2 (xs : Nat → Int32) (e0 : xs 0 &&& 31 = 2) : zWp (zro 6 xs) 189 18 [(3, .int 0), (2, .ref 52), (1, .ref 0), (0, .float 0)] [] hF 82 7398 (fun r _ => r = some (.int 1)) := by
  exact l_own_r xs e0

set_option maxRecDepth 100000 in
theorem l_op3 (xs : Nat → Int32) (e0 : xs 0 &&& 31 = 3) : zWp (zro 6 xs) 189 18 [(3, .int 0), (2, .ref 52), (1, .ref 0), (0, .float 0)] [] hF 82 7398 (fun r _ => r = some (.int 1)) := by
  exact l_tips_r xs e0

set_option maxRecDepth 100000 in
theorem l_op4 (xs : Nat → Int32) (e0 : xs 0 &&& 31 = 4) : zWp (zro 6 xs) 189 18 [(3, .int 0), (2, .ref 52), (1, .ref 0), (0, .float 0)] [] hF 82 7398 (fun r _ => r = some (.int 1)) := by
  exact l_over_r xs e0

set_option maxRecDepth 100000 in
theorem l_op5 (xs : Nat → Int32) (e0 : xs 0 &&& 31 = 5) : zWp (zro 6 xs) 189 18 [(3, .int 0), (2, .ref 52), (1, .ref 0), (0, .float 0)] [] hF 82 7398 (fun r _ => r = some (.int 1)) := by
  exact l_pipe_r xs e0

set_option maxRecDepth 100000 in
theorem l_op6 (xs : Nat → Int32) (e0 : xs 0 &&& 31 = 6) : zWp (zro 6 xs) 189 18 [(3, .int 0), (2, .ref 52), (1, .ref 0), (0, .float 0)] [] hF 82 7398 (fun r _ => r = some (.int 1)) := by
  exact l_fill_r xs e0

set_option maxRecDepth 100000 in
theorem l_op7 (xs : Nat → Int32) (e0 : xs 0 &&& 31 = 7) : zWp (zro 6 xs) 189 18 [(3, .int 0), (2, .ref 52), (1, .ref 0), (0, .float 0)] [] hF 82 7398 (fun r _ => r = some (.int 1)) := by
  by_cases q2 : xs 2 = 0
  · exact l_shut_r0 xs e0 q2
  · exact l_shut_r1 xs e0 q2

set_option maxRecDepth 100000 in
theorem l_op8 (xs : Nat → Int32) (e0 : xs 0 &&& 31 = 8) : zWp (zro 6 xs) 189 18 [(3, .int 0), (2, .ref 52), (1, .ref 0), (0, .float 0)] [] hF 82 7398 (fun r _ => r = some (.int 1)) := by
  exact l_amount_r xs e0

set_option maxRecDepth 100000 in
theorem l_op9 (xs : Nat → Int32) (e0 : xs 0 &&& 31 = 9) : zWp (zro 6 xs) 189 18 [(3, .int 0), (2, .ref 52), (1, .ref 0), (0, .float 0)] [] hF 82 7398 (fun r _ => r = some (.int 1)) := by
  by_cases h1 : 10000 < xs 1
  · exact l_go_r1 xs e0 h1
  by_cases h2 : xs 1 < 0
  · exact l_go_r2 xs e0 h1 h2
  by_cases h3 : xs 1 = 0
  · exact l_go_r3 xs e0 h3
  · refine l_go_r4 xs e0 h1 ?_
    rw [Int32.lt_iff_toInt_lt] at h2 ⊢
    have h4 : ¬ (xs 1).toInt = (0 : Int32).toInt := fun q => h3 (Int32.toInt_inj.mp q)
    have e9 : (0 : Int32).toInt = 0 := by decide
    omega

set_option maxRecDepth 100000 in
theorem l_op10 (xs : Nat → Int32) (e0 : xs 0 &&& 31 = 10) : zWp (zro 6 xs) 189 18 [(3, .int 0), (2, .ref 52), (1, .ref 0), (0, .float 0)] [] hF 82 7398 (fun r _ => r = some (.int 1)) := by
  rcases zl_sw 2 (by decide) (xs 1) with h | ⟨k, hk, e1⟩
  · exact l_now_o xs e0 h
  · rcases (show k = 0 ∨ k = 1 ∨ k = 2 by omega) with rfl | rfl | rfl
    · exact l_now_k0 xs e0 e1
    · exact l_now_k1 xs e0 e1
    · exact l_now_k2 xs e0 e1

set_option maxRecDepth 100000 in
theorem l_op11 (xs : Nat → Int32) (e0 : xs 0 &&& 31 = 11) : zWp (zro 6 xs) 189 18 [(3, .int 0), (2, .ref 52), (1, .ref 0), (0, .float 0)] [] hF 82 7398 (fun r _ => r = some (.int 1)) := by
  exact l_next_r xs e0

set_option maxRecDepth 100000 in
theorem l_op12 (xs : Nat → Int32) (e0 : xs 0 &&& 31 = 12) : zWp (zro 6 xs) 189 18 [(3, .int 0), (2, .ref 52), (1, .ref 0), (0, .float 0)] [] hF 82 7398 (fun r _ => r = some (.int 1)) := by
  exact l_level_r xs e0

set_option maxRecDepth 100000 in
theorem l_op13 (xs : Nat → Int32) (e0 : xs 0 &&& 31 = 13) : zWp (zro 6 xs) 189 18 [(3, .int 0), (2, .ref 52), (1, .ref 0), (0, .float 0)] [] hF 82 7398 (fun r _ => r = some (.int 1)) := by
  exact l_rate_r xs e0

set_option maxRecDepth 100000 in
theorem l_op14 (xs : Nat → Int32) (e0 : xs 0 &&& 31 = 14) : zWp (zro 6 xs) 189 18 [(3, .int 0), (2, .ref 52), (1, .ref 0), (0, .float 0)] [] hF 82 7398 (fun r _ => r = some (.int 1)) := by
  exact l_flow_r xs e0

set_option maxRecDepth 100000 in
theorem l_op15 (xs : Nat → Int32) (e0 : xs 0 &&& 31 = 15) : zWp (zro 6 xs) 189 18 [(3, .int 0), (2, .ref 52), (1, .ref 0), (0, .float 0)] [] hF 82 7398 (fun r _ => r = some (.int 1)) := by
  exact l_flood_r xs e0

set_option maxRecDepth 100000 in
theorem l_op16 (xs : Nat → Int32) (e0 : xs 0 &&& 31 = 16) : zWp (zro 6 xs) 189 18 [(3, .int 0), (2, .ref 52), (1, .ref 0), (0, .float 0)] [] hF 82 7398 (fun r _ => r = some (.int 1)) := by
  exact l_told_r xs e0

set_option maxRecDepth 100000 in
theorem l_op17 (xs : Nat → Int32) (e0 : xs 0 &&& 31 = 17) : zWp (zro 6 xs) 189 18 [(3, .int 0), (2, .ref 52), (1, .ref 0), (0, .float 0)] [] hF 82 7398 (fun r _ => r = some (.int 1)) := by
  exact l_pipeTold_r xs e0

set_option maxRecDepth 100000 in
theorem l_op18 (xs : Nat → Int32) (e0 : xs 0 &&& 31 = 18) : zWp (zro 6 xs) 189 18 [(3, .int 0), (2, .ref 52), (1, .ref 0), (0, .float 0)] [] hF 82 7398 (fun r _ => r = some (.int 1)) := by
  rcases zl_sw 3 (by decide) (xs 1) with h | ⟨k, hk, e1⟩
  · exact l_count_o xs e0 h
  · rcases (show k = 0 ∨ k = 1 ∨ k = 2 ∨ k = 3 by omega) with rfl | rfl | rfl | rfl
    · exact l_count_k0 xs e0 e1
    · exact l_count_k1 xs e0 e1
    · exact l_count_k2 xs e0 e1
    · exact l_count_k3 xs e0 e1

set_option maxRecDepth 100000 in
theorem l_op19 (xs : Nat → Int32) (e0 : xs 0 &&& 31 = 19) : zWp (zro 6 xs) 189 18 [(3, .int 0), (2, .ref 52), (1, .ref 0), (0, .float 0)] [] hF 82 7398 (fun r _ => r = some (.int 1)) := by
  exact l_event_r xs e0

set_option maxRecDepth 100000 in
theorem l_op20 (xs : Nat → Int32) (e0 : xs 0 &&& 31 = 20) : zWp (zro 6 xs) 189 18 [(3, .int 0), (2, .ref 52), (1, .ref 0), (0, .float 0)] [] hF 82 7398 (fun r _ => r = some (.int 1)) := by
  rcases zl_sw 6 (by decide) (xs 1) with h | ⟨k, hk, e1⟩
  · exact l_sum_o xs e0 h
  · rcases (show k = 0 ∨ k = 1 ∨ k = 2 ∨ k = 3 ∨ k = 4 ∨ k = 5 ∨ k = 6 by omega) with rfl | rfl | rfl | rfl | rfl | rfl | rfl
    · exact l_sum_k0 xs e0 e1
    · exact l_sum_k1 xs e0 e1
    · exact l_sum_k2 xs e0 e1
    · exact l_sum_k3 xs e0 e1
    · exact l_sum_k4 xs e0 e1
    · exact l_sum_k5 xs e0 e1
    · exact l_sum_k6 xs e0 e1

set_option maxRecDepth 100000 in
theorem l_op21 (xs : Nat → Int32) (e0 : xs 0 &&& 31 = 21) : zWp (zro 6 xs) 189 18 [(3, .int 0), (2, .ref 52), (1, .ref 0), (0, .float 0)] [] hF 82 7398 (fun r _ => r = some (.int 1)) := by
  by_cases h1 : xs 1 = 0
  · exact l_round_k0 xs e0 h1
  · exact l_round_r xs e0 h1

set_option maxRecDepth 100000 in
theorem l_op22 (xs : Nat → Int32) (e0 : xs 0 &&& 31 = 22) : zWp (zro 6 xs) 189 18 [(3, .int 0), (2, .ref 52), (1, .ref 0), (0, .float 0)] [] hF 82 7398 (fun r _ => r = some (.int 1)) := by
  exact l_tune_r xs e0

set_option maxRecDepth 100000 in
theorem l_op23 (xs : Nat → Int32) (e0 : xs 0 &&& 31 = 23) : zWp (zro 6 xs) 189 18 [(3, .int 0), (2, .ref 52), (1, .ref 0), (0, .float 0)] [] hF 82 7398 (fun r _ => r = some (.int 1)) := by
  exact l_act_r xs e0

set_option maxRecDepth 100000 in
theorem l_op24 (xs : Nat → Int32) (e0 : xs 0 &&& 31 = 24) : zWp (zro 6 xs) 189 18 [(3, .int 0), (2, .ref 52), (1, .ref 0), (0, .float 0)] [] hF 82 7398 (fun r _ => r = some (.int 1)) := by
  exact l_trace_r xs e0

set_option maxRecDepth 100000 in
theorem l_op25 (xs : Nat → Int32) (e0 : xs 0 &&& 31 = 25) : zWp (zro 6 xs) 189 18 [(3, .int 0), (2, .ref 52), (1, .ref 0), (0, .float 0)] [] hF 82 7398 (fun r _ => r = some (.int 1)) := by
  by_cases h0 : xs 1 < 0
  · exact l_forge_s1 xs e0 h0
  by_cases h9 : 6 < xs 1
  · exact l_forge_s2 xs e0 h0 h9
  by_cases h1 : xs 2 < -100
  · exact l_forge_s3 xs e0 h0 h9 h1
  by_cases h2 : 100 < xs 2
  · exact l_forge_s4 xs e0 h0 h9 h1 h2
  by_cases h3 : xs 3 < -100
  · exact l_forge_s5 xs e0 h0 h9 h1 h2 h3
  by_cases h4 : 100 < xs 3
  · exact l_forge_s6 xs e0 h0 h9 h1 h2 h3 h4
  obtain ⟨k, hk, e1⟩ := zl_k 6 (by decide) h0 h9
  rcases (show k = 0 ∨ k = 1 ∨ k = 2 ∨ k = 3 ∨ k = 4 ∨ k = 5 ∨ k = 6 by omega) with rfl | rfl | rfl | rfl | rfl | rfl | rfl
  · exact l_forge_w0 xs e0 e1 h1 h2 h3 h4
  · by_cases h5 : xs 2 < 0
    · exact l_forge_w1n xs e0 e1 h1 h2 h3 h4 h5
    · exact l_forge_w1p xs e0 e1 h1 h2 h3 h4 h5
  · exact l_forge_w2 xs e0 e1 h1 h2 h3 h4
  · by_cases h5 : xs 2 < 0
    · exact l_forge_w3b xs e0 e1 h1 h2 h3 h4 h5
    by_cases h6 : xs 3 < 0
    · exact l_forge_w3c xs e0 e1 h1 h2 h3 h4 h5 h6
    by_cases h7 : 6 < xs 2
    · exact l_forge_w3d xs e0 e1 h1 h2 h3 h4 h5 h6 h7
    by_cases h8 : 0 < xs 3 + xs 2
    · exact l_forge_w3e xs e0 e1 h1 h2 h3 h4 h5 h6 h7 h8
    obtain ⟨z1, z2⟩ := zl_zero2 h5 h6 h2 h4 h8
    exact l_forge_w3a xs e0 e1 z1 z2
  · exact l_forge_w4 xs e0 e1 h1 h2 h3 h4
  · by_cases h5 : xs 2 = 0
    · exact l_forge_w5z xs e0 e1 h5 h3 h4
    · exact l_forge_w5 xs e0 e1 h1 h2 h3 h4 h5
  · rcases zl_odd h1 h2 with ⟨h5, h6⟩ | ⟨h5, h6⟩ | ⟨h5, h6⟩
    · exact l_forge_w6e xs e0 e1 h1 h2 h3 h4 h5 h6
    · exact l_forge_w6p xs e0 e1 h1 h2 h3 h4 h5 h6
    · exact l_forge_w6m xs e0 e1 h1 h2 h3 h4 h5 h6

set_option maxRecDepth 100000 in
theorem l_op26 (xs : Nat → Int32) (e0 : xs 0 &&& 31 = 26) : zWp (zro 6 xs) 189 18 [(3, .int 0), (2, .ref 52), (1, .ref 0), (0, .float 0)] [] hF 82 7398 (fun r _ => r = some (.int 1)) := by
  exact l_status_r xs e0

set_option maxRecDepth 100000 in
theorem l_six (xs : Nat → Int32) : zWp (zro 6 xs) 189 18 [(3, .int 0), (2, .ref 52), (1, .ref 0), (0, .float 0)] [] hF 82 7398 (fun r _ => r = some (.int 1)) := by
  rcases zl_sw 26 (by decide) (xs 0 &&& 31) with h | ⟨k, hk, e0⟩
  · exact l_default xs h
  · rcases (show k = 0 ∨ k = 1 ∨ k = 2 ∨ k = 3 ∨ k = 4 ∨ k = 5 ∨ k = 6 ∨ k = 7 ∨ k = 8 ∨ k = 9 ∨ k = 10 ∨ k = 11 ∨ k = 12 ∨ k = 13 ∨ k = 14 ∨ k = 15 ∨ k = 16 ∨ k = 17 ∨ k = 18 ∨ k = 19 ∨ k = 20 ∨ k = 21 ∨ k = 22 ∨ k = 23 ∨ k = 24 ∨ k = 25 ∨ k = 26 by omega) with rfl | rfl | rfl | rfl | rfl | rfl | rfl | rfl | rfl | rfl | rfl | rfl | rfl | rfl | rfl | rfl | rfl | rfl | rfl | rfl | rfl | rfl | rfl | rfl | rfl | rfl | rfl
    · exact l_op0 xs e0
    · exact l_op1 xs e0
    · exact l_op2 xs e0
    · exact l_op3 xs e0
    · exact l_op4 xs e0
    · exact l_op5 xs e0
    · exact l_op6 xs e0
    · exact l_op7 xs e0
    · exact l_op8 xs e0
    · exact l_op9 xs e0
    · exact l_op10 xs e0
    · exact l_op11 xs e0
    · exact l_op12 xs e0
    · exact l_op13 xs e0
    · exact l_op14 xs e0
    · exact l_op15 xs e0
    · exact l_op16 xs e0
    · exact l_op17 xs e0
    · exact l_op18 xs e0
    · exact l_op19 xs e0
    · exact l_op20 xs e0
    · exact l_op21 xs e0
    · exact l_op22 xs e0
    · exact l_op23 xs e0
    · exact l_op24 xs e0
    · exact l_op25 xs e0
    · exact l_op26 xs e0
theorem l_run (L : Nat) (xs : Nat → Int32) (hL : L ≤ 6) : ∃ (n : Nat) (h1 : List va_E), zr (zro L xs) n 189 0 [(0, .float 0)] [] [] 0 0 = some (some (.int 1), h1) := by
  have h : zWp (zro L xs) 189 0 [(0, .float 0)] [] [] 0 0 (fun r _ => r = some (.int 1)) := by
    refine l_start L xs ?_
    rcases (show L = 0 ∨ L = 1 ∨ L = 2 ∨ L = 3 ∨ L = 4 ∨ L = 5 ∨ L = 6 by omega) with rfl | rfl | rfl | rfl | rfl | rfl | rfl
    · exact l_short0 xs
    · exact l_short1 xs
    · exact l_short2 xs
    · exact l_short3 xs
    · exact l_short4 xs
    · exact l_short5 xs
    · exact l_six xs
  obtain ⟨n, r, h1, a, rfl⟩ := h
  exact ⟨n, h1, a⟩
theorem whole_start {p : Program} {e : Env} {s : State} {m : MethodId} {below : List Frame} {meth : Method} {c : Code} (l : Launch) {b L : Nat} {xs : Nat → Int32} (hL : L ≤ 6) (C0 : lw_At p s m meth c b L xs) : W p l e room_1 s m #[Value.ref b] below meth c s.heap [] 0 0 (lw_Z below #[Value.ref b] s) (entryFrame m ([Value.ref b] : List Value).toArray 4) := zwhole l C0 (by omega) (l_run L xs hL)
set_option maxHeartbeats 4000000 in
theorem lw_walk (l : Launch) (b : Addr) (xs : List Int32) : MetFree l x (headSpec (Jvm.Cond.code x code maxLocals ret :: tables_1) room_1) (lw_P b xs) (fun _ _ _ _ _ => True) lw_Q := by
  refine MetFree.of_bodyS (code := code) (maxLocals := maxLocals) (ret := ret) (by decide) ?_ ?_
  · intro args s m h hn
    obtain ⟨meth, c, h1, h2, h3, h4, h5, h6, -, -⟩ := Cond.code_spec hn (atoms_spec (ws := Jvm.Cond.code x code maxLocals ret :: tables_1) h _ List.mem_cons_self)
    exact ⟨meth, c, h1, h2, h3, h4, h5, h6⟩
  · intro p e s m args below meth c s₁ B hml0 hP _
    obtain ⟨rfl, hx, hbd, hgv⟩ := hP
    obtain ⟨scr, harrAt, hlist, hof, hsmall⟩ := hx
    obtain ⟨hcb, hkn, -, -⟩ := State.arrayAt?_spec harrAt
    have hown : s.vm.findClass R_law = some m.cls := findClass_of_methodNamed B.named
    have hts0 : ∀ c ∈ (Jvm.Cond.code x code maxLocals ret :: tables_1), c.before #[Value.ref b] s = true := atoms_spec (ws := Jvm.Cond.code x code maxLocals ret :: tables_1) B.pre
    have hts : ∀ w ∈ lw_tbl, w.before #[Value.ref b] s = true := k2_hts_sels lw_privs (fun w hw => hts0 w (List.mem_cons_of_mem _ hw)) lw_privs_ok
    have hml : c.maxLocals = 4 := B.maxLocals_eq (hts0 _ List.mem_cons_self)
    have X₀ : Stand p l e room_1 s m #[Value.ref b] below meth c s₁ [] 0 0 := Stand.of_body B
    have hh0 : s₁.heap = s.heap := by rw [B.state]; rfl
    have hsz : scr.slots.size = xs.length := by rw [← Array.length_toList, hlist, List.length_map]
    have hval : ∀ j : Nat, j < xs.length → scr.slots[j]? = some (.int (xs.getD j 0)) := fun j hj => by
      rw [← Array.getElem?_toList, hlist]
      simp [hj]
    have hbl : b < s.heap.size := (Array.getElem?_eq_some_iff.mp hcb).1
    have hX : va_X b xs.length (fun j => xs.getD j 0) s s.heap := ⟨scr, hcb, hof, hkn, hsz, hval⟩
    have K : W p l e room_1 s m #[Value.ref b] below meth c s₁.heap [] 0 0 (lw_Z below #[Value.ref b] s) (entryFrame m ([Value.ref b] : List Value).toArray 4) := by
      rw [hh0]
      exact whole_start l hbd ⟨B.exec, B.bytes, B.returns, hml, hown, hts, hX, hbl, B.notSynchronized, hgv⟩
    obtain ⟨t, a1, o, b1, b2, b3⟩ := K s₁ rfl X₀
    exact ⟨t, o, a1, b1, b2, b3⟩
theorem lw_pre_spec {args : Array Value} {s : State} (h : (Jvm.Cond.and given_1 narrow_1).before args s = true) (hr : rest_1_c.before args s = true) : ∃ (b : Addr) (xs : List Int32), lw_P b xs args s := by
  have hs := flat_of_before _ h
  have hq := flat_of_before _ hr
  have hc : (Cond.count 1).before args s = true := hs _ (by decide +kernel)
  have harr : (Cond.arrayOf (.arg 0) .int).before args s = true := hs _ (by decide +kernel)
  have hle : (Cond.le (.length (.arg 0)) (.int 6)).before args s = true := hs _ (by decide +kernel)
  have hlen : (Cond.isInt (.length (.arg 0))).before args s = true := hq _ (by decide +kernel)
  have hall : (Cond.all (.arg 0) (.isInt (.elem (.arg 0) (.index 0)))).before args s = true := hq _ (by decide +kernel)
  obtain ⟨b, xs, hb, hx⟩ := State.ints_of_pre rfl harr hlen hall
  have hsm : xs.length < 2 ^ 31 := hx.choose_spec.2.2.2
  have hev : (Term.length (.arg 0)).eval args s none [] s = some (.int xs.length.toInt32) := hx.length_eval hb
  have hv := Cond.le_ints hev (show (Term.int 6).eval args s none [] s = some (.int 6) from rfl)
  have hd : xs.length.toInt32 ≤ 6 := by
    simpa [Cond.before, Cond.holds, hv] using hle
  have hN : xs.length ≤ 6 := (Int32.ofNat_le_ofNat hsm (by decide)).mp (show Int32.ofNat xs.length ≤ Int32.ofNat 6 from hd)
  exact ⟨b, xs, Cond.one_arg hc (show args[0]? = some (.ref b) from hb), hx, hN, h⟩
theorem lw_comes (l : Launch) : Comes l x (Jvm.Cond.code x code maxLocals ret :: tables_1) room_1 (fun tb e args s => Calls_1 tb e args s ∧ rest_1 tb e args s ∧ Pre_1 tb e args s)
    (fun _ _ args s o t => lw_Q args s o t) := by
  intro p e ha hc hk s m args below hf hfit hheap happ hpre
  obtain ⟨b, xs, hP⟩ := lw_pre_spec hpre.2.2 hpre.2.1
  obtain ⟨k, o, h1, h2, h3, hQ⟩ := lw_walk l b xs p e ha hc hk s m args below hf ((Spec.applies_iff_loose hf).mp happ).1 hP trivial
  exact ⟨k, o, h1, h2, h3, hQ⟩
theorem lw_frame {s t : State} {o : Outcome} {args : Array Value} (h : Framed s o t [] 82 7398) :
    Framed s o t (fieldLocs frame_1_writes args s ++ arrayLocs frame_1_arrays args s ++ staticLocs frame_1_statics s) 82 7398 := h
theorem lw_limb (L : Cond) (hL : ∀ (args : Array Value) (s t : State), L.after args s (.returned (some (.int 1))) t = true) :
    ArmFor flags0 classFile x code maxLocals ret World_1 tables_1 room_1 Calls_1 rest_1 Pre_1
      (fun tb e a s o t => postC L tb e a s o t ∧ Framed s o t (fieldLocs frame_1_writes a s ++ arrayLocs frame_1_arrays a s ++ staticLocs frame_1_statics s) 82 7398) := by
  intro l _ _ _ p e ha hc hk s m args below hf hfit hheap happ hpre
  obtain ⟨k, o, h1, h2, h3, rfl, hF⟩ := lw_comes l p e ha hc hk s m args below hf hfit hheap happ hpre
  exact ⟨k, _, h1, h2, h3, hL args s _, lw_frame hF⟩
theorem i_vc : Claimed_1_1 ∧ Claimed_1_2 := ⟨lw_limb limb_1_1 (fun args s t => by simp [limb_1_1, Cond.after, Cond.holds, Cond.value]), lw_limb limb_1_2 (fun args s t => Cond.after_iff.mpr (by
  first | (rw [show limb_1_2 = Cond.eq .result (.int 1) from rfl, Cond.eq_ints (x := 1) (y := 1) rfl rfl]; simp; done) | (simp [limb_1_2, Cond.value, Term.eval]; done)))⟩
