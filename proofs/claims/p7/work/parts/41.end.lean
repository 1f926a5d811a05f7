set_option maxRecDepth 100000 in
set_option maxHeartbeats 0 in
theorem l_start (L : Nat) (xs : Nat → Int32) (k : zWp (zro L xs) 189 18 [(0, .float 0), (1, .ref 0), (2, .ref 52), (3, .int 0)] [] hF 82 7398 (fun r _ => r = some (.int 1))) : zWp (zro L xs) 189 0 [(0, .float 0)] [] [] 0 0 (fun r _ => r = some (.int 1)) := by
  refine zw_new (ci := 11) 0 1 8 3 f189_0 rfl (by decide +kernel) rfl rfl (by decide +kernel) (by decide +kernel) (by decide +kernel) ?_
  refine zw_dup 4 f189_3 rfl rfl ?_
  refine zw_init_v 7 52 3809 [.ref 0] [(0, .ref 0)] f189_4 rfl k189_9_99 rfl (by decide +kernel) (Nat.le_of_ble_eq_true rfl) rfl rfl (by decide +kernel) (by decide +kernel) rfl (Nat.le_of_ble_eq_true rfl) rfl ?_
  refine zw_heap [.inr (11, [.null, .null, .null, .null, .null, .null, .null, .int 0])] rfl ?_
  refine zWp.mono (cX_init (zro L xs)) ?_
  rintro r h1 ⟨rfl, rfl⟩
  refine ⟨rfl, ?_⟩
  refine zw_astore_n [(0, .float 0), (1, .ref 0)] 8 f189_7 rfl (by decide +kernel) rfl ?_
  refine zw_new (ci := 12) 52 53 3864 11 f189_8 rfl (by decide +kernel) rfl rfl (by decide +kernel) (by decide +kernel) (by decide +kernel) ?_
  refine zw_dup 12 f189_11 rfl rfl ?_
  refine zw_init_v 15 82 7398 [.ref 52] [(0, .ref 52)] f189_12 rfl k189_12_99 rfl (by decide +kernel) (Nat.le_of_ble_eq_true rfl) rfl rfl (by decide +kernel) (by decide +kernel) rfl (Nat.le_of_ble_eq_true rfl) rfl ?_
  refine zWp.mono (cM_init (zro L xs)) ?_
  rintro r h1 ⟨rfl, rfl⟩
  refine ⟨rfl, ?_⟩
  refine zw_astore_n [(0, .float 0), (1, .ref 0), (2, .ref 52)] 16 f189_15 rfl (by decide +kernel) rfl ?_
  refine zw_iconst 0 17 f189_16 rfl (by decide +kernel) ?_
  refine zw_istore_n [(0, .float 0), (1, .ref 0), (2, .ref 52), (3, .int 0)] 18 f189_17 rfl (by decide +kernel) rfl ?_
  exact k
def i0 : Nat → Nat → Int32 := fun k j => if k = 52 then (if j = 22 then 1 else if j = 41 then -1 else 0) else 0
def g0 : Nat → Nat → Int64 := fun k j => if k = 12 then (if j = 0 then 1 else 0) else if k = 23 then (if j = 0 then 1 else 0) else if k = 52 then (if j = 12 then 1 else 0) else 0
def a0 : Nat → Nat → Int32 := fun _ _ => 0
def b0 : Nat → Nat → Int64 := fun _ _ => 0
set_option maxRecDepth 100000 in
theorem hF_S : hF = hS i0 g0 a0 b0 := rfl
theorem l_inv0 : zLI 0 i0 g0 a0 b0 := by
  refine ⟨0, 0, wR g0 a0 b0, (0, fun _ => 0, fun _ => 0, fun _ => 0, fun _ => 0, 0), ⟨⟨⟨rfl, by omega⟩, ⟨rfl, by omega⟩, ⟨0, by omega, rfl⟩, ⟨0, by omega, rfl⟩⟩, ⟨0, by omega, rfl⟩, ⟨0, by omega, rfl⟩⟩, ⟨⟨⟨rfl, rfl⟩, PE.rf, rfl, ⟨rfl, rfl, rfl, rfl, rfl, rfl⟩⟩, ⟨by omega, by omega, fun v hv => absurd hv (by omega), fun v hv => absurd hv (by omega)⟩, ⟨⟨⟨⟨by decide, by decide⟩, fun v hv => absurd hv (by omega), fun v _ => rfl⟩, ⟨by decide, by decide⟩, ⟨by decide, by decide⟩, ⟨by decide, by decide⟩⟩, ⟨fun _ _ => Or.inl rfl, fun _ _ => Or.inl rfl⟩, ⟨fun _ _ => rfl, fun _ _ => rfl, fun _ _ => rfl⟩⟩, fun i hi _ => absurd hi (Nat.not_lt_zero _), ⟨rfl, rfl, 0, by omega, rfl⟩, Nat.zero_le _⟩, PE.of10 rfl rfl rfl rfl rfl rfl rfl rfl rfl rfl, ⟨fun v hv => absurd hv (by omega), fun v hv => absurd hv (by omega)⟩⟩
theorem l_run (L : Nat) (xs : Nat → Int32) (hL : L ≤ 3072) : ∃ (n : Nat) (h1 : List va_E), zr (zro L xs) n 189 0 [(0, .float 0)] [] [] 0 0 = some (some (.int 1), h1) := by
  have h : zWp (zro L xs) 189 0 [(0, .float 0)] [] [] 0 0 (fun r _ => r = some (.int 1)) := by
    refine l_start L xs ?_
    rw [hF_S]
    exact l_loop L xs hL 513 0 _ _ _ _ _ l_inv0 rfl rfl rfl rfl (by omega) (by omega)
  obtain ⟨n, r, h1, a, rfl⟩ := h
  exact ⟨n, h1, a⟩
theorem whole_start {p : Program} {e : Env} {s : State} {m : MethodId} {below : List Frame} {meth : Method} {c : Code} (l : Launch) {b L : Nat} {xs : Nat → Int32} (hL : L ≤ 3072) (C0 : lw_At p s m meth c b L xs) : W p l e room_1 s m #[Value.ref b] below meth c s.heap [] 0 0 (lw_Z below #[Value.ref b] s) (entryFrame m ([Value.ref b] : List Value).toArray 4) := zwhole l C0 (by omega) (l_run L xs hL)
set_option maxHeartbeats 4000000 in
theorem lw_walk (l : Launch) (b : Addr) (xs : List Int32) : MetFree l x (headSpec (Jvm.Cond.code x code maxLocals ret :: tables_1) room_1) (lw_P b xs) (fun _ _ _ _ _ => True) lw_Q := by
  refine MetFree.of_bodyS (code := code) (maxLocals := maxLocals) (ret := ret) (by decide) ?_ ?_
  · intro args s m h hn
    obtain ⟨meth, c, h1, h2, h3, h4, h5, h6, -, -⟩ := Cond.code_spec hn (atoms_spec (ws := Jvm.Cond.code x code maxLocals ret :: tables_1) h _ List.mem_cons_self)
    exact ⟨meth, c, h1, h2, h3, h4, h5, h6⟩
  · intro p e s m args below meth c s₁ B hml0 hP _
    obtain ⟨rfl, hx, hbd, hgv⟩ := hP
    obtain ⟨scr, harrAt, hlist, hof, hsmall⟩ := hx
    obtain ⟨hcb, hkn, -, -⟩ := State.arrayAt?_spec harrAt
    have hown : s.vm.findClass R_law = some m.cls := findClass_of_methodNamed B.named
    have hts0 : ∀ c ∈ (Jvm.Cond.code x code maxLocals ret :: tables_1), c.before #[Value.ref b] s = true := atoms_spec (ws := Jvm.Cond.code x code maxLocals ret :: tables_1) B.pre
    have hts : ∀ w ∈ lw_tbl, w.before #[Value.ref b] s = true := k2_hts_sels lw_privs (fun w hw => hts0 w (List.mem_cons_of_mem _ hw)) lw_privs_ok
    have hml : c.maxLocals = 4 := B.maxLocals_eq (hts0 _ List.mem_cons_self)
    have X₀ : Stand p l e room_1 s m #[Value.ref b] below meth c s₁ [] 0 0 := Stand.of_body B
    have hh0 : s₁.heap = s.heap := by rw [B.state]; rfl
    have hsz : scr.slots.size = xs.length := by rw [← Array.length_toList, hlist, List.length_map]
    have hval : ∀ j : Nat, j < xs.length → scr.slots[j]? = some (.int (xs.getD j 0)) := fun j hj => by
      rw [← Array.getElem?_toList, hlist]
      simp [hj]
    have hbl : b < s.heap.size := (Array.getElem?_eq_some_iff.mp hcb).1
    have hX : va_X b xs.length (fun j => xs.getD j 0) s s.heap := ⟨scr, hcb, hof, hkn, hsz, hval⟩
    have K : W p l e room_1 s m #[Value.ref b] below meth c s₁.heap [] 0 0 (lw_Z below #[Value.ref b] s) (entryFrame m ([Value.ref b] : List Value).toArray 4) := by
      rw [hh0]
      exact whole_start l hbd ⟨B.exec, B.bytes, B.returns, hml, hown, hts, hX, hbl, B.notSynchronized, hgv⟩
    obtain ⟨t, a1, o, b1, b2, b3⟩ := K s₁ rfl X₀
    exact ⟨t, o, a1, b1, b2, b3⟩
theorem lw_pre_spec {args : Array Value} {s : State} (h : (Jvm.Cond.and given_1 narrow_1).before args s = true) (hr : rest_1_c.before args s = true) : ∃ (b : Addr) (xs : List Int32), lw_P b xs args s := by
  have hs := flat_of_before _ h
  have hq := flat_of_before _ hr
  have hc : (Cond.count 1).before args s = true := hs _ (by decide +kernel)
  have harr : (Cond.arrayOf (.arg 0) .int).before args s = true := hs _ (by decide +kernel)
  have hle : (Cond.le (.length (.arg 0)) (.int 3072)).before args s = true := hs _ (by decide +kernel)
  have hlen : (Cond.isInt (.length (.arg 0))).before args s = true := hq _ (by decide +kernel)
  have hall : (Cond.all (.arg 0) (.isInt (.elem (.arg 0) (.index 0)))).before args s = true := hq _ (by decide +kernel)
  obtain ⟨b, xs, hb, hx⟩ := State.ints_of_pre rfl harr hlen hall
  have hsm : xs.length < 2 ^ 31 := hx.choose_spec.2.2.2
  have hev : (Term.length (.arg 0)).eval args s none [] s = some (.int xs.length.toInt32) := hx.length_eval hb
  have hv := Cond.le_ints hev (show (Term.int 3072).eval args s none [] s = some (.int 3072) from rfl)
  have hd : xs.length.toInt32 ≤ 3072 := by
    simpa [Cond.before, Cond.holds, hv] using hle
  have hN : xs.length ≤ 3072 := (Int32.ofNat_le_ofNat hsm (by decide)).mp (show Int32.ofNat xs.length ≤ Int32.ofNat 3072 from hd)
  exact ⟨b, xs, Cond.one_arg hc (show args[0]? = some (.ref b) from hb), hx, hN, h⟩
theorem lw_comes (l : Launch) : Comes l x (Jvm.Cond.code x code maxLocals ret :: tables_1) room_1 (fun tb e args s => Calls_1 tb e args s ∧ rest_1 tb e args s ∧ Pre_1 tb e args s)
    (fun _ _ args s o t => lw_Q args s o t) := by
  intro p e ha hc hk s m args below hf hfit hheap happ hpre
  obtain ⟨b, xs, hP⟩ := lw_pre_spec hpre.2.2 hpre.2.1
  obtain ⟨k, o, h1, h2, h3, hQ⟩ := lw_walk l b xs p e ha hc hk s m args below hf ((Spec.applies_iff_loose hf).mp happ).1 hP trivial
  exact ⟨k, o, h1, h2, h3, hQ⟩
theorem lw_frame {s t : State} {o : Outcome} {args : Array Value} (h : Framed s o t [] 82 7398) :
    Framed s o t (fieldLocs frame_1_writes args s ++ arrayLocs frame_1_arrays args s ++ staticLocs frame_1_statics s) 82 7398 := h
theorem lw_limb (L : Cond) (hL : ∀ (args : Array Value) (s t : State), L.after args s (.returned (some (.int 1))) t = true) :
    ArmFor flags0 classFile x code maxLocals ret World_1 tables_1 room_1 Calls_1 rest_1 Pre_1
      (fun tb e a s o t => postC L tb e a s o t ∧ Framed s o t (fieldLocs frame_1_writes a s ++ arrayLocs frame_1_arrays a s ++ staticLocs frame_1_statics s) 82 7398) := by
  intro l _ _ _ p e ha hc hk s m args below hf hfit hheap happ hpre
  obtain ⟨k, o, h1, h2, h3, rfl, hF⟩ := lw_comes l p e ha hc hk s m args below hf hfit hheap happ hpre
  exact ⟨k, _, h1, h2, h3, hL args s _, lw_frame hF⟩
theorem i_vc : Claimed_1_1 ∧ Claimed_1_2 := ⟨lw_limb limb_1_1 (fun args s t => by simp [limb_1_1, Cond.after, Cond.holds, Cond.value]), lw_limb limb_1_2 (fun args s t => Cond.after_iff.mpr (by
  first | (rw [show limb_1_2 = Cond.eq .result (.int 1) from rfl, Cond.eq_ints (x := 1) (y := 1) rfl rfl]; simp; done) | (simp [limb_1_2, Cond.value, Term.eval]; done)))⟩
