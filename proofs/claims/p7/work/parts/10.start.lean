/-! THE CLAIM OUT OF ONE WALK OF THE LAW'S BODY. Your part is whole_start (and what it stands on); all else here is the same for every law, but numbers. -/
def R_law : String := "HeronsBenchLaw"
def lw_P (b : Addr) (xs : List Int32) (args : Array Value) (s : State) : Prop := args = #[.ref b] ∧ s.IntsAt b xs ∧ xs.length ≤ 3072 ∧ (Jvm.Cond.and given_1 narrow_1).before args s = true
def lw_Q (_ : Array Value) (s : State) (o : Outcome) (t : State) : Prop := o = .returned (some (.int 1)) ∧ Framed s o t [] 82 7398
def lw_Z (below : List Frame) (a : Array Value) (s : State) : State → Prop := fun t => ∃ o, t.status = .running ∧ Ended t below o ∧ lw_Q a s o t
/-- the law's own end, with 1 on the stack, nothing written that was there before, its room as the claim has it -/
theorem lw_ret {p : Program} {l : Launch} {e : Env} {s : State} {m : MethodId} {below : List Frame} {meth : Method} {c : Code} {b : Nat} (hx : p.tables.exec = Jvm.exec) (hb : c.code = code) (hr : meth.sig.returnType = ret) (hlocks : meth.locks = false) {pc : Nat} {H : Heap} {ls : Array Slot} (hdg : decode code pc = .ok (.ireturn, 1)) : W p l e room_1 s m #[Value.ref b] below meth c H [] 82 7398 (lw_Z below #[Value.ref b] s) (F0 m pc ls [.int 1]) := by
  intro T hT X
  obtain ⟨fs, hret, hrun, hended, hW, hframe⟩ := X.leave (v := some (.int 1)) (hlocks := hlocks) (fun h => by rw [hr] at h; cases h)
  have hmeth' : T.vm.method? m = some meth := X.method'
  refine ⟨T.setFrames fs, ?_, .returned (some (.int 1)), hrun, hended, rfl, ⟨_, rfl⟩, hW, hframe⟩
  jvm_step X.here [X.here.top, hx, hb, hdg, hmeth', hr, ret, narrow_b1]
  (try refine ⟨rfl, ?_⟩); (try refine ⟨rfl, ?_⟩)
  first | (intro acts; rw [hret _ acts rfl rfl rfl]) | rw [hret _ _ rfl rfl rfl]
  exact Steps.refl _
/-- what holds at the law's entry: the machine, the code, the tables' words (any of lw_tbl by 'hts w (by decide +kernel)'), the script of L ints xs at the cell b, what the Statement gives of the start (any of its parts by flat_of_before) -/
def lw_At (p : Program) (s : State) (m : MethodId) (meth : Method) (c : Code) (b L : Nat) (xs : Nat → Int32) : Prop :=
  p.tables.exec = Jvm.exec ∧ c.code = code ∧ meth.sig.returnType = ret ∧ c.maxLocals = 4 ∧ s.vm.findClass R_law = some m.cls ∧ (∀ w ∈ lw_tbl, w.before #[Value.ref b] s = true) ∧ va_X b L xs s s.heap ∧ b < s.heap.size ∧ meth.locks = false ∧ (Jvm.Cond.and given_1 narrow_1).before #[Value.ref b] s = true
/-- the arrays that are only read: 1 the KINDS above, else the script -/
def zka (j : Nat) : Int32 := if j = 0 then -1 else if j = 4 then 3 else 0
def zro (L : Nat) (xs : Nat → Int32) : UInt32 → Nat × (Nat → Int32) := fun x => if x = 1 then (5, zka) else (L, xs)
theorem zstart {p : Program} {s : State} {m : MethodId} {meth : Method} {c : Code} {b L : Nat} {xs : Nat → Int32} (C0 : lw_At p s m meth c b L xs) (hL31 : L < 2 ^ 31) : ∃ (fa : UInt32 → Nat) (D : va_G) (aC : Nat → ClassId), fa 0 = b ∧ zX p s m #[Value.ref b] meth c s.heap.size fa D aC (zro L xs) 0 189 := by
  obtain ⟨hx, hb, hr, hml, hown, hts, hX, hbl, hlocks, hgv⟩ := C0
  have hat : ∀ {i : Nat} {w : Cond}, lw_tbl[i]? = some w → w.before #[Value.ref b] s = true := fun h => hts _ (List.mem_of_getElem? h)
  obtain ⟨c0, iS0, hKn0⟩ := u_known (C := RX0) (T := TX0) (N := 6) (n := 6) hts (fun w hw => (List.mem_filter.mp (zuw0 0 (by decide) _ rfl w hw)).1) (hat (i := 321) (by decide +kernel))
  obtain ⟨c1, iS1, hKn1⟩ := u_known (C := RX1) (T := TX1) (N := 1) (n := 1) hts (fun w hw => (List.mem_filter.mp (zuw0 1 (by decide) _ rfl w hw)).1) (hat (i := 396) (by decide +kernel))
  obtain ⟨c2, iS2, hKn2⟩ := u_known (C := RX2) (T := TX2) (N := 1) (n := 1) hts (fun w hw => (List.mem_filter.mp (zuw0 2 (by decide) _ rfl w hw)).1) (hat (i := 388) (by decide +kernel))
  obtain ⟨c3, iS3, hKn3⟩ := u_known (C := RX3) (T := TX3) (N := 5) (n := 5) hts (fun w hw => (List.mem_filter.mp (zuw0 3 (by decide) _ rfl w hw)).1) (hat (i := 264) (by decide +kernel))
  obtain ⟨c4, iS4, hKn4⟩ := u_known (C := RX4) (T := TX4) (N := 11) (n := 11) hts (fun w hw => (List.mem_filter.mp (zuw0 4 (by decide) _ rfl w hw)).1) (hat (i := 84) (by decide +kernel))
  obtain ⟨c5, iS5, hKn5⟩ := u_known (C := RX5) (T := TX5) (N := 9) (n := 9) hts (fun w hw => (List.mem_filter.mp (zuw0 5 (by decide) _ rfl w hw)).1) (hat (i := 287) (by decide +kernel))
  obtain ⟨c6, iS6, hKn6⟩ := u_known (C := RX6) (T := TX6) (N := 1) (n := 1) hts (fun w hw => (List.mem_filter.mp (zuw0 6 (by decide) _ rfl w hw)).1) (hat (i := 372) (by decide +kernel))
  obtain ⟨c7, iS7, hKn7⟩ := u_known (C := RX7) (T := TX7) (N := 1) (n := 1) hts (fun w hw => (List.mem_filter.mp (zuw0 7 (by decide) _ rfl w hw)).1) (hat (i := 380) (by decide +kernel))
  obtain ⟨c8, iS8, hKn8⟩ := u_known (C := RX8) (T := TX8) (N := 1) (n := 1) hts (fun w hw => (List.mem_filter.mp (zuw0 8 (by decide) _ rfl w hw)).1) (hat (i := 354) (by decide +kernel))
  obtain ⟨c9, iS9, hKn9⟩ := u_known (C := RX9) (T := TX9) (N := 10) (n := 10) hts (fun w hw => (List.mem_filter.mp (zuw0 9 (by decide) _ rfl w hw)).1) (hat (i := 154) (by decide +kernel))
  obtain ⟨c10, iS10, hKn10⟩ := u_known (C := RX10) (T := TX10) (N := 13) (n := 13) hts (fun w hw => (List.mem_filter.mp (zuw0 10 (by decide) _ rfl w hw)).1) (hat (i := 148) (by decide +kernel))
  obtain ⟨c11, iS11, hKn11⟩ := u_known (C := RX11) (T := TX11) (N := 8) (n := 8) hts (fun w hw => (List.mem_filter.mp (zuw0 11 (by decide) _ rfl w hw)).1) (hat (i := 76) (by decide +kernel))
  obtain ⟨c12, iS12, hKn12⟩ := u_known (C := RX12) (T := TX12) (N := 55) (n := 55) hts (fun w hw => (List.mem_filter.mp (zuw0 12 (by decide) _ rfl w hw)).1) (hat (i := 915) (by decide +kernel))
  obtain ⟨dC, dI, hKc⟩ : ∃ (dC : Nat → ClassId) (dI : Nat → Nat → Nat), ∀ (k : Nat) (q : vw_C), vwCl[k]? = some q → u_Kn s q.1 q.2.1 q.2.2 (dC k) (dI k) := by
    refine ⟨fun k => if k = 0 then c0 else if k = 1 then c1 else if k = 2 then c2 else if k = 3 then c3 else if k = 4 then c4 else if k = 5 then c5 else if k = 6 then c6 else if k = 7 then c7 else if k = 8 then c8 else if k = 9 then c9 else if k = 10 then c10 else if k = 11 then c11 else c12, fun k => if k = 0 then iS0 else if k = 1 then iS1 else if k = 2 then iS2 else if k = 3 then iS3 else if k = 4 then iS4 else if k = 5 then iS5 else if k = 6 then iS6 else if k = 7 then iS7 else if k = 8 then iS8 else if k = 9 then iS9 else if k = 10 then iS10 else if k = 11 then iS11 else iS12, ?_⟩
    intro k q hq
    have hk := (List.getElem?_eq_some_iff.mp hq).1
    match k, hq with
    | 0, hq => cases hq; exact hKn0
    | 1, hq => cases hq; exact hKn1
    | 2, hq => cases hq; exact hKn2
    | 3, hq => cases hq; exact hKn3
    | 4, hq => cases hq; exact hKn4
    | 5, hq => cases hq; exact hKn5
    | 6, hq => cases hq; exact hKn6
    | 7, hq => cases hq; exact hKn7
    | 8, hq => cases hq; exact hKn8
    | 9, hq => cases hq; exact hKn9
    | 10, hq => cases hq; exact hKn10
    | 11, hq => cases hq; exact hKn11
    | 12, hq => cases hq; exact hKn12
    | k + 13, hq => simp [vwCl] at hq
  obtain ⟨cI, kI, pI, i1, i2, i3⟩ := Cond.arrayClass_spec (hat (i := 146) (w := .arrayClass .int) (by decide +kernel))
  obtain ⟨cJ, kJ, pJ, j1, j2, j3⟩ := Cond.arrayClass_spec (hat (i := 213) (w := .arrayClass .long) (by decide +kernel))
  obtain ⟨cZ, kZ, pZ, z1, z2, z3⟩ := Cond.arrayClass_spec (hat (i := 1086) (w := .arrayClass .boolean) (by decide +kernel))
  have hAO : va_AO RX8 s := va_AO.of (hat (i := 353) (w := .arrayOver (.object RX8)) (by decide +kernel))
  obtain ⟨pV, cV, kV, v1, v2, v3, v4, v5⟩ := Cond.arrayOver_spec hAO
  have hs := flat_of_before _ hgv
  have hA : ∀ a : Nat, a < s.heap.size → ¬ (fun q => s.heap.size ≤ q) a := fun a h => Nat.not_le.mpr h
  have hk1 : (Term.length (.static "HeronsBench" "KIND_ABOVE" "[I")).eval #[Value.ref b] s none [] s = some (.int (Int32.ofNat 5)) := va_eqt (hs (.eq (.length (.static "HeronsBench" "KIND_ABOVE" "[I")) (.int 5)) (by decide +kernel))
  have hk2 : ∀ j : Nat, j < 5 → (Term.elem (.static "HeronsBench" "KIND_ABOVE" "[I") (.int (Int32.ofNat j))).eval #[Value.ref b] s none [] s = some (.int (zka j)) := by
    intro j hj
    match j, hj with
    | 0, _ => exact va_eqt (hs (.eq (.elem (.static "HeronsBench" "KIND_ABOVE" "[I") (.int 0)) (.int (-1))) (by decide +kernel))
    | 1, _ => exact va_eqt (hs (.eq (.elem (.static "HeronsBench" "KIND_ABOVE" "[I") (.int 1)) (.int 0)) (by decide +kernel))
    | 2, _ => exact va_eqt (hs (.eq (.elem (.static "HeronsBench" "KIND_ABOVE" "[I") (.int 2)) (.int 0)) (by decide +kernel))
    | 3, _ => exact va_eqt (hs (.eq (.elem (.static "HeronsBench" "KIND_ABOVE" "[I") (.int 3)) (.int 0)) (by decide +kernel))
    | 4, _ => exact va_eqt (hs (.eq (.elem (.static "HeronsBench" "KIND_ABOVE" "[I") (.int 4)) (.int 3)) (by decide +kernel))
  obtain ⟨kt, hkt, hT⟩ := va_Tof (N := 5) (f := fun j => .int (zka j)) (A := fun q => s.heap.size ≤ q) (by decide) (hs (.arrayOf (.static "HeronsBench" "KIND_ABOVE" "[I") .int) (by decide +kernel)) hk1 hk2 hA
  have hZ : va_Z RX11 "KIND_ABOVE" "[I" (.ref kt) (fun q => s.heap.size ≤ q) s s.heap := va_Zref (hat (i := 897) (w := .laysStatic RX11 "KIND_ABOVE" "[I") (by decide +kernel)) (hat (i := 60) (w := .initialized RX11) (by decide +kernel)) hkt hA
  refine ⟨fun x => if x = 1 then kt else b, (dC, dI), fun k => if k = 0 then cI else if k = 1 then cJ else if k = 2 then cZ else cV, rfl, hx, hb, hml, hown, fun w hw => hts w (List.mem_filter.mp hw).1, ⟨⟨hKc, ?_⟩, ?_, hAO, ?_, ?_, hZ, Nat.le_refl _⟩, fun h => absurd h (by decide +kernel), by decide, rfl⟩
  · intro k q hq
    match k, hq with
    | 0, hq => cases hq; exact ⟨fun n z => ⟨fun k h => (by cases h), kI, i2, pI, i3⟩, i1⟩
    | 1, hq => cases hq; exact ⟨fun n z => ⟨fun k h => (by cases h), kJ, j2, pJ, j3⟩, j1⟩
    | 2, hq => cases hq; exact ⟨fun n z => ⟨fun k h => (by cases h), kZ, z2, pZ, z3⟩, z1⟩
    | 3, hq => cases hq; exact ⟨fun n z => ⟨fun k h => (by cases h), kV, v3, pV, v4⟩, kV, pV, v3, v4, v1, v5⟩
    | k + 4, hq => simp at hq
  · intro w hw
    have h1 : ∀ w ∈ znest, w ∈ lw_tbl := by
      intro w hw
      obtain ⟨k, hk⟩ := List.getElem?_of_mem hw
      have h2 : ([85, 155, 265, 288, 322, 518, 526, 530, 777, 778].map (fun i => lw_tbl[i]?))[k]? = some (some w) := by rw [znest_at, List.getElem?_map, hk]; rfl
      rw [List.getElem?_map] at h2
      cases hi : ([85, 155, 265, 288, 322, 518, 526, 530, 777, 778] : List Nat)[k]? with
      | none => rw [hi] at h2; cases h2
      | some i => rw [hi] at h2; exact List.mem_of_getElem? (Option.some.inj h2)
    have h3 := hts w (h1 w hw)
    simp only [znest, List.mem_cons, List.not_mem_nil, or_false] at hw
    rcases hw with rfl | rfl | rfl | rfl | rfl | rfl | rfl | rfl | rfl | rfl <;> exact va_Nw.of rfl h3
  · intro C hC
    simp only [List.mem_cons, List.not_mem_nil, or_false] at hC
    rcases hC with rfl | rfl | rfl | rfl
    · exact va_Nw.of rfl (hat (i := 1352) (w := .castable RX6 RX8) (by decide +kernel))
    · exact va_Nw.of rfl (hat (i := 1353) (w := .castable RX7 RX8) (by decide +kernel))
    · exact va_Nw.of rfl (hat (i := 1354) (w := .castable RX2 RX8) (by decide +kernel))
    · exact va_Nw.of rfl (hat (i := 1355) (w := .castable RX1 RX8) (by decide +kernel))
  · intro x
    by_cases h1 : x = 1
    · simp only [zro, if_pos h1]
      exact hT
    · simp only [zro, if_neg h1]
      obtain ⟨scr, g1, g2, g3, g4, g5⟩ := hX
      exact ⟨scr, g1, g2, g3, Nat.le_of_eq g4.symm, by rw [g4] <;> rfl, g5, Nat.not_le.mpr hbl⟩
/-- THE LAW, from its entry, out of the interpreter's run -/
theorem zwhole {p : Program} {e : Env} {s : State} {m : MethodId} {below : List Frame} {meth : Method} {c : Code} (l : Launch) {b L : Nat} {xs : Nat → Int32} (C0 : lw_At p s m meth c b L xs) (hL31 : L < 2 ^ 31) (hrun : ∃ (n : Nat) (h1 : List va_E), zr (zro L xs) n 189 0 [(0, .float 0)] [] [] 0 0 = some (some (.int 1), h1)) : W p l e room_1 s m #[Value.ref b] below meth c s.heap [] 0 0 (lw_Z below #[Value.ref b] s) (entryFrame m ([Value.ref b] : List Value).toArray 4) := by
  obtain ⟨fa, D, aC, hfa, X⟩ := zstart C0 hL31
  obtain ⟨n, h1, hn⟩ := hrun
  obtain ⟨hx, hb, hr, hml, hown, hts, hX, hbl, hlocks, hgv⟩ := id C0
  have hl := lv_entry ([.ref b]) (n := 4) (Nat.le_of_ble_eq_true rfl)
  rw [lg_entry_eq]
  generalize (lg_sl ([.ref b]) ++ List.replicate (4 - (lg_sl ([.ref b])).length) Slot.unset).toArray = A at hl ⊢
  have hl : lv_has A (zN 189) (zlm s.heap.size fa [(0, .float 0)]) := by
    have e1 : zlm s.heap.size fa [(0, .float 0)] = [(0, .ref b)] := by
      show [(0, Value.ref (fa 0))] = _
      rw [hfa]
    rw [e1]
    exact hl
  refine zsnd (ro := zro L xs) n 189 0 [(0, .float 0)] [] [] 0 0 (some (.int 1)) h1 hn (Q := lw_Z below #[Value.ref b] s) X (fun k q hq => by simp [zwl] at hq) va_S.rf hl rfl ?_
  intro i pc1 st1 uc1 us1 H1 locs1 A1 hz hend hH1 hS1 hL1
  obtain ⟨⟨rfl, rfl⟩, hend⟩ := hend
  obtain ⟨nl, hd, hnl⟩ := zf_spec hz
  rcases hend with ⟨rfl, v, rfl, hv, hrt⟩ | ⟨rfl, v, rfl, hv, hrt⟩ | ⟨rfl, rfl, hv, hrt⟩
  · have hnl := hnl.resolve_left (fun q => by cases q)
    subst hnl
    cases hv
    refine va_forget (fun q hq => hS1.2.2 q hq) ?_
    exact lw_ret hx hb hr hlocks hd
  · cases hv
  · cases hv
