/-! ===== what holds around a method that the picture speaks of ===== -/
def zEnv (base : Nat) (fa : UInt32 → Nat) (D : va_G) (aC : Nat → ClassId) (ro : UInt32 → Nat × (Nat → Int32)) (U : State) : Prop :=
  va_K D vwCl [(aC 0, .int), (aC 1, .long), (aC 2, .boolean), (aC 3, .object RX8)] U ∧ (∀ w ∈ znest, va_Nw w U) ∧ va_AO RX8 U ∧ (∀ C ∈ [RX6, RX7, RX2, RX1], va_Nw (.castable C RX8) U) ∧
  (∀ x : UInt32, va_T .int (fa x) (ro x).1 (fun j => .int ((ro x).2 j)) (fun q => base ≤ q) U U.heap) ∧ va_Z RX11 "KIND_ABOVE" "[I" (.ref (fa 1)) (fun q => base ≤ q) U U.heap ∧ base ≤ U.heap.size
theorem znest_warm {s U : State} (hW : s.WarmedH U.vm) {w : Cond} (hw : w ∈ znest) (h : va_Nw w s) : va_Nw w U := by
  simp only [znest, List.mem_cons, List.not_mem_nil, or_false] at hw
  rcases hw with rfl | rfl | rfl | rfl | rfl | rfl | rfl | rfl | rfl | rfl <;> exact va_Nw.warmM hW h
theorem zEnv.at {base : Nat} {fa : UInt32 → Nat} {D : va_G} {aC : Nat → ClassId} {ro : UInt32 → Nat × (Nat → Int32)} {s U : State} {H : Heap} {locs : List Loc} (h : zEnv base fa D aC ro s) (hS : va_S (fun q => base ≤ q) s.heap H locs) (hU : U.heap = H) (hW : s.WarmedH U.vm) : zEnv base fa D aC ro U := by
  obtain ⟨h1, h2, h3, h4, h5, h6, h7⟩ := h
  refine ⟨h1.moved hW.alike, fun w hw => znest_warm hW hw (h2 w hw), h3.moved hW.alike, fun C hC => va_Nw.warmC hW (h4 C hC), fun x => ?_, ?_, ?_⟩
  · rw [hU]
    exact ((h5 x).moved hW.alike).kept (fun a h1 h2 => hS.2.1 a h1 h2)
  · rw [hU]
    exact (h6.moved hW.alike).kept (fun a h1 h2 => hS.2.1 a h1 h2)
  · rw [hU]
    exact Nat.le_trans h7 hS.1
theorem zEnv.same {base : Nat} {fa : UInt32 → Nat} {D : va_G} {aC : Nat → ClassId} {ro : UInt32 → Nat × (Nat → Int32)} {u U : State} (h : zEnv base fa D aC ro u) (hv : u.vm = U.vm) (hh : u.heap = U.heap) : zEnv base fa D aC ro U := by
  obtain ⟨h1, h2, h3, h4, h5, h6, h7⟩ := h
  have ha : u.vm.Alike U.vm := hv ▸ Vm.Alike.refl u.vm
  refine ⟨h1.moved ha, fun w hw => va_Nw.same ?_ hv (h2 w hw), h3.moved ha, fun C hC => va_Nw.same rfl hv (h4 C hC), fun x => ?_, ?_, ?_⟩
  · simp only [znest, List.mem_cons, List.not_mem_nil, or_false] at hw
    rcases hw with rfl | rfl | rfl | rfl | rfl | rfl | rfl | rfl | rfl | rfl <;> rfl
  · rw [← hh]; exact (h5 x).moved ha
  · rw [← hh]; exact h6.moved ha
  · rw [← hh]; exact h7
def zH (base : Nat) (fa : UInt32 → Nat) (D : va_G) (aC : Nat → ClassId) (h : List va_E) (H : Heap) : Prop := va_P D vwCl (zwl base fa aC h) H
def zX (p : Program) (s : State) (m : MethodId) (args : Array Value) (meth : Method) (c : Code) (base : Nat) (fa : UInt32 → Nat) (D : va_G) (aC : Nat → ClassId) (ro : UInt32 → Nat × (Nat → Int32)) (L0 M : Nat) : Prop :=
  p.tables.exec = Jvm.exec ∧ c.code = zc M ∧ c.maxLocals = zN M ∧ s.vm.findClass (zy M).cls = some m.cls ∧ (∀ w ∈ zwt, w.before args s = true) ∧ zEnv base fa D aC ro s ∧ (zini M = true → meth.name = "<init>") ∧ M < 190 ∧ s.heap.size = base + L0
theorem zwt_mem {i : Nat} {w : Cond} (h : lw_tbl[i]? = some w) (hg : goodWord w = true) : w ∈ zwt := List.mem_filter.mpr ⟨List.mem_of_getElem? h, hg⟩
theorem zwt_good {w : Cond} (h : w ∈ zwt) : goodWord w = true := (List.mem_filter.mp h).2
theorem zgo_inj {pc : Nat} {ls : List (Nat × Value)} {st : List Value} {h : List va_E} {uc us : Nat} {k : zK} (e : zgo pc ls st h uc us = some k) : k = .inl (pc, ls, st, h, uc, us) := (Option.some.inj e).symm
theorem zju_inj {pc : Nat} {off : Int} {ls : List (Nat × Value)} {st : List Value} {h : List va_E} {uc us : Nat} {k : zK} (e : zju pc off ls st h uc us = some k) : ∃ t : Nat, (pc : Int) + off = (t : Int) ∧ k = .inl (t, ls, st, h, uc, us) := by
  unfold zju at e
  split at e
  · next t ht => exact ⟨t, ztg_spec ht, zgo_inj e⟩
  · cases e
theorem zbr_inj {c : Prop} [Decidable c] {pc : Nat} {off : Int} {ls : List (Nat × Value)} {st : List Value} {h : List va_E} {uc us : Nat} {k : zK} (e : zbr c pc off ls st h uc us = some k) : ∃ t : Nat, (pc : Int) + off = (t : Int) ∧ k = .inl (if c then t else pc + 3, ls, st, h, uc, us) := by
  unfold zbr at e
  split at e
  · next t ht => exact ⟨t, ztg_spec ht, zgo_inj e⟩
  · cases e
/-- the words of the fields of each class -/
theorem zuw0 : ∀ ci, ci < 13 → ∀ q, vwCl[ci]? = some q → ∀ w ∈ u_ws q.1 q.2.1 q.2.2, w ∈ zwt := by
  intro ci hci
  have key : ∀ (C : String) (T : u_T) (N : Nat) (ps : List Nat), (ps.map (fun i => lw_tbl[i]?) = (u_ws C T N).map some ∧ (u_ws C T N).all goodWord = true) → ∀ w ∈ u_ws C T N, w ∈ zwt := by
    intro C T N ps hp w hw
    obtain ⟨k, hk⟩ := List.getElem?_of_mem hw
    have h1 : (ps.map (fun i => lw_tbl[i]?))[k]? = some (some w) := by rw [hp.1, List.getElem?_map, hk]; rfl
    rw [List.getElem?_map] at h1
    cases hi : ps[k]? with
    | none => rw [hi] at h1; cases h1
    | some i => rw [hi] at h1; exact zwt_mem (Option.some.inj h1) (List.all_eq_true.mp hp.2 w hw)
  match ci, hci with
  | 0, _ => intro q hq; cases hq; exact key _ _ _ [339, 341, 343, 345, 347, 349] (by decide +kernel)
  | 1, _ => intro q hq; cases hq; exact key _ _ _ [401] (by decide +kernel)
  | 2, _ => intro q hq; cases hq; exact key _ _ _ [393] (by decide +kernel)
  | 3, _ => intro q hq; cases hq; exact key _ _ _ [275, 277, 279, 281, 283] (by decide +kernel)
  | 4, _ => intro q hq; cases hq; exact key _ _ _ [123, 125, 127, 129, 131, 133, 135, 137, 139, 141, 143] (by decide +kernel)
  | 5, _ => intro q hq; cases hq; exact key _ _ _ [301, 303, 305, 307, 309, 311, 313, 315, 317] (by decide +kernel)
  | 6, _ => intro q hq; cases hq; exact key _ _ _ [377] (by decide +kernel)
  | 7, _ => intro q hq; cases hq; exact key _ _ _ [385] (by decide +kernel)
  | 8, _ => intro q hq; cases hq; exact key _ _ _ [368] (by decide +kernel)
  | 9, _ => intro q hq; cases hq; exact key _ _ _ [192, 194, 196, 198, 200, 202, 204, 206, 208, 210] (by decide +kernel)
  | 10, _ => intro q hq; cases hq; exact key _ _ _ [236, 238, 240, 242, 244, 246, 248, 250, 252, 254, 256, 258, 260] (by decide +kernel)
  | 11, _ => intro q hq; cases hq; exact key _ _ _ [411, 413, 415, 417, 419, 421, 423, 425] (by decide +kernel)
  | 12, _ => intro q hq; cases hq; exact key _ _ _ [975, 977, 979, 981, 983, 985, 987, 989, 991, 993, 995, 997, 999, 1001, 1003, 1005, 1007, 1009, 1011, 1013, 1015, 1017, 1019, 1021, 1023, 1025, 1027, 1029, 1031, 1033, 1035, 1037, 1039, 1041, 1043, 1045, 1047, 1049, 1051, 1053, 1055, 1057, 1059, 1061, 1063, 1065, 1067, 1069, 1071, 1073, 1075, 1077, 1079, 1081, 1083] (by decide +kernel)
