/-! ===== the interpreter: a pure picture of the machine over lists of cells; refs are places in the list ===== -/
def zsh (base : Nat) (fa : UInt32 → Nat) : Value → Value
  | .ref k => .ref (base + k)
  | .float x => .ref (fa x)
  | .int v => .int v
  | .long v => .long v
  | .double v => .double v
  | .null => .null
  | .retAddr p => .retAddr p
theorem zsh_cat (base : Nat) (fa : UInt32 → Nat) (v : Value) : (zsh base fa v).category = v.category := by cases v <;> rfl
def zca (base : Nat) (x : (Nat → Int32) ⊕ (Nat → Int64) ⊕ (Nat → UInt32) ⊕ (Nat → UInt64) ⊕ (Nat → Option Nat)) : (Nat → Int32) ⊕ (Nat → Int64) ⊕ (Nat → UInt32) ⊕ (Nat → UInt64) ⊕ (Nat → Option Nat) := match x with
  | .inl f => .inl f
  | .inr (.inl f) => .inr (.inl f)
  | .inr (.inr (.inl f)) => .inr (.inr (.inl f))
  | .inr (.inr (.inr (.inl f))) => .inr (.inr (.inr (.inl f)))
  | .inr (.inr (.inr (.inr f))) => .inr (.inr (.inr (.inr (fun i => (f i).map (fun k => base + k)))))
def zce (base : Nat) (fa : UInt32 → Nat) (aC : Nat → ClassId) (e : va_E) : va_E := match e with
  | .inl a => .inl (aC a.1, a.2.1, zca base a.2.2)
  | .inr o => .inr (o.1, o.2.map (zsh base fa))
def zwl (base : Nat) (fa : UInt32 → Nat) (aC : Nat → ClassId) (h : List va_E) : va_W := h.mapIdx (fun k e => (base + k, zce base fa aC e))
theorem zwl_get {base : Nat} {fa : UInt32 → Nat} {aC : Nat → ClassId} (h : List va_E) (k : Nat) : (zwl base fa aC h)[k]? = (h[k]?).map (fun e => (base + k, zce base fa aC e)) := by
  simp [zwl, List.getElem?_mapIdx]
theorem zwl_at {base : Nat} {fa : UInt32 → Nat} {aC : Nat → ClassId} {h : List va_E} {k : Nat} {e : va_E} (hk : h[k]? = some e) : (zwl base fa aC h)[k]? = some (base + k, zce base fa aC e) := by
  rw [zwl_get, hk]; rfl
theorem zwl_set {base : Nat} {fa : UInt32 → Nat} {aC : Nat → ClassId} (h : List va_E) (k : Nat) (e : va_E) : (zwl base fa aC h).set k (base + k, zce base fa aC e) = zwl base fa aC (h.set k e) := by
  apply List.ext_getElem?
  intro j
  rw [zwl_get, List.getElem?_set, List.getElem?_set]
  by_cases hj : k = j
  · subst hj
    simp only [if_true]
    by_cases hl : k < h.length
    · rw [if_pos (by simpa [zwl] using hl), if_pos hl]; rfl
    · rw [if_neg (by simpa [zwl] using hl), if_neg hl]; rfl
  · rw [if_neg hj, if_neg hj, zwl_get]
theorem zwl_app {base : Nat} {fa : UInt32 → Nat} {aC : Nat → ClassId} (h : List va_E) (e : va_E) : zwl base fa aC (h ++ [e]) = zwl base fa aC h ++ [(base + h.length, zce base fa aC e)] := by
  simp [zwl, List.mapIdx_append]
theorem zwl_D {base : Nat} {fa : UInt32 → Nat} {aC : Nat → ClassId} (h : List va_E) : va_D (fun q => base ≤ q) (zwl base fa aC h) := by
  refine ⟨fun i j p q hi hj he => ?_, fun k q hk => ?_⟩
  · rw [zwl_get] at hi hj
    obtain ⟨a, -, ha⟩ := Option.map_eq_some_iff.mp hi
    obtain ⟨b, -, hb⟩ := Option.map_eq_some_iff.mp hj
    rw [← ha, ← hb] at he
    simp only at he
    omega
  · rw [zwl_get] at hk
    obtain ⟨a, -, ha⟩ := Option.map_eq_some_iff.mp hk
    rw [← ha]
    exact Nat.le_add_right _ _
/-- the locals -/
def zld : List (Nat × Value) → Nat → Option Value
  | [], _ => none
  | q :: r, i => if q.1 = i then some q.2 else zld r i
theorem zld_mem : ∀ {ls : List (Nat × Value)} {i : Nat} {v : Value}, zld ls i = some v → (i, v) ∈ ls
  | [], _, _, h => by simp [zld] at h
  | q :: r, i, v, h => by
    unfold zld at h
    by_cases hq : q.1 = i
    · rw [if_pos hq] at h
      cases h
      rw [← hq]
      exact List.mem_cons_self
    · rw [if_neg hq] at h
      exact List.mem_cons_of_mem _ (zld_mem h)
/-- a local's place among the others, by number -/
def zins : List (Nat × Value) → Nat → Value → List (Nat × Value)
  | [], i, v => [(i, v)]
  | q :: r, i, v => if q.1 < i then q :: zins r i v else (i, v) :: q :: r
theorem zins_mem : ∀ {ls : List (Nat × Value)} {i : Nat} {v : Value} {q : Nat × Value}, q ∈ zins ls i v → q ∈ (i, v) :: ls
  | [], _, _, _, h => h
  | w :: r, i, v, q, h => by
    unfold zins at h
    split at h
    · rcases List.mem_cons.mp h with rfl | h
      · exact List.mem_cons_of_mem _ List.mem_cons_self
      · rcases List.mem_cons.mp (zins_mem h) with rfl | h
        · exact List.mem_cons_self
        · exact List.mem_cons_of_mem _ (List.mem_cons_of_mem _ h)
    · exact h
def zs1 (ls : List (Nat × Value)) (i : Nat) (v : Value) : List (Nat × Value) := zins (ls.filter (fun q => !(q.1 == i) && !(q.1 + 1 == i && q.2.category == 2))) i v
def zs2 (ls : List (Nat × Value)) (i : Nat) (v : Value) : List (Nat × Value) := zins (ls.filter (fun q => !(q.1 == i) && (!(q.1 == i + 1) && !(q.1 + 1 == i && q.2.category == 2)))) i v
def zlm (base : Nat) (fa : UInt32 → Nat) (ls : List (Nat × Value)) : List (Nat × Value) := ls.map (fun q => (q.1, zsh base fa q.2))
theorem zlm_s1 {base : Nat} {fa : UInt32 → Nat} {ls : List (Nat × Value)} {i n : Nat} {v : Value} {A : Array Slot} (h : lv_has A n ((i, zsh base fa v) :: (zlm base fa ls).filter (fun q => !(q.1 == i) && !(q.1 + 1 == i && q.2.category == 2)))) : lv_has A n (zlm base fa (zs1 ls i v)) := by
  refine ⟨h.1, h.2.1, fun q hq => h.2.2 q ?_⟩
  obtain ⟨w, hw, rfl⟩ := List.mem_map.mp hq
  rcases List.mem_cons.mp (zins_mem hw) with rfl | hw
  · exact List.mem_cons_self
  · obtain ⟨h1, h2⟩ := List.mem_filter.mp hw
    exact List.mem_cons_of_mem _ (List.mem_filter.mpr ⟨List.mem_map.mpr ⟨w, h1, rfl⟩, by simpa [zsh_cat] using h2⟩)
theorem zlm_s2 {base : Nat} {fa : UInt32 → Nat} {ls : List (Nat × Value)} {i n : Nat} {v : Value} {A : Array Slot} (h : lv_has A n ((i, zsh base fa v) :: (zlm base fa ls).filter (fun q => !(q.1 == i) && (!(q.1 == i + 1) && !(q.1 + 1 == i && q.2.category == 2))))) : lv_has A n (zlm base fa (zs2 ls i v)) := by
  refine ⟨h.1, h.2.1, fun q hq => h.2.2 q ?_⟩
  obtain ⟨w, hw, rfl⟩ := List.mem_map.mp hq
  rcases List.mem_cons.mp (zins_mem hw) with rfl | hw
  · exact List.mem_cons_self
  · obtain ⟨h1, h2⟩ := List.mem_filter.mp hw
    exact List.mem_cons_of_mem _ (List.mem_filter.mpr ⟨List.mem_map.mpr ⟨w, h1, rfl⟩, by simpa [zsh_cat] using h2⟩)
theorem zlm_at {base : Nat} {fa : UInt32 → Nat} {ls : List (Nat × Value)} {A : Array Slot} {n i : Nat} {v : Value} (h : lv_has A n (zlm base fa ls)) (hv : zld ls i = some v) : A[i]? = some (.val (zsh base fa v)) :=
  h.2.2 (i, zsh base fa v) (List.mem_map.mpr ⟨(i, v), zld_mem hv, rfl⟩)
def zargs : Nat → List Value → List (Nat × Value)
  | _, [] => []
  | i, v :: vs => (i, v) :: zargs (if v.category = 2 then i + 2 else i + 1) vs
theorem zargs_m (base : Nat) (fa : UInt32 → Nat) : ∀ (vs : List Value) (i : Nat), lv_args i (vs.map (zsh base fa)) = zlm base fa (zargs i vs)
  | [], _ => rfl
  | v :: vs, i => by
    show (i, zsh base fa v) :: lv_args _ (vs.map (zsh base fa)) = (i, zsh base fa v) :: zlm base fa (zargs _ vs)
    rw [zargs_m base fa vs, zsh_cat]
/-- the length of an instruction; 0: a switch -/
def zlen (i : Instr) : Nat := match i with
  | .tableswitch _ _ _ _ => 0
  | .lookupswitch _ _ => 0
  | .bipush _ => 2
  | .iload _ => 2
  | .lload _ => 2
  | .aload _ => 2
  | .istore _ => 2
  | .lstore _ => 2
  | .astore _ => 2
  | .ldc _ => 2
  | .newarray _ => 2
  | .sipush _ => 3
  | .iinc _ _ => 3
  | .ldc2_w _ => 3
  | .getfield _ => 3
  | .putfield _ => 3
  | .getstatic _ => 3
  | .new _ => 3
  | .anewarray _ => 3
  | .invokevirtual _ => 3
  | .invokespecial _ => 3
  | .invokestatic _ => 3
  | .goto _ => 3
  | .ifCond _ _ => 3
  | .if_icmp _ _ => 3
  | .ifnonnull _ => 3
  | _ => 1
def zf (M pc : Nat) : Option Instr := match decode (zc M) pc with
  | .ok (i, n) => if zlen i = 0 ∨ n = zlen i then some i else none
  | .error _ => none
theorem zf_spec {M pc : Nat} {i : Instr} (h : zf M pc = some i) : ∃ n, decode (zc M) pc = .ok (i, n) ∧ (zlen i = 0 ∨ n = zlen i) := by
  unfold zf at h
  cases hd : decode (zc M) pc with
  | error e => rw [hd] at h; simp at h
  | ok q =>
    obtain ⟨j, n⟩ := q
    rw [hd] at h
    simp only at h
    by_cases hc : zlen j = 0 ∨ n = zlen j
    · rw [if_pos hc] at h
      cases h
      exact ⟨n, rfl, hc⟩
    · rw [if_neg hc] at h
      cases h
def ztg (pc : Nat) (off : Int) : Option Nat := if 0 ≤ (pc : Int) + off then some ((pc : Int) + off).toNat else none
theorem ztg_spec {pc t : Nat} {off : Int} (h : ztg pc off = some t) : (pc : Int) + off = (t : Int) := by
  unfold ztg at h
  split at h
  · cases h; omega
  · cases h
theorem ztg_of {pc t : Nat} {off : Int} (h : (pc : Int) + off = (t : Int)) : ztg pc off = some t := by
  unfold ztg
  rw [if_pos (by omega)]
  congr 1
  omega
abbrev zC : Type := Nat × List (Nat × Value) × List Value × List va_E × Nat × Nat
abbrev zK : Type := zC ⊕ ((Nat × List Value × List Value) ⊕ Option Value)
def zgo (pc : Nat) (ls : List (Nat × Value)) (st : List Value) (h : List va_E) (uc us : Nat) : Option zK := some (.inl (pc, ls, st, h, uc, us))
def zju (pc : Nat) (off : Int) (ls : List (Nat × Value)) (st : List Value) (h : List va_E) (uc us : Nat) : Option zK := match ztg pc off with
  | some t => zgo t ls st h uc us
  | none => none
def zbr (c : Prop) [Decidable c] (pc : Nat) (off : Int) (ls : List (Nat × Value)) (st : List Value) (h : List va_E) (uc us : Nat) : Option zK := match ztg pc off with
  | some t => zgo (if c then t else pc + 3) ls st h uc us
  | none => none
def zfd (o idx ci : Nat) : Option Nat := (zfp.find? (fun e => e.1 == o && (e.2.1 == idx && e.2.2.1 == ci))).map (fun e => e.2.2.2.1)
def zcall (M idx ci : Nat) : Option zCe := zcp.find? (fun e => e.1 == M && (e.2.1 == idx && e.2.2.1 == ci))
def zna (M idx : Nat) : Option Nat := (zcp.find? (fun e => e.1 == M && e.2.1 == idx)).map (fun e => e.2.2.2.2.2.1)
def zcl (o idx : Nat) : Option Nat := (zcn.find? (fun e => e.1 == o && e.2.1 == idx)).map (fun e => e.2.2.1)
def zki (o idx : Nat) : Option Int32 := (zkI.find? (fun e => e.1 == o && e.2.1 == idx)).map (fun e => e.2.2.1)
def zkl (o idx : Nat) : Option Int64 := (zkL.find? (fun e => e.1 == o && e.2.1 == idx)).map (fun e => e.2.2.1)
def ztyl : List (Nat → FieldType) := [tyX0, tyX1, tyX2, tyX3, tyX4, tyX5, tyX6, tyX7, tyX8, tyX9, tyX10, tyX11, tyX12]
def zty (ci j : Nat) : FieldType := (ztyl.getD ci (fun _ => .int)) j
def zfin (ci j : Nat) : Bool := match vwCl[ci]? with
  | some q => (q.2.1 j).2.2.2
  | none => false
def zdc (ci j : Nat) : String := match vwCl[ci]? with
  | some q => (q.2.1 j).1
  | none => ""
def znf (ci : Nat) : Nat := match vwCl[ci]? with
  | some q => q.2.2
  | none => 0
def zdf (ci : Nat) : List Value := (List.range (znf ci)).map (fun j => defaultValue (zty ci j))
def zfit (ty : FieldType) (v : Value) : Bool := match ty, v with
  | .int, .int _ => true
  | .long, .long _ => true
  | .boolean, .int x => x == 0 || x == 1
  | .object _, .ref _ => true
  | .array _, .ref _ => true
  | _, _ => false
theorem zfit_ok {base : Nat} {fa : UInt32 → Nat} {ty : FieldType} {v : Value} (h : zfit ty v = true) : narrow ty (zsh base fa v) = zsh base fa v ∧ fits ty (zsh base fa v) = true := by
  cases ty <;> cases v <;> simp only [zfit, Bool.false_eq_true] at h <;> try exact ⟨rfl, rfl⟩
  rename_i x
  simp only [Bool.or_eq_true, beq_iff_eq] at h
  rcases h with rfl | rfl
  · exact ⟨show narrow .boolean (.int 0) = .int 0 by decide, show fits .boolean (.int 0) = true by decide⟩
  · exact ⟨show narrow .boolean (.int 1) = .int 1 by decide, show fits .boolean (.int 1) = true by decide⟩
def zat (t : ArrayType) : Option (Nat × ((Nat → Int32) ⊕ (Nat → Int64) ⊕ (Nat → UInt32) ⊕ (Nat → UInt64) ⊕ (Nat → Option Nat))) := match t with
  | .int => some (0, .inl (fun _ => 0))
  | .long => some (1, .inr (.inl (fun _ => 0)))
  | .boolean => some (2, .inl (fun _ => 0))
  | _ => none
/-- one instruction: on to a place, a call, or the end -/
def zo (ro : UInt32 → Nat × (Nat → Int32)) (M pc : Nat) (ls : List (Nat × Value)) (st : List Value) (h : List va_E) (uc us : Nat) (i : Instr) : Option zK := match i with
  | .iconst n => zgo (pc + 1) ls (.int (Int32.ofInt n) :: st) h uc us
  | .bipush n => zgo (pc + 2) ls (.int (Int8.ofInt n).toInt32 :: st) h uc us
  | .sipush n => zgo (pc + 3) ls (.int (Int16.ofInt n).toInt32 :: st) h uc us
  | .lconst n => zgo (pc + 1) ls (.long (Int64.ofNat (n : Nat)) :: st) h uc us
  | .iload_n k => match zld ls (k : Nat) with
    | some (.int x) => zgo (pc + 1) ls (.int x :: st) h uc us
    | _ => none
  | .iload k => match zld ls k with
    | some (.int x) => zgo (pc + 2) ls (.int x :: st) h uc us
    | _ => none
  | .lload_n k => match zld ls (k : Nat) with
    | some (.long x) => zgo (pc + 1) ls (.long x :: st) h uc us
    | _ => none
  | .lload k => match zld ls k with
    | some (.long x) => zgo (pc + 2) ls (.long x :: st) h uc us
    | _ => none
  | .aload_n k => match zld ls (k : Nat) with
    | some (.ref x) => zgo (pc + 1) ls (.ref x :: st) h uc us
    | some (.float x) => zgo (pc + 1) ls (.float x :: st) h uc us
    | _ => none
  | .aload k => match zld ls k with
    | some (.ref x) => zgo (pc + 2) ls (.ref x :: st) h uc us
    | _ => none
  | .istore_n k => match st with
    | .int x :: st => if (k : Nat) < zN M then zgo (pc + 1) (zs1 ls (k : Nat) (.int x)) st h uc us else none
    | _ => none
  | .istore k => match st with
    | .int x :: st => if k < zN M then zgo (pc + 2) (zs1 ls k (.int x)) st h uc us else none
    | _ => none
  | .lstore_n k => match st with
    | .long x :: st => if (k : Nat) + 1 < zN M then zgo (pc + 1) (zs2 ls (k : Nat) (.long x)) st h uc us else none
    | _ => none
  | .lstore k => match st with
    | .long x :: st => if k + 1 < zN M then zgo (pc + 2) (zs2 ls k (.long x)) st h uc us else none
    | _ => none
  | .astore_n k => match st with
    | .ref x :: st => if (k : Nat) < zN M then zgo (pc + 1) (zs1 ls (k : Nat) (.ref x)) st h uc us else none
    | _ => none
  | .astore k => match st with
    | .ref x :: st => if k < zN M then zgo (pc + 2) (zs1 ls k (.ref x)) st h uc us else none
    | _ => none
  | .iinc k n => match zld ls k with
    | some (.int x) => if k < zN M then zgo (pc + 3) (zs1 ls k (.int (x + Int32.ofInt n))) st h uc us else none
    | _ => none
  | .iadd => match st with
    | .int y :: .int x :: st => zgo (pc + 1) ls (.int (x + y) :: st) h uc us
    | _ => none
  | .isub => match st with
    | .int y :: .int x :: st => zgo (pc + 1) ls (.int (x - y) :: st) h uc us
    | _ => none
  | .imul => match st with
    | .int y :: .int x :: st => zgo (pc + 1) ls (.int (x * y) :: st) h uc us
    | _ => none
  | .iand => match st with
    | .int y :: .int x :: st => zgo (pc + 1) ls (.int (x &&& y) :: st) h uc us
    | _ => none
  | .ior => match st with
    | .int y :: .int x :: st => zgo (pc + 1) ls (.int (x ||| y) :: st) h uc us
    | _ => none
  | .ixor => match st with
    | .int y :: .int x :: st => zgo (pc + 1) ls (.int (x ^^^ y) :: st) h uc us
    | _ => none
  | .idiv => match st with
    | .int y :: .int x :: st => if y = 0 then none else zgo (pc + 1) ls (.int (x / y) :: st) h uc us
    | _ => none
  | .irem => match st with
    | .int y :: .int x :: st => if y = 0 then none else zgo (pc + 1) ls (.int (x - x / y * y) :: st) h uc us
    | _ => none
  | .ineg => match st with
    | .int x :: st => zgo (pc + 1) ls (.int (-x) :: st) h uc us
    | _ => none
  | .ishl => match st with
    | .int y :: .int x :: st => zgo (pc + 1) ls (.int (x <<< (y &&& 31)) :: st) h uc us
    | _ => none
  | .ishr => match st with
    | .int y :: .int x :: st => zgo (pc + 1) ls (.int (x >>> (y &&& 31)) :: st) h uc us
    | _ => none
  | .ladd => match st with
    | .long y :: .long x :: st => zgo (pc + 1) ls (.long (x + y) :: st) h uc us
    | _ => none
  | .lsub => match st with
    | .long y :: .long x :: st => zgo (pc + 1) ls (.long (x - y) :: st) h uc us
    | _ => none
  | .lmul => match st with
    | .long y :: .long x :: st => zgo (pc + 1) ls (.long (x * y) :: st) h uc us
    | _ => none
  | .lor => match st with
    | .long y :: .long x :: st => zgo (pc + 1) ls (.long (x ||| y) :: st) h uc us
    | _ => none
  | .ldiv => match st with
    | .long y :: .long x :: st => if y = 0 then none else zgo (pc + 1) ls (.long (x / y) :: st) h uc us
    | _ => none
  | .lrem => match st with
    | .long y :: .long x :: st => if y = 0 then none else zgo (pc + 1) ls (.long (x - x / y * y) :: st) h uc us
    | _ => none
  | .lneg => match st with
    | .long x :: st => zgo (pc + 1) ls (.long (-x) :: st) h uc us
    | _ => none
  | .lshl => match st with
    | .int y :: .long x :: st => zgo (pc + 1) ls (.long (x <<< (y.toInt64 &&& 63)) :: st) h uc us
    | _ => none
  | .lcmp => match st with
    | .long y :: .long x :: st => zgo (pc + 1) ls (.int (lg_cmp x y) :: st) h uc us
    | _ => none
  | .i2l => match st with
    | .int x :: st => zgo (pc + 1) ls (.long x.toInt64 :: st) h uc us
    | _ => none
  | .l2i => match st with
    | .long x :: st => zgo (pc + 1) ls (.int x.toInt32 :: st) h uc us
    | _ => none
  | .dup => match st with
    | v :: st => if v.category = 1 then zgo (pc + 1) ls (v :: v :: st) h uc us else none
    | _ => none
  | .pop => match st with
    | v :: st => if v.category = 1 then zgo (pc + 1) ls st h uc us else none
    | _ => none
  | .pop2 => match st with
    | v :: st => if v.category = 2 then zgo (pc + 1) ls st h uc us else none
    | _ => none
  | .dup2 => match st with
    | v :: w :: st => if v.category = 1 ∧ w.category = 1 then zgo (pc + 1) ls (v :: w :: v :: w :: st) h uc us else none
    | _ => none
  | .ifCond c off => match st with
    | .int x :: st => match c with
      | .eq => zbr (x = 0) pc off ls st h uc us
      | .ne => zbr (¬ x = 0) pc off ls st h uc us
      | .lt => zbr (x < 0) pc off ls st h uc us
      | .ge => zbr (0 ≤ x) pc off ls st h uc us
      | .gt => zbr (0 < x) pc off ls st h uc us
      | .le => zbr (x ≤ 0) pc off ls st h uc us
    | _ => none
  | .if_icmp c off => match st with
    | .int y :: .int x :: st => match c with
      | .eq => zbr (x = y) pc off ls st h uc us
      | .ne => zbr (¬ x = y) pc off ls st h uc us
      | .lt => zbr (x < y) pc off ls st h uc us
      | .ge => zbr (y ≤ x) pc off ls st h uc us
      | .gt => zbr (y < x) pc off ls st h uc us
      | .le => zbr (x ≤ y) pc off ls st h uc us
    | _ => none
  | .ifnonnull off => match st with
    | .ref _ :: st => zju pc off ls st h uc us
    | _ => none
  | .goto off => zju pc off ls st h uc us
  | .tableswitch d lo hi offs => match st with
    | .int x :: st => if x.toInt < lo ∨ hi < x.toInt then zju pc d ls st h uc us else match offs[(x.toInt - lo).toNat]? with
      | some off => zju pc off ls st h uc us
      | none => none
    | _ => none
  | .lookupswitch d ps => match st with
    | .int x :: st => if (ps.toList.zip (ps.toList.drop 1)).all (fun (a, next) => a.1 < next.1) = true then zju pc (Op.lookupswitch.offset ps.toList d x.toInt) ls st h uc us else none
    | _ => none
  | .ldc idx => match zki (zoc M) idx with
    | some v => zgo (pc + 2) ls (.int v :: st) h uc us
    | none => none
  | .ldc2_w idx => match zkl (zoc M) idx with
    | some v => zgo (pc + 3) ls (.long v :: st) h uc us
    | none => none
  | .getfield idx => match st with
    | .ref k :: st => match h[k]? with
      | some (.inr (ci, fs)) => match zfd (zoc M) idx ci with
        | some j => match fs[j]? with
          | some v => zgo (pc + 3) ls (v :: st) h uc us
          | none => none
        | none => none
      | _ => none
    | _ => none
  | .putfield idx => match st with
    | v :: .ref k :: st => match h[k]? with
      | some (.inr (ci, fs)) => match zfd (zoc M) idx ci with
        | some j => if zfit (zty ci j) v = true ∧ j < fs.length ∧ (zfin ci j = true → zini M = true ∧ zdc ci j = (zy M).cls) then zgo (pc + 3) ls st (h.set k (.inr (ci, fs.set j v))) uc us else none
        | none => none
      | _ => none
    | _ => none
  | .new idx => match zcl (zoc M) idx with
    | some ci => if uc + 1 ≤ (zrm M).cells ∧ us + znf ci ≤ (zrm M).slots then zgo (pc + 3) ls (.ref h.length :: st) (h ++ [.inr (ci, zdf ci)]) (uc + 1) (us + znf ci) else none
    | none => none
  | .newarray t => match st with
    | .int n :: st => match zat t with
      | some (tc, f) => if ¬ n < 0 ∧ n.toNatClampNeg ≤ 1000000 ∧ uc + 1 ≤ (zrm M).cells ∧ us + n.toNatClampNeg ≤ (zrm M).slots then zgo (pc + 2) ls (.ref h.length :: st) (h ++ [.inl (tc, n.toNatClampNeg, f)]) (uc + 1) (us + n.toNatClampNeg) else none
      | none => none
    | _ => none
  | .anewarray idx => match st with
    | .int n :: st => if zcl (zoc M) idx = some 8 ∧ ¬ n < 0 ∧ n.toNatClampNeg ≤ 1000000 ∧ uc + 1 ≤ (zrm M).cells ∧ us + n.toNatClampNeg ≤ (zrm M).slots then zgo (pc + 3) ls (.ref h.length :: st) (h ++ [.inl (3, n.toNatClampNeg, .inr (.inr (.inr (.inr (fun _ => none)))))]) (uc + 1) (us + n.toNatClampNeg) else none
    | _ => none
  | .iaload => match st with
    | .int i :: .ref k :: st => match h[k]? with
      | some (.inl (0, n, .inl f)) => if i < 0 ∨ n ≤ i.toNatClampNeg then none else zgo (pc + 1) ls (.int (f i.toNatClampNeg) :: st) h uc us
      | _ => none
    | .int i :: .float x :: st => if i < 0 ∨ (ro x).1 ≤ i.toNatClampNeg then none else zgo (pc + 1) ls (.int ((ro x).2 i.toNatClampNeg) :: st) h uc us
    | _ => none
  | .baload => match st with
    | .int i :: .ref k :: st => match h[k]? with
      | some (.inl (2, n, .inl f)) => if i < 0 ∨ n ≤ i.toNatClampNeg then none else zgo (pc + 1) ls (.int (f i.toNatClampNeg) :: st) h uc us
      | _ => none
    | _ => none
  | .laload => match st with
    | .int i :: .ref k :: st => match h[k]? with
      | some (.inl (1, n, .inr (.inl f))) => if i < 0 ∨ n ≤ i.toNatClampNeg then none else zgo (pc + 1) ls (.long (f i.toNatClampNeg) :: st) h uc us
      | _ => none
    | _ => none
  | .aaload => match st with
    | .int i :: .ref k :: st => match h[k]? with
      | some (.inl (3, n, .inr (.inr (.inr (.inr f))))) => if i < 0 ∨ n ≤ i.toNatClampNeg then none else match f i.toNatClampNeg with
        | some a => zgo (pc + 1) ls (.ref a :: st) h uc us
        | none => none
      | _ => none
    | _ => none
  | .iastore => match st with
    | .int x :: .int i :: .ref k :: st => match h[k]? with
      | some (.inl (0, n, .inl f)) => if i < 0 ∨ n ≤ i.toNatClampNeg then none else zgo (pc + 1) ls st (h.set k (.inl (0, n, .inl (upd f i.toNatClampNeg x)))) uc us
      | _ => none
    | _ => none
  | .bastore => match st with
    | .int x :: .int i :: .ref k :: st => match h[k]? with
      | some (.inl (2, n, .inl f)) => if i < 0 ∨ n ≤ i.toNatClampNeg then none else zgo (pc + 1) ls st (h.set k (.inl (2, n, .inl (upd f i.toNatClampNeg (vp_nar .boolean x))))) uc us
      | _ => none
    | _ => none
  | .lastore => match st with
    | .long x :: .int i :: .ref k :: st => match h[k]? with
      | some (.inl (1, n, .inr (.inl f))) => if i < 0 ∨ n ≤ i.toNatClampNeg then none else zgo (pc + 1) ls st (h.set k (.inl (1, n, .inr (.inl (vp_updL f i.toNatClampNeg x))))) uc us
      | _ => none
    | _ => none
  | .aastore => match st with
    | .ref v :: .int i :: .ref k :: st => match h[k]?, h[v]? with
      | some (.inl (3, n, .inr (.inr (.inr (.inr f))))), some (.inr (ci, _)) => if i < 0 ∨ n ≤ i.toNatClampNeg then none else if ci = 8 ∨ ci = 6 ∨ ci = 7 ∨ ci = 2 ∨ ci = 1 then zgo (pc + 1) ls st (h.set k (.inl (3, n, .inr (.inr (.inr (.inr (va_up f i.toNatClampNeg (some v)))))))) uc us else none
      | _, _ => none
    | _ => none
  | .arraylength => match st with
    | .float x :: st => zgo (pc + 1) ls (.int (Int32.ofNat (ro x).1) :: st) h uc us
    | _ => none
  | .getstatic idx => if zoc M = 11 ∧ idx = 333 then zgo (pc + 3) ls (.float 1 :: st) h uc us else none
  | .ireturn => match st with
    | [.int v] => match zret M with
      | some .int => if uc = (zrm M).cells ∧ us = (zrm M).slots then some (.inr (.inr (some (.int v)))) else none
      | some .boolean => if uc = (zrm M).cells ∧ us = (zrm M).slots ∧ (v = 0 ∨ v = 1) then some (.inr (.inr (some (.int v)))) else none
      | _ => none
    | _ => none
  | .lreturn => match st with
    | [.long v] => match zret M with
      | some .long => if uc = (zrm M).cells ∧ us = (zrm M).slots then some (.inr (.inr (some (.long v)))) else none
      | _ => none
    | _ => none
  | .return_ => match st with
    | [] => match zret M with
      | none => if uc = (zrm M).cells ∧ us = (zrm M).slots then some (.inr (.inr none)) else none
      | _ => none
    | _ => none
  | .invokevirtual idx => match zna M idx with
    | some n => match st.drop n with
      | .ref k :: rest => match h[k]? with
        | some (.inr (ci, _)) => match zcall M idx ci with
          | some (_, _, _, kd, M1, n1, _, _) => if kd ≤ 1 ∧ n1 = n ∧ (rest.map (fun v => v.category)).sum ≤ 8 ∧ uc + (zrm M1).cells ≤ (zrm M).cells ∧ us + (zrm M1).slots ≤ (zrm M).slots then some (.inr (.inl (M1, .ref k :: (st.take n).reverse, rest))) else none
          | none => none
        | _ => none
      | _ => none
    | none => none
  | .invokestatic idx => match zcall M idx 99 with
    | some (_, _, _, kd, M1, n, _, _) =>
      if kd = 2 ∨ kd = 3 then (if n ≤ st.length ∧ ((st.drop n).map (fun v => v.category)).sum ≤ 8 ∧ uc + (zrm M1).cells ≤ (zrm M).cells ∧ us + (zrm M1).slots ≤ (zrm M).slots then some (.inr (.inl (M1, (st.take n).reverse, st.drop n))) else none)
      else if kd = 8 then (match st with
        | .int n :: .int dp :: .ref a1 :: .int sp :: .ref a0 :: st => match h[a0]?, h[a1]? with
          | some (.inl (0, n0, .inl f)), some (.inl (0, n1, .inl g)) => if ¬ sp < 0 ∧ ¬ dp < 0 ∧ ¬ n < 0 ∧ sp.toNatClampNeg + n.toNatClampNeg ≤ n0 ∧ dp.toNatClampNeg + n.toNatClampNeg ≤ n1 ∧ (st.map (fun v => v.category)).sum ≤ 8 then zgo (pc + 3) ls st (h.set a1 (.inl (0, n1, .inl (va_cpy f g sp.toNatClampNeg dp.toNatClampNeg n.toNatClampNeg)))) uc us else none
          | some (.inl (1, n0, .inr (.inl f))), some (.inl (1, n1, .inr (.inl g))) => if ¬ sp < 0 ∧ ¬ dp < 0 ∧ ¬ n < 0 ∧ sp.toNatClampNeg + n.toNatClampNeg ≤ n0 ∧ dp.toNatClampNeg + n.toNatClampNeg ≤ n1 ∧ (st.map (fun v => v.category)).sum ≤ 8 then zgo (pc + 3) ls st (h.set a1 (.inl (1, n1, .inr (.inl (va_cpy f g sp.toNatClampNeg dp.toNatClampNeg n.toNatClampNeg))))) uc us else none
          | _, _ => none
        | _ => none)
      else none
    | none => none
  | .invokespecial idx => match zcall M idx 99 with
    | some (_, _, _, kd, M1, n, _, _) =>
      if kd = 7 then (match st with
        | .ref k :: st => if (st.map (fun v => v.category)).sum ≤ 8 then zgo (pc + 3) ls st h uc us else none
        | _ => none)
      else if kd = 4 ∨ kd = 5 then (match st.drop n with
        | .ref k :: rest => if (rest.map (fun v => v.category)).sum ≤ 8 ∧ uc + (zrm M1).cells ≤ (zrm M).cells ∧ us + (zrm M1).slots ≤ (zrm M).slots then some (.inr (.inl (M1, .ref k :: (st.take n).reverse, rest))) else none
        | _ => none)
      else none
    | none => match zcall M idx 98 with
      | some (_, _, _, kd, M1, n, _, _) => if kd = 6 ∨ kd = 9 then (match st.drop n with
        | .ref k :: rest => match h[k]? with
          | some (.inr (ci, _)) => if ci < 13 ∧ (rest.map (fun v => v.category)).sum ≤ 8 ∧ uc + (zrm M1).cells ≤ (zrm M).cells ∧ us + (zrm M1).slots ≤ (zrm M).slots then some (.inr (.inl (M1, .ref k :: (st.take n).reverse, rest))) else none
          | _ => none
        | _ => none) else none
      | none => none
  | _ => none
/-- a run of n steps at most -/
def zr (ro : UInt32 → Nat × (Nat → Int32)) : Nat → Nat → Nat → List (Nat × Value) → List Value → List va_E → Nat → Nat → Option (Option Value × List va_E)
  | 0, _, _, _, _, _, _, _ => none
  | n + 1, M, pc, ls, st, h, uc, us => match zf M pc with
    | none => none
    | some i => match zo ro M pc ls st h uc us i with
      | none => none
      | some (.inl c) => zr ro n M c.1 c.2.1 c.2.2.1 c.2.2.2.1 c.2.2.2.2.1 c.2.2.2.2.2
      | some (.inr (.inl c)) => if (c.2.1.map (fun v => v.category)).sum ≤ zN c.1 then (match zr ro n c.1 0 (zargs 0 c.2.1) [] h 0 0 with
        | none => none
        | some q => zr ro n M (pc + 3) ls (q.1.toList ++ c.2.2) q.2 (uc + (zrm c.1).cells) (us + (zrm c.1).slots)) else none
      | some (.inr (.inr v)) => some (v, h)
