/-! ===== the end of a method ===== -/
def zEnd (M : Nat) (i : Instr) (st : List Value) (uc us : Nat) (r : Option Value) : Prop := (uc = (zrm M).cells ∧ us = (zrm M).slots) ∧ ((i = .ireturn ∧ ∃ v : Int32, st = [.int v] ∧ r = some (.int v) ∧ (zret M = some .int ∨ (zret M = some .boolean ∧ (v = 0 ∨ v = 1)))) ∨ (i = .lreturn ∧ ∃ v : Int64, st = [.long v] ∧ r = some (.long v) ∧ zret M = some .long) ∨ (i = .return_ ∧ st = [] ∧ r = none ∧ zret M = none))
section ZMN
variable {ro : UInt32 → Nat × (Nat → Int32)} {M pc : Nat} {ls : List (Nat × Value)} {st : List Value} {h : List va_E} {uc us : Nat}
theorem ze_ireturn {k : zK} (ho : zo ro M pc ls st h uc us .ireturn = some k) : ∃ r, k = .inr (.inr r) ∧ zEnd M .ireturn st uc us r := by
  simp only [zo] at ho
  split at ho
  · next v =>
    split at ho
    · next hr =>
      split at ho
      · next hc => exact ⟨_, (Option.some.inj ho).symm, hc, Or.inl ⟨rfl, v, rfl, rfl, Or.inl hr⟩⟩
      · cases ho
    · next hr =>
      split at ho
      · next hc => exact ⟨_, (Option.some.inj ho).symm, ⟨hc.1, hc.2.1⟩, Or.inl ⟨rfl, v, rfl, rfl, Or.inr ⟨hr, hc.2.2⟩⟩⟩
      · cases ho
    · cases ho
  · cases ho
theorem ze_lreturn {k : zK} (ho : zo ro M pc ls st h uc us .lreturn = some k) : ∃ r, k = .inr (.inr r) ∧ zEnd M .lreturn st uc us r := by
  simp only [zo] at ho
  split at ho
  · next v =>
    split at ho
    · next hr =>
      split at ho
      · next hc => exact ⟨_, (Option.some.inj ho).symm, hc, Or.inr (Or.inl ⟨rfl, v, rfl, rfl, hr⟩)⟩
      · cases ho
    · cases ho
  · cases ho
theorem ze_return {k : zK} (ho : zo ro M pc ls st h uc us .return_ = some k) : ∃ r, k = .inr (.inr r) ∧ zEnd M .return_ st uc us r := by
  simp only [zo] at ho
  split at ho
  · split at ho
    · next hr =>
      split at ho
      · next hc => exact ⟨_, (Option.some.inj ho).symm, hc, Or.inr (Or.inr ⟨rfl, rfl, rfl, hr⟩)⟩
      · cases ho
    · cases ho
  · cases ho
theorem zv_call {n0 : Nat} {k : zK} (ho : zo ro M pc ls st h uc us (.invokevirtual n0) = some k) : ∃ q, k = .inr (.inl q) := by
  simp only [zo] at ho
  repeat' split at ho
  all_goals first | cases ho; done | exact ⟨_, (Option.some.inj ho).symm⟩
theorem zv_static {n0 : Nat} {k : zK} (ho : zo ro M pc ls st h uc us (.invokestatic n0) = some k) : (∃ q, k = .inl q) ∨ ∃ q, k = .inr (.inl q) := by
  simp only [zo] at ho
  repeat' split at ho
  all_goals first | cases ho; done | exact Or.inr ⟨_, (Option.some.inj ho).symm⟩ | exact Or.inl ⟨_, zgo_inj ho⟩
theorem zv_special {n0 : Nat} {k : zK} (ho : zo ro M pc ls st h uc us (.invokespecial n0) = some k) : (∃ q, k = .inl q) ∨ ∃ q, k = .inr (.inl q) := by
  simp only [zo] at ho
  repeat' split at ho
  all_goals first | cases ho; done | exact Or.inr ⟨_, (Option.some.inj ho).symm⟩ | exact Or.inl ⟨_, zgo_inj ho⟩
end ZMN
section ZMAIN
variable {l : Launch} {base : Nat} {fa : UInt32 → Nat} {D : va_G} {aC : Nat → ClassId} {ro : UInt32 → Nat × (Nat → Int32)}
/-- what a run says of the machine -/
def zSays (l : Launch) (base : Nat) (fa : UInt32 → Nat) (D : va_G) (aC : Nat → ClassId) (ro : UInt32 → Nat × (Nat → Int32)) (M pc : Nat) (ls : List (Nat × Value)) (st : List Value) (h : List va_E) (uc us : Nat) (r : Option Value) (h1 : List va_E) : Prop :=
  ∀ {p : Program} {e : Env} {s : State} {m : MethodId} {args : Array Value} {below : List Frame} {meth : Method} {c : Code} {Q : State → Prop} {L0 : Nat} {H : Heap} {locs : List Loc} {A : Array Slot}, zX p s m args meth c base fa D aC ro L0 M → zH base fa D aC h H → va_S (fun q => base ≤ q) s.heap H locs → lv_has A (zN M) (zlm base fa ls) → h.length = L0 + uc →
    (∀ (i : Instr) (pc1 : Nat) (st1 : List Value) (uc1 us1 : Nat) (H1 : Heap) (locs1 : List Loc) (A1 : Array Slot), zf M pc1 = some i → zEnd M i st1 uc1 us1 r → zH base fa D aC h1 H1 → va_S (fun q => base ≤ q) s.heap H1 locs1 → h1.length = L0 + uc1 → W p l e (zrm M) s m args below meth c H1 locs1 uc1 us1 Q (F0 m pc1 A1 (st1.map (zsh base fa)))) →
    W p l e (zrm M) s m args below meth c H locs uc us Q (F0 m pc A (st.map (zsh base fa)))
theorem zlg (vs : List Value) : (lg_sl vs).length = (vs.map (fun v => v.category)).sum := by
  induction vs with
  | nil => rfl
  | cons v vs ih =>
    have e1 : lg_sl (v :: vs) = (if v.category = 2 then [.val v, .second] else [.val v]) ++ lg_sl vs := by simp [lg_sl]
    rw [e1, List.length_append, ih, List.map_cons, List.sum_cons]
    rcases lv_cat v with hc | hc <;> simp [hc]
/-- a run of a method's body from its entry is a contract -/
theorem zMet {M1 : Nat} {as : List Value} {h h1 : List va_E} {r : Option Value} (hM : M1 < 189) (hp : plainFor (zy M1) = true) (ha : (as.map (fun v => v.category)).sum ≤ zN M1) (IH : zSays l base fa D aC ro M1 0 (zargs 0 as) [] h 0 0 r h1) : Met l (zy M1) (zws M1) (zrm M1) (zPc base fa D aC ro as h) (zQc base fa D aC r h1 (h.length + (zrm M1).cells)) (zrm M1).cells (zrm M1).slots (fun q => base ≤ q) := by
  refine zMet_ofW (cc := zc M1) (maxL := zN M1) (ret := zret M1) hp rfl ?_
  intro p e s m args below meth c s₁ B hml hv
  obtain ⟨rfl, hE, hH, hsz⟩ := hv
  have hts0 := atoms_spec (ws := zws M1) B.pre
  have hown : s.vm.findClass (zy M1).cls = some m.cls := findClass_of_methodNamed B.named
  have hlocks := B.notSynchronized
  have hx := B.exec
  have hb := B.bytes
  have hr := B.returns
  have X : zX p s m ((as.map (zsh base fa)).toArray) meth c base fa D aC ro h.length M1 := ⟨hx, hb, hml, hown, fun w hw => hts0 w (List.mem_cons_of_mem _ hw), hE, fun hi => by
    have h9 : meth.name = (zy M1).name := (name_of_methodNamed B.named B.method).1
    rw [h9]
    simpa [zini] using hi, Nat.lt_of_lt_of_le hM (by decide), hsz⟩
  have hl := lv_entry (as.map (zsh base fa)) (n := zN M1) (by rw [zlg, zcats]; exact ha)
  rw [lg_entry_eq]
  rw [zargs_m] at hl
  generalize (lg_sl (as.map (zsh base fa)) ++ List.replicate (zN M1 - (lg_sl (as.map (zsh base fa))).length) Slot.unset).toArray = A at hl ⊢
  refine IH (Q := MQ below (zQc base fa D aC r h1 (h.length + (zrm M1).cells)) _ s (zrm M1).cells (zrm M1).slots (fun q => base ≤ q)) X hH va_S.rf hl rfl ?_
  intro i pc1 st1 uc1 us1 H1 locs1 A1 hz hend hH1 hS1 hL1
  obtain ⟨⟨rfl, rfl⟩, hend⟩ := hend
  obtain ⟨nl, hd, hnl⟩ := zf_spec hz
  rcases hend with ⟨rfl, v, rfl, rfl, hrt⟩ | ⟨rfl, v, rfl, rfl, hrt⟩ | ⟨rfl, rfl, rfl, hrt⟩
  · have hnl := hnl.resolve_left (fun q => by cases q)
    subst hnl
    rcases hrt with hrt | ⟨hrt, hv⟩
    · exact W.iret (v := v) hx hb (by rw [hr]; exact hrt) (fun t ht hW => ⟨⟨rfl, by rw [ht]; exact hH1, hL1⟩, hS1.F ht⟩) hS1.2.2 hd
    · refine W.zret (v := v) (ty := .boolean) hx hb (by rw [hr]; exact hrt) ?_ (fun t ht hW => ⟨⟨rfl, by rw [ht]; exact hH1, hL1⟩, hS1.F ht⟩) hS1.2.2 hd
      rcases hv with rfl | rfl
      · decide
      · decide
  · have hnl := hnl.resolve_left (fun q => by cases q)
    subst hnl
    exact W.lret (v := v) hx hb (by rw [hr]; exact hrt) (fun t ht hW => ⟨⟨rfl, by rw [ht]; exact hH1, hL1⟩, hS1.F ht⟩) hS1.2.2 hd
  · have hnl := hnl.resolve_left (fun q => by cases q)
    subst hnl
    exact W.vret hx hb (by rw [hr]; exact hrt) (fun t ht hW => ⟨⟨rfl, by rw [ht]; exact hH1, hL1⟩, hS1.F ht⟩) hS1.2.2 hd
set_option maxHeartbeats 2000000 in
/-- a run is the machine's -/
theorem zsnd : ∀ (n M pc : Nat) (ls : List (Nat × Value)) (st : List Value) (h : List va_E) (uc us : Nat) (r : Option Value) (h1 : List va_E), zr ro n M pc ls st h uc us = some (r, h1) → zSays l base fa D aC ro M pc ls st h uc us r h1 := by
  intro n
  induction n with
  | zero => intro M pc ls st h uc us r h1 hr; simp [zr] at hr
  | succ n ih =>
    intro M pc ls st h uc us r h1 hr p e s m args below meth c Q L0 H locs A X hH hS hl hL hend
    unfold zr at hr
    cases hz : zf M pc with
    | none => rw [hz] at hr; simp at hr
    | some i =>
      rw [hz] at hr
      simp only at hr
      cases ho : zo ro M pc ls st h uc us i with
      | none => rw [ho] at hr; simp at hr
      | some k =>
        rw [ho] at hr
        have kk : zKK p l e s m args below meth c base fa D aC Q L0 M k := by
          cases k with
          | inr q => trivial
          | inl q =>
            intro H1 locs1 A1 hH1 hS1 hl1 hL1
            exact ih M q.1 q.2.1 q.2.2.1 q.2.2.2.1 q.2.2.2.2.1 q.2.2.2.2.2 r h1 hr X hH1 hS1 hl1 hL1 hend
        have call : ∀ q, k = .inr (.inl q) → zCall p l e s m args below meth c base fa D aC ro M pc st h uc us H locs A q.1 q.2.1 q.2.2 → W p l e (zrm M) s m args below meth c H locs uc us Q (F0 m pc A (st.map (zsh base fa))) := by
          intro q hk hc
          subst hk
          simp only at hr
          split at hr
          · next ha =>
            split at hr
            · cases hr
            · next w hw =>
              obtain ⟨c1, c2, c3, c4, c5⟩ := hc
              refine zWsz X.2.2.2.2.2.2.2.2 hL hH hS (fun hsz => ?_)
              have hMet := zMet (as := q.2.1) c1 c2 ha (ih q.1 0 (zargs 0 q.2.1) [] h 0 0 w.1 w.2 hw)
              refine zcallW (c5 w.1 w.2 _ hMet hsz) hS (fun H1 locs1 hH1 hl1 hS1 => ?_)
              have h9 := ih M (pc + 3) ls (w.1.toList ++ q.2.2) w.2 (uc + (zrm q.1).cells) (us + (zrm q.1).slots) r h1 hr X hH1 hS1 hl (by rw [hl1, hL]; omega) hend
              have e9 : (w.1.toList ++ q.2.2).map (zsh base fa) = (w.1.map (zsh base fa)).toList ++ q.2.2.map (zsh base fa) := by
                cases w.1 <;> rfl
              rw [e9] at h9
              exact h9
          · cases hr
        cases i with
        | iconst _ => exact zs_iconst X hz ho hH hS hl hL kk
        | bipush _ => exact zs_bipush X hz ho hH hS hl hL kk
        | sipush _ => exact zs_sipush X hz ho hH hS hl hL kk
        | lconst _ => exact zs_lconst X hz ho hH hS hl hL kk
        | iload_n _ => exact zs_iload_n X hz ho hH hS hl hL kk
        | iload _ => exact zs_iload X hz ho hH hS hl hL kk
        | lload_n _ => exact zs_lload_n X hz ho hH hS hl hL kk
        | lload _ => exact zs_lload X hz ho hH hS hl hL kk
        | aload_n _ => exact zs_aload_n X hz ho hH hS hl hL kk
        | aload _ => exact zs_aload X hz ho hH hS hl hL kk
        | istore_n _ => exact zs_istore_n X hz ho hH hS hl hL kk
        | istore _ => exact zs_istore X hz ho hH hS hl hL kk
        | lstore_n _ => exact zs_lstore_n X hz ho hH hS hl hL kk
        | lstore _ => exact zs_lstore X hz ho hH hS hl hL kk
        | astore_n _ => exact zs_astore_n X hz ho hH hS hl hL kk
        | astore _ => exact zs_astore X hz ho hH hS hl hL kk
        | iinc _ _ => exact zs_iinc X hz ho hH hS hl hL kk
        | iadd => exact zs_iadd X hz ho hH hS hl hL kk
        | isub => exact zs_isub X hz ho hH hS hl hL kk
        | imul => exact zs_imul X hz ho hH hS hl hL kk
        | iand => exact zs_iand X hz ho hH hS hl hL kk
        | ior => exact zs_ior X hz ho hH hS hl hL kk
        | ixor => exact zs_ixor X hz ho hH hS hl hL kk
        | idiv => exact zs_idiv X hz ho hH hS hl hL kk
        | irem => exact zs_irem X hz ho hH hS hl hL kk
        | ineg => exact zs_ineg X hz ho hH hS hl hL kk
        | ishl => exact zs_ishl X hz ho hH hS hl hL kk
        | ishr => exact zs_ishr X hz ho hH hS hl hL kk
        | ladd => exact zs_ladd X hz ho hH hS hl hL kk
        | lsub => exact zs_lsub X hz ho hH hS hl hL kk
        | lmul => exact zs_lmul X hz ho hH hS hl hL kk
        | lor => exact zs_lor X hz ho hH hS hl hL kk
        | ldiv => exact zs_ldiv X hz ho hH hS hl hL kk
        | lrem => exact zs_lrem X hz ho hH hS hl hL kk
        | lneg => exact zs_lneg X hz ho hH hS hl hL kk
        | lshl => exact zs_lshl X hz ho hH hS hl hL kk
        | lcmp => exact zs_lcmp X hz ho hH hS hl hL kk
        | i2l => exact zs_i2l X hz ho hH hS hl hL kk
        | l2i => exact zs_l2i X hz ho hH hS hl hL kk
        | dup => exact zs_dup X hz ho hH hS hl hL kk
        | pop => exact zs_pop X hz ho hH hS hl hL kk
        | pop2 => exact zs_pop2 X hz ho hH hS hl hL kk
        | dup2 => exact zs_dup2 X hz ho hH hS hl hL kk
        | ifnonnull _ => exact zs_ifnonnull X hz ho hH hS hl hL kk
        | goto _ => exact zs_goto X hz ho hH hS hl hL kk
        | tableswitch _ _ _ _ => exact zs_tableswitch X hz ho hH hS hl hL kk
        | lookupswitch _ _ => exact zs_lookupswitch X hz ho hH hS hl hL kk
        | ldc _ => exact zs_ldc X hz ho hH hS hl hL kk
        | ldc2_w _ => exact zs_ldc2_w X hz ho hH hS hl hL kk
        | getfield _ => exact zs_getfield X hz ho hH hS hl hL kk
        | putfield _ => exact zs_putfield X hz ho hH hS hl hL kk
        | new _ => exact zs_new X hz ho hH hS hl hL kk
        | newarray _ => exact zs_newarray X hz ho hH hS hl hL kk
        | anewarray _ => exact zs_anewarray X hz ho hH hS hl hL kk
        | iaload => exact zs_iaload X hz ho hH hS hl hL kk
        | baload => exact zs_baload X hz ho hH hS hl hL kk
        | laload => exact zs_laload X hz ho hH hS hl hL kk
        | aaload => exact zs_aaload X hz ho hH hS hl hL kk
        | iastore => exact zs_iastore X hz ho hH hS hl hL kk
        | bastore => exact zs_bastore X hz ho hH hS hl hL kk
        | lastore => exact zs_lastore X hz ho hH hS hl hL kk
        | aastore => exact zs_aastore X hz ho hH hS hl hL kk
        | arraylength => exact zs_arraylength X hz ho hH hS hl hL kk
        | getstatic _ => exact zs_getstatic X hz ho hH hS hl hL kk
        | ifCond cd off =>
          cases cd with
          | eq => exact zs_ifCond_eq X hz ho hH hS hl hL kk
          | ne => exact zs_ifCond_ne X hz ho hH hS hl hL kk
          | lt => exact zs_ifCond_lt X hz ho hH hS hl hL kk
          | ge => exact zs_ifCond_ge X hz ho hH hS hl hL kk
          | gt => exact zs_ifCond_gt X hz ho hH hS hl hL kk
          | le => exact zs_ifCond_le X hz ho hH hS hl hL kk
        | if_icmp cd off =>
          cases cd with
          | eq => exact zs_if_icmp_eq X hz ho hH hS hl hL kk
          | ne => exact zs_if_icmp_ne X hz ho hH hS hl hL kk
          | lt => exact zs_if_icmp_lt X hz ho hH hS hl hL kk
          | ge => exact zs_if_icmp_ge X hz ho hH hS hl hL kk
          | gt => exact zs_if_icmp_gt X hz ho hH hS hl hL kk
          | le => exact zs_if_icmp_le X hz ho hH hS hl hL kk
        | invokevirtual n0 =>
          obtain ⟨q, rfl⟩ := zv_call ho
          exact call q rfl (zc_virtual X hz ho hH hS hl)
        | invokestatic n0 =>
          rcases zv_static ho with ⟨q, rfl⟩ | ⟨q, rfl⟩
          · exact zs_invokestatic X hz ho hH hS hl hL kk
          · exact call q rfl (zc_static X hz ho hH hS hl)
        | invokespecial n0 =>
          rcases zv_special ho with ⟨q, rfl⟩ | ⟨q, rfl⟩
          · exact zs_invokespecial X hz ho hH hS hl hL kk
          · exact call q rfl (zc_special X hz ho hH hS hl)
        | ireturn =>
          obtain ⟨r2, rfl, he⟩ := ze_ireturn ho
          simp only [Option.some.injEq, Prod.mk.injEq] at hr
          obtain ⟨rfl, rfl⟩ := hr
          exact hend _ pc st uc us H locs A hz he hH hS hL
        | lreturn =>
          obtain ⟨r2, rfl, he⟩ := ze_lreturn ho
          simp only [Option.some.injEq, Prod.mk.injEq] at hr
          obtain ⟨rfl, rfl⟩ := hr
          exact hend _ pc st uc us H locs A hz he hH hS hL
        | return_ =>
          obtain ⟨r2, rfl, he⟩ := ze_return ho
          simp only [Option.some.injEq, Prod.mk.injEq] at hr
          obtain ⟨rfl, rfl⟩ := hr
          exact hend _ pc st uc us H locs A hz he hH hS hL
        | _ => simp [zo] at ho
end ZMAIN
