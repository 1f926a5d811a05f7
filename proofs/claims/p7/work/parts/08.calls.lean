/-! ===== calls ===== -/
theorem zMet_ofW {l : Launch} {y : MethodName} {ws ws' : List Cond} {rm : Room} {Pc : Array Value → State → Prop} {Qc : Array Value → State → Outcome → State → Prop} {mc ms : Nat} {free : Addr → Prop} {cc : ByteArray} {maxL : Nat} {ret : Option FieldType}
    (hy : plainFor y = true) (hw : ws = Cond.code y cc maxL ret :: ws')
    (body : ∀ p e s m args below meth c s₁, BodyLoose p l y (headSpec ws rm) cc maxL ret e s m args below meth c s₁ → c.maxLocals = maxL → Pc args s →
      W p l e (headSpec ws rm).room s m args below meth c s.heap [] 0 0 (MQ below Qc args s mc ms free) (entryFrame m args maxL)) : Met l y ws rm Pc Qc mc ms free := by
  refine MetFree.of_bodySF (code := cc) (maxLocals := maxL) (ret := ret) hy ?_ ?_
  · intro args s m h hn
    obtain ⟨meth, c, h1, h2, h3, h4, h5, h6, -, -⟩ := Cond.code_spec hn (atoms_spec (ws := ws) h _ (by rw [hw]; exact List.mem_cons_self))
    exact ⟨meth, c, h1, h2, h3, h4, h5, h6⟩
  · intro p e s m args below meth c s₁ B hml hP _
    obtain ⟨t, a1, o, b1, b2, b3⟩ := body p e s m args below meth c s₁ B hml hP s₁ (by rw [B.state]; rfl) (Stand.of_body B)
    exact ⟨t, o, a1, b1, b2, b3⟩
def zQc (base : Nat) (fa : UInt32 → Nat) (D : va_G) (aC : Nat → ClassId) (r : Option Value) (h1 : List va_E) (n : Nat) : Array Value → State → Outcome → State → Prop := fun _ st oc t => (oc = .returned (r.map (zsh base fa)) ∧ zH base fa D aC h1 t.heap ∧ h1.length = n) ∧ va_F (fun q => base ≤ q) st t
def zPc (base : Nat) (fa : UInt32 → Nat) (D : va_G) (aC : Nat → ClassId) (ro : UInt32 → Nat × (Nat → Int32)) (as : List Value) (h : List va_E) : Array Value → State → Prop := va_Pc (as.map (zsh base fa)) (fun U => zEnv base fa D aC ro U ∧ zH base fa D aC h U.heap ∧ U.heap.size = base + h.length)
theorem zPc_blind {base : Nat} {fa : UInt32 → Nat} {D : va_G} {aC : Nat → ClassId} {ro : UInt32 → Nat × (Nat → Int32)} {as : List Value} {h : List va_E} : FrameBlind (zPc base fa D aC ro as h) := fun _ _ _ _ q => ⟨q.1, zEnv.same q.2.1 rfl rfl, q.2.2.1, q.2.2.2⟩
theorem zcats {base : Nat} {fa : UInt32 → Nat} (st : List Value) : ((st.map (zsh base fa)).map fun v => v.category).sum = (st.map fun v => v.category).sum := by
  rw [List.map_map]
  congr 1
  apply List.map_congr_left
  intro v _
  exact zsh_cat base fa v
theorem zcall_ok {M idx ci : Nat} {e : zCe} (h : zcall M idx ci = some e) : (e.1 = M ∧ e.2.1 = idx ∧ e.2.2.1 = ci) ∧ e ∈ zcp ∧ zcr e = true ∧ ∀ w ∈ zwd e, w ∈ zwt := by
  unfold zcall at h
  have h1 := List.find?_some h
  simp only [Bool.and_eq_true, beq_iff_eq] at h1
  have hm := List.mem_of_find?_eq_some h
  have h2 := zcp_ok e hm
  unfold zcok at h2
  simp only [Bool.and_eq_true, decide_eq_true_eq] at h2
  obtain ⟨⟨h3, h4⟩, h5⟩ := h2
  refine ⟨h1, hm, h3, fun w hw => ?_⟩
  obtain ⟨k, hk⟩ := List.getElem?_of_mem hw
  have h6 : (e.2.2.2.2.2.2.2.map (fun i => lw_tbl[i]?))[k]? = some (some w) := by rw [h4, List.getElem?_map, hk]; rfl
  rw [List.getElem?_map] at h6
  cases hi : e.2.2.2.2.2.2.2[k]? with
  | none => rw [hi] at h6; cases h6
  | some i => rw [hi] at h6; exact zwt_mem (Option.some.inj h6) (List.all_eq_true.mp h5 w hw)
theorem zws_in {M1 : Nat} (h : M1 < 189) : ∀ w ∈ zws M1, w ∈ zwt := by
  intro w hw
  rcases List.mem_cons.mp hw with rfl | hw
  · exact List.mem_filter.mpr ⟨zcl189 M1 h, rfl⟩
  · exact hw
theorem zgoodIn {ws : List Cond} (h : ∀ w ∈ ws, w ∈ zwt) : GoodIn zwt ws := fun w hw => ⟨h w hw, good_of_word (zwt_good (h w hw))⟩
section ZCL
variable {p : Program} {l : Launch} {e : Env} {s : State} {m : MethodId} {args : Array Value} {below : List Frame} {meth : Method} {c : Code} {base : Nat} {fa : UInt32 → Nat} {D : va_G} {aC : Nat → ClassId} {ro : UInt32 → Nat × (Nat → Int32)} {Q : State → Prop} {L0 M pc : Nat} {ls : List (Nat × Value)} {st : List Value} {h : List va_E} {uc us : Nat} {H : Heap} {locs : List Loc} {A : Array Slot}
theorem zcallW {mc ms n : Nat} {R : Room} {st0 rest : List Value} {r : Option Value} {h1 : List va_E} {a : Array Value} (hr : va_Run p l e R s m args below meth c H locs uc us mc ms (F0 m pc A st0) rest (zQc base fa D aC r h1 n a) (fun q => base ≤ q)) (hS : va_S (fun q => base ≤ q) s.heap H locs)
    (kk : ∀ (H1 : Heap) (locs1 : List Loc), zH base fa D aC h1 H1 → h1.length = n → va_S (fun q => base ≤ q) s.heap H1 locs1 → W p l e R s m args below meth c H1 locs1 (uc + mc) (us + ms) Q (F0 m (pc + 3) A ((r.map (zsh base fa)).toList ++ rest))) : W p l e R s m args below meth c H locs uc us Q (F0 m pc A st0) := by
  intro T hT X
  obtain ⟨v, st₀, t, T', L, h0, X', hL, e1, e2, ⟨⟨hv, hh, hn⟩, hz, hk⟩, st⟩ := hr T hT X
  cases hv
  rw [h0] at hz hk
  obtain ⟨t2, a1, b1⟩ := kk T'.heap (locs ++ L) (by rw [e1]; exact hh) hn ⟨Nat.le_trans hS.1 (by rw [e1]; exact hz), fun q h1 h2 => by rw [e1, hk q (Nat.lt_of_lt_of_le h1 hS.1) h2]; exact hS.2.1 q h1 h2, fun q hq => by
      rcases List.mem_append.mp hq with h | h
      · exact hS.2.2 q h
      · exact hL q h⟩ T' rfl X'
  exact ⟨t2, st t2 a1, b1⟩
/-- what is known of a call -/
def zCall (p : Program) (l : Launch) (e : Env) (s : State) (m : MethodId) (args : Array Value) (below : List Frame) (meth : Method) (c : Code) (base : Nat) (fa : UInt32 → Nat) (D : va_G) (aC : Nat → ClassId) (ro : UInt32 → Nat × (Nat → Int32)) (M pc : Nat) (st : List Value) (h : List va_E) (uc us : Nat) (H : Heap) (locs : List Loc) (A : Array Slot) (M1 : Nat) (as rest : List Value) : Prop :=
  M1 < 189 ∧ plainFor (zy M1) = true ∧ uc + (zrm M1).cells ≤ (zrm M).cells ∧ us + (zrm M1).slots ≤ (zrm M).slots ∧ ∀ (r : Option Value) (h1 : List va_E) (n : Nat), Met l (zy M1) (zws M1) (zrm M1) (zPc base fa D aC ro as h) (zQc base fa D aC r h1 n) (zrm M1).cells (zrm M1).slots (fun q => base ≤ q) → H.size = base + h.length →
    va_Run p l e (zrm M) s m args below meth c H locs uc us (zrm M1).cells (zrm M1).slots (F0 m pc A (st.map (zsh base fa))) (rest.map (zsh base fa)) (zQc base fa D aC r h1 n (as.map (zsh base fa)).toArray) (fun q => base ≤ q)
theorem ztake {n : Nat} {st rest : List Value} {v : Value} (h : st.drop n = v :: rest) : st.map (zsh base fa) = (((st.take n).reverse).map (zsh base fa)).reverse ++ zsh base fa v :: rest.map (zsh base fa) ∧ (((st.take n).reverse).map (zsh base fa)).length = n := by
  have hl : n < st.length := by
    rcases Nat.lt_or_ge n st.length with q | q
    · exact q
    · rw [List.drop_eq_nil_of_le q] at h; cases h
  refine ⟨?_, ?_⟩
  · rw [List.map_reverse, List.reverse_reverse, ← List.map_cons, ← List.map_append, ← h, List.take_append_drop]
  · rw [List.length_map, List.length_reverse, List.length_take]; omega
set_option maxHeartbeats 1000000 in
theorem zc_virtual {n0 : Nat} {M1 : Nat} {as rest : List Value} (X : zX p s m args meth c base fa D aC ro L0 M) (hz : zf M pc = some (.invokevirtual n0)) (ho : zo ro M pc ls st h uc us (.invokevirtual n0) = some (.inr (.inl (M1, as, rest)))) (hH : zH base fa D aC h H) (hS : va_S (fun q => base ≤ q) s.heap H locs) (hl : lv_has A (zN M) (zlm base fa ls)) : zCall p l e s m args below meth c base fa D aC ro M pc st h uc us H locs A M1 as rest := by
  obtain ⟨hx, hb, hml, hown, hts, hE, hin, hM, hs0⟩ := X
  obtain ⟨nl, hd, hnl⟩ := zf_spec hz
  have hnl := hnl.resolve_left (fun q => by cases q)
  subst hnl
  simp only [zo] at ho
  split at ho
  · next n hn =>
    split at ho
    · next k rest' hdrop =>
      split at ho
      · next ci fs hk =>
        split at ho
        · next M' idx' ci' kd M1' n1 Mx ps hc =>
          split at ho
          · next hcond =>
            obtain ⟨hkd, rfl, hcat, hcc, hcs⟩ := hcond
            simp only [Option.some.injEq, Sum.inr.injEq, Sum.inl.injEq, Prod.mk.injEq] at ho
            obtain ⟨rfl, rfl, rfl⟩ := ho
            obtain ⟨⟨h1, h2, h3⟩, hmem, hcr, hw⟩ := zcall_ok hc
            simp only at h1 h2 h3
            subst h1; subst h2; subst h3
            have hkd2 : kd = 0 ∨ kd = 1 := by omega
            obtain ⟨q, hq⟩ : ∃ q, vwCl[ci']? = some q := by
              obtain ⟨r, hr, -⟩ := hH k _ (zwl_at hk)
              exact ⟨r, hr⟩
            have hRq : q.1 = zR ci' := by
              have hl := zcl_lt hq
              match ci', hl, hq with
              | 0, _, hq => cases hq; rfl
              | 1, _, hq => cases hq; rfl
              | 2, _, hq => cases hq; rfl
              | 3, _, hq => cases hq; rfl
              | 4, _, hq => cases hq; rfl
              | 5, _, hq => cases hq; rfl
              | 6, _, hq => cases hq; rfl
              | 7, _, hq => cases hq; rfl
              | 8, _, hq => cases hq; rfl
              | 9, _, hq => cases hq; rfl
              | 10, _, hq => cases hq; rfl
              | 11, _, hq => cases hq; rfl
              | 12, _, hq => cases hq; rfl
            have hrecv := va_recv hE.1 hH hq (zwl_at hk)
            obtain ⟨hst, hal⟩ := ztake (base := base) (fa := fa) hdrop
            unfold zcr at hcr
            rcases hkd2 with rfl | rfl
            · simp only [reduceCtorEq, Nat.reduceEqDiff, if_false, if_true, Bool.and_eq_true, decide_eq_true_eq] at hcr
              obtain ⟨⟨⟨⟨⟨⟨⟨c1, c2⟩, c3⟩, c4⟩, c5⟩, c6⟩, c7⟩, c8⟩ := hcr
              refine ⟨c6, c7, hcc, hcs, fun r h1 nn hMet hsz => ?_⟩
              rw [hst]
              refine va_runV (C := q.1) (As := ((st.take n1).reverse).map (zsh base fa)) ⟨hx, hb, hml, hown, hts⟩ hMet (cwV n1 hts (zgoodIn ?_) rfl rfl rfl ⟨by rw [hRq]; exact c8, c3, c4, c5⟩ ⟨c1, c2⟩) ⟨zPc_blind, hrecv, fun U hU hW => ⟨rfl, hE.at hS hU hW, by rw [hU]; exact hH, by rw [hU]; exact hsz⟩⟩ rfl hal hl.1 rfl (lv_room (by rw [zcats]; exact hcat)) hd ⟨hcc, hcs⟩
              intro w hw1
              rcases List.mem_append.mp hw1 with h9 | h9
              · rw [hRq] at h9; exact hw w h9
              · exact zws_in c6 w h9
            · simp only [reduceCtorEq, Nat.reduceEqDiff, if_false, if_true, Bool.and_eq_true, decide_eq_true_eq] at hcr
              obtain ⟨⟨⟨⟨⟨⟨⟨c1, c2⟩, c3⟩, c4⟩, c5⟩, c6⟩, c7⟩, ⟨⟨⟨⟨d1, d2⟩, d3⟩, d4⟩, d5⟩⟩ := hcr
              refine ⟨c6, c7, hcc, hcs, fun r h1 nn hMet hsz => ?_⟩
              rw [hst]
              refine va_runU (C := q.1) (owner := (zy Mx).cls) (x := zy Mx) (As := ((st.take n1).reverse).map (zsh base fa)) ⟨hx, hb, hml, hown, hts⟩ hMet (va_cwO n1 hts (zgoodIn ?_) rfl rfl rfl (b0 := zc Mx) (m0 := zN Mx) (r0 := zret Mx) (zws_in d3 _ List.mem_cons_self) ⟨d1, d2, by rw [d5]; exact c5⟩ ⟨c1, c2⟩) ⟨zPc_blind, hrecv, fun U hU hW => ⟨rfl, hE.at hS hU hW, by rw [hU]; exact hH, by rw [hU]; exact hsz⟩⟩ rfl hal hl.1 rfl (lv_room (by rw [zcats]; exact hcat)) hd ⟨hcc, hcs⟩
              intro w hw1
              rcases List.mem_append.mp hw1 with h9 | h9
              · rw [hRq] at h9; exact hw w h9
              · exact zws_in c6 w h9
          · cases ho
        · cases ho
      · cases ho
    · cases ho
  · cases ho
set_option maxHeartbeats 1000000 in
theorem zc_static {n0 : Nat} {M1 : Nat} {as rest : List Value} (X : zX p s m args meth c base fa D aC ro L0 M) (hz : zf M pc = some (.invokestatic n0)) (ho : zo ro M pc ls st h uc us (.invokestatic n0) = some (.inr (.inl (M1, as, rest)))) (hH : zH base fa D aC h H) (hS : va_S (fun q => base ≤ q) s.heap H locs) (hl : lv_has A (zN M) (zlm base fa ls)) : zCall p l e s m args below meth c base fa D aC ro M pc st h uc us H locs A M1 as rest := by
  obtain ⟨hx, hb, hml, hown, hts, hE, hin, hM, hs0⟩ := X
  obtain ⟨nl, hd, hnl⟩ := zf_spec hz
  have hnl := hnl.resolve_left (fun q => by cases q)
  subst hnl
  simp only [zo] at ho
  split at ho
  · next M' idx' ci' kd M1' n Mx ps hc =>
    split at ho
    · next hkd =>
      split at ho
      · next hcond =>
        obtain ⟨hlen, hcat, hcc, hcs⟩ := hcond
        simp only [Option.some.injEq, Sum.inr.injEq, Sum.inl.injEq, Prod.mk.injEq] at ho
        obtain ⟨rfl, rfl, rfl⟩ := ho
        obtain ⟨⟨h1, h2, h3⟩, hmem, hcr, hw⟩ := zcall_ok hc
        simp only at h1 h2 h3
        subst h1; subst h2
        have hst : st.map (zsh base fa) = (((st.take n).reverse).map (zsh base fa)).reverse ++ (st.drop n).map (zsh base fa) := by
          rw [List.map_reverse, List.reverse_reverse, ← List.map_append, List.take_append_drop]
        have hal : (((st.take n).reverse).map (zsh base fa)).length = n := by rw [List.length_map, List.length_reverse, List.length_take]; omega
        unfold zcr at hcr
        rcases hkd with rfl | rfl
        · simp only [reduceCtorEq, Nat.reduceEqDiff, if_false, if_true, Bool.and_eq_true, decide_eq_true_eq, and_true] at hcr
          obtain ⟨⟨⟨⟨⟨⟨c1, c2⟩, c3⟩, c4⟩, c5⟩, c6⟩, c7⟩ := hcr
          refine ⟨c6, c7, hcc, hcs, fun r h1 nn hMet hsz => ?_⟩
          rw [hst]
          refine va_runS (As := ((st.take n).reverse).map (zsh base fa)) ⟨hx, hb, hml, hown, hts⟩ hMet (va_cwS n hts (zgoodIn ?_) rfl rfl rfl ⟨c3, c4, c5⟩ ⟨c1, c2⟩) ⟨zPc_blind, fun U hU hW => ⟨rfl, hE.at hS hU hW, by rw [hU]; exact hH, by rw [hU]; exact hsz⟩⟩ rfl hal hl.1 rfl (lv_room (by rw [zcats]; exact hcat)) hd ⟨hcc, hcs⟩
          intro w hw1
          rcases List.mem_append.mp hw1 with h9 | h9
          · exact hw w h9
          · exact zws_in c6 w h9
        · simp only [reduceCtorEq, Nat.reduceEqDiff, if_false, if_true, Bool.and_eq_true, decide_eq_true_eq, and_true] at hcr
          obtain ⟨⟨⟨⟨⟨⟨c1, c2⟩, c3⟩, c4⟩, c5⟩, c6⟩, c7⟩ := hcr
          refine ⟨c6, c7, hcc, hcs, fun r h1 nn hMet hsz => ?_⟩
          rw [hst]
          refine va_runSN (host := RX11) (As := ((st.take n).reverse).map (zsh base fa)) ⟨hx, hb, hml, hown, hts⟩ hMet ⟨va_cnB n hts (zgoodIn (zws_in c6)) rfl rfl rfl (hE.2.1 _ (znest_in _ hmem (Or.inl rfl))) (hts _ (hw (.initialized (zy M1').cls) (by simp [zwd]))) ⟨c3, c4, c5⟩ ⟨c1, c2⟩, hts _ (hw (.static (zy M1')) (by simp [zwd])), trivial⟩ ⟨zPc_blind, fun U hU hW => ⟨rfl, hE.at hS hU hW, by rw [hU]; exact hH, by rw [hU]; exact hsz⟩⟩ rfl hal hl.1 rfl (lv_room (by rw [zcats]; exact hcat)) hd ⟨hcc, hcs⟩
      · cases ho
    · split at ho
      · split at ho
        · split at ho
          · split at ho
            · cases ho
            · cases ho
          · split at ho
            · cases ho
            · cases ho
          · cases ho
        · cases ho
      · cases ho
  · cases ho
theorem zrunSI {M1 n index : Nat} {Pc : Array Value → State → Prop} {Qc : Array Value → State → Outcome → State → Prop} {cc : ByteArray} {nL : Nat} {R : Room} {free : Addr → Prop} {own C xc : String} {cC : ClassId} {b : Addr} {As rest : List Value} {g : JFrame}
    (hat : ClassAt s C cC) (S : CallFix p m c cc nL s args zwt own) (hM : Met l (zy M1) (zws M1) (zrm M1) Pc Qc (zrm M1).cells (zrm M1).slots free) (hfr : (zrm M1).frames + 1 ≤ R.frames) (hlo : 8 + (zN M1 + 11) + (zrm M1).locals ≤ R.locals) (hG : GoodIn zwt (zws M1))
    (hl1 : (Cond.methodLink own index ⟨xc, (zy M1).name, (zy M1).desc⟩).before args s = true) (hl2 : (Cond.sameMethod xc (zy M1).cls (zy M1).name (zy M1).desc).before args s = true) (hl3 : (Cond.superclass own xc).before args s = true) (hl4 : (Cond.superclass xc (zy M1).cls).before args s = true) (hl5 : (Cond.instanceMethod (zy M1)).before args s = true) (hini : (Cond.initialized (zy M1).cls).before args s = true) (hno : (zy M1).name ≠ "<init>") (hlen : (parseMethodDescriptor (zy M1).desc).map (fun d => d.parameters.length) = some n) (hp : PreV s H C b Pc As)
    (hg : g.method = m) (hn : As.length = n) (hsize : g.locals.size = nL) (hstack : g.stack = As.reverse ++ .ref b :: rest) (hW : 2 * g.monitorRoom + (rest.map fun v => v.category).sum ≤ 8) (hdg : decode cc g.pc = .ok (.invokespecial index, 3)) (hf : uc + (zrm M1).cells ≤ R.cells ∧ us + (zrm M1).slots ≤ R.slots) :
    va_Run p l e R s m args below meth c H locs uc us (zrm M1).cells (zrm M1).slots g rest (Qc (Value.ref b :: As).toArray) free := by
  obtain ⟨hx, hb, hml, ho, hts⟩ := S
  obtain ⟨hbl, ⟨cellB, hcB, hoB, hclB⟩, hPc⟩ := hp
  obtain ⟨hfc, kB, hkB, -⟩ := hat
  cases hfc.symm.trans hclB
  have hcm : Cond.code (zy M1) (zc M1) (zN M1) (zret M1) ∈ zws M1 := List.mem_cons_self
  have hcode := hts _ (hG _ hcm).1
  have hK : Back l R p e below s args (zy M1) 3 8 (PreOf R (zrm M1).cells (zrm M1).slots Pc) (PostOf Qc (zrm M1).cells (zrm M1).slots free) := back_of (bytes := zc M1) (maxL := zN M1) (ret := zret M1) hM hbl rfl rfl hfr hlo (pay_in hts hG) hcm (fun a' U hW => word_at hW (Or.inl (by first | rfl | simp [Cond.onTables, Cond.keeps, Cond.steady])) hini)
  obtain ⟨mk, methM, hnamed, hmethM, hstM, habM⟩ := Cond.instanceMethod_spec hl5
  obtain ⟨methM', cM, hmethM', -, -, -, -, -, -, hsigM⟩ := Cond.code_spec hnamed hcode
  cases hmethM.symm.trans hmethM'
  obtain ⟨ps, dk, kp, hps, hdk, hkp, hsuper, -, -, hnid⟩ := Cond.superclass_spec ho hl3
  obtain ⟨pq, dq, kq, hpq, hdq, hkq, hsuper2, -⟩ := Cond.superclass_spec hps hl4
  cases hkp.symm.trans hdq
  have hpm : pq = mk.cls := Option.some.inj (hpq.symm.trans (findClass_of_methodNamed hnamed))
  have hsz : ps < s.vm.classes.size := (Array.getElem?_eq_some_iff.mp hkp).1
  have hsub : s.vm.isSubclass ps mk.cls = true := by
    rw [← hpm]
    unfold Vm.isSubclass
    obtain ⟨z, hz⟩ : ∃ z, s.vm.classes.size = z + 1 := ⟨_, (Nat.succ_pred_eq_of_pos (Nat.lt_of_le_of_lt (Nat.zero_le _) hsz)).symm⟩
    simp [Vm.isSubclassAux, hz, hkp, hsuper2]
  intro T hT X
  obtain ⟨vm₁, X₁, hstep₁⟩ := X.invokespecialUp hx ho hl1 hl2 hnamed hmethM hstM habM hno hdk hnid hps hsuper hsub (a := b) (cell := cellB) (by rw [hT]; exact hcB)
    (fun z h => by rw [h] at hoB; cases hoB) hkB (g := g) hg (argsL := As) (rest := rest) (by rw [hsigM] at hlen; rw [hn]; exact (Option.some.inj hlen).symm) hstack (by rw [hb]; exact hdg)
  obtain ⟨v, ⟨U', l2, c2, s2⟩, X', ⟨g', mk', t, L, e1, e2, hq, h1, hL, h2, h3⟩, st⟩ := hK m meth c ⟨T.setVm vm₁, locs, uc, us⟩ { g with stack := rest } (.invokespecial index) mk (Value.ref b :: As).toArray X₁ hg (hsize.trans hml.symm) (by rw [hb]; exact hdg) hW (X₁.named hnamed) ⟨hf.1, hf.2, hPc (T.setVm vm₁) hT X₁.warmed⟩
  dsimp only [Pt.U, Pt.locs, Pt.cells, Pt.slots] at X' e1 e2 h1 h2 h3 st
  subst h1; subst h2; subst h3
  exact ⟨v, (T.setVm vm₁).calling g' mk' (Value.ref b :: As).toArray, t, U', L, hT, X', hL, e1, e2, hq, fun target h => hstep₁ _ (by rw [doInvoke_state]; exact st.trans h)⟩
set_option maxHeartbeats 1000000 in
theorem zc_special {n0 : Nat} {M1 : Nat} {as rest : List Value} (X : zX p s m args meth c base fa D aC ro L0 M) (hz : zf M pc = some (.invokespecial n0)) (ho : zo ro M pc ls st h uc us (.invokespecial n0) = some (.inr (.inl (M1, as, rest)))) (hH : zH base fa D aC h H) (hS : va_S (fun q => base ≤ q) s.heap H locs) (hl : lv_has A (zN M) (zlm base fa ls)) : zCall p l e s m args below meth c base fa D aC ro M pc st h uc us H locs A M1 as rest := by
  obtain ⟨hx, hb, hml, hown, hts, hE, hin, hM, hs0⟩ := X
  obtain ⟨nl, hd, hnl⟩ := zf_spec hz
  have hnl := hnl.resolve_left (fun q => by cases q)
  subst hnl
  simp only [zo] at ho
  split at ho
  · next M' idx' ci' kd M1' n Mx ps hc =>
    split at ho
    · split at ho
      · split at ho
        · cases ho
        · cases ho
      · cases ho
    · split at ho
      · next hkd =>
        split at ho
        · next k rest' hdrop =>
          split at ho
          · next hcond =>
            obtain ⟨hcat, hcc, hcs⟩ := hcond
            simp only [Option.some.injEq, Sum.inr.injEq, Sum.inl.injEq, Prod.mk.injEq] at ho
            obtain ⟨rfl, rfl, rfl⟩ := ho
            obtain ⟨⟨h1, h2, h3⟩, hmem, hcr, hw⟩ := zcall_ok hc
            simp only at h1 h2 h3
            subst h1; subst h2
            obtain ⟨hst, hal⟩ := ztake (base := base) (fa := fa) hdrop
            unfold zcr at hcr
            rcases hkd with rfl | rfl
            · simp only [reduceCtorEq, Nat.reduceEqDiff, if_false, if_true, Bool.and_eq_true, decide_eq_true_eq] at hcr
              obtain ⟨⟨⟨⟨⟨⟨⟨c1, c2⟩, c3⟩, c4⟩, c5⟩, c6⟩, c7⟩, ⟨d1, d2⟩⟩ := hcr
              refine ⟨c6, c7, hcc, hcs, fun r h1 nn hMet hsz => ?_⟩
              rw [hst]
              exact va_runI (As := ((st.take n).reverse).map (zsh base fa)) ⟨hx, hb, hml, hown, hts⟩ hMet (cwI (bytes := zc M1') (maxL := zN M1') n hts (zgoodIn (zws_in c6)) (by rw [← d2]; rfl) rfl rfl (hts _ (hw (.initialized (zy M1').cls) (by simp [zwd]))) (hts _ (hw (.methodLink (zy M').cls idx' (zy M1')) (by simp [zwd]))) (hts _ (hw (.instanceMethod (zy M1')) (by simp [zwd]))) d1 ⟨c3, c4, c5⟩ ⟨c1, c2⟩) ⟨zPc_blind, fun U hU hW => ⟨rfl, hE.at hS hU hW, by rw [hU]; exact hH, by rw [hU]; exact hsz⟩⟩ rfl hal hl.1 rfl (lv_room (by rw [zcats]; exact hcat)) hd ⟨hcc, hcs⟩
            · simp only [reduceCtorEq, Nat.reduceEqDiff, if_false, if_true, Bool.and_eq_true, decide_eq_true_eq] at hcr
              obtain ⟨⟨⟨⟨⟨⟨⟨c1, c2⟩, c3⟩, c4⟩, c5⟩, c6⟩, c7⟩, ⟨d1, d2⟩⟩ := hcr
              refine ⟨c6, c7, hcc, hcs, fun r h1 nn hMet hsz => ?_⟩
              rw [hst]
              exact va_runIN (host := RX11) (As := ((st.take n).reverse).map (zsh base fa)) ⟨hx, hb, hml, hown, hts⟩ hMet ⟨va_cnB (bytes := zc M1') (maxL := zN M1') (ret := none) n hts (zgoodIn (zws_in c6)) (by rw [← d2]; rfl) rfl rfl (hE.2.1 _ (znest_in _ hmem (Or.inr rfl))) (hts _ (hw (.initialized (zy M1').cls) (by simp [zwd]))) ⟨c3, c4, c5⟩ ⟨c1, c2⟩, d1, hts _ (hw (.instanceMethod (zy M1')) (by simp [zwd]))⟩ ⟨zPc_blind, fun U hU hW => ⟨rfl, hE.at hS hU hW, by rw [hU]; exact hH, by rw [hU]; exact hsz⟩⟩ rfl hal hl.1 rfl (lv_room (by rw [zcats]; exact hcat)) hd ⟨hcc, hcs⟩
          · cases ho
        · cases ho
      · cases ho
  · split at ho
    · next M' idx' ci' kd M1' n Mx ps hc =>
      split at ho
      · next hkd =>
        split at ho
        · next k rest' hdrop =>
          split at ho
          · next ci fs hk =>
            split at ho
            · next hcond =>
              obtain ⟨hci, hcat, hcc, hcs⟩ := hcond
              simp only [Option.some.injEq, Sum.inr.injEq, Sum.inl.injEq, Prod.mk.injEq] at ho
              obtain ⟨rfl, rfl, rfl⟩ := ho
              obtain ⟨⟨h1, h2, h3⟩, hmem, hcr, hw⟩ := zcall_ok hc
              simp only at h1 h2 h3
              subst h1; subst h2
              obtain ⟨hst, hal⟩ := ztake (base := base) (fa := fa) hdrop
              obtain ⟨q, hq⟩ : ∃ q, vwCl[ci]? = some q := by
                obtain ⟨r, hr, -⟩ := hH k _ (zwl_at hk)
                exact ⟨r, hr⟩
              have hrecv := va_recv hE.1 hH hq (zwl_at hk)
              unfold zcr at hcr
              rcases hkd with rfl | rfl
              · simp only [reduceCtorEq, Nat.reduceEqDiff, if_false, if_true, Bool.and_eq_true, decide_eq_true_eq] at hcr
                obtain ⟨⟨⟨⟨⟨⟨⟨c1, c2⟩, c3⟩, c4⟩, c5⟩, c6⟩, c7⟩, d1⟩ := hcr
                refine ⟨c6, c7, hcc, hcs, fun r h1 nn hMet hsz => ?_⟩
                rw [hst]
                refine va_runSU (C := q.1) (As := ((st.take n).reverse).map (zsh base fa)) (hE.1.1 ci q hq).2 ⟨hx, hb, hml, hown, hts⟩ hMet (va_cwSU n hts (zgoodIn ?_) rfl rfl rfl ⟨d1, c5⟩ ⟨c1, c2⟩) ⟨zPc_blind, hrecv, fun U hU hW => ⟨rfl, hE.at hS hU hW, by rw [hU]; exact hH, by rw [hU]; exact hsz⟩⟩ rfl hal hl.1 rfl (lv_room (by rw [zcats]; exact hcat)) hd ⟨hcc, hcs⟩
                intro w hw1
                rcases List.mem_append.mp hw1 with h9 | h9
                · exact hw w h9
                · exact zws_in c6 w h9
              · simp only [reduceCtorEq, Nat.reduceEqDiff, if_false, if_true, Bool.and_eq_true, decide_eq_true_eq] at hcr
                obtain ⟨⟨⟨⟨⟨⟨⟨c1, c2⟩, c3⟩, c4⟩, c5⟩, c6⟩, c7⟩, d1⟩ := hcr
                refine ⟨c6, c7, hcc, hcs, fun r h1 nn hMet hsz => ?_⟩
                rw [hst]
                refine zrunSI (C := q.1) (xc := zR Mx) (As := ((st.take n).reverse).map (zsh base fa)) (hE.1.1 ci q hq).2 ⟨hx, hb, hml, hown, hts⟩ hMet c1 c2 (zgoodIn (zws_in c6)) (hts _ (hw (.methodLink (zy M').cls idx' ⟨zR Mx, (zy M1').name, (zy M1').desc⟩) (by simp [zwd]))) (hts _ (hw (.sameMethod (zR Mx) (zy M1').cls (zy M1').name (zy M1').desc) (by simp [zwd]))) (hts _ (hw (.superclass (zy M').cls (zR Mx)) (by simp [zwd]))) (hts _ (hw (.superclass (zR Mx) (zy M1').cls) (by simp [zwd]))) (hts _ (hw (.instanceMethod (zy M1')) (by simp [zwd]))) (hts _ (hw (.initialized (zy M1').cls) (by simp [zwd]))) d1 c5 ⟨zPc_blind, hrecv, fun U hU hW => ⟨rfl, hE.at hS hU hW, by rw [hU]; exact hH, by rw [hU]; exact hsz⟩⟩ rfl hal hl.1 rfl (lv_room (by rw [zcats]; exact hcat)) hd ⟨hcc, hcs⟩
            · cases ho
          · cases ho
        · cases ho
      · cases ho
    · cases ho
theorem zw_o : Cond.code objectInit ⟨#[0xb1]⟩ 1 none ∈ zwt := List.mem_filter.mpr ⟨zme1 (List.mem_of_getElem? (i := 23) rfl), rfl⟩
set_option maxHeartbeats 1000000 in
theorem zs_invokespecial {n0 : Nat} (X : zX p s m args meth c base fa D aC ro L0 M) (hz : zf M pc = some (.invokespecial n0)) {k : zC} (ho : zo ro M pc ls st h uc us (.invokespecial n0) = some (.inl k)) (hH : zH base fa D aC h H) (hS : va_S (fun q => base ≤ q) s.heap H locs) (hl : lv_has A (zN M) (zlm base fa ls)) (hL : h.length = L0 + uc) (kk : zKK p l e s m args below meth c base fa D aC Q L0 M (.inl k)) : W p l e (zrm M) s m args below meth c H locs uc us Q (F0 m pc A (st.map (zsh base fa))) := by
  obtain ⟨hx, hb, hml, hown, hts, hE, hin, hM, hs0⟩ := X
  obtain ⟨nl, hd, hnl⟩ := zf_spec hz
  have hnl := hnl.resolve_left (fun q => by cases q)
  subst hnl
  simp only [zo] at ho
  split at ho
  · next M' idx' ci' kd M1' n Mx ps hc =>
    split at ho
    · next hkd =>
      split at ho
      · next k0 st' =>
        split at ho
        · next hcat =>
          have hk := zgo_inj ho
          cases hk
          obtain ⟨⟨h1, h2, h3⟩, hmem, hcr, hw⟩ := zcall_ok hc
          simp only at h1 h2 h3
          subst h1; subst h2; subst hkd
          unfold zcr at hcr
          simp only [if_true, Bool.and_eq_true, decide_eq_true_eq] at hcr
          refine W.objInit (g := F0 m pc A (Value.ref (base + k0) :: st'.map (zsh base fa))) (rest := st'.map (zsh base fa)) hx hb hown (hts _ (hw (.methodLink (zy M').cls idx' objectInit) (by simp [zwd]))) (hts _ (hw (.instanceMethod objectInit) (by simp [zwd]))) (hts _ zw_o) rfl (by rw [hml]; exact hl.1) rfl hd hcr.1 ?_ (kk _ _ _ hH hS hl hL)
          have h9 := hcr.2
          rw [zcats]
          show 2 * 0 + _ + 12 ≤ _
          omega
        · cases ho
      · cases ho
    · split at ho
      · split at ho
        · split at ho
          · cases ho
          · cases ho
        · cases ho
      · cases ho
  · split at ho
    · split at ho
      · split at ho
        · split at ho
          · split at ho
            · cases ho
            · cases ho
          · cases ho
        · cases ho
      · cases ho
    · cases ho
set_option maxHeartbeats 1000000 in
theorem zs_invokestatic {n0 : Nat} (X : zX p s m args meth c base fa D aC ro L0 M) (hz : zf M pc = some (.invokestatic n0)) {k : zC} (ho : zo ro M pc ls st h uc us (.invokestatic n0) = some (.inl k)) (hH : zH base fa D aC h H) (hS : va_S (fun q => base ≤ q) s.heap H locs) (hl : lv_has A (zN M) (zlm base fa ls)) (hL : h.length = L0 + uc) (kk : zKK p l e s m args below meth c base fa D aC Q L0 M (.inl k)) : W p l e (zrm M) s m args below meth c H locs uc us Q (F0 m pc A (st.map (zsh base fa))) := by
  obtain ⟨hx, hb, hml, hown, hts, hE, hin, hM, hs0⟩ := X
  obtain ⟨nl, hd, hnl⟩ := zf_spec hz
  have hnl := hnl.resolve_left (fun q => by cases q)
  subst hnl
  simp only [zo] at ho
  split at ho
  · next M' idx' ci' kd M1' n Mx ps hc =>
    split at ho
    · split at ho
      · cases ho
      · cases ho
    · split at ho
      · next hkd =>
        obtain ⟨⟨h1, h2, h3⟩, hmem, hcr, hw⟩ := zcall_ok hc
        simp only at h1 h2 h3
        subst h1; subst h2; subst hkd
        unfold zcr at hcr
        simp only [reduceCtorEq, Nat.reduceEqDiff, if_false, if_true, Bool.and_eq_true, decide_eq_true_eq] at hcr
        split at ho
        · next nn dp a1 sp a0 st' =>
          split at ho
          · next q0 f q1 g hk0 hk1 =>
            split at ho
            · next hcond =>
              obtain ⟨e1, e2, e3, e4, e5, e6⟩ := hcond
              have hk := zgo_inj ho
              cases hk
              refine va_copyi hx hb (by rw [hml]; exact hl.1.symm) hown (hts _ (hw (.methodLink (zy M').cls idx' arraycopyName) (by simp [zwd]))) (hts _ (hw (.native arraycopyName) (by simp [zwd]))) (hts _ (hw (.static arraycopyName) (by simp [zwd]))) (hts _ (hw (.initialized "java/lang/System") (by simp [zwd]))) hE.1 hH (zwl_D h) hS a0 a1 0 0 (ty := .int) (zwl_at hk0) (zwl_at hk1) rfl rfl rfl e1 e2 e3 e4 e5 (fun _ _ => rfl) hcr.1 (by rw [zcats]; omega) hd (fun H1 locs1 hP1 _ hS1 => kk H1 locs1 A (zH.set (e1 := (.inl (0, q1, .inl (va_cpy f g sp.toNatClampNeg dp.toNatClampNeg nn.toNatClampNeg)))) hP1) hS1 hl (by rw [List.length_set]; exact hL))
            · cases ho
          · next q0 f q1 g hk0 hk1 =>
            split at ho
            · next hcond =>
              obtain ⟨e1, e2, e3, e4, e5, e6⟩ := hcond
              have hk := zgo_inj ho
              cases hk
              refine va_copyl hx hb (by rw [hml]; exact hl.1.symm) hown (hts _ (hw (.methodLink (zy M').cls idx' arraycopyName) (by simp [zwd]))) (hts _ (hw (.native arraycopyName) (by simp [zwd]))) (hts _ (hw (.static arraycopyName) (by simp [zwd]))) (hts _ (hw (.initialized "java/lang/System") (by simp [zwd]))) hE.1 hH (zwl_D h) hS a0 a1 1 1 (ty := .long) (zwl_at hk0) (zwl_at hk1) rfl rfl rfl e1 e2 e3 e4 e5 (fun _ _ => rfl) hcr.1 (by rw [zcats]; omega) hd (fun H1 locs1 hP1 _ hS1 => kk H1 locs1 A (zH.set (e1 := (.inl (1, q1, .inr (.inl (va_cpy f g sp.toNatClampNeg dp.toNatClampNeg nn.toNatClampNeg))))) hP1) hS1 hl (by rw [List.length_set]; exact hL))
            · cases ho
          · cases ho
        · cases ho
      · cases ho
  · cases ho
end ZCL
