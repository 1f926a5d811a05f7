section ZSH
variable {p : Program} {l : Launch} {e : Env} {s : State} {m : MethodId} {args : Array Value} {below : List Frame} {meth : Method} {c : Code} {base : Nat} {fa : UInt32 → Nat} {D : va_G} {aC : Nat → ClassId} {ro : UInt32 → Nat × (Nat → Int32)} {Q : State → Prop} {L0 M pc : Nat} {ls : List (Nat × Value)} {st : List Value} {h : List va_E} {uc us : Nat} {H : Heap} {locs : List Loc} {A : Array Slot}
theorem zH.set {k : Nat} {e1 : va_E} {H1 : Heap} (hP : va_P D vwCl ((zwl base fa aC h).set k (base + k, zce base fa aC e1)) H1) : zH base fa D aC (h.set k e1) H1 := by
  unfold zH
  rw [← zwl_set]
  exact hP
/-- the heap's size is known where a method makes just the cells that it counts -/
theorem zsize {T : State} {R : Room} {ws0 : List Frame} (hT : T.heap = H) (X : Stand p l e R s m args below meth c T locs uc us) (hs0 : s.heap.size = base + L0) (hL : h.length = L0 + uc) (hH : zH base fa D aC h H) (hS : va_S (fun q => base ≤ q) s.heap H locs) : H.size = base + h.length := by
  have h1 := X.heapSize
  rw [hT] at h1
  have h2 := hS.1
  by_cases hz : h.length = 0
  · omega
  · have h3 : (zwl base fa aC h)[h.length - 1]? = some (base + (h.length - 1), zce base fa aC h[h.length - 1]) := by rw [zwl_get, List.getElem?_eq_getElem (by omega)]; rfl
    have h4 := (hH _ _ h3).lt
    simp only at h4
    omega
theorem zWsz {R : Room} {g : JFrame} (hs0 : s.heap.size = base + L0) (hL : h.length = L0 + uc) (hH : zH base fa D aC h H) (hS : va_S (fun q => base ≤ q) s.heap H locs) (kk : H.size = base + h.length → W p l e R s m args below meth c H locs uc us Q g) : W p l e R s m args below meth c H locs uc us Q g := fun T hT X => kk (zsize (ws0 := []) hT X hs0 hL hH hS) T hT X
theorem zcl_lt {ci : Nat} {q : vw_C} (h : vwCl[ci]? = some q) : ci < 13 := by
  have := (List.getElem?_eq_some_iff.mp h).1
  simpa [vwCl] using this
theorem zuw {ci : Nat} {q : vw_C} (h : vwCl[ci]? = some q) : ∀ w ∈ u_ws q.1 q.2.1 q.2.2, w ∈ zwt := zuw0 ci (zcl_lt h) q h
theorem zty_ok {ci : Nat} {q : vw_C} (h : vwCl[ci]? = some q) : ∀ k, k < q.2.2 → parseFieldDescriptor (q.2.1 k).2.2.1 = some (zty ci k) := by
  have hl := zcl_lt h
  match ci, hl with
  | 0, _ => cases h; exact tyX0_ok
  | 1, _ => cases h; exact tyX1_ok
  | 2, _ => cases h; exact tyX2_ok
  | 3, _ => cases h; exact tyX3_ok
  | 4, _ => cases h; exact tyX4_ok
  | 5, _ => cases h; exact tyX5_ok
  | 6, _ => cases h; exact tyX6_ok
  | 7, _ => cases h; exact tyX7_ok
  | 8, _ => cases h; exact tyX8_ok
  | 9, _ => cases h; exact tyX9_ok
  | 10, _ => cases h; exact tyX10_ok
  | 11, _ => cases h; exact tyX11_ok
  | 12, _ => cases h; exact tyX12_ok
theorem znm_ok {ci : Nat} {q : vw_C} (h : vwCl[ci]? = some q) : ∀ a, a < q.2.2 → ∀ b, b < q.2.2 → a ≠ b → (q.2.1 a).2.1 ≠ (q.2.1 b).2.1 := by
  have hl := zcl_lt h
  match ci, hl with
  | 0, _ => cases h; exact nmX0
  | 1, _ => cases h; exact nmX1
  | 2, _ => cases h; exact nmX2
  | 3, _ => cases h; exact nmX3
  | 4, _ => cases h; exact nmX4
  | 5, _ => cases h; exact nmX5
  | 6, _ => cases h; exact nmX6
  | 7, _ => cases h; exact nmX7
  | 8, _ => cases h; exact nmX8
  | 9, _ => cases h; exact nmX9
  | 10, _ => cases h; exact nmX10
  | 11, _ => cases h; exact nmX11
  | 12, _ => cases h; exact nmX12
theorem zdf_ok {ci : Nat} {q : vw_C} (h : vwCl[ci]? = some q) : znf ci = q.2.2 ∧ (zdf ci).map (zsh base fa) = zdf ci ∧ ∀ j, j < q.2.2 → defaultValue (zty ci j) = vp_V (zdf ci) j := by
  have hn : znf ci = q.2.2 := by unfold znf; rw [h]
  refine ⟨hn, ?_, fun j hj => ?_⟩
  · have hl := zcl_lt h
    match ci, hl with
    | 0, _ => rfl
    | 1, _ => rfl
    | 2, _ => rfl
    | 3, _ => rfl
    | 4, _ => rfl
    | 5, _ => rfl
    | 6, _ => rfl
    | 7, _ => rfl
    | 8, _ => rfl
    | 9, _ => rfl
    | 10, _ => rfl
    | 11, _ => rfl
    | 12, _ => rfl
  · unfold zdf vp_V
    rw [hn, List.getD_eq_getElem?_getD, List.getElem?_map, List.getElem?_range hj]
    rfl
theorem zfd_ok {idx ci j : Nat} (hM : M < 190) (hts : ∀ w ∈ zwt, w.before args s = true) (hv : zfd (zoc M) idx ci = some j) : ∃ q ref, vwCl[ci]? = some q ∧ j < q.2.2 ∧ (Cond.fieldLink (zy M).cls idx ref (q.2.1 j).2.1 (q.2.1 j).2.2.1).before args s = true ∧ ∀ x, s.fieldFound? (q.2.1 j).1 (q.2.1 j).2.1 (q.2.1 j).2.2.1 = some x → s.fieldFound? ref (q.2.1 j).2.1 (q.2.1 j).2.2.1 = some x := by
  unfold zfd at hv
  obtain ⟨q, hq, hqv⟩ := Option.map_eq_some_iff.mp hv
  have hq1 := List.find?_some hq
  simp only [Bool.and_eq_true, beq_iff_eq] at hq1
  have hq2 := zfp_ok q (List.mem_of_find?_eq_some hq)
  obtain ⟨o, idx', ci', j', p1, p2, ref⟩ := q
  simp only at hq1 hqv
  obtain ⟨rfl, rfl, rfl⟩ := hq1
  subst hqv
  unfold zfok at hq2
  simp only at hq2
  split at hq2
  · cases hq2
  · next r hr =>
    simp only [Bool.and_eq_true, Bool.or_eq_true, decide_eq_true_eq] at hq2
    obtain ⟨⟨h1, h2⟩, h3⟩ := hq2
    refine ⟨r, ref, hr, h1, ?_, ?_⟩
    · rw [(zown_at M hM).1]
      exact hts _ (zwt_mem h2 rfl)
    · intro x hx
      rcases h3 with h3 | h3
      · rw [h3]; exact hx
      · exact u_same (hts _ (zwt_mem h3 rfl)) x hx
theorem zcl_ok {idx ci : Nat} (hM : M < 190) (hts : ∀ w ∈ zwt, w.before args s = true) (hv : zcl (zoc M) idx = some ci) : ∃ q, vwCl[ci]? = some q ∧ (Cond.classLink (zy M).cls idx q.1).before args s = true ∧ (Cond.instantiable q.1 q.2.2).before args s = true ∧ (Cond.initialized q.1).before args s = true := by
  unfold zcl at hv
  obtain ⟨q, hq, hqv⟩ := Option.map_eq_some_iff.mp hv
  have hq1 := List.find?_some hq
  simp only [Bool.and_eq_true, beq_iff_eq] at hq1
  have hq2 := zcn_ok q (List.mem_of_find?_eq_some hq)
  unfold zcnok at hq2
  rw [hqv] at hq2
  split at hq2
  · cases hq2
  · next r hr =>
    simp only [Bool.and_eq_true, decide_eq_true_eq] at hq2
    obtain ⟨⟨h1, h2⟩, h3⟩ := hq2
    rw [hq1.1, hq1.2, ← (zown_at M hM).1] at h1
    exact ⟨r, hr, hts _ (zwt_mem h1 rfl), hts _ (zwt_mem h2 rfl), hts _ (zwt_mem h3 rfl)⟩
theorem zw_i : Cond.arrayClass .int ∈ zwt := zwt_mem (i := 146) (by decide +kernel) rfl
theorem zw_l : Cond.arrayClass .long ∈ zwt := zwt_mem (i := 213) (by decide +kernel) rfl
theorem zw_z : Cond.arrayClass .boolean ∈ zwt := zwt_mem (i := 1086) (by decide +kernel) rfl
theorem zw_k : Cond.fieldLink RX11 333 "HeronsBench" "KIND_ABOVE" "[I" ∈ zwt := zwt_mem (i := 896) (by decide +kernel) rfl
set_option maxHeartbeats 1000000 in
theorem zs_getfield {n : Nat} (X : zX p s m args meth c base fa D aC ro L0 M) (hz : zf M pc = some (.getfield n)) {k : zK} (ho : zo ro M pc ls st h uc us (.getfield n) = some k) (hH : zH base fa D aC h H) (hS : va_S (fun q => base ≤ q) s.heap H locs) (hl : lv_has A (zN M) (zlm base fa ls)) (hL : h.length = L0 + uc) (kk : zKK p l e s m args below meth c base fa D aC Q L0 M k) : W p l e (zrm M) s m args below meth c H locs uc us Q (F0 m pc A (st.map (zsh base fa))) := by
  obtain ⟨hx, hb, hml, hown, hts, hE, hin, hM, hs0⟩ := X
  obtain ⟨n0, hd, hn0⟩ := zf_spec hz
  have hn0 := hn0.resolve_left (fun q => by cases q)
  subst hn0
  simp only [zo] at ho
  split at ho
  · next k st' =>
    split at ho
    · next ci fs hk =>
      split at ho
      · next j hj =>
        split at ho
        · next v hv =>
          obtain rfl := zgo_inj ho
          obtain ⟨q, ref, hq, hjl, hlink, hsame⟩ := zfd_ok hM hts hj
          exact va_get (C := q.1) (T := q.2.1) (N := q.2.2) hx hb hts (zuw hq) hown hE.1 hH k (zwl_at hk) hq j hjl hlink hsame (by rw [List.getElem?_map, hv]; rfl) hd (kk _ _ _ hH hS hl hL)
        · cases ho
      · cases ho
    · cases ho
  · cases ho
set_option maxHeartbeats 1000000 in
theorem zs_putfield {n : Nat} (X : zX p s m args meth c base fa D aC ro L0 M) (hz : zf M pc = some (.putfield n)) {k : zK} (ho : zo ro M pc ls st h uc us (.putfield n) = some k) (hH : zH base fa D aC h H) (hS : va_S (fun q => base ≤ q) s.heap H locs) (hl : lv_has A (zN M) (zlm base fa ls)) (hL : h.length = L0 + uc) (kk : zKK p l e s m args below meth c base fa D aC Q L0 M k) : W p l e (zrm M) s m args below meth c H locs uc us Q (F0 m pc A (st.map (zsh base fa))) := by
  obtain ⟨hx, hb, hml, hown, hts, hE, hin, hM, hs0⟩ := X
  obtain ⟨n0, hd, hn0⟩ := zf_spec hz
  have hn0 := hn0.resolve_left (fun q => by cases q)
  subst hn0
  simp only [zo] at ho
  split at ho
  · next v k st' =>
    split at ho
    · next ci fs hk =>
      split at ho
      · next j hj =>
        split at ho
        · next hc =>
          obtain rfl := zgo_inj ho
          obtain ⟨q, ref, hq, hjl, hlink, hsame⟩ := zfd_ok hM hts hj
          obtain ⟨hf, hjf, hfin⟩ := hc
          have hff := zfit_ok (base := base) (fa := fa) hf
          have kk2 : ∀ (H1 : Heap) (locs1 : List Loc), va_P D vwCl ((zwl base fa aC h).set k (base + k, .inr (ci, (fs.map (zsh base fa)).set j (zsh base fa v)))) H1 → va_D (fun q => base ≤ q) ((zwl base fa aC h).set k (base + k, .inr (ci, (fs.map (zsh base fa)).set j (zsh base fa v)))) → va_S (fun q => base ≤ q) s.heap H1 locs1 → W p l e (zrm M) s m args below meth c H1 locs1 uc us Q (F0 m (pc + 3) A (st'.map (zsh base fa))) := by
            intro H1 locs1 hP1 _ hS1
            refine kk H1 locs1 A (zH.set ?_) hS1 hl (by rw [List.length_set]; exact hL)
            have e9 : zce base fa aC (.inr (ci, fs.set j v)) = .inr (ci, (fs.map (zsh base fa)).set j (zsh base fa v)) := by
              show Sum.inr (ci, (fs.set j v).map (zsh base fa)) = _
              rw [List.map_set]
            rw [e9]
            exact hP1
          by_cases hfi : (q.2.1 j).2.2.2 = true
          · have hz1 : zfin ci j = true := by unfold zfin; rw [hq]; exact hfi
            have hz2 : zdc ci j = (q.2.1 j).1 := by unfold zdc; rw [hq]
            obtain ⟨hi1, hi2⟩ := hfin hz1
            exact va_putF (C := q.1) (T := q.2.1) (N := q.2.2) hx hb hts (zuw hq) (zty ci) (zty_ok hq) (znm_ok hq) hown hE.1 hH (zwl_D h) hS k (zwl_at hk) hq j hjl hlink hsame hfi (hin hi1) (by rw [← hz2]; exact hi2) (zty_ok hq j hjl) hff.1 hff.2 (by rw [List.length_map]; exact hjf) hd kk2
          · exact va_put (C := q.1) (T := q.2.1) (N := q.2.2) hx hb hts (zuw hq) (zty ci) (zty_ok hq) (znm_ok hq) hown hE.1 hH (zwl_D h) hS k (zwl_at hk) hq j hjl hlink hsame (by simpa using hfi) (zty_ok hq j hjl) hff.1 hff.2 (by rw [List.length_map]; exact hjf) hd kk2
        · cases ho
      · cases ho
    · cases ho
  · cases ho
set_option maxHeartbeats 1000000 in
theorem zs_new {n : Nat} (X : zX p s m args meth c base fa D aC ro L0 M) (hz : zf M pc = some (.new n)) {k : zK} (ho : zo ro M pc ls st h uc us (.new n) = some k) (hH : zH base fa D aC h H) (hS : va_S (fun q => base ≤ q) s.heap H locs) (hl : lv_has A (zN M) (zlm base fa ls)) (hL : h.length = L0 + uc) (kk : zKK p l e s m args below meth c base fa D aC Q L0 M k) : W p l e (zrm M) s m args below meth c H locs uc us Q (F0 m pc A (st.map (zsh base fa))) := by
  obtain ⟨hx, hb, hml, hown, hts, hE, hin, hM, hs0⟩ := X
  obtain ⟨n0, hd, hn0⟩ := zf_spec hz
  have hn0 := hn0.resolve_left (fun q => by cases q)
  subst hn0
  simp only [zo] at ho
  split at ho
  · next ci hci =>
    split at ho
    · next hc =>
      obtain rfl := zgo_inj ho
      obtain ⟨q, hq, hw1, hw2, hw3⟩ := zcl_ok hM hts hci
      obtain ⟨hn, hdm, hdf⟩ := zdf_ok (base := base) (fa := fa) hq
      refine zWsz hs0 hL hH hS (fun hsz => ?_)
      refine W.newcK (g := F0 m pc A (st.map (zsh base fa))) (C := q.1) (n := q.2.2) hx hb hown hw1 hw2 hw3 rfl hd hc.1 (by rw [← hn]; exact hc.2) (hE.1.1 ci q hq).2.1 hsz (fun H1 kC hkC e1 z1 o1 => ?_)
      have hk : ∀ (k : Nat) (x : Nat × va_E), (zwl base fa aC h)[k]? = some x → H1[x.1]? = H[x.1]? := fun k x hx => o1 x.1 (by rw [← hsz]; exact (hH k x hx).lt)
      rw [← hn]
      refine kk H1 locs A ?_ ⟨Nat.le_trans hS.1 (by rw [z1, hsz]; omega), fun x h1 h2 => (o1 x (by rw [← hsz]; exact Nat.lt_of_lt_of_le h1 hS.1)).trans (hS.2.1 x h1 h2), hS.2.2⟩ hl (by simp only [List.length_append, List.length_cons, List.length_nil]; omega)
      unfold zH
      rw [zwl_app]
      refine va_P.app (va_P.kept hH hk) (fun k x hx => ?_)
      have hz : k < 1 := (List.getElem?_eq_some_iff.mp hx).1
      rw [show k = 0 by omega] at hx
      cases hx
      refine ⟨q, hq, ?_⟩
      show t_OB (base + h.length) (D.1 ci) q.2.2 (D.2 ci) H1 (vp_V ((zdf ci).map (zsh base fa)))
      rw [hdm]
      exact (u_born (zty ci) hts (zuw hq) (hE.1.1 ci q hq) hkC e1 (zty_ok hq)).to hdf
    · cases ho
  · cases ho
set_option maxHeartbeats 1000000 in
theorem zs_newarray {t : ArrayType} (X : zX p s m args meth c base fa D aC ro L0 M) (hz : zf M pc = some (.newarray t)) {k : zK} (ho : zo ro M pc ls st h uc us (.newarray t) = some k) (hH : zH base fa D aC h H) (hS : va_S (fun q => base ≤ q) s.heap H locs) (hl : lv_has A (zN M) (zlm base fa ls)) (hL : h.length = L0 + uc) (kk : zKK p l e s m args below meth c base fa D aC Q L0 M k) : W p l e (zrm M) s m args below meth c H locs uc us Q (F0 m pc A (st.map (zsh base fa))) := by
  obtain ⟨hx, hb, hml, hown, hts, hE, hin, hM, hs0⟩ := X
  obtain ⟨n0, hd, hn0⟩ := zf_spec hz
  have hn0 := hn0.resolve_left (fun q => by cases q)
  subst hn0
  simp only [zo] at ho
  split at ho
  · next n st' =>
    split at ho
    · next tc f hf =>
      split at ho
      · next hc =>
        obtain rfl := zgo_inj ho
        obtain ⟨hn, hle, hcc, hcs⟩ := hc
        refine zWsz hs0 hL hH hS (fun hsz => ?_)
        have key : ∀ (aty : FieldType), newarray.typeOf t = aty → (hw : (Cond.arrayClass aty).before args s = true) → (hby : componentBytes aty ≤ 8) → ([(aC 0, FieldType.int), (aC 1, .long), (aC 2, .boolean), (aC 3, .object RX8)] : List (ClassId × FieldType))[tc]? = some (aC tc, aty) → (hra : ∀ cA, va_RA s cA aty → s.vm.findClass ("[" ++ aty.toString) = some cA) → (hcell : ∀ cA : ClassId, vp_cell cA (n.toNatClampNeg, zca base f) = arrV cA n.toNatClampNeg (fun _ => defaultValue aty)) → W p l e (zrm M) s m args below meth c H locs uc us Q (F0 m pc A (List.map (zsh base fa) (Value.int n :: st'))) := by
          intro aty haty hw hby htt hra hcell
          subst haty
          refine va_newaK (g := F0 m pc A (Value.int n :: st'.map (zsh base fa))) (rest := st'.map (zsh base fa)) hx hb hw rfl hd rfl hn rfl (by have := Nat.mul_le_mul hle hby; omega) hcc hcs hsz (fun H1 cA e1 z1 o1 hAr hNm => ?_)
          have hk : ∀ (k : Nat) (x : Nat × va_E), (zwl base fa aC h)[k]? = some x → H1[x.1]? = H[x.1]? := fun k x hx => o1 x.1 (by rw [← hsz]; exact (hH k x hx).lt)
          have hcA : cA = aC tc := Option.some.inj (hNm.symm.trans (hra _ (hE.1.2 tc _ htt).2))
          subst hcA
          refine kk H1 locs A ?_ ⟨Nat.le_trans hS.1 (by rw [z1, hsz]; omega), fun x h1 h2 => (o1 x (by rw [← hsz]; exact Nat.lt_of_lt_of_le h1 hS.1)).trans (hS.2.1 x h1 h2), hS.2.2⟩ hl (by simp only [List.length_append, List.length_cons, List.length_nil]; omega)
          unfold zH
          rw [zwl_app]
          refine va_P.app (va_P.kept hH hk) (fun k x hx => ?_)
          have hz : k < 1 := (List.getElem?_eq_some_iff.mp hx).1
          rw [show k = 0 by omega] at hx
          cases hx
          show H1[base + h.length]? = some (vp_cell (aC tc) (n.toNatClampNeg, zca base f))
          rw [hcell]
          exact e1
        cases t <;> simp only [zat, Option.some.injEq, Prod.mk.injEq, reduceCtorEq] at hf
        · obtain ⟨rfl, rfl⟩ := hf
          exact key .boolean rfl (hts _ zw_z) (by decide) rfl (fun cA h => h) (fun cA => rfl)
        · obtain ⟨rfl, rfl⟩ := hf
          exact key .int rfl (hts _ zw_i) (by decide) rfl (fun cA h => h) (fun cA => rfl)
        · obtain ⟨rfl, rfl⟩ := hf
          exact key .long rfl (hts _ zw_l) (by decide) rfl (fun cA h => h) (fun cA => rfl)
      · cases ho
    · cases ho
  · cases ho
set_option maxHeartbeats 1000000 in
theorem zs_anewarray {t : Nat} (X : zX p s m args meth c base fa D aC ro L0 M) (hz : zf M pc = some (.anewarray t)) {k : zK} (ho : zo ro M pc ls st h uc us (.anewarray t) = some k) (hH : zH base fa D aC h H) (hS : va_S (fun q => base ≤ q) s.heap H locs) (hl : lv_has A (zN M) (zlm base fa ls)) (hL : h.length = L0 + uc) (kk : zKK p l e s m args below meth c base fa D aC Q L0 M k) : W p l e (zrm M) s m args below meth c H locs uc us Q (F0 m pc A (st.map (zsh base fa))) := by
  obtain ⟨hx, hb, hml, hown, hts, hE, hin, hM, hs0⟩ := X
  obtain ⟨n0, hd, hn0⟩ := zf_spec hz
  have hn0 := hn0.resolve_left (fun q => by cases q)
  subst hn0
  simp only [zo] at ho
  split at ho
  · next n st' =>
    split at ho
    · next hc =>
      obtain rfl := zgo_inj ho
      obtain ⟨hci, hn, hle, hcc, hcs⟩ := hc
      obtain ⟨q, hq, hw1, hw2, hw3⟩ := zcl_ok hM hts hci
      have hq8 : q.1 = RX8 := by cases hq; rfl
      rw [hq8] at hw1
      refine zWsz hs0 hL hH hS (fun hsz => ?_)
      refine W.anew (g := F0 m pc A (Value.int n :: st'.map (zsh base fa))) (rest := st'.map (zsh base fa)) (C := RX8) hx hb hown hw1 (va_AO.use hE.2.2.1) rfl hd rfl hn (by omega) hcc hcs (fun cA kA comp f1 f2 f3 f4 => ?_)
      generalize hH1 : H.push ({ cls := cA, slots := Array.replicate n.toNatClampNeg .null, vm := .none } : Cell) = H1
      have z1 : H1.size = H.size + 1 := by rw [← hH1, Array.size_push]
      have e1 : H1[H.size]? = some (arrV cA n.toNatClampNeg (fun _ => .null)) := by rw [← hH1, Array.getElem?_push_size, ← arrV_new]
      have o1 : ∀ q : Nat, q < H.size → H1[q]? = H[q]? := fun q hq => by rw [← hH1, Array.getElem?_push, if_neg (Nat.ne_of_lt hq)]
      have hk : ∀ (k : Nat) (x : Nat × va_E), (zwl base fa aC h)[k]? = some x → H1[x.1]? = H[x.1]? := fun k x hx => o1 x.1 (hH k x hx).lt
      obtain ⟨kA2, comp2, g1, g2, g3, g4⟩ := (hE.1.2 3 _ rfl).2
      have hcA : cA = aC 3 := Option.some.inj (f1.symm.trans g4)
      subst hcA
      have hst : F0 m (pc + 3) A (Value.ref (base + h.length) :: st'.map (zsh base fa)) = { F0 m pc A (List.map (zsh base fa) (Value.int n :: st')) with pc := pc + 3, stack := .ref H.size :: st'.map (zsh base fa) } := by rw [hsz]
      refine W.eq hst.symm ?_
      refine kk H1 locs A ?_ ⟨Nat.le_trans hS.1 (by rw [z1]; omega), fun x h1 h2 => (o1 x (Nat.lt_of_lt_of_le h1 hS.1)).trans (hS.2.1 x h1 h2), hS.2.2⟩ hl (by simp only [List.length_append, List.length_cons, List.length_nil]; omega)
      unfold zH
      rw [zwl_app]
      refine va_P.app (va_P.kept hH hk) (fun k x hx => ?_)
      have hz : k < 1 := (List.getElem?_eq_some_iff.mp hx).1
      rw [show k = 0 by omega] at hx
      cases hx
      show H1[base + h.length]? = some (vp_cell (aC 3) (n.toNatClampNeg, zca base (.inr (.inr (.inr (.inr (fun _ => none)))))))
      rw [← hsz]
      exact e1
    · cases ho
  · cases ho
set_option maxHeartbeats 1000000 in
theorem zs_baload  (X : zX p s m args meth c base fa D aC ro L0 M) (hz : zf M pc = some (.baload)) {k : zK} (ho : zo ro M pc ls st h uc us (.baload) = some k) (hH : zH base fa D aC h H) (hS : va_S (fun q => base ≤ q) s.heap H locs) (hl : lv_has A (zN M) (zlm base fa ls)) (hL : h.length = L0 + uc) (kk : zKK p l e s m args below meth c base fa D aC Q L0 M k) : W p l e (zrm M) s m args below meth c H locs uc us Q (F0 m pc A (st.map (zsh base fa))) := by
  obtain ⟨hx, hb, hml, hown, hts, hE, hin, hM, hs0⟩ := X
  obtain ⟨n0, hd, hn0⟩ := zf_spec hz
  have hn0 := hn0.resolve_left (fun q => by cases q)
  subst hn0
  simp only [zo] at ho
  split at ho
  · next i k st' =>
    split at ho
    · next n f hk =>
      split at ho
      · cases ho
      · next hc => obtain rfl := zgo_inj ho; exact va_zald hx hb hE.1 hH k 2 (zwl_at hk) rfl hc hd (kk _ _ _ hH hS hl hL)
    · cases ho
  · cases ho
set_option maxHeartbeats 1000000 in
theorem zs_laload  (X : zX p s m args meth c base fa D aC ro L0 M) (hz : zf M pc = some (.laload)) {k : zK} (ho : zo ro M pc ls st h uc us (.laload) = some k) (hH : zH base fa D aC h H) (hS : va_S (fun q => base ≤ q) s.heap H locs) (hl : lv_has A (zN M) (zlm base fa ls)) (hL : h.length = L0 + uc) (kk : zKK p l e s m args below meth c base fa D aC Q L0 M k) : W p l e (zrm M) s m args below meth c H locs uc us Q (F0 m pc A (st.map (zsh base fa))) := by
  obtain ⟨hx, hb, hml, hown, hts, hE, hin, hM, hs0⟩ := X
  obtain ⟨n0, hd, hn0⟩ := zf_spec hz
  have hn0 := hn0.resolve_left (fun q => by cases q)
  subst hn0
  simp only [zo] at ho
  split at ho
  · next i k st' =>
    split at ho
    · next n f hk =>
      split at ho
      · cases ho
      · next hc => obtain rfl := zgo_inj ho; exact va_lald hx hb hE.1 hH k 1 (zwl_at hk) rfl hc hd (kk _ _ _ hH hS hl hL)
    · cases ho
  · cases ho
set_option maxHeartbeats 1000000 in
theorem zs_iaload  (X : zX p s m args meth c base fa D aC ro L0 M) (hz : zf M pc = some (.iaload)) {k : zK} (ho : zo ro M pc ls st h uc us (.iaload) = some k) (hH : zH base fa D aC h H) (hS : va_S (fun q => base ≤ q) s.heap H locs) (hl : lv_has A (zN M) (zlm base fa ls)) (hL : h.length = L0 + uc) (kk : zKK p l e s m args below meth c base fa D aC Q L0 M k) : W p l e (zrm M) s m args below meth c H locs uc us Q (F0 m pc A (st.map (zsh base fa))) := by
  obtain ⟨hx, hb, hml, hown, hts, hE, hin, hM, hs0⟩ := X
  obtain ⟨n0, hd, hn0⟩ := zf_spec hz
  have hn0 := hn0.resolve_left (fun q => by cases q)
  subst hn0
  simp only [zo] at ho
  split at ho
  · next i k st' =>
    split at ho
    · next n f hk =>
      split at ho
      · cases ho
      · next hc => obtain rfl := zgo_inj ho; exact va_iald hx hb hE.1 hH k 0 (zwl_at hk) rfl hc hd (kk _ _ _ hH hS hl hL)
    · cases ho
  · next i x st' =>
    split at ho
    · cases ho
    · next hc => obtain rfl := zgo_inj ho; exact va_ti hx hb (hE.2.2.2.2.1 x) hS hc rfl hd (kk _ _ _ hH hS hl hL)
  · cases ho
set_option maxHeartbeats 1000000 in
theorem zs_aaload  (X : zX p s m args meth c base fa D aC ro L0 M) (hz : zf M pc = some (.aaload)) {k : zK} (ho : zo ro M pc ls st h uc us (.aaload) = some k) (hH : zH base fa D aC h H) (hS : va_S (fun q => base ≤ q) s.heap H locs) (hl : lv_has A (zN M) (zlm base fa ls)) (hL : h.length = L0 + uc) (kk : zKK p l e s m args below meth c base fa D aC Q L0 M k) : W p l e (zrm M) s m args below meth c H locs uc us Q (F0 m pc A (st.map (zsh base fa))) := by
  obtain ⟨hx, hb, hml, hown, hts, hE, hin, hM, hs0⟩ := X
  obtain ⟨n0, hd, hn0⟩ := zf_spec hz
  have hn0 := hn0.resolve_left (fun q => by cases q)
  subst hn0
  simp only [zo] at ho
  split at ho
  · next i k st' =>
    split at ho
    · next n f hk =>
      split at ho
      · cases ho
      · next hc =>
        split at ho
        · next a ha =>
          obtain rfl := zgo_inj ho
          refine va_aldq (C := RX8) hx hb hE.1 hH k 3 (zwl_at hk) rfl hc hd ?_
          have h9 := kk _ _ _ hH hS hl hL
          simp only [ha, Option.map_some]
          exact h9
        · cases ho
    · cases ho
  · cases ho
set_option maxHeartbeats 1000000 in
theorem zs_iastore  (X : zX p s m args meth c base fa D aC ro L0 M) (hz : zf M pc = some (.iastore)) {k : zK} (ho : zo ro M pc ls st h uc us (.iastore) = some k) (hH : zH base fa D aC h H) (hS : va_S (fun q => base ≤ q) s.heap H locs) (hl : lv_has A (zN M) (zlm base fa ls)) (hL : h.length = L0 + uc) (kk : zKK p l e s m args below meth c base fa D aC Q L0 M k) : W p l e (zrm M) s m args below meth c H locs uc us Q (F0 m pc A (st.map (zsh base fa))) := by
  obtain ⟨hx, hb, hml, hown, hts, hE, hin, hM, hs0⟩ := X
  obtain ⟨n0, hd, hn0⟩ := zf_spec hz
  have hn0 := hn0.resolve_left (fun q => by cases q)
  subst hn0
  simp only [zo] at ho
  split at ho
  · next x i k st' =>
    split at ho
    · next n f hk =>
      split at ho
      · cases ho
      · next hc => obtain rfl := zgo_inj ho; exact va_iast hx hb hE.1 hH (zwl_D h) hS k 0 (zwl_at hk) rfl hc hd (fun H1 locs1 hP1 _ hS1 => kk H1 locs1 A (zH.set (e1 := (.inl (0, n, .inl (upd f i.toNatClampNeg x)))) hP1) hS1 hl (by rw [List.length_set]; exact hL))
    · cases ho
  · cases ho
set_option maxHeartbeats 1000000 in
theorem zs_bastore  (X : zX p s m args meth c base fa D aC ro L0 M) (hz : zf M pc = some (.bastore)) {k : zK} (ho : zo ro M pc ls st h uc us (.bastore) = some k) (hH : zH base fa D aC h H) (hS : va_S (fun q => base ≤ q) s.heap H locs) (hl : lv_has A (zN M) (zlm base fa ls)) (hL : h.length = L0 + uc) (kk : zKK p l e s m args below meth c base fa D aC Q L0 M k) : W p l e (zrm M) s m args below meth c H locs uc us Q (F0 m pc A (st.map (zsh base fa))) := by
  obtain ⟨hx, hb, hml, hown, hts, hE, hin, hM, hs0⟩ := X
  obtain ⟨n0, hd, hn0⟩ := zf_spec hz
  have hn0 := hn0.resolve_left (fun q => by cases q)
  subst hn0
  simp only [zo] at ho
  split at ho
  · next x i k st' =>
    split at ho
    · next n f hk =>
      split at ho
      · cases ho
      · next hc => obtain rfl := zgo_inj ho; exact va_zast hx hb hE.1 hH (zwl_D h) hS k 2 (zwl_at hk) rfl hc hd (fun H1 locs1 hP1 _ hS1 => kk H1 locs1 A (zH.set (e1 := (.inl (2, n, .inl (upd f i.toNatClampNeg (vp_nar .boolean x))))) hP1) hS1 hl (by rw [List.length_set]; exact hL))
    · cases ho
  · cases ho
set_option maxHeartbeats 1000000 in
theorem zs_lastore  (X : zX p s m args meth c base fa D aC ro L0 M) (hz : zf M pc = some (.lastore)) {k : zK} (ho : zo ro M pc ls st h uc us (.lastore) = some k) (hH : zH base fa D aC h H) (hS : va_S (fun q => base ≤ q) s.heap H locs) (hl : lv_has A (zN M) (zlm base fa ls)) (hL : h.length = L0 + uc) (kk : zKK p l e s m args below meth c base fa D aC Q L0 M k) : W p l e (zrm M) s m args below meth c H locs uc us Q (F0 m pc A (st.map (zsh base fa))) := by
  obtain ⟨hx, hb, hml, hown, hts, hE, hin, hM, hs0⟩ := X
  obtain ⟨n0, hd, hn0⟩ := zf_spec hz
  have hn0 := hn0.resolve_left (fun q => by cases q)
  subst hn0
  simp only [zo] at ho
  split at ho
  · next x i k st' =>
    split at ho
    · next n f hk =>
      split at ho
      · cases ho
      · next hc => obtain rfl := zgo_inj ho; exact va_last hx hb hE.1 hH (zwl_D h) hS k 1 (zwl_at hk) rfl hc hd (fun H1 locs1 hP1 _ hS1 => kk H1 locs1 A (zH.set (e1 := (.inl (1, n, .inr (.inl (vp_updL f i.toNatClampNeg x))))) hP1) hS1 hl (by rw [List.length_set]; exact hL))
    · cases ho
  · cases ho
set_option maxHeartbeats 1000000 in
theorem zs_aastore  (X : zX p s m args meth c base fa D aC ro L0 M) (hz : zf M pc = some (.aastore)) {k : zK} (ho : zo ro M pc ls st h uc us (.aastore) = some k) (hH : zH base fa D aC h H) (hS : va_S (fun q => base ≤ q) s.heap H locs) (hl : lv_has A (zN M) (zlm base fa ls)) (hL : h.length = L0 + uc) (kk : zKK p l e s m args below meth c base fa D aC Q L0 M k) : W p l e (zrm M) s m args below meth c H locs uc us Q (F0 m pc A (st.map (zsh base fa))) := by
  obtain ⟨hx, hb, hml, hown, hts, hE, hin, hM, hs0⟩ := X
  obtain ⟨n0, hd, hn0⟩ := zf_spec hz
  have hn0 := hn0.resolve_left (fun q => by cases q)
  subst hn0
  simp only [zo] at ho
  split at ho
  · next v i k st' =>
    split at ho
    · next n f ci vs hk hv =>
      split at ho
      · cases ho
      · next hc =>
        split at ho
        · next hci =>
          obtain rfl := zgo_inj ho
          have kk2 : ∀ (H1 : Heap) (locs1 : List Loc), va_P D vwCl ((zwl base fa aC h).set k (base + k, .inl (aC 3, n, .inr (.inr (.inr (.inr (va_up (fun i => (f i).map (fun k => base + k)) i.toNatClampNeg (some (base + v))))))))) H1 → va_D (fun q => base ≤ q) ((zwl base fa aC h).set k (base + k, .inl (aC 3, n, .inr (.inr (.inr (.inr (va_up (fun i => (f i).map (fun k => base + k)) i.toNatClampNeg (some (base + v))))))))) → va_S (fun q => base ≤ q) s.heap H1 locs1 → W p l e (zrm M) s m args below meth c H1 locs1 uc us Q (F0 m (pc + 1) A (st'.map (zsh base fa))) := by
            intro H1 locs1 hP1 _ hS1
            refine kk H1 locs1 A (zH.set (e1 := (.inl (3, n, .inr (.inr (.inr (.inr (va_up f i.toNatClampNeg (some v)))))))) ?_) hS1 hl (by rw [List.length_set]; exact hL)
            have e9 : (fun j => (va_up f i.toNatClampNeg (some v) j).map (fun k => base + k)) = va_up (fun i => (f i).map (fun k => base + k)) i.toNatClampNeg (some (base + v)) := by
              funext j
              unfold va_up
              by_cases hj : j = i.toNatClampNeg
              · rw [if_pos hj, if_pos hj]; rfl
              · rw [if_neg hj, if_neg hj]
            have e8 : zce base fa aC (.inl (3, n, .inr (.inr (.inr (.inr (va_up f i.toNatClampNeg (some v))))))) = .inl (aC 3, n, .inr (.inr (.inr (.inr (fun j => (va_up f i.toNatClampNeg (some v) j).map (fun k => base + k)))))) := rfl
            rw [e8, e9]
            exact hP1
          rcases hci with rfl | rfl | rfl | rfl | rfl
          · exact va_astq (r := (RX8, TX8, 1)) hx hb hE.1 hH (zwl_D h) hS k 3 v 8 (zwl_at hk) rfl (zwl_at hv) rfl hc hd kk2
          · exact va_astqO (E := RX8) (r := (RX6, TX6, 1)) hx hb hE.1 hH (zwl_D h) hS k 3 v 6 (zwl_at hk) rfl (hE.2.2.2.1 RX6 (by simp)) (zwl_at hv) rfl hc hd kk2
          · exact va_astqO (E := RX8) (r := (RX7, TX7, 1)) hx hb hE.1 hH (zwl_D h) hS k 3 v 7 (zwl_at hk) rfl (hE.2.2.2.1 RX7 (by simp)) (zwl_at hv) rfl hc hd kk2
          · exact va_astqO (E := RX8) (r := (RX2, TX2, 1)) hx hb hE.1 hH (zwl_D h) hS k 3 v 2 (zwl_at hk) rfl (hE.2.2.2.1 RX2 (by simp)) (zwl_at hv) rfl hc hd kk2
          · exact va_astqO (E := RX8) (r := (RX1, TX1, 1)) hx hb hE.1 hH (zwl_D h) hS k 3 v 1 (zwl_at hk) rfl (hE.2.2.2.1 RX1 (by simp)) (zwl_at hv) rfl hc hd kk2
        · cases ho
    · cases ho
  · cases ho
set_option maxHeartbeats 1000000 in
theorem zs_arraylength  (X : zX p s m args meth c base fa D aC ro L0 M) (hz : zf M pc = some (.arraylength)) {k : zK} (ho : zo ro M pc ls st h uc us (.arraylength) = some k) (hH : zH base fa D aC h H) (hS : va_S (fun q => base ≤ q) s.heap H locs) (hl : lv_has A (zN M) (zlm base fa ls)) (hL : h.length = L0 + uc) (kk : zKK p l e s m args below meth c base fa D aC Q L0 M k) : W p l e (zrm M) s m args below meth c H locs uc us Q (F0 m pc A (st.map (zsh base fa))) := by
  obtain ⟨hx, hb, hml, hown, hts, hE, hin, hM, hs0⟩ := X
  obtain ⟨n0, hd, hn0⟩ := zf_spec hz
  have hn0 := hn0.resolve_left (fun q => by cases q)
  subst hn0
  simp only [zo] at ho
  split at ho
  · next x st' => obtain rfl := zgo_inj ho; exact va_tlen hx hb (hE.2.2.2.2.1 x) hS rfl hd (kk _ _ _ hH hS hl hL)
  · cases ho
set_option maxHeartbeats 1000000 in
theorem zs_getstatic {n : Nat} (X : zX p s m args meth c base fa D aC ro L0 M) (hz : zf M pc = some (.getstatic n)) {k : zK} (ho : zo ro M pc ls st h uc us (.getstatic n) = some k) (hH : zH base fa D aC h H) (hS : va_S (fun q => base ≤ q) s.heap H locs) (hl : lv_has A (zN M) (zlm base fa ls)) (hL : h.length = L0 + uc) (kk : zKK p l e s m args below meth c base fa D aC Q L0 M k) : W p l e (zrm M) s m args below meth c H locs uc us Q (F0 m pc A (st.map (zsh base fa))) := by
  obtain ⟨hx, hb, hml, hown, hts, hE, hin, hM, hs0⟩ := X
  obtain ⟨n0, hd, hn0⟩ := zf_spec hz
  have hn0 := hn0.resolve_left (fun q => by cases q)
  subst hn0
  simp only [zo] at ho
  split at ho
  · next hc =>
    obtain rfl := zgo_inj ho
    obtain ⟨h11, rfl⟩ := hc
    have ho1 : (zy M).cls = RX11 := by rw [(zown_at M hM).1, h11]; rfl
    exact va_gets (C := RX11) (ref := "HeronsBench") hx hb hE.2.2.2.2.2.1 hS (ho1 ▸ hown) (hts _ zw_k) (fun _ h9 => h9) hd (kk _ _ _ hH hS hl hL)
  · cases ho
end ZSH
