section ZST
variable {p : Program} {l : Launch} {e : Env} {s : State} {m : MethodId} {args : Array Value} {below : List Frame} {meth : Method} {c : Code} {base : Nat} {fa : UInt32 → Nat} {D : va_G} {aC : Nat → ClassId} {ro : UInt32 → Nat × (Nat → Int32)} {Q : State → Prop} {L0 M pc : Nat} {ls : List (Nat × Value)} {st : List Value} {h : List va_E} {uc us : Nat} {H : Heap} {locs : List Loc} {A : Array Slot}
/-- what a step needs of the machine's next place -/
def zKK (p : Program) (l : Launch) (e : Env) (s : State) (m : MethodId) (args : Array Value) (below : List Frame) (meth : Method) (c : Code) (base : Nat) (fa : UInt32 → Nat) (D : va_G) (aC : Nat → ClassId) (Q : State → Prop) (L0 M : Nat) (k : zK) : Prop := match k with
  | .inl q => ∀ (H1 : Heap) (locs1 : List Loc) (A1 : Array Slot), zH base fa D aC q.2.2.2.1 H1 → va_S (fun q => base ≤ q) s.heap H1 locs1 → lv_has A1 (zN M) (zlm base fa q.2.1) → q.2.2.2.1.length = L0 + q.2.2.2.2.1 → W p l e (zrm M) s m args below meth c H1 locs1 q.2.2.2.2.1 q.2.2.2.2.2 Q (F0 m q.1 A1 (q.2.2.1.map (zsh base fa)))
  | .inr _ => True
theorem zs_iconst {n : Int} (X : zX p s m args meth c base fa D aC ro L0 M) (hz : zf M pc = some (.iconst n)) {k : zK} (ho : zo ro M pc ls st h uc us (.iconst n) = some k) (hH : zH base fa D aC h H) (hS : va_S (fun q => base ≤ q) s.heap H locs) (hl : lv_has A (zN M) (zlm base fa ls)) (hL : h.length = L0 + uc) (kk : zKK p l e s m args below meth c base fa D aC Q L0 M k) : W p l e (zrm M) s m args below meth c H locs uc us Q (F0 m pc A (st.map (zsh base fa))) := by
  obtain ⟨hx, hb, hml, hown, hts, hE, hin, hM, hs0⟩ := X
  obtain ⟨n0, hd, hn0⟩ := zf_spec hz
  have hn0 := hn0.resolve_left (fun q => by cases q)
  subst hn0
  obtain rfl := zgo_inj ho
  exact lv_iconst hx hb hd rfl (kk _ _ _ hH hS hl hL)
theorem zs_bipush {n : Int} (X : zX p s m args meth c base fa D aC ro L0 M) (hz : zf M pc = some (.bipush n)) {k : zK} (ho : zo ro M pc ls st h uc us (.bipush n) = some k) (hH : zH base fa D aC h H) (hS : va_S (fun q => base ≤ q) s.heap H locs) (hl : lv_has A (zN M) (zlm base fa ls)) (hL : h.length = L0 + uc) (kk : zKK p l e s m args below meth c base fa D aC Q L0 M k) : W p l e (zrm M) s m args below meth c H locs uc us Q (F0 m pc A (st.map (zsh base fa))) := by
  obtain ⟨hx, hb, hml, hown, hts, hE, hin, hM, hs0⟩ := X
  obtain ⟨n0, hd, hn0⟩ := zf_spec hz
  have hn0 := hn0.resolve_left (fun q => by cases q)
  subst hn0
  obtain rfl := zgo_inj ho
  exact lv_bipush hx hb hd rfl (kk _ _ _ hH hS hl hL)
theorem zs_sipush {n : Int} (X : zX p s m args meth c base fa D aC ro L0 M) (hz : zf M pc = some (.sipush n)) {k : zK} (ho : zo ro M pc ls st h uc us (.sipush n) = some k) (hH : zH base fa D aC h H) (hS : va_S (fun q => base ≤ q) s.heap H locs) (hl : lv_has A (zN M) (zlm base fa ls)) (hL : h.length = L0 + uc) (kk : zKK p l e s m args below meth c base fa D aC Q L0 M k) : W p l e (zrm M) s m args below meth c H locs uc us Q (F0 m pc A (st.map (zsh base fa))) := by
  obtain ⟨hx, hb, hml, hown, hts, hE, hin, hM, hs0⟩ := X
  obtain ⟨n0, hd, hn0⟩ := zf_spec hz
  have hn0 := hn0.resolve_left (fun q => by cases q)
  subst hn0
  obtain rfl := zgo_inj ho
  exact lv_sipush hx hb hd rfl (kk _ _ _ hH hS hl hL)
theorem zs_lconst {n : Fin 2} (X : zX p s m args meth c base fa D aC ro L0 M) (hz : zf M pc = some (.lconst n)) {k : zK} (ho : zo ro M pc ls st h uc us (.lconst n) = some k) (hH : zH base fa D aC h H) (hS : va_S (fun q => base ≤ q) s.heap H locs) (hl : lv_has A (zN M) (zlm base fa ls)) (hL : h.length = L0 + uc) (kk : zKK p l e s m args below meth c base fa D aC Q L0 M k) : W p l e (zrm M) s m args below meth c H locs uc us Q (F0 m pc A (st.map (zsh base fa))) := by
  obtain ⟨hx, hb, hml, hown, hts, hE, hin, hM, hs0⟩ := X
  obtain ⟨n0, hd, hn0⟩ := zf_spec hz
  have hn0 := hn0.resolve_left (fun q => by cases q)
  subst hn0
  obtain rfl := zgo_inj ho
  exact lv_lconst hx hb hd rfl (kk _ _ _ hH hS hl hL)
theorem zs_iload_n {n : Fin 4} (X : zX p s m args meth c base fa D aC ro L0 M) (hz : zf M pc = some (.iload_n n)) {k : zK} (ho : zo ro M pc ls st h uc us (.iload_n n) = some k) (hH : zH base fa D aC h H) (hS : va_S (fun q => base ≤ q) s.heap H locs) (hl : lv_has A (zN M) (zlm base fa ls)) (hL : h.length = L0 + uc) (kk : zKK p l e s m args below meth c base fa D aC Q L0 M k) : W p l e (zrm M) s m args below meth c H locs uc us Q (F0 m pc A (st.map (zsh base fa))) := by
  obtain ⟨hx, hb, hml, hown, hts, hE, hin, hM, hs0⟩ := X
  obtain ⟨n0, hd, hn0⟩ := zf_spec hz
  have hn0 := hn0.resolve_left (fun q => by cases q)
  subst hn0
  simp only [zo] at ho
  split at ho
  · next x hv => obtain rfl := zgo_inj ho; exact lv_iload_n hx hb hd rfl (zlm_at hl hv) (kk _ _ _ hH hS hl hL)
  · cases ho
theorem zs_iload {n : Nat} (X : zX p s m args meth c base fa D aC ro L0 M) (hz : zf M pc = some (.iload n)) {k : zK} (ho : zo ro M pc ls st h uc us (.iload n) = some k) (hH : zH base fa D aC h H) (hS : va_S (fun q => base ≤ q) s.heap H locs) (hl : lv_has A (zN M) (zlm base fa ls)) (hL : h.length = L0 + uc) (kk : zKK p l e s m args below meth c base fa D aC Q L0 M k) : W p l e (zrm M) s m args below meth c H locs uc us Q (F0 m pc A (st.map (zsh base fa))) := by
  obtain ⟨hx, hb, hml, hown, hts, hE, hin, hM, hs0⟩ := X
  obtain ⟨n0, hd, hn0⟩ := zf_spec hz
  have hn0 := hn0.resolve_left (fun q => by cases q)
  subst hn0
  simp only [zo] at ho
  split at ho
  · next x hv => obtain rfl := zgo_inj ho; exact lv_iload hx hb hd (zlm_at hl hv) (kk _ _ _ hH hS hl hL)
  · cases ho
theorem zs_lload_n {n : Fin 4} (X : zX p s m args meth c base fa D aC ro L0 M) (hz : zf M pc = some (.lload_n n)) {k : zK} (ho : zo ro M pc ls st h uc us (.lload_n n) = some k) (hH : zH base fa D aC h H) (hS : va_S (fun q => base ≤ q) s.heap H locs) (hl : lv_has A (zN M) (zlm base fa ls)) (hL : h.length = L0 + uc) (kk : zKK p l e s m args below meth c base fa D aC Q L0 M k) : W p l e (zrm M) s m args below meth c H locs uc us Q (F0 m pc A (st.map (zsh base fa))) := by
  obtain ⟨hx, hb, hml, hown, hts, hE, hin, hM, hs0⟩ := X
  obtain ⟨n0, hd, hn0⟩ := zf_spec hz
  have hn0 := hn0.resolve_left (fun q => by cases q)
  subst hn0
  simp only [zo] at ho
  split at ho
  · next x hv => obtain rfl := zgo_inj ho; exact lv_lload_n hx hb hd rfl (zlm_at hl hv) (kk _ _ _ hH hS hl hL)
  · cases ho
theorem zs_lload {n : Nat} (X : zX p s m args meth c base fa D aC ro L0 M) (hz : zf M pc = some (.lload n)) {k : zK} (ho : zo ro M pc ls st h uc us (.lload n) = some k) (hH : zH base fa D aC h H) (hS : va_S (fun q => base ≤ q) s.heap H locs) (hl : lv_has A (zN M) (zlm base fa ls)) (hL : h.length = L0 + uc) (kk : zKK p l e s m args below meth c base fa D aC Q L0 M k) : W p l e (zrm M) s m args below meth c H locs uc us Q (F0 m pc A (st.map (zsh base fa))) := by
  obtain ⟨hx, hb, hml, hown, hts, hE, hin, hM, hs0⟩ := X
  obtain ⟨n0, hd, hn0⟩ := zf_spec hz
  have hn0 := hn0.resolve_left (fun q => by cases q)
  subst hn0
  simp only [zo] at ho
  split at ho
  · next x hv => obtain rfl := zgo_inj ho; exact lv_lload hx hb hd (zlm_at hl hv) (kk _ _ _ hH hS hl hL)
  · cases ho
theorem zs_aload {n : Nat} (X : zX p s m args meth c base fa D aC ro L0 M) (hz : zf M pc = some (.aload n)) {k : zK} (ho : zo ro M pc ls st h uc us (.aload n) = some k) (hH : zH base fa D aC h H) (hS : va_S (fun q => base ≤ q) s.heap H locs) (hl : lv_has A (zN M) (zlm base fa ls)) (hL : h.length = L0 + uc) (kk : zKK p l e s m args below meth c base fa D aC Q L0 M k) : W p l e (zrm M) s m args below meth c H locs uc us Q (F0 m pc A (st.map (zsh base fa))) := by
  obtain ⟨hx, hb, hml, hown, hts, hE, hin, hM, hs0⟩ := X
  obtain ⟨n0, hd, hn0⟩ := zf_spec hz
  have hn0 := hn0.resolve_left (fun q => by cases q)
  subst hn0
  simp only [zo] at ho
  split at ho
  · next x hv => obtain rfl := zgo_inj ho; exact lv_aload hx hb hd (zlm_at hl hv) (kk _ _ _ hH hS hl hL)
  · cases ho
theorem zs_aload_n {n : Fin 4} (X : zX p s m args meth c base fa D aC ro L0 M) (hz : zf M pc = some (.aload_n n)) {k : zK} (ho : zo ro M pc ls st h uc us (.aload_n n) = some k) (hH : zH base fa D aC h H) (hS : va_S (fun q => base ≤ q) s.heap H locs) (hl : lv_has A (zN M) (zlm base fa ls)) (hL : h.length = L0 + uc) (kk : zKK p l e s m args below meth c base fa D aC Q L0 M k) : W p l e (zrm M) s m args below meth c H locs uc us Q (F0 m pc A (st.map (zsh base fa))) := by
  obtain ⟨hx, hb, hml, hown, hts, hE, hin, hM, hs0⟩ := X
  obtain ⟨n0, hd, hn0⟩ := zf_spec hz
  have hn0 := hn0.resolve_left (fun q => by cases q)
  subst hn0
  simp only [zo] at ho
  split at ho
  · next x hv => obtain rfl := zgo_inj ho; exact lv_aload_n hx hb hd rfl (zlm_at hl hv) (kk _ _ _ hH hS hl hL)
  · next x hv => obtain rfl := zgo_inj ho; exact lv_aload_n hx hb hd rfl (zlm_at hl hv) (kk _ _ _ hH hS hl hL)
  · cases ho
theorem zs_istore_n {n : Fin 4} (X : zX p s m args meth c base fa D aC ro L0 M) (hz : zf M pc = some (.istore_n n)) {k : zK} (ho : zo ro M pc ls st h uc us (.istore_n n) = some k) (hH : zH base fa D aC h H) (hS : va_S (fun q => base ≤ q) s.heap H locs) (hl : lv_has A (zN M) (zlm base fa ls)) (hL : h.length = L0 + uc) (kk : zKK p l e s m args below meth c base fa D aC Q L0 M k) : W p l e (zrm M) s m args below meth c H locs uc us Q (F0 m pc A (st.map (zsh base fa))) := by
  obtain ⟨hx, hb, hml, hown, hts, hE, hin, hM, hs0⟩ := X
  obtain ⟨n0, hd, hn0⟩ := zf_spec hz
  have hn0 := hn0.resolve_left (fun q => by cases q)
  subst hn0
  simp only [zo] at ho
  split at ho
  · next x st' =>
    split at ho
    · next hk => obtain rfl := zgo_inj ho; exact lv_istore_n hx hb hd rfl hl hk rfl (fun A1 hl1 => kk _ _ A1 hH hS (zlm_s1 (v := .int x) hl1) hL)
    · cases ho
  · cases ho
theorem zs_istore {n : Nat} (X : zX p s m args meth c base fa D aC ro L0 M) (hz : zf M pc = some (.istore n)) {k : zK} (ho : zo ro M pc ls st h uc us (.istore n) = some k) (hH : zH base fa D aC h H) (hS : va_S (fun q => base ≤ q) s.heap H locs) (hl : lv_has A (zN M) (zlm base fa ls)) (hL : h.length = L0 + uc) (kk : zKK p l e s m args below meth c base fa D aC Q L0 M k) : W p l e (zrm M) s m args below meth c H locs uc us Q (F0 m pc A (st.map (zsh base fa))) := by
  obtain ⟨hx, hb, hml, hown, hts, hE, hin, hM, hs0⟩ := X
  obtain ⟨n0, hd, hn0⟩ := zf_spec hz
  have hn0 := hn0.resolve_left (fun q => by cases q)
  subst hn0
  simp only [zo] at ho
  split at ho
  · next x st' =>
    split at ho
    · next hk => obtain rfl := zgo_inj ho; exact lv_istore hx hb hd hl hk rfl (fun A1 hl1 => kk _ _ A1 hH hS (zlm_s1 (v := .int x) hl1) hL)
    · cases ho
  · cases ho
theorem zs_lstore_n {n : Fin 4} (X : zX p s m args meth c base fa D aC ro L0 M) (hz : zf M pc = some (.lstore_n n)) {k : zK} (ho : zo ro M pc ls st h uc us (.lstore_n n) = some k) (hH : zH base fa D aC h H) (hS : va_S (fun q => base ≤ q) s.heap H locs) (hl : lv_has A (zN M) (zlm base fa ls)) (hL : h.length = L0 + uc) (kk : zKK p l e s m args below meth c base fa D aC Q L0 M k) : W p l e (zrm M) s m args below meth c H locs uc us Q (F0 m pc A (st.map (zsh base fa))) := by
  obtain ⟨hx, hb, hml, hown, hts, hE, hin, hM, hs0⟩ := X
  obtain ⟨n0, hd, hn0⟩ := zf_spec hz
  have hn0 := hn0.resolve_left (fun q => by cases q)
  subst hn0
  simp only [zo] at ho
  split at ho
  · next x st' =>
    split at ho
    · next hk => obtain rfl := zgo_inj ho; exact lv_lstore_n hx hb hd rfl hl hk rfl (fun A1 hl1 => kk _ _ A1 hH hS (zlm_s2 (v := .long x) hl1) hL)
    · cases ho
  · cases ho
theorem zs_lstore {n : Nat} (X : zX p s m args meth c base fa D aC ro L0 M) (hz : zf M pc = some (.lstore n)) {k : zK} (ho : zo ro M pc ls st h uc us (.lstore n) = some k) (hH : zH base fa D aC h H) (hS : va_S (fun q => base ≤ q) s.heap H locs) (hl : lv_has A (zN M) (zlm base fa ls)) (hL : h.length = L0 + uc) (kk : zKK p l e s m args below meth c base fa D aC Q L0 M k) : W p l e (zrm M) s m args below meth c H locs uc us Q (F0 m pc A (st.map (zsh base fa))) := by
  obtain ⟨hx, hb, hml, hown, hts, hE, hin, hM, hs0⟩ := X
  obtain ⟨n0, hd, hn0⟩ := zf_spec hz
  have hn0 := hn0.resolve_left (fun q => by cases q)
  subst hn0
  simp only [zo] at ho
  split at ho
  · next x st' =>
    split at ho
    · next hk => obtain rfl := zgo_inj ho; exact lv_lstore hx hb hd hl hk rfl (fun A1 hl1 => kk _ _ A1 hH hS (zlm_s2 (v := .long x) hl1) hL)
    · cases ho
  · cases ho
theorem zs_astore_n {n : Fin 4} (X : zX p s m args meth c base fa D aC ro L0 M) (hz : zf M pc = some (.astore_n n)) {k : zK} (ho : zo ro M pc ls st h uc us (.astore_n n) = some k) (hH : zH base fa D aC h H) (hS : va_S (fun q => base ≤ q) s.heap H locs) (hl : lv_has A (zN M) (zlm base fa ls)) (hL : h.length = L0 + uc) (kk : zKK p l e s m args below meth c base fa D aC Q L0 M k) : W p l e (zrm M) s m args below meth c H locs uc us Q (F0 m pc A (st.map (zsh base fa))) := by
  obtain ⟨hx, hb, hml, hown, hts, hE, hin, hM, hs0⟩ := X
  obtain ⟨n0, hd, hn0⟩ := zf_spec hz
  have hn0 := hn0.resolve_left (fun q => by cases q)
  subst hn0
  simp only [zo] at ho
  split at ho
  · next x st' =>
    split at ho
    · next hk => obtain rfl := zgo_inj ho; exact lv_astore_n hx hb hd rfl hl hk rfl (fun A1 hl1 => kk _ _ A1 hH hS (zlm_s1 (v := .ref x) hl1) hL)
    · cases ho
  · cases ho
theorem zs_astore {n : Nat} (X : zX p s m args meth c base fa D aC ro L0 M) (hz : zf M pc = some (.astore n)) {k : zK} (ho : zo ro M pc ls st h uc us (.astore n) = some k) (hH : zH base fa D aC h H) (hS : va_S (fun q => base ≤ q) s.heap H locs) (hl : lv_has A (zN M) (zlm base fa ls)) (hL : h.length = L0 + uc) (kk : zKK p l e s m args below meth c base fa D aC Q L0 M k) : W p l e (zrm M) s m args below meth c H locs uc us Q (F0 m pc A (st.map (zsh base fa))) := by
  obtain ⟨hx, hb, hml, hown, hts, hE, hin, hM, hs0⟩ := X
  obtain ⟨n0, hd, hn0⟩ := zf_spec hz
  have hn0 := hn0.resolve_left (fun q => by cases q)
  subst hn0
  simp only [zo] at ho
  split at ho
  · next x st' =>
    split at ho
    · next hk => obtain rfl := zgo_inj ho; exact lv_astore hx hb hd hl hk rfl (fun A1 hl1 => kk _ _ A1 hH hS (zlm_s1 (v := .ref x) hl1) hL)
    · cases ho
  · cases ho
theorem zs_iinc {n : Nat} {d : Int} (X : zX p s m args meth c base fa D aC ro L0 M) (hz : zf M pc = some (.iinc n d)) {k : zK} (ho : zo ro M pc ls st h uc us (.iinc n d) = some k) (hH : zH base fa D aC h H) (hS : va_S (fun q => base ≤ q) s.heap H locs) (hl : lv_has A (zN M) (zlm base fa ls)) (hL : h.length = L0 + uc) (kk : zKK p l e s m args below meth c base fa D aC Q L0 M k) : W p l e (zrm M) s m args below meth c H locs uc us Q (F0 m pc A (st.map (zsh base fa))) := by
  obtain ⟨hx, hb, hml, hown, hts, hE, hin, hM, hs0⟩ := X
  obtain ⟨n0, hd, hn0⟩ := zf_spec hz
  have hn0 := hn0.resolve_left (fun q => by cases q)
  subst hn0
  simp only [zo] at ho
  split at ho
  · next x hv =>
    split at ho
    · next hk =>
      obtain rfl := zgo_inj ho
      obtain ⟨q, hq⟩ := List.getElem?_of_mem (List.mem_map.mpr ⟨(n, Value.int x), zld_mem hv, rfl⟩ : (n, zsh base fa (Value.int x)) ∈ zlm base fa ls)
      exact lv_iinc hx hb hd hl (k := q) hq rfl hk rfl (fun A1 hl1 => kk _ _ A1 hH hS (zlm_s1 (v := .int (x + Int32.ofInt d)) hl1) hL)
    · cases ho
  · cases ho
theorem zs_iadd  (X : zX p s m args meth c base fa D aC ro L0 M) (hz : zf M pc = some (.iadd)) {k : zK} (ho : zo ro M pc ls st h uc us (.iadd) = some k) (hH : zH base fa D aC h H) (hS : va_S (fun q => base ≤ q) s.heap H locs) (hl : lv_has A (zN M) (zlm base fa ls)) (hL : h.length = L0 + uc) (kk : zKK p l e s m args below meth c base fa D aC Q L0 M k) : W p l e (zrm M) s m args below meth c H locs uc us Q (F0 m pc A (st.map (zsh base fa))) := by
  obtain ⟨hx, hb, hml, hown, hts, hE, hin, hM, hs0⟩ := X
  obtain ⟨n0, hd, hn0⟩ := zf_spec hz
  have hn0 := hn0.resolve_left (fun q => by cases q)
  subst hn0
  simp only [zo] at ho
  split at ho
  · obtain rfl := zgo_inj ho; exact lv_iadd hx hb hd (kk _ _ _ hH hS hl hL)
  · cases ho
theorem zs_isub  (X : zX p s m args meth c base fa D aC ro L0 M) (hz : zf M pc = some (.isub)) {k : zK} (ho : zo ro M pc ls st h uc us (.isub) = some k) (hH : zH base fa D aC h H) (hS : va_S (fun q => base ≤ q) s.heap H locs) (hl : lv_has A (zN M) (zlm base fa ls)) (hL : h.length = L0 + uc) (kk : zKK p l e s m args below meth c base fa D aC Q L0 M k) : W p l e (zrm M) s m args below meth c H locs uc us Q (F0 m pc A (st.map (zsh base fa))) := by
  obtain ⟨hx, hb, hml, hown, hts, hE, hin, hM, hs0⟩ := X
  obtain ⟨n0, hd, hn0⟩ := zf_spec hz
  have hn0 := hn0.resolve_left (fun q => by cases q)
  subst hn0
  simp only [zo] at ho
  split at ho
  · obtain rfl := zgo_inj ho; exact lv_isub hx hb hd (kk _ _ _ hH hS hl hL)
  · cases ho
theorem zs_imul  (X : zX p s m args meth c base fa D aC ro L0 M) (hz : zf M pc = some (.imul)) {k : zK} (ho : zo ro M pc ls st h uc us (.imul) = some k) (hH : zH base fa D aC h H) (hS : va_S (fun q => base ≤ q) s.heap H locs) (hl : lv_has A (zN M) (zlm base fa ls)) (hL : h.length = L0 + uc) (kk : zKK p l e s m args below meth c base fa D aC Q L0 M k) : W p l e (zrm M) s m args below meth c H locs uc us Q (F0 m pc A (st.map (zsh base fa))) := by
  obtain ⟨hx, hb, hml, hown, hts, hE, hin, hM, hs0⟩ := X
  obtain ⟨n0, hd, hn0⟩ := zf_spec hz
  have hn0 := hn0.resolve_left (fun q => by cases q)
  subst hn0
  simp only [zo] at ho
  split at ho
  · obtain rfl := zgo_inj ho; exact lv_imul hx hb hd (kk _ _ _ hH hS hl hL)
  · cases ho
theorem zs_iand  (X : zX p s m args meth c base fa D aC ro L0 M) (hz : zf M pc = some (.iand)) {k : zK} (ho : zo ro M pc ls st h uc us (.iand) = some k) (hH : zH base fa D aC h H) (hS : va_S (fun q => base ≤ q) s.heap H locs) (hl : lv_has A (zN M) (zlm base fa ls)) (hL : h.length = L0 + uc) (kk : zKK p l e s m args below meth c base fa D aC Q L0 M k) : W p l e (zrm M) s m args below meth c H locs uc us Q (F0 m pc A (st.map (zsh base fa))) := by
  obtain ⟨hx, hb, hml, hown, hts, hE, hin, hM, hs0⟩ := X
  obtain ⟨n0, hd, hn0⟩ := zf_spec hz
  have hn0 := hn0.resolve_left (fun q => by cases q)
  subst hn0
  simp only [zo] at ho
  split at ho
  · obtain rfl := zgo_inj ho; exact lv_iand hx hb hd (kk _ _ _ hH hS hl hL)
  · cases ho
theorem zs_ior  (X : zX p s m args meth c base fa D aC ro L0 M) (hz : zf M pc = some (.ior)) {k : zK} (ho : zo ro M pc ls st h uc us (.ior) = some k) (hH : zH base fa D aC h H) (hS : va_S (fun q => base ≤ q) s.heap H locs) (hl : lv_has A (zN M) (zlm base fa ls)) (hL : h.length = L0 + uc) (kk : zKK p l e s m args below meth c base fa D aC Q L0 M k) : W p l e (zrm M) s m args below meth c H locs uc us Q (F0 m pc A (st.map (zsh base fa))) := by
  obtain ⟨hx, hb, hml, hown, hts, hE, hin, hM, hs0⟩ := X
  obtain ⟨n0, hd, hn0⟩ := zf_spec hz
  have hn0 := hn0.resolve_left (fun q => by cases q)
  subst hn0
  simp only [zo] at ho
  split at ho
  · obtain rfl := zgo_inj ho; exact lv_ior hx hb hd (kk _ _ _ hH hS hl hL)
  · cases ho
theorem zs_ixor  (X : zX p s m args meth c base fa D aC ro L0 M) (hz : zf M pc = some (.ixor)) {k : zK} (ho : zo ro M pc ls st h uc us (.ixor) = some k) (hH : zH base fa D aC h H) (hS : va_S (fun q => base ≤ q) s.heap H locs) (hl : lv_has A (zN M) (zlm base fa ls)) (hL : h.length = L0 + uc) (kk : zKK p l e s m args below meth c base fa D aC Q L0 M k) : W p l e (zrm M) s m args below meth c H locs uc us Q (F0 m pc A (st.map (zsh base fa))) := by
  obtain ⟨hx, hb, hml, hown, hts, hE, hin, hM, hs0⟩ := X
  obtain ⟨n0, hd, hn0⟩ := zf_spec hz
  have hn0 := hn0.resolve_left (fun q => by cases q)
  subst hn0
  simp only [zo] at ho
  split at ho
  · obtain rfl := zgo_inj ho; exact lv_ixor hx hb hd (kk _ _ _ hH hS hl hL)
  · cases ho
theorem zs_ishl  (X : zX p s m args meth c base fa D aC ro L0 M) (hz : zf M pc = some (.ishl)) {k : zK} (ho : zo ro M pc ls st h uc us (.ishl) = some k) (hH : zH base fa D aC h H) (hS : va_S (fun q => base ≤ q) s.heap H locs) (hl : lv_has A (zN M) (zlm base fa ls)) (hL : h.length = L0 + uc) (kk : zKK p l e s m args below meth c base fa D aC Q L0 M k) : W p l e (zrm M) s m args below meth c H locs uc us Q (F0 m pc A (st.map (zsh base fa))) := by
  obtain ⟨hx, hb, hml, hown, hts, hE, hin, hM, hs0⟩ := X
  obtain ⟨n0, hd, hn0⟩ := zf_spec hz
  have hn0 := hn0.resolve_left (fun q => by cases q)
  subst hn0
  simp only [zo] at ho
  split at ho
  · obtain rfl := zgo_inj ho; exact lv_ishl hx hb hd (kk _ _ _ hH hS hl hL)
  · cases ho
theorem zs_ishr  (X : zX p s m args meth c base fa D aC ro L0 M) (hz : zf M pc = some (.ishr)) {k : zK} (ho : zo ro M pc ls st h uc us (.ishr) = some k) (hH : zH base fa D aC h H) (hS : va_S (fun q => base ≤ q) s.heap H locs) (hl : lv_has A (zN M) (zlm base fa ls)) (hL : h.length = L0 + uc) (kk : zKK p l e s m args below meth c base fa D aC Q L0 M k) : W p l e (zrm M) s m args below meth c H locs uc us Q (F0 m pc A (st.map (zsh base fa))) := by
  obtain ⟨hx, hb, hml, hown, hts, hE, hin, hM, hs0⟩ := X
  obtain ⟨n0, hd, hn0⟩ := zf_spec hz
  have hn0 := hn0.resolve_left (fun q => by cases q)
  subst hn0
  simp only [zo] at ho
  split at ho
  · obtain rfl := zgo_inj ho; exact lv_ishr hx hb hd (kk _ _ _ hH hS hl hL)
  · cases ho
theorem zs_ladd  (X : zX p s m args meth c base fa D aC ro L0 M) (hz : zf M pc = some (.ladd)) {k : zK} (ho : zo ro M pc ls st h uc us (.ladd) = some k) (hH : zH base fa D aC h H) (hS : va_S (fun q => base ≤ q) s.heap H locs) (hl : lv_has A (zN M) (zlm base fa ls)) (hL : h.length = L0 + uc) (kk : zKK p l e s m args below meth c base fa D aC Q L0 M k) : W p l e (zrm M) s m args below meth c H locs uc us Q (F0 m pc A (st.map (zsh base fa))) := by
  obtain ⟨hx, hb, hml, hown, hts, hE, hin, hM, hs0⟩ := X
  obtain ⟨n0, hd, hn0⟩ := zf_spec hz
  have hn0 := hn0.resolve_left (fun q => by cases q)
  subst hn0
  simp only [zo] at ho
  split at ho
  · obtain rfl := zgo_inj ho; exact lv_ladd hx hb hd (kk _ _ _ hH hS hl hL)
  · cases ho
theorem zs_lsub  (X : zX p s m args meth c base fa D aC ro L0 M) (hz : zf M pc = some (.lsub)) {k : zK} (ho : zo ro M pc ls st h uc us (.lsub) = some k) (hH : zH base fa D aC h H) (hS : va_S (fun q => base ≤ q) s.heap H locs) (hl : lv_has A (zN M) (zlm base fa ls)) (hL : h.length = L0 + uc) (kk : zKK p l e s m args below meth c base fa D aC Q L0 M k) : W p l e (zrm M) s m args below meth c H locs uc us Q (F0 m pc A (st.map (zsh base fa))) := by
  obtain ⟨hx, hb, hml, hown, hts, hE, hin, hM, hs0⟩ := X
  obtain ⟨n0, hd, hn0⟩ := zf_spec hz
  have hn0 := hn0.resolve_left (fun q => by cases q)
  subst hn0
  simp only [zo] at ho
  split at ho
  · obtain rfl := zgo_inj ho; exact lv_lsub hx hb hd (kk _ _ _ hH hS hl hL)
  · cases ho
theorem zs_lmul  (X : zX p s m args meth c base fa D aC ro L0 M) (hz : zf M pc = some (.lmul)) {k : zK} (ho : zo ro M pc ls st h uc us (.lmul) = some k) (hH : zH base fa D aC h H) (hS : va_S (fun q => base ≤ q) s.heap H locs) (hl : lv_has A (zN M) (zlm base fa ls)) (hL : h.length = L0 + uc) (kk : zKK p l e s m args below meth c base fa D aC Q L0 M k) : W p l e (zrm M) s m args below meth c H locs uc us Q (F0 m pc A (st.map (zsh base fa))) := by
  obtain ⟨hx, hb, hml, hown, hts, hE, hin, hM, hs0⟩ := X
  obtain ⟨n0, hd, hn0⟩ := zf_spec hz
  have hn0 := hn0.resolve_left (fun q => by cases q)
  subst hn0
  simp only [zo] at ho
  split at ho
  · obtain rfl := zgo_inj ho; exact lv_lmul hx hb hd (kk _ _ _ hH hS hl hL)
  · cases ho
theorem zs_lor  (X : zX p s m args meth c base fa D aC ro L0 M) (hz : zf M pc = some (.lor)) {k : zK} (ho : zo ro M pc ls st h uc us (.lor) = some k) (hH : zH base fa D aC h H) (hS : va_S (fun q => base ≤ q) s.heap H locs) (hl : lv_has A (zN M) (zlm base fa ls)) (hL : h.length = L0 + uc) (kk : zKK p l e s m args below meth c base fa D aC Q L0 M k) : W p l e (zrm M) s m args below meth c H locs uc us Q (F0 m pc A (st.map (zsh base fa))) := by
  obtain ⟨hx, hb, hml, hown, hts, hE, hin, hM, hs0⟩ := X
  obtain ⟨n0, hd, hn0⟩ := zf_spec hz
  have hn0 := hn0.resolve_left (fun q => by cases q)
  subst hn0
  simp only [zo] at ho
  split at ho
  · obtain rfl := zgo_inj ho; exact lv_lor hx hb hd (kk _ _ _ hH hS hl hL)
  · cases ho
theorem zs_ineg  (X : zX p s m args meth c base fa D aC ro L0 M) (hz : zf M pc = some (.ineg)) {k : zK} (ho : zo ro M pc ls st h uc us (.ineg) = some k) (hH : zH base fa D aC h H) (hS : va_S (fun q => base ≤ q) s.heap H locs) (hl : lv_has A (zN M) (zlm base fa ls)) (hL : h.length = L0 + uc) (kk : zKK p l e s m args below meth c base fa D aC Q L0 M k) : W p l e (zrm M) s m args below meth c H locs uc us Q (F0 m pc A (st.map (zsh base fa))) := by
  obtain ⟨hx, hb, hml, hown, hts, hE, hin, hM, hs0⟩ := X
  obtain ⟨n0, hd, hn0⟩ := zf_spec hz
  have hn0 := hn0.resolve_left (fun q => by cases q)
  subst hn0
  simp only [zo] at ho
  split at ho
  · obtain rfl := zgo_inj ho; exact lv_ineg hx hb hd (kk _ _ _ hH hS hl hL)
  · cases ho
theorem zs_lneg  (X : zX p s m args meth c base fa D aC ro L0 M) (hz : zf M pc = some (.lneg)) {k : zK} (ho : zo ro M pc ls st h uc us (.lneg) = some k) (hH : zH base fa D aC h H) (hS : va_S (fun q => base ≤ q) s.heap H locs) (hl : lv_has A (zN M) (zlm base fa ls)) (hL : h.length = L0 + uc) (kk : zKK p l e s m args below meth c base fa D aC Q L0 M k) : W p l e (zrm M) s m args below meth c H locs uc us Q (F0 m pc A (st.map (zsh base fa))) := by
  obtain ⟨hx, hb, hml, hown, hts, hE, hin, hM, hs0⟩ := X
  obtain ⟨n0, hd, hn0⟩ := zf_spec hz
  have hn0 := hn0.resolve_left (fun q => by cases q)
  subst hn0
  simp only [zo] at ho
  split at ho
  · obtain rfl := zgo_inj ho; exact lv_lneg hx hb hd (kk _ _ _ hH hS hl hL)
  · cases ho
theorem zs_idiv  (X : zX p s m args meth c base fa D aC ro L0 M) (hz : zf M pc = some (.idiv)) {k : zK} (ho : zo ro M pc ls st h uc us (.idiv) = some k) (hH : zH base fa D aC h H) (hS : va_S (fun q => base ≤ q) s.heap H locs) (hl : lv_has A (zN M) (zlm base fa ls)) (hL : h.length = L0 + uc) (kk : zKK p l e s m args below meth c base fa D aC Q L0 M k) : W p l e (zrm M) s m args below meth c H locs uc us Q (F0 m pc A (st.map (zsh base fa))) := by
  obtain ⟨hx, hb, hml, hown, hts, hE, hin, hM, hs0⟩ := X
  obtain ⟨n0, hd, hn0⟩ := zf_spec hz
  have hn0 := hn0.resolve_left (fun q => by cases q)
  subst hn0
  simp only [zo] at ho
  split at ho
  · split at ho
    · cases ho
    · next hy => obtain rfl := zgo_inj ho; exact lv_idiv hx hb hd hy (kk _ _ _ hH hS hl hL)
  · cases ho
theorem zs_irem  (X : zX p s m args meth c base fa D aC ro L0 M) (hz : zf M pc = some (.irem)) {k : zK} (ho : zo ro M pc ls st h uc us (.irem) = some k) (hH : zH base fa D aC h H) (hS : va_S (fun q => base ≤ q) s.heap H locs) (hl : lv_has A (zN M) (zlm base fa ls)) (hL : h.length = L0 + uc) (kk : zKK p l e s m args below meth c base fa D aC Q L0 M k) : W p l e (zrm M) s m args below meth c H locs uc us Q (F0 m pc A (st.map (zsh base fa))) := by
  obtain ⟨hx, hb, hml, hown, hts, hE, hin, hM, hs0⟩ := X
  obtain ⟨n0, hd, hn0⟩ := zf_spec hz
  have hn0 := hn0.resolve_left (fun q => by cases q)
  subst hn0
  simp only [zo] at ho
  split at ho
  · split at ho
    · cases ho
    · next hy => obtain rfl := zgo_inj ho; exact lv_irem hx hb hd hy (kk _ _ _ hH hS hl hL)
  · cases ho
theorem zs_ldiv  (X : zX p s m args meth c base fa D aC ro L0 M) (hz : zf M pc = some (.ldiv)) {k : zK} (ho : zo ro M pc ls st h uc us (.ldiv) = some k) (hH : zH base fa D aC h H) (hS : va_S (fun q => base ≤ q) s.heap H locs) (hl : lv_has A (zN M) (zlm base fa ls)) (hL : h.length = L0 + uc) (kk : zKK p l e s m args below meth c base fa D aC Q L0 M k) : W p l e (zrm M) s m args below meth c H locs uc us Q (F0 m pc A (st.map (zsh base fa))) := by
  obtain ⟨hx, hb, hml, hown, hts, hE, hin, hM, hs0⟩ := X
  obtain ⟨n0, hd, hn0⟩ := zf_spec hz
  have hn0 := hn0.resolve_left (fun q => by cases q)
  subst hn0
  simp only [zo] at ho
  split at ho
  · split at ho
    · cases ho
    · next hy => obtain rfl := zgo_inj ho; exact lv_ldiv hx hb hd hy (kk _ _ _ hH hS hl hL)
  · cases ho
theorem zs_lrem  (X : zX p s m args meth c base fa D aC ro L0 M) (hz : zf M pc = some (.lrem)) {k : zK} (ho : zo ro M pc ls st h uc us (.lrem) = some k) (hH : zH base fa D aC h H) (hS : va_S (fun q => base ≤ q) s.heap H locs) (hl : lv_has A (zN M) (zlm base fa ls)) (hL : h.length = L0 + uc) (kk : zKK p l e s m args below meth c base fa D aC Q L0 M k) : W p l e (zrm M) s m args below meth c H locs uc us Q (F0 m pc A (st.map (zsh base fa))) := by
  obtain ⟨hx, hb, hml, hown, hts, hE, hin, hM, hs0⟩ := X
  obtain ⟨n0, hd, hn0⟩ := zf_spec hz
  have hn0 := hn0.resolve_left (fun q => by cases q)
  subst hn0
  simp only [zo] at ho
  split at ho
  · split at ho
    · cases ho
    · next hy => obtain rfl := zgo_inj ho; exact lv_lrem hx hb hd hy (kk _ _ _ hH hS hl hL)
  · cases ho
theorem zs_lshl  (X : zX p s m args meth c base fa D aC ro L0 M) (hz : zf M pc = some (.lshl)) {k : zK} (ho : zo ro M pc ls st h uc us (.lshl) = some k) (hH : zH base fa D aC h H) (hS : va_S (fun q => base ≤ q) s.heap H locs) (hl : lv_has A (zN M) (zlm base fa ls)) (hL : h.length = L0 + uc) (kk : zKK p l e s m args below meth c base fa D aC Q L0 M k) : W p l e (zrm M) s m args below meth c H locs uc us Q (F0 m pc A (st.map (zsh base fa))) := by
  obtain ⟨hx, hb, hml, hown, hts, hE, hin, hM, hs0⟩ := X
  obtain ⟨n0, hd, hn0⟩ := zf_spec hz
  have hn0 := hn0.resolve_left (fun q => by cases q)
  subst hn0
  simp only [zo] at ho
  split at ho
  · obtain rfl := zgo_inj ho; exact lv_lshl hx hb hd rfl (kk _ _ _ hH hS hl hL)
  · cases ho
theorem zs_lcmp  (X : zX p s m args meth c base fa D aC ro L0 M) (hz : zf M pc = some (.lcmp)) {k : zK} (ho : zo ro M pc ls st h uc us (.lcmp) = some k) (hH : zH base fa D aC h H) (hS : va_S (fun q => base ≤ q) s.heap H locs) (hl : lv_has A (zN M) (zlm base fa ls)) (hL : h.length = L0 + uc) (kk : zKK p l e s m args below meth c base fa D aC Q L0 M k) : W p l e (zrm M) s m args below meth c H locs uc us Q (F0 m pc A (st.map (zsh base fa))) := by
  obtain ⟨hx, hb, hml, hown, hts, hE, hin, hM, hs0⟩ := X
  obtain ⟨n0, hd, hn0⟩ := zf_spec hz
  have hn0 := hn0.resolve_left (fun q => by cases q)
  subst hn0
  simp only [zo] at ho
  split at ho
  · obtain rfl := zgo_inj ho; exact W.lcmp hx hb hd (kk _ _ _ hH hS hl hL)
  · cases ho
theorem zs_i2l  (X : zX p s m args meth c base fa D aC ro L0 M) (hz : zf M pc = some (.i2l)) {k : zK} (ho : zo ro M pc ls st h uc us (.i2l) = some k) (hH : zH base fa D aC h H) (hS : va_S (fun q => base ≤ q) s.heap H locs) (hl : lv_has A (zN M) (zlm base fa ls)) (hL : h.length = L0 + uc) (kk : zKK p l e s m args below meth c base fa D aC Q L0 M k) : W p l e (zrm M) s m args below meth c H locs uc us Q (F0 m pc A (st.map (zsh base fa))) := by
  obtain ⟨hx, hb, hml, hown, hts, hE, hin, hM, hs0⟩ := X
  obtain ⟨n0, hd, hn0⟩ := zf_spec hz
  have hn0 := hn0.resolve_left (fun q => by cases q)
  subst hn0
  simp only [zo] at ho
  split at ho
  · obtain rfl := zgo_inj ho; exact lv_i2l hx hb hd rfl (kk _ _ _ hH hS hl hL)
  · cases ho
theorem zs_l2i  (X : zX p s m args meth c base fa D aC ro L0 M) (hz : zf M pc = some (.l2i)) {k : zK} (ho : zo ro M pc ls st h uc us (.l2i) = some k) (hH : zH base fa D aC h H) (hS : va_S (fun q => base ≤ q) s.heap H locs) (hl : lv_has A (zN M) (zlm base fa ls)) (hL : h.length = L0 + uc) (kk : zKK p l e s m args below meth c base fa D aC Q L0 M k) : W p l e (zrm M) s m args below meth c H locs uc us Q (F0 m pc A (st.map (zsh base fa))) := by
  obtain ⟨hx, hb, hml, hown, hts, hE, hin, hM, hs0⟩ := X
  obtain ⟨n0, hd, hn0⟩ := zf_spec hz
  have hn0 := hn0.resolve_left (fun q => by cases q)
  subst hn0
  simp only [zo] at ho
  split at ho
  · obtain rfl := zgo_inj ho; exact lv_l2i hx hb hd rfl (kk _ _ _ hH hS hl hL)
  · cases ho
theorem zs_dup  (X : zX p s m args meth c base fa D aC ro L0 M) (hz : zf M pc = some (.dup)) {k : zK} (ho : zo ro M pc ls st h uc us (.dup) = some k) (hH : zH base fa D aC h H) (hS : va_S (fun q => base ≤ q) s.heap H locs) (hl : lv_has A (zN M) (zlm base fa ls)) (hL : h.length = L0 + uc) (kk : zKK p l e s m args below meth c base fa D aC Q L0 M k) : W p l e (zrm M) s m args below meth c H locs uc us Q (F0 m pc A (st.map (zsh base fa))) := by
  obtain ⟨hx, hb, hml, hown, hts, hE, hin, hM, hs0⟩ := X
  obtain ⟨n0, hd, hn0⟩ := zf_spec hz
  have hn0 := hn0.resolve_left (fun q => by cases q)
  subst hn0
  simp only [zo] at ho
  split at ho
  · split at ho
    · next hc => obtain rfl := zgo_inj ho; exact lv_dup hx hb hd (by rw [zsh_cat]; exact hc) (kk _ _ _ hH hS hl hL)
    · cases ho
  · cases ho
theorem zs_pop  (X : zX p s m args meth c base fa D aC ro L0 M) (hz : zf M pc = some (.pop)) {k : zK} (ho : zo ro M pc ls st h uc us (.pop) = some k) (hH : zH base fa D aC h H) (hS : va_S (fun q => base ≤ q) s.heap H locs) (hl : lv_has A (zN M) (zlm base fa ls)) (hL : h.length = L0 + uc) (kk : zKK p l e s m args below meth c base fa D aC Q L0 M k) : W p l e (zrm M) s m args below meth c H locs uc us Q (F0 m pc A (st.map (zsh base fa))) := by
  obtain ⟨hx, hb, hml, hown, hts, hE, hin, hM, hs0⟩ := X
  obtain ⟨n0, hd, hn0⟩ := zf_spec hz
  have hn0 := hn0.resolve_left (fun q => by cases q)
  subst hn0
  simp only [zo] at ho
  split at ho
  · split at ho
    · next hc => obtain rfl := zgo_inj ho; exact lv_pop hx hb hd (by rw [zsh_cat]; exact hc) (kk _ _ _ hH hS hl hL)
    · cases ho
  · cases ho
theorem zs_pop2  (X : zX p s m args meth c base fa D aC ro L0 M) (hz : zf M pc = some (.pop2)) {k : zK} (ho : zo ro M pc ls st h uc us (.pop2) = some k) (hH : zH base fa D aC h H) (hS : va_S (fun q => base ≤ q) s.heap H locs) (hl : lv_has A (zN M) (zlm base fa ls)) (hL : h.length = L0 + uc) (kk : zKK p l e s m args below meth c base fa D aC Q L0 M k) : W p l e (zrm M) s m args below meth c H locs uc us Q (F0 m pc A (st.map (zsh base fa))) := by
  obtain ⟨hx, hb, hml, hown, hts, hE, hin, hM, hs0⟩ := X
  obtain ⟨n0, hd, hn0⟩ := zf_spec hz
  have hn0 := hn0.resolve_left (fun q => by cases q)
  subst hn0
  simp only [zo] at ho
  split at ho
  · split at ho
    · next hc => obtain rfl := zgo_inj ho; exact lv_pop2_2 hx hb hd (by rw [zsh_cat]; exact hc) (kk _ _ _ hH hS hl hL)
    · cases ho
  · cases ho
theorem zs_dup2  (X : zX p s m args meth c base fa D aC ro L0 M) (hz : zf M pc = some (.dup2)) {k : zK} (ho : zo ro M pc ls st h uc us (.dup2) = some k) (hH : zH base fa D aC h H) (hS : va_S (fun q => base ≤ q) s.heap H locs) (hl : lv_has A (zN M) (zlm base fa ls)) (hL : h.length = L0 + uc) (kk : zKK p l e s m args below meth c base fa D aC Q L0 M k) : W p l e (zrm M) s m args below meth c H locs uc us Q (F0 m pc A (st.map (zsh base fa))) := by
  obtain ⟨hx, hb, hml, hown, hts, hE, hin, hM, hs0⟩ := X
  obtain ⟨n0, hd, hn0⟩ := zf_spec hz
  have hn0 := hn0.resolve_left (fun q => by cases q)
  subst hn0
  simp only [zo] at ho
  split at ho
  · split at ho
    · next hc => obtain rfl := zgo_inj ho; exact lv_dup2_11 hx hb hd (by rw [zsh_cat]; exact hc.1) (by rw [zsh_cat]; exact hc.2) (kk _ _ _ hH hS hl hL)
    · cases ho
  · cases ho
theorem zs_ifCond_eq {off : Int} (X : zX p s m args meth c base fa D aC ro L0 M) (hz : zf M pc = some (.ifCond .eq off)) {k : zK} (ho : zo ro M pc ls st h uc us (.ifCond .eq off) = some k) (hH : zH base fa D aC h H) (hS : va_S (fun q => base ≤ q) s.heap H locs) (hl : lv_has A (zN M) (zlm base fa ls)) (hL : h.length = L0 + uc) (kk : zKK p l e s m args below meth c base fa D aC Q L0 M k) : W p l e (zrm M) s m args below meth c H locs uc us Q (F0 m pc A (st.map (zsh base fa))) := by
  obtain ⟨hx, hb, hml, hown, hts, hE, hin, hM, hs0⟩ := X
  obtain ⟨n0, hd, hn0⟩ := zf_spec hz
  have hn0 := hn0.resolve_left (fun q => by cases q)
  subst hn0
  simp only [zo] at ho
  split at ho
  · obtain ⟨t, ht, rfl⟩ := zbr_inj ho; exact lv_if_eq hx hb hd ht (fun hc => by have h9 := kk H locs A hH hS hl hL; simp only [if_pos hc] at h9; exact h9) (fun hc => by have h9 := kk H locs A hH hS hl hL; simp only [if_neg hc] at h9; exact h9)
  · cases ho
theorem zs_ifCond_ne {off : Int} (X : zX p s m args meth c base fa D aC ro L0 M) (hz : zf M pc = some (.ifCond .ne off)) {k : zK} (ho : zo ro M pc ls st h uc us (.ifCond .ne off) = some k) (hH : zH base fa D aC h H) (hS : va_S (fun q => base ≤ q) s.heap H locs) (hl : lv_has A (zN M) (zlm base fa ls)) (hL : h.length = L0 + uc) (kk : zKK p l e s m args below meth c base fa D aC Q L0 M k) : W p l e (zrm M) s m args below meth c H locs uc us Q (F0 m pc A (st.map (zsh base fa))) := by
  obtain ⟨hx, hb, hml, hown, hts, hE, hin, hM, hs0⟩ := X
  obtain ⟨n0, hd, hn0⟩ := zf_spec hz
  have hn0 := hn0.resolve_left (fun q => by cases q)
  subst hn0
  simp only [zo] at ho
  split at ho
  · obtain ⟨t, ht, rfl⟩ := zbr_inj ho; exact lv_if_ne hx hb hd ht (fun hc => by have h9 := kk H locs A hH hS hl hL; simp only [if_pos hc] at h9; exact h9) (fun hc => by have h9 := kk H locs A hH hS hl hL; simp only [if_neg (show ¬ ¬ _ from fun q => q hc)] at h9; exact h9)
  · cases ho
theorem zs_ifCond_lt {off : Int} (X : zX p s m args meth c base fa D aC ro L0 M) (hz : zf M pc = some (.ifCond .lt off)) {k : zK} (ho : zo ro M pc ls st h uc us (.ifCond .lt off) = some k) (hH : zH base fa D aC h H) (hS : va_S (fun q => base ≤ q) s.heap H locs) (hl : lv_has A (zN M) (zlm base fa ls)) (hL : h.length = L0 + uc) (kk : zKK p l e s m args below meth c base fa D aC Q L0 M k) : W p l e (zrm M) s m args below meth c H locs uc us Q (F0 m pc A (st.map (zsh base fa))) := by
  obtain ⟨hx, hb, hml, hown, hts, hE, hin, hM, hs0⟩ := X
  obtain ⟨n0, hd, hn0⟩ := zf_spec hz
  have hn0 := hn0.resolve_left (fun q => by cases q)
  subst hn0
  simp only [zo] at ho
  split at ho
  · obtain ⟨t, ht, rfl⟩ := zbr_inj ho; exact lv_if_lt hx hb hd ht (fun hc => by have h9 := kk H locs A hH hS hl hL; simp only [if_pos hc] at h9; exact h9) (fun hc => by have h9 := kk H locs A hH hS hl hL; simp only [if_neg hc] at h9; exact h9)
  · cases ho
theorem zs_ifCond_ge {off : Int} (X : zX p s m args meth c base fa D aC ro L0 M) (hz : zf M pc = some (.ifCond .ge off)) {k : zK} (ho : zo ro M pc ls st h uc us (.ifCond .ge off) = some k) (hH : zH base fa D aC h H) (hS : va_S (fun q => base ≤ q) s.heap H locs) (hl : lv_has A (zN M) (zlm base fa ls)) (hL : h.length = L0 + uc) (kk : zKK p l e s m args below meth c base fa D aC Q L0 M k) : W p l e (zrm M) s m args below meth c H locs uc us Q (F0 m pc A (st.map (zsh base fa))) := by
  obtain ⟨hx, hb, hml, hown, hts, hE, hin, hM, hs0⟩ := X
  obtain ⟨n0, hd, hn0⟩ := zf_spec hz
  have hn0 := hn0.resolve_left (fun q => by cases q)
  subst hn0
  simp only [zo] at ho
  split at ho
  · obtain ⟨t, ht, rfl⟩ := zbr_inj ho; exact lv_if_ge hx hb hd ht (fun hc => by have h9 := kk H locs A hH hS hl hL; simp only [if_pos hc] at h9; exact h9) (fun hc => by have h9 := kk H locs A hH hS hl hL; simp only [if_neg hc] at h9; exact h9)
  · cases ho
theorem zs_ifCond_gt {off : Int} (X : zX p s m args meth c base fa D aC ro L0 M) (hz : zf M pc = some (.ifCond .gt off)) {k : zK} (ho : zo ro M pc ls st h uc us (.ifCond .gt off) = some k) (hH : zH base fa D aC h H) (hS : va_S (fun q => base ≤ q) s.heap H locs) (hl : lv_has A (zN M) (zlm base fa ls)) (hL : h.length = L0 + uc) (kk : zKK p l e s m args below meth c base fa D aC Q L0 M k) : W p l e (zrm M) s m args below meth c H locs uc us Q (F0 m pc A (st.map (zsh base fa))) := by
  obtain ⟨hx, hb, hml, hown, hts, hE, hin, hM, hs0⟩ := X
  obtain ⟨n0, hd, hn0⟩ := zf_spec hz
  have hn0 := hn0.resolve_left (fun q => by cases q)
  subst hn0
  simp only [zo] at ho
  split at ho
  · obtain ⟨t, ht, rfl⟩ := zbr_inj ho; exact lv_if_gt hx hb hd ht (fun hc => by have h9 := kk H locs A hH hS hl hL; simp only [if_pos hc] at h9; exact h9) (fun hc => by have h9 := kk H locs A hH hS hl hL; simp only [if_neg hc] at h9; exact h9)
  · cases ho
theorem zs_ifCond_le {off : Int} (X : zX p s m args meth c base fa D aC ro L0 M) (hz : zf M pc = some (.ifCond .le off)) {k : zK} (ho : zo ro M pc ls st h uc us (.ifCond .le off) = some k) (hH : zH base fa D aC h H) (hS : va_S (fun q => base ≤ q) s.heap H locs) (hl : lv_has A (zN M) (zlm base fa ls)) (hL : h.length = L0 + uc) (kk : zKK p l e s m args below meth c base fa D aC Q L0 M k) : W p l e (zrm M) s m args below meth c H locs uc us Q (F0 m pc A (st.map (zsh base fa))) := by
  obtain ⟨hx, hb, hml, hown, hts, hE, hin, hM, hs0⟩ := X
  obtain ⟨n0, hd, hn0⟩ := zf_spec hz
  have hn0 := hn0.resolve_left (fun q => by cases q)
  subst hn0
  simp only [zo] at ho
  split at ho
  · obtain ⟨t, ht, rfl⟩ := zbr_inj ho; exact lv_if_le hx hb hd ht (fun hc => by have h9 := kk H locs A hH hS hl hL; simp only [if_pos hc] at h9; exact h9) (fun hc => by have h9 := kk H locs A hH hS hl hL; simp only [if_neg hc] at h9; exact h9)
  · cases ho
theorem zs_if_icmp_eq {off : Int} (X : zX p s m args meth c base fa D aC ro L0 M) (hz : zf M pc = some (.if_icmp .eq off)) {k : zK} (ho : zo ro M pc ls st h uc us (.if_icmp .eq off) = some k) (hH : zH base fa D aC h H) (hS : va_S (fun q => base ≤ q) s.heap H locs) (hl : lv_has A (zN M) (zlm base fa ls)) (hL : h.length = L0 + uc) (kk : zKK p l e s m args below meth c base fa D aC Q L0 M k) : W p l e (zrm M) s m args below meth c H locs uc us Q (F0 m pc A (st.map (zsh base fa))) := by
  obtain ⟨hx, hb, hml, hown, hts, hE, hin, hM, hs0⟩ := X
  obtain ⟨n0, hd, hn0⟩ := zf_spec hz
  have hn0 := hn0.resolve_left (fun q => by cases q)
  subst hn0
  simp only [zo] at ho
  split at ho
  · obtain ⟨t, ht, rfl⟩ := zbr_inj ho; exact lv_icmp_eq hx hb hd ht (fun hc => by have h9 := kk H locs A hH hS hl hL; simp only [if_pos hc] at h9; exact h9) (fun hc => by have h9 := kk H locs A hH hS hl hL; simp only [if_neg hc] at h9; exact h9)
  · cases ho
theorem zs_if_icmp_ne {off : Int} (X : zX p s m args meth c base fa D aC ro L0 M) (hz : zf M pc = some (.if_icmp .ne off)) {k : zK} (ho : zo ro M pc ls st h uc us (.if_icmp .ne off) = some k) (hH : zH base fa D aC h H) (hS : va_S (fun q => base ≤ q) s.heap H locs) (hl : lv_has A (zN M) (zlm base fa ls)) (hL : h.length = L0 + uc) (kk : zKK p l e s m args below meth c base fa D aC Q L0 M k) : W p l e (zrm M) s m args below meth c H locs uc us Q (F0 m pc A (st.map (zsh base fa))) := by
  obtain ⟨hx, hb, hml, hown, hts, hE, hin, hM, hs0⟩ := X
  obtain ⟨n0, hd, hn0⟩ := zf_spec hz
  have hn0 := hn0.resolve_left (fun q => by cases q)
  subst hn0
  simp only [zo] at ho
  split at ho
  · obtain ⟨t, ht, rfl⟩ := zbr_inj ho; exact lv_icmp_ne hx hb hd ht (fun hc => by have h9 := kk H locs A hH hS hl hL; simp only [if_pos hc] at h9; exact h9) (fun hc => by have h9 := kk H locs A hH hS hl hL; simp only [if_neg (show ¬ ¬ _ from fun q => q hc)] at h9; exact h9)
  · cases ho
theorem zs_if_icmp_lt {off : Int} (X : zX p s m args meth c base fa D aC ro L0 M) (hz : zf M pc = some (.if_icmp .lt off)) {k : zK} (ho : zo ro M pc ls st h uc us (.if_icmp .lt off) = some k) (hH : zH base fa D aC h H) (hS : va_S (fun q => base ≤ q) s.heap H locs) (hl : lv_has A (zN M) (zlm base fa ls)) (hL : h.length = L0 + uc) (kk : zKK p l e s m args below meth c base fa D aC Q L0 M k) : W p l e (zrm M) s m args below meth c H locs uc us Q (F0 m pc A (st.map (zsh base fa))) := by
  obtain ⟨hx, hb, hml, hown, hts, hE, hin, hM, hs0⟩ := X
  obtain ⟨n0, hd, hn0⟩ := zf_spec hz
  have hn0 := hn0.resolve_left (fun q => by cases q)
  subst hn0
  simp only [zo] at ho
  split at ho
  · obtain ⟨t, ht, rfl⟩ := zbr_inj ho; exact lv_icmp_lt hx hb hd ht (fun hc => by have h9 := kk H locs A hH hS hl hL; simp only [if_pos hc] at h9; exact h9) (fun hc => by have h9 := kk H locs A hH hS hl hL; simp only [if_neg hc] at h9; exact h9)
  · cases ho
theorem zs_if_icmp_ge {off : Int} (X : zX p s m args meth c base fa D aC ro L0 M) (hz : zf M pc = some (.if_icmp .ge off)) {k : zK} (ho : zo ro M pc ls st h uc us (.if_icmp .ge off) = some k) (hH : zH base fa D aC h H) (hS : va_S (fun q => base ≤ q) s.heap H locs) (hl : lv_has A (zN M) (zlm base fa ls)) (hL : h.length = L0 + uc) (kk : zKK p l e s m args below meth c base fa D aC Q L0 M k) : W p l e (zrm M) s m args below meth c H locs uc us Q (F0 m pc A (st.map (zsh base fa))) := by
  obtain ⟨hx, hb, hml, hown, hts, hE, hin, hM, hs0⟩ := X
  obtain ⟨n0, hd, hn0⟩ := zf_spec hz
  have hn0 := hn0.resolve_left (fun q => by cases q)
  subst hn0
  simp only [zo] at ho
  split at ho
  · obtain ⟨t, ht, rfl⟩ := zbr_inj ho; exact lv_icmp_ge hx hb hd ht (fun hc => by have h9 := kk H locs A hH hS hl hL; simp only [if_pos hc] at h9; exact h9) (fun hc => by have h9 := kk H locs A hH hS hl hL; simp only [if_neg hc] at h9; exact h9)
  · cases ho
theorem zs_if_icmp_gt {off : Int} (X : zX p s m args meth c base fa D aC ro L0 M) (hz : zf M pc = some (.if_icmp .gt off)) {k : zK} (ho : zo ro M pc ls st h uc us (.if_icmp .gt off) = some k) (hH : zH base fa D aC h H) (hS : va_S (fun q => base ≤ q) s.heap H locs) (hl : lv_has A (zN M) (zlm base fa ls)) (hL : h.length = L0 + uc) (kk : zKK p l e s m args below meth c base fa D aC Q L0 M k) : W p l e (zrm M) s m args below meth c H locs uc us Q (F0 m pc A (st.map (zsh base fa))) := by
  obtain ⟨hx, hb, hml, hown, hts, hE, hin, hM, hs0⟩ := X
  obtain ⟨n0, hd, hn0⟩ := zf_spec hz
  have hn0 := hn0.resolve_left (fun q => by cases q)
  subst hn0
  simp only [zo] at ho
  split at ho
  · obtain ⟨t, ht, rfl⟩ := zbr_inj ho; exact lv_icmp_gt hx hb hd ht (fun hc => by have h9 := kk H locs A hH hS hl hL; simp only [if_pos hc] at h9; exact h9) (fun hc => by have h9 := kk H locs A hH hS hl hL; simp only [if_neg hc] at h9; exact h9)
  · cases ho
theorem zs_if_icmp_le {off : Int} (X : zX p s m args meth c base fa D aC ro L0 M) (hz : zf M pc = some (.if_icmp .le off)) {k : zK} (ho : zo ro M pc ls st h uc us (.if_icmp .le off) = some k) (hH : zH base fa D aC h H) (hS : va_S (fun q => base ≤ q) s.heap H locs) (hl : lv_has A (zN M) (zlm base fa ls)) (hL : h.length = L0 + uc) (kk : zKK p l e s m args below meth c base fa D aC Q L0 M k) : W p l e (zrm M) s m args below meth c H locs uc us Q (F0 m pc A (st.map (zsh base fa))) := by
  obtain ⟨hx, hb, hml, hown, hts, hE, hin, hM, hs0⟩ := X
  obtain ⟨n0, hd, hn0⟩ := zf_spec hz
  have hn0 := hn0.resolve_left (fun q => by cases q)
  subst hn0
  simp only [zo] at ho
  split at ho
  · obtain ⟨t, ht, rfl⟩ := zbr_inj ho; exact lv_icmp_le hx hb hd ht (fun hc => by have h9 := kk H locs A hH hS hl hL; simp only [if_pos hc] at h9; exact h9) (fun hc => by have h9 := kk H locs A hH hS hl hL; simp only [if_neg hc] at h9; exact h9)
  · cases ho
theorem zs_ifnonnull {off : Int} (X : zX p s m args meth c base fa D aC ro L0 M) (hz : zf M pc = some (.ifnonnull off)) {k : zK} (ho : zo ro M pc ls st h uc us (.ifnonnull off) = some k) (hH : zH base fa D aC h H) (hS : va_S (fun q => base ≤ q) s.heap H locs) (hl : lv_has A (zN M) (zlm base fa ls)) (hL : h.length = L0 + uc) (kk : zKK p l e s m args below meth c base fa D aC Q L0 M k) : W p l e (zrm M) s m args below meth c H locs uc us Q (F0 m pc A (st.map (zsh base fa))) := by
  obtain ⟨hx, hb, hml, hown, hts, hE, hin, hM, hs0⟩ := X
  obtain ⟨n0, hd, hn0⟩ := zf_spec hz
  have hn0 := hn0.resolve_left (fun q => by cases q)
  subst hn0
  simp only [zo] at ho
  split at ho
  · obtain ⟨t, ht, rfl⟩ := zju_inj ho; exact lv_ifnonnull hx hb hd ht (kk _ _ _ hH hS hl hL)
  · cases ho
theorem zs_goto {off : Int} (X : zX p s m args meth c base fa D aC ro L0 M) (hz : zf M pc = some (.goto off)) {k : zK} (ho : zo ro M pc ls st h uc us (.goto off) = some k) (hH : zH base fa D aC h H) (hS : va_S (fun q => base ≤ q) s.heap H locs) (hl : lv_has A (zN M) (zlm base fa ls)) (hL : h.length = L0 + uc) (kk : zKK p l e s m args below meth c base fa D aC Q L0 M k) : W p l e (zrm M) s m args below meth c H locs uc us Q (F0 m pc A (st.map (zsh base fa))) := by
  obtain ⟨hx, hb, hml, hown, hts, hE, hin, hM, hs0⟩ := X
  obtain ⟨n0, hd, hn0⟩ := zf_spec hz
  have hn0 := hn0.resolve_left (fun q => by cases q)
  subst hn0
  simp only [zo] at ho
  obtain ⟨t, ht, rfl⟩ := zju_inj ho
  exact lv_goto hx hb hd ht (kk _ _ _ hH hS hl hL)
theorem zs_tableswitch {d lo hi : Int} {offs : Array Int} (X : zX p s m args meth c base fa D aC ro L0 M) (hz : zf M pc = some (.tableswitch d lo hi offs)) {k : zK} (ho : zo ro M pc ls st h uc us (.tableswitch d lo hi offs) = some k) (hH : zH base fa D aC h H) (hS : va_S (fun q => base ≤ q) s.heap H locs) (hl : lv_has A (zN M) (zlm base fa ls)) (hL : h.length = L0 + uc) (kk : zKK p l e s m args below meth c base fa D aC Q L0 M k) : W p l e (zrm M) s m args below meth c H locs uc us Q (F0 m pc A (st.map (zsh base fa))) := by
  obtain ⟨hx, hb, hml, hown, hts, hE, hin, hM, hs0⟩ := X
  obtain ⟨n0, hd, hn0⟩ := zf_spec hz
  simp only [zo] at ho
  split at ho
  · split at ho
    · next hc => obtain ⟨t, ht, rfl⟩ := zju_inj ho; exact lv_tableOut hx hb hd hc ht (kk _ _ _ hH hS hl hL)
    · next hc =>
      split at ho
      · next off hoff => obtain ⟨t, ht, rfl⟩ := zju_inj ho; exact lv_tableIn hx hb hd (fun q => hc (Or.inl q)) (fun q => hc (Or.inr q)) hoff ht (kk _ _ _ hH hS hl hL)
      · cases ho
  · cases ho
theorem zs_lookupswitch {d : Int} {ps : Array (Int × Int)} (X : zX p s m args meth c base fa D aC ro L0 M) (hz : zf M pc = some (.lookupswitch d ps)) {k : zK} (ho : zo ro M pc ls st h uc us (.lookupswitch d ps) = some k) (hH : zH base fa D aC h H) (hS : va_S (fun q => base ≤ q) s.heap H locs) (hl : lv_has A (zN M) (zlm base fa ls)) (hL : h.length = L0 + uc) (kk : zKK p l e s m args below meth c base fa D aC Q L0 M k) : W p l e (zrm M) s m args below meth c H locs uc us Q (F0 m pc A (st.map (zsh base fa))) := by
  obtain ⟨hx, hb, hml, hown, hts, hE, hin, hM, hs0⟩ := X
  obtain ⟨n0, hd, hn0⟩ := zf_spec hz
  simp only [zo] at ho
  split at ho
  · split at ho
    · next hc => obtain ⟨t, ht, rfl⟩ := zju_inj ho; exact lv_lookup hx hb hd hc rfl ht (kk _ _ _ hH hS hl hL)
    · cases ho
  · cases ho
theorem zs_ldc {n : Nat} (X : zX p s m args meth c base fa D aC ro L0 M) (hz : zf M pc = some (.ldc n)) {k : zK} (ho : zo ro M pc ls st h uc us (.ldc n) = some k) (hH : zH base fa D aC h H) (hS : va_S (fun q => base ≤ q) s.heap H locs) (hl : lv_has A (zN M) (zlm base fa ls)) (hL : h.length = L0 + uc) (kk : zKK p l e s m args below meth c base fa D aC Q L0 M k) : W p l e (zrm M) s m args below meth c H locs uc us Q (F0 m pc A (st.map (zsh base fa))) := by
  obtain ⟨hx, hb, hml, hown, hts, hE, hin, hM, hs0⟩ := X
  obtain ⟨n0, hd, hn0⟩ := zf_spec hz
  have hn0 := hn0.resolve_left (fun q => by cases q)
  subst hn0
  simp only [zo] at ho
  split at ho
  · next v hv =>
    obtain rfl := zgo_inj ho
    unfold zki at hv
    obtain ⟨q, hq, hqv⟩ := Option.map_eq_some_iff.mp hv
    have hq1 := List.find?_some hq
    simp only [Bool.and_eq_true, beq_iff_eq] at hq1
    have hq2 := zkI_ok q (List.mem_of_find?_eq_some hq)
    rw [hq1.1, hq1.2, hqv, ← (zown_at M hM).1] at hq2
    exact lv_ldc hx hb hown (hts _ (zwt_mem hq2 rfl)) hd (kk _ _ _ hH hS hl hL)
  · cases ho
theorem zs_ldc2_w {n : Nat} (X : zX p s m args meth c base fa D aC ro L0 M) (hz : zf M pc = some (.ldc2_w n)) {k : zK} (ho : zo ro M pc ls st h uc us (.ldc2_w n) = some k) (hH : zH base fa D aC h H) (hS : va_S (fun q => base ≤ q) s.heap H locs) (hl : lv_has A (zN M) (zlm base fa ls)) (hL : h.length = L0 + uc) (kk : zKK p l e s m args below meth c base fa D aC Q L0 M k) : W p l e (zrm M) s m args below meth c H locs uc us Q (F0 m pc A (st.map (zsh base fa))) := by
  obtain ⟨hx, hb, hml, hown, hts, hE, hin, hM, hs0⟩ := X
  obtain ⟨n0, hd, hn0⟩ := zf_spec hz
  have hn0 := hn0.resolve_left (fun q => by cases q)
  subst hn0
  simp only [zo] at ho
  split at ho
  · next v hv =>
    obtain rfl := zgo_inj ho
    unfold zkl at hv
    obtain ⟨q, hq, hqv⟩ := Option.map_eq_some_iff.mp hv
    have hq1 := List.find?_some hq
    simp only [Bool.and_eq_true, beq_iff_eq] at hq1
    have hq2 := zkL_ok q (List.mem_of_find?_eq_some hq)
    rw [hq1.1, hq1.2, hqv, ← (zown_at M hM).1] at hq2
    exact lv_ldc2 hx hb hown (hts _ (zwt_mem hq2 rfl)) hd (kk _ _ _ hH hS hl hL)
  · cases ho
end ZST
