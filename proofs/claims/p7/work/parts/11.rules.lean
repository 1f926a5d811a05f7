/-! ===== runs, told by what holds at their end ===== -/
def zWp (ro : UInt32 → Nat × (Nat → Int32)) (M pc : Nat) (ls : List (Nat × Value)) (st : List Value) (h : List va_E) (uc us : Nat) (post : Option Value → List va_E → Prop) : Prop := ∃ (n : Nat) (r : Option Value) (h1 : List va_E), zr ro n M pc ls st h uc us = some (r, h1) ∧ post r h1
theorem zr_more (ro : UInt32 → Nat × (Nat → Int32)) : ∀ (n M pc : Nat) (ls : List (Nat × Value)) (st : List Value) (h : List va_E) (uc us : Nat) (q : Option Value × List va_E), zr ro n M pc ls st h uc us = some q → zr ro (n + 1) M pc ls st h uc us = some q := by
  intro n
  induction n with
  | zero => intro M pc ls st h uc us q hr; simp [zr] at hr
  | succ n ih =>
    intro M pc ls st h uc us q hr
    unfold zr at hr ⊢
    cases hz : zf M pc with
    | none => rw [hz] at hr; simp at hr
    | some i =>
      rw [hz] at hr
      simp only at hr ⊢
      cases ho : zo ro M pc ls st h uc us i with
      | none => rw [ho] at hr; simp at hr
      | some k =>
        rw [ho] at hr
        match k, hr with
        | .inl c, hr => exact ih _ _ _ _ _ _ _ _ hr
        | .inr (.inr v), hr => exact hr
        | .inr (.inl c), hr =>
          simp only at hr ⊢
          split at hr
          · next ha =>
            rw [if_pos ha]
            split at hr
            · cases hr
            · next w hw =>
              rw [ih _ _ _ _ _ _ _ _ hw]
              exact ih _ _ _ _ _ _ _ _ hr
          · cases hr
theorem zr_mono {ro : UInt32 → Nat × (Nat → Int32)} {n k M pc : Nat} {ls : List (Nat × Value)} {st : List Value} {h : List va_E} {uc us : Nat} {q : Option Value × List va_E} (hnk : n ≤ k) (hr : zr ro n M pc ls st h uc us = some q) : zr ro k M pc ls st h uc us = some q := by
  induction hnk with
  | refl => exact hr
  | step _ ih => exact zr_more ro _ _ _ _ _ _ _ _ _ ih
section ZWP
variable {ro : UInt32 → Nat × (Nat → Int32)} {M pc q : Nat} {ls : List (Nat × Value)} {st : List Value} {h : List va_E} {uc us : Nat} {post : Option Value → List va_E → Prop}
theorem zWp.mono {p2 : Option Value → List va_E → Prop} (k : zWp ro M pc ls st h uc us post) (hp : ∀ r h1, post r h1 → p2 r h1) : zWp ro M pc ls st h uc us p2 := by
  obtain ⟨n, r, h1, a, b⟩ := k
  exact ⟨n, r, h1, a, hp r h1 b⟩
theorem zw_go {i : Instr} {c : zC} (e : zf M pc = some i) (ho : zo ro M pc ls st h uc us i = some (.inl c)) (k : zWp ro M c.1 c.2.1 c.2.2.1 c.2.2.2.1 c.2.2.2.2.1 c.2.2.2.2.2 post) : zWp ro M pc ls st h uc us post := by
  obtain ⟨n, r, h1, a, b⟩ := k
  refine ⟨n + 1, r, h1, ?_, b⟩
  unfold zr
  rw [e]
  simp only
  rw [ho]
  exact a
theorem zw_end {i : Instr} {v : Option Value} (e : zf M pc = some i) (ho : zo ro M pc ls st h uc us i = some (.inr (.inr v))) (k : post v h) : zWp ro M pc ls st h uc us post := by
  refine ⟨1, v, h, ?_, k⟩
  unfold zr
  rw [e]
  simp only
  rw [ho]
theorem zw_callg {i : Instr} {M1 : Nat} {as rest : List Value} (e : zf M pc = some i) (ho : zo ro M pc ls st h uc us i = some (.inr (.inl (M1, as, rest)))) (ha : (as.map (fun v => v.category)).sum ≤ zN M1) (k : zWp ro M1 0 (zargs 0 as) [] h 0 0 (fun r h1 => zWp ro M (pc + 3) ls (r.toList ++ rest) h1 (uc + (zrm M1).cells) (us + (zrm M1).slots) post)) : zWp ro M pc ls st h uc us post := by
  obtain ⟨n, r, h1, a, n2, r2, h2, a2, b2⟩ := k
  refine ⟨max n n2 + 1, r2, h2, ?_, b2⟩
  unfold zr
  rw [e]
  simp only
  rw [ho]
  simp only
  rw [if_pos ha, zr_mono (Nat.le_max_left n n2) a]
  exact zr_mono (Nat.le_max_right n n2) a2
theorem zw_iconst {n : Int} (v : Int32) (q : Nat) (e : zf M pc = some (.iconst n)) (hq : pc + 1 = q) (hv : Int32.ofInt n = v) (kk : zWp ro M q (ls) (.int v :: st) (h) uc us post) : zWp ro M pc ls (st) h uc us post := by
  refine zw_go (c := (q, ls, .int v :: st, h, uc, us)) e ?_ kk
  subst hq; subst hv
  rfl
theorem zw_bipush {n : Int} (v : Int32) (q : Nat) (e : zf M pc = some (.bipush n)) (hq : pc + 2 = q) (hv : (Int8.ofInt n).toInt32 = v) (kk : zWp ro M q (ls) (.int v :: st) (h) uc us post) : zWp ro M pc ls (st) h uc us post := by
  refine zw_go (c := (q, ls, .int v :: st, h, uc, us)) e ?_ kk
  subst hq; subst hv
  rfl
theorem zw_sipush {n : Int} (v : Int32) (q : Nat) (e : zf M pc = some (.sipush n)) (hq : pc + 3 = q) (hv : (Int16.ofInt n).toInt32 = v) (kk : zWp ro M q (ls) (.int v :: st) (h) uc us post) : zWp ro M pc ls (st) h uc us post := by
  refine zw_go (c := (q, ls, .int v :: st, h, uc, us)) e ?_ kk
  subst hq; subst hv
  rfl
theorem zw_lconst {n : Fin 2} (v : Int64) (q : Nat) (e : zf M pc = some (.lconst n)) (hq : pc + 1 = q) (hv : Int64.ofNat (n : Nat) = v) (kk : zWp ro M q (ls) (.long v :: st) (h) uc us post) : zWp ro M pc ls (st) h uc us post := by
  refine zw_go (c := (q, ls, .long v :: st, h, uc, us)) e ?_ kk
  subst hq; subst hv
  rfl
theorem zw_iload_n {n : Fin 4} {x : Int32} (q : Nat) (e : zf M pc = some (.iload_n n)) (hq : pc + 1 = q) (hv : zld ls (n : Nat) = some (.int x)) (kk : zWp ro M q (ls) (.int x :: st) (h) uc us post) : zWp ro M pc ls (st) h uc us post := by
  refine zw_go (c := (q, ls, .int x :: st, h, uc, us)) e ?_ kk
  subst hq
  first | rfl | (simp only [zo, hv, zgo]; first | done | rfl)
theorem zw_iload {n : Nat} {x : Int32} (q : Nat) (e : zf M pc = some (.iload n)) (hq : pc + 2 = q) (hv : zld ls n = some (.int x)) (kk : zWp ro M q (ls) (.int x :: st) (h) uc us post) : zWp ro M pc ls (st) h uc us post := by
  refine zw_go (c := (q, ls, .int x :: st, h, uc, us)) e ?_ kk
  subst hq
  first | rfl | (simp only [zo, hv, zgo]; first | done | rfl)
theorem zw_lload_n {n : Fin 4} {x : Int64} (q : Nat) (e : zf M pc = some (.lload_n n)) (hq : pc + 1 = q) (hv : zld ls (n : Nat) = some (.long x)) (kk : zWp ro M q (ls) (.long x :: st) (h) uc us post) : zWp ro M pc ls (st) h uc us post := by
  refine zw_go (c := (q, ls, .long x :: st, h, uc, us)) e ?_ kk
  subst hq
  first | rfl | (simp only [zo, hv, zgo]; first | done | rfl)
theorem zw_lload {n : Nat} {x : Int64} (q : Nat) (e : zf M pc = some (.lload n)) (hq : pc + 2 = q) (hv : zld ls n = some (.long x)) (kk : zWp ro M q (ls) (.long x :: st) (h) uc us post) : zWp ro M pc ls (st) h uc us post := by
  refine zw_go (c := (q, ls, .long x :: st, h, uc, us)) e ?_ kk
  subst hq
  first | rfl | (simp only [zo, hv, zgo]; first | done | rfl)
theorem zw_aload {n : Nat} {x : Nat} (q : Nat) (e : zf M pc = some (.aload n)) (hq : pc + 2 = q) (hv : zld ls n = some (.ref x)) (kk : zWp ro M q (ls) (.ref x :: st) (h) uc us post) : zWp ro M pc ls (st) h uc us post := by
  refine zw_go (c := (q, ls, .ref x :: st, h, uc, us)) e ?_ kk
  subst hq
  first | rfl | (simp only [zo, hv, zgo]; first | done | rfl)
theorem zw_aload_n {n : Fin 4} {x : Nat} (q : Nat) (e : zf M pc = some (.aload_n n)) (hq : pc + 1 = q) (hv : zld ls (n : Nat) = some (.ref x)) (kk : zWp ro M q (ls) (.ref x :: st) (h) uc us post) : zWp ro M pc ls (st) h uc us post := by
  refine zw_go (c := (q, ls, .ref x :: st, h, uc, us)) e ?_ kk
  subst hq
  first | rfl | (simp only [zo, hv, zgo]; first | done | rfl)
theorem zw_aload_f {n : Fin 4} {x : UInt32} (q : Nat) (e : zf M pc = some (.aload_n n)) (hq : pc + 1 = q) (hv : zld ls (n : Nat) = some (.float x)) (kk : zWp ro M q (ls) (.float x :: st) (h) uc us post) : zWp ro M pc ls (st) h uc us post := by
  refine zw_go (c := (q, ls, .float x :: st, h, uc, us)) e ?_ kk
  subst hq
  first | rfl | (simp only [zo, hv, zgo]; first | done | rfl)
theorem zw_istore_n {n : Fin 4} {x : Int32} (ls2 : List (Nat × Value)) (q : Nat) (e : zf M pc = some (.istore_n n)) (hq : pc + 1 = q) (hk : (n : Nat) < zN M) (hl : zs1 ls (n : Nat) (.int x) = ls2) (kk : zWp ro M q (ls2) (st) (h) uc us post) : zWp ro M pc ls (.int x :: st) h uc us post := by
  refine zw_go (c := (q, ls2, st, h, uc, us)) e ?_ kk
  subst hq; subst hl
  first | rfl | (simp only [zo]; rw [if_pos hk]; first | done | rfl)
theorem zw_istore {n : Nat} {x : Int32} (ls2 : List (Nat × Value)) (q : Nat) (e : zf M pc = some (.istore n)) (hq : pc + 2 = q) (hk : n < zN M) (hl : zs1 ls n (.int x) = ls2) (kk : zWp ro M q (ls2) (st) (h) uc us post) : zWp ro M pc ls (.int x :: st) h uc us post := by
  refine zw_go (c := (q, ls2, st, h, uc, us)) e ?_ kk
  subst hq; subst hl
  first | rfl | (simp only [zo]; rw [if_pos hk]; first | done | rfl)
theorem zw_lstore_n {n : Fin 4} {x : Int64} (ls2 : List (Nat × Value)) (q : Nat) (e : zf M pc = some (.lstore_n n)) (hq : pc + 1 = q) (hk : (n : Nat) + 1 < zN M) (hl : zs2 ls (n : Nat) (.long x) = ls2) (kk : zWp ro M q (ls2) (st) (h) uc us post) : zWp ro M pc ls (.long x :: st) h uc us post := by
  refine zw_go (c := (q, ls2, st, h, uc, us)) e ?_ kk
  subst hq; subst hl
  first | rfl | (simp only [zo]; rw [if_pos hk]; first | done | rfl)
theorem zw_lstore {n : Nat} {x : Int64} (ls2 : List (Nat × Value)) (q : Nat) (e : zf M pc = some (.lstore n)) (hq : pc + 2 = q) (hk : n + 1 < zN M) (hl : zs2 ls n (.long x) = ls2) (kk : zWp ro M q (ls2) (st) (h) uc us post) : zWp ro M pc ls (.long x :: st) h uc us post := by
  refine zw_go (c := (q, ls2, st, h, uc, us)) e ?_ kk
  subst hq; subst hl
  first | rfl | (simp only [zo]; rw [if_pos hk]; first | done | rfl)
theorem zw_astore_n {n : Fin 4} {x : Nat} (ls2 : List (Nat × Value)) (q : Nat) (e : zf M pc = some (.astore_n n)) (hq : pc + 1 = q) (hk : (n : Nat) < zN M) (hl : zs1 ls (n : Nat) (.ref x) = ls2) (kk : zWp ro M q (ls2) (st) (h) uc us post) : zWp ro M pc ls (.ref x :: st) h uc us post := by
  refine zw_go (c := (q, ls2, st, h, uc, us)) e ?_ kk
  subst hq; subst hl
  first | rfl | (simp only [zo]; rw [if_pos hk]; first | done | rfl)
theorem zw_astore {n : Nat} {x : Nat} (ls2 : List (Nat × Value)) (q : Nat) (e : zf M pc = some (.astore n)) (hq : pc + 2 = q) (hk : n < zN M) (hl : zs1 ls n (.ref x) = ls2) (kk : zWp ro M q (ls2) (st) (h) uc us post) : zWp ro M pc ls (.ref x :: st) h uc us post := by
  refine zw_go (c := (q, ls2, st, h, uc, us)) e ?_ kk
  subst hq; subst hl
  first | rfl | (simp only [zo]; rw [if_pos hk]; first | done | rfl)
theorem zw_iinc {n : Nat} {d : Int} {x : Int32} (v : Int32) (ls2 : List (Nat × Value)) (q : Nat) (e : zf M pc = some (.iinc n d)) (hq : pc + 3 = q) (hx : zld ls n = some (.int x)) (hk : n < zN M) (hv : x + Int32.ofInt d = v) (hl : zs1 ls n (.int v) = ls2) (kk : zWp ro M q (ls2) (st) (h) uc us post) : zWp ro M pc ls (st) h uc us post := by
  refine zw_go (c := (q, ls2, st, h, uc, us)) e ?_ kk
  subst hq; subst hl; subst hv
  first | rfl | (simp only [zo, hx]; rw [if_pos hk]; first | done | rfl)
theorem zw_iadd {x y : Int32} (v : Int32) (q : Nat) (e : zf M pc = some (.iadd)) (hq : pc + 1 = q) (hv : x + y = v) (kk : zWp ro M q (ls) (.int v :: st) (h) uc us post) : zWp ro M pc ls (.int y :: .int x :: st) h uc us post := by
  refine zw_go (c := (q, ls, .int v :: st, h, uc, us)) e ?_ kk
  subst hq; subst hv
  rfl
theorem zw_isub {x y : Int32} (v : Int32) (q : Nat) (e : zf M pc = some (.isub)) (hq : pc + 1 = q) (hv : x - y = v) (kk : zWp ro M q (ls) (.int v :: st) (h) uc us post) : zWp ro M pc ls (.int y :: .int x :: st) h uc us post := by
  refine zw_go (c := (q, ls, .int v :: st, h, uc, us)) e ?_ kk
  subst hq; subst hv
  rfl
theorem zw_imul {x y : Int32} (v : Int32) (q : Nat) (e : zf M pc = some (.imul)) (hq : pc + 1 = q) (hv : x * y = v) (kk : zWp ro M q (ls) (.int v :: st) (h) uc us post) : zWp ro M pc ls (.int y :: .int x :: st) h uc us post := by
  refine zw_go (c := (q, ls, .int v :: st, h, uc, us)) e ?_ kk
  subst hq; subst hv
  rfl
theorem zw_iand {x y : Int32} (v : Int32) (q : Nat) (e : zf M pc = some (.iand)) (hq : pc + 1 = q) (hv : x &&& y = v) (kk : zWp ro M q (ls) (.int v :: st) (h) uc us post) : zWp ro M pc ls (.int y :: .int x :: st) h uc us post := by
  refine zw_go (c := (q, ls, .int v :: st, h, uc, us)) e ?_ kk
  subst hq; subst hv
  rfl
theorem zw_ior {x y : Int32} (v : Int32) (q : Nat) (e : zf M pc = some (.ior)) (hq : pc + 1 = q) (hv : x ||| y = v) (kk : zWp ro M q (ls) (.int v :: st) (h) uc us post) : zWp ro M pc ls (.int y :: .int x :: st) h uc us post := by
  refine zw_go (c := (q, ls, .int v :: st, h, uc, us)) e ?_ kk
  subst hq; subst hv
  rfl
theorem zw_ixor {x y : Int32} (v : Int32) (q : Nat) (e : zf M pc = some (.ixor)) (hq : pc + 1 = q) (hv : x ^^^ y = v) (kk : zWp ro M q (ls) (.int v :: st) (h) uc us post) : zWp ro M pc ls (.int y :: .int x :: st) h uc us post := by
  refine zw_go (c := (q, ls, .int v :: st, h, uc, us)) e ?_ kk
  subst hq; subst hv
  rfl
theorem zw_ishl {x y : Int32} (v : Int32) (q : Nat) (e : zf M pc = some (.ishl)) (hq : pc + 1 = q) (hv : x <<< (y &&& 31) = v) (kk : zWp ro M q (ls) (.int v :: st) (h) uc us post) : zWp ro M pc ls (.int y :: .int x :: st) h uc us post := by
  refine zw_go (c := (q, ls, .int v :: st, h, uc, us)) e ?_ kk
  subst hq; subst hv
  rfl
theorem zw_ishr {x y : Int32} (v : Int32) (q : Nat) (e : zf M pc = some (.ishr)) (hq : pc + 1 = q) (hv : x >>> (y &&& 31) = v) (kk : zWp ro M q (ls) (.int v :: st) (h) uc us post) : zWp ro M pc ls (.int y :: .int x :: st) h uc us post := by
  refine zw_go (c := (q, ls, .int v :: st, h, uc, us)) e ?_ kk
  subst hq; subst hv
  rfl
theorem zw_idiv {x y : Int32} (v : Int32) (q : Nat) (e : zf M pc = some (.idiv)) (hq : pc + 1 = q) (hn : ¬ y = 0) (hv : x / y = v) (kk : zWp ro M q (ls) (.int v :: st) (h) uc us post) : zWp ro M pc ls (.int y :: .int x :: st) h uc us post := by
  refine zw_go (c := (q, ls, .int v :: st, h, uc, us)) e ?_ kk
  subst hq; subst hv
  first | rfl | (simp only [zo]; rw [if_neg hn]; first | done | rfl)
theorem zw_irem {x y : Int32} (v : Int32) (q : Nat) (e : zf M pc = some (.irem)) (hq : pc + 1 = q) (hn : ¬ y = 0) (hv : x - x / y * y = v) (kk : zWp ro M q (ls) (.int v :: st) (h) uc us post) : zWp ro M pc ls (.int y :: .int x :: st) h uc us post := by
  refine zw_go (c := (q, ls, .int v :: st, h, uc, us)) e ?_ kk
  subst hq; subst hv
  first | rfl | (simp only [zo]; rw [if_neg hn]; first | done | rfl)
theorem zw_ineg {x : Int32} (v : Int32) (q : Nat) (e : zf M pc = some (.ineg)) (hq : pc + 1 = q) (hv : -x = v) (kk : zWp ro M q (ls) (.int v :: st) (h) uc us post) : zWp ro M pc ls (.int x :: st) h uc us post := by
  refine zw_go (c := (q, ls, .int v :: st, h, uc, us)) e ?_ kk
  subst hq; subst hv
  rfl
theorem zw_lneg {x : Int64} (v : Int64) (q : Nat) (e : zf M pc = some (.lneg)) (hq : pc + 1 = q) (hv : -x = v) (kk : zWp ro M q (ls) (.long v :: st) (h) uc us post) : zWp ro M pc ls (.long x :: st) h uc us post := by
  refine zw_go (c := (q, ls, .long v :: st, h, uc, us)) e ?_ kk
  subst hq; subst hv
  rfl
theorem zw_ladd {x y : Int64} (v : Int64) (q : Nat) (e : zf M pc = some (.ladd)) (hq : pc + 1 = q) (hv : x + y = v) (kk : zWp ro M q (ls) (.long v :: st) (h) uc us post) : zWp ro M pc ls (.long y :: .long x :: st) h uc us post := by
  refine zw_go (c := (q, ls, .long v :: st, h, uc, us)) e ?_ kk
  subst hq; subst hv
  rfl
theorem zw_lsub {x y : Int64} (v : Int64) (q : Nat) (e : zf M pc = some (.lsub)) (hq : pc + 1 = q) (hv : x - y = v) (kk : zWp ro M q (ls) (.long v :: st) (h) uc us post) : zWp ro M pc ls (.long y :: .long x :: st) h uc us post := by
  refine zw_go (c := (q, ls, .long v :: st, h, uc, us)) e ?_ kk
  subst hq; subst hv
  rfl
theorem zw_lmul {x y : Int64} (v : Int64) (q : Nat) (e : zf M pc = some (.lmul)) (hq : pc + 1 = q) (hv : x * y = v) (kk : zWp ro M q (ls) (.long v :: st) (h) uc us post) : zWp ro M pc ls (.long y :: .long x :: st) h uc us post := by
  refine zw_go (c := (q, ls, .long v :: st, h, uc, us)) e ?_ kk
  subst hq; subst hv
  rfl
theorem zw_lor {x y : Int64} (v : Int64) (q : Nat) (e : zf M pc = some (.lor)) (hq : pc + 1 = q) (hv : x ||| y = v) (kk : zWp ro M q (ls) (.long v :: st) (h) uc us post) : zWp ro M pc ls (.long y :: .long x :: st) h uc us post := by
  refine zw_go (c := (q, ls, .long v :: st, h, uc, us)) e ?_ kk
  subst hq; subst hv
  rfl
theorem zw_ldiv {x y : Int64} (v : Int64) (q : Nat) (e : zf M pc = some (.ldiv)) (hq : pc + 1 = q) (hn : ¬ y = 0) (hv : x / y = v) (kk : zWp ro M q (ls) (.long v :: st) (h) uc us post) : zWp ro M pc ls (.long y :: .long x :: st) h uc us post := by
  refine zw_go (c := (q, ls, .long v :: st, h, uc, us)) e ?_ kk
  subst hq; subst hv
  first | rfl | (simp only [zo]; rw [if_neg hn]; first | done | rfl)
theorem zw_lrem {x y : Int64} (v : Int64) (q : Nat) (e : zf M pc = some (.lrem)) (hq : pc + 1 = q) (hn : ¬ y = 0) (hv : x - x / y * y = v) (kk : zWp ro M q (ls) (.long v :: st) (h) uc us post) : zWp ro M pc ls (.long y :: .long x :: st) h uc us post := by
  refine zw_go (c := (q, ls, .long v :: st, h, uc, us)) e ?_ kk
  subst hq; subst hv
  first | rfl | (simp only [zo]; rw [if_neg hn]; first | done | rfl)
theorem zw_lshl {x : Int64} {y : Int32} (v : Int64) (q : Nat) (e : zf M pc = some (.lshl)) (hq : pc + 1 = q) (hv : x <<< (y.toInt64 &&& 63) = v) (kk : zWp ro M q (ls) (.long v :: st) (h) uc us post) : zWp ro M pc ls (.int y :: .long x :: st) h uc us post := by
  refine zw_go (c := (q, ls, .long v :: st, h, uc, us)) e ?_ kk
  subst hq; subst hv
  rfl
theorem zw_lcmp {x y : Int64} (v : Int32) (q : Nat) (e : zf M pc = some (.lcmp)) (hq : pc + 1 = q) (hv : lg_cmp x y = v) (kk : zWp ro M q (ls) (.int v :: st) (h) uc us post) : zWp ro M pc ls (.long y :: .long x :: st) h uc us post := by
  refine zw_go (c := (q, ls, .int v :: st, h, uc, us)) e ?_ kk
  subst hq; subst hv
  rfl
theorem zw_i2l {x : Int32} (v : Int64) (q : Nat) (e : zf M pc = some (.i2l)) (hq : pc + 1 = q) (hv : x.toInt64 = v) (kk : zWp ro M q (ls) (.long v :: st) (h) uc us post) : zWp ro M pc ls (.int x :: st) h uc us post := by
  refine zw_go (c := (q, ls, .long v :: st, h, uc, us)) e ?_ kk
  subst hq; subst hv
  rfl
theorem zw_l2i {x : Int64} (v : Int32) (q : Nat) (e : zf M pc = some (.l2i)) (hq : pc + 1 = q) (hv : x.toInt32 = v) (kk : zWp ro M q (ls) (.int v :: st) (h) uc us post) : zWp ro M pc ls (.long x :: st) h uc us post := by
  refine zw_go (c := (q, ls, .int v :: st, h, uc, us)) e ?_ kk
  subst hq; subst hv
  rfl
theorem zw_dup {v : Value} (q : Nat) (e : zf M pc = some (.dup)) (hq : pc + 1 = q) (hc : v.category = 1) (kk : zWp ro M q (ls) (v :: v :: st) (h) uc us post) : zWp ro M pc ls (v :: st) h uc us post := by
  refine zw_go (c := (q, ls, v :: v :: st, h, uc, us)) e ?_ kk
  subst hq
  first | rfl | (simp only [zo]; rw [if_pos hc]; first | done | rfl)
theorem zw_pop {v : Value} (q : Nat) (e : zf M pc = some (.pop)) (hq : pc + 1 = q) (hc : v.category = 1) (kk : zWp ro M q (ls) (st) (h) uc us post) : zWp ro M pc ls (v :: st) h uc us post := by
  refine zw_go (c := (q, ls, st, h, uc, us)) e ?_ kk
  subst hq
  first | rfl | (simp only [zo]; rw [if_pos hc]; first | done | rfl)
theorem zw_pop2 {v : Value} (q : Nat) (e : zf M pc = some (.pop2)) (hq : pc + 1 = q) (hc : v.category = 2) (kk : zWp ro M q (ls) (st) (h) uc us post) : zWp ro M pc ls (v :: st) h uc us post := by
  refine zw_go (c := (q, ls, st, h, uc, us)) e ?_ kk
  subst hq
  first | rfl | (simp only [zo]; rw [if_pos hc]; first | done | rfl)
theorem zw_dup2 {v w : Value} (q : Nat) (e : zf M pc = some (.dup2)) (hq : pc + 1 = q) (hc : v.category = 1) (hd : w.category = 1) (kk : zWp ro M q (ls) (v :: w :: v :: w :: st) (h) uc us post) : zWp ro M pc ls (v :: w :: st) h uc us post := by
  refine zw_go (c := (q, ls, v :: w :: v :: w :: st, h, uc, us)) e ?_ kk
  subst hq
  first | rfl | (simp only [zo]; rw [if_pos ⟨hc, hd⟩]; first | done | rfl)
theorem zw_if_eq_t {x : Int32} {off : Int} (q : Nat) (e : zf M pc = some (.ifCond .eq off)) (hq : (pc : Int) + off = (q : Int)) (hc : x = 0) (k : zWp ro M q ls st h uc us post) : zWp ro M pc ls (.int x :: st) h uc us post := by
  refine zw_go (c := (q, ls, st, h, uc, us)) e ?_ k
  simp only [zo, zbr, ztg_of hq, zgo, if_pos hc]
theorem zw_if_eq_f {x : Int32} {off : Int} (q t0 : Nat) (e : zf M pc = some (.ifCond .eq off)) (ht : (pc : Int) + off = (t0 : Int)) (hq : pc + 3 = q) (hc : ¬ (x = 0)) (k : zWp ro M q ls st h uc us post) : zWp ro M pc ls (.int x :: st) h uc us post := by
  subst hq
  refine zw_go (c := (pc + 3, ls, st, h, uc, us)) e ?_ k
  simp only [zo, zbr, ztg_of ht, zgo, if_neg hc]
theorem zw_if_eq {x : Int32} {off : Int} (q t0 : Nat) (e : zf M pc = some (.ifCond .eq off)) (ht : (pc : Int) + off = (t0 : Int)) (hq : pc + 3 = q) (kt : x = 0 → zWp ro M t0 ls st h uc us post) (kf : ¬ (x = 0) → zWp ro M q ls st h uc us post) : zWp ro M pc ls (.int x :: st) h uc us post := by
  by_cases hc : x = 0
  · exact zw_if_eq_t t0 e ht hc (kt hc)
  · exact zw_if_eq_f q t0 e ht hq hc (kf hc)
theorem zw_if_ne_t {x : Int32} {off : Int} (q : Nat) (e : zf M pc = some (.ifCond .ne off)) (hq : (pc : Int) + off = (q : Int)) (hc : ¬ x = 0) (k : zWp ro M q ls st h uc us post) : zWp ro M pc ls (.int x :: st) h uc us post := by
  refine zw_go (c := (q, ls, st, h, uc, us)) e ?_ k
  simp only [zo, zbr, ztg_of hq, zgo, if_pos hc]
theorem zw_if_ne_f {x : Int32} {off : Int} (q t0 : Nat) (e : zf M pc = some (.ifCond .ne off)) (ht : (pc : Int) + off = (t0 : Int)) (hq : pc + 3 = q) (hc : ¬ (¬ x = 0)) (k : zWp ro M q ls st h uc us post) : zWp ro M pc ls (.int x :: st) h uc us post := by
  subst hq
  refine zw_go (c := (pc + 3, ls, st, h, uc, us)) e ?_ k
  simp only [zo, zbr, ztg_of ht, zgo, if_neg hc]
theorem zw_if_ne {x : Int32} {off : Int} (q t0 : Nat) (e : zf M pc = some (.ifCond .ne off)) (ht : (pc : Int) + off = (t0 : Int)) (hq : pc + 3 = q) (kt : ¬ x = 0 → zWp ro M t0 ls st h uc us post) (kf : ¬ (¬ x = 0) → zWp ro M q ls st h uc us post) : zWp ro M pc ls (.int x :: st) h uc us post := by
  by_cases hc : ¬ x = 0
  · exact zw_if_ne_t t0 e ht hc (kt hc)
  · exact zw_if_ne_f q t0 e ht hq hc (kf hc)
theorem zw_if_lt_t {x : Int32} {off : Int} (q : Nat) (e : zf M pc = some (.ifCond .lt off)) (hq : (pc : Int) + off = (q : Int)) (hc : x < 0) (k : zWp ro M q ls st h uc us post) : zWp ro M pc ls (.int x :: st) h uc us post := by
  refine zw_go (c := (q, ls, st, h, uc, us)) e ?_ k
  simp only [zo, zbr, ztg_of hq, zgo, if_pos hc]
theorem zw_if_lt_f {x : Int32} {off : Int} (q t0 : Nat) (e : zf M pc = some (.ifCond .lt off)) (ht : (pc : Int) + off = (t0 : Int)) (hq : pc + 3 = q) (hc : ¬ (x < 0)) (k : zWp ro M q ls st h uc us post) : zWp ro M pc ls (.int x :: st) h uc us post := by
  subst hq
  refine zw_go (c := (pc + 3, ls, st, h, uc, us)) e ?_ k
  simp only [zo, zbr, ztg_of ht, zgo, if_neg hc]
theorem zw_if_lt {x : Int32} {off : Int} (q t0 : Nat) (e : zf M pc = some (.ifCond .lt off)) (ht : (pc : Int) + off = (t0 : Int)) (hq : pc + 3 = q) (kt : x < 0 → zWp ro M t0 ls st h uc us post) (kf : ¬ (x < 0) → zWp ro M q ls st h uc us post) : zWp ro M pc ls (.int x :: st) h uc us post := by
  by_cases hc : x < 0
  · exact zw_if_lt_t t0 e ht hc (kt hc)
  · exact zw_if_lt_f q t0 e ht hq hc (kf hc)
theorem zw_if_ge_t {x : Int32} {off : Int} (q : Nat) (e : zf M pc = some (.ifCond .ge off)) (hq : (pc : Int) + off = (q : Int)) (hc : 0 ≤ x) (k : zWp ro M q ls st h uc us post) : zWp ro M pc ls (.int x :: st) h uc us post := by
  refine zw_go (c := (q, ls, st, h, uc, us)) e ?_ k
  simp only [zo, zbr, ztg_of hq, zgo, if_pos hc]
theorem zw_if_ge_f {x : Int32} {off : Int} (q t0 : Nat) (e : zf M pc = some (.ifCond .ge off)) (ht : (pc : Int) + off = (t0 : Int)) (hq : pc + 3 = q) (hc : ¬ (0 ≤ x)) (k : zWp ro M q ls st h uc us post) : zWp ro M pc ls (.int x :: st) h uc us post := by
  subst hq
  refine zw_go (c := (pc + 3, ls, st, h, uc, us)) e ?_ k
  simp only [zo, zbr, ztg_of ht, zgo, if_neg hc]
theorem zw_if_ge {x : Int32} {off : Int} (q t0 : Nat) (e : zf M pc = some (.ifCond .ge off)) (ht : (pc : Int) + off = (t0 : Int)) (hq : pc + 3 = q) (kt : 0 ≤ x → zWp ro M t0 ls st h uc us post) (kf : ¬ (0 ≤ x) → zWp ro M q ls st h uc us post) : zWp ro M pc ls (.int x :: st) h uc us post := by
  by_cases hc : 0 ≤ x
  · exact zw_if_ge_t t0 e ht hc (kt hc)
  · exact zw_if_ge_f q t0 e ht hq hc (kf hc)
theorem zw_if_gt_t {x : Int32} {off : Int} (q : Nat) (e : zf M pc = some (.ifCond .gt off)) (hq : (pc : Int) + off = (q : Int)) (hc : 0 < x) (k : zWp ro M q ls st h uc us post) : zWp ro M pc ls (.int x :: st) h uc us post := by
  refine zw_go (c := (q, ls, st, h, uc, us)) e ?_ k
  simp only [zo, zbr, ztg_of hq, zgo, if_pos hc]
theorem zw_if_gt_f {x : Int32} {off : Int} (q t0 : Nat) (e : zf M pc = some (.ifCond .gt off)) (ht : (pc : Int) + off = (t0 : Int)) (hq : pc + 3 = q) (hc : ¬ (0 < x)) (k : zWp ro M q ls st h uc us post) : zWp ro M pc ls (.int x :: st) h uc us post := by
  subst hq
  refine zw_go (c := (pc + 3, ls, st, h, uc, us)) e ?_ k
  simp only [zo, zbr, ztg_of ht, zgo, if_neg hc]
theorem zw_if_gt {x : Int32} {off : Int} (q t0 : Nat) (e : zf M pc = some (.ifCond .gt off)) (ht : (pc : Int) + off = (t0 : Int)) (hq : pc + 3 = q) (kt : 0 < x → zWp ro M t0 ls st h uc us post) (kf : ¬ (0 < x) → zWp ro M q ls st h uc us post) : zWp ro M pc ls (.int x :: st) h uc us post := by
  by_cases hc : 0 < x
  · exact zw_if_gt_t t0 e ht hc (kt hc)
  · exact zw_if_gt_f q t0 e ht hq hc (kf hc)
theorem zw_if_le_t {x : Int32} {off : Int} (q : Nat) (e : zf M pc = some (.ifCond .le off)) (hq : (pc : Int) + off = (q : Int)) (hc : x ≤ 0) (k : zWp ro M q ls st h uc us post) : zWp ro M pc ls (.int x :: st) h uc us post := by
  refine zw_go (c := (q, ls, st, h, uc, us)) e ?_ k
  simp only [zo, zbr, ztg_of hq, zgo, if_pos hc]
theorem zw_if_le_f {x : Int32} {off : Int} (q t0 : Nat) (e : zf M pc = some (.ifCond .le off)) (ht : (pc : Int) + off = (t0 : Int)) (hq : pc + 3 = q) (hc : ¬ (x ≤ 0)) (k : zWp ro M q ls st h uc us post) : zWp ro M pc ls (.int x :: st) h uc us post := by
  subst hq
  refine zw_go (c := (pc + 3, ls, st, h, uc, us)) e ?_ k
  simp only [zo, zbr, ztg_of ht, zgo, if_neg hc]
theorem zw_if_le {x : Int32} {off : Int} (q t0 : Nat) (e : zf M pc = some (.ifCond .le off)) (ht : (pc : Int) + off = (t0 : Int)) (hq : pc + 3 = q) (kt : x ≤ 0 → zWp ro M t0 ls st h uc us post) (kf : ¬ (x ≤ 0) → zWp ro M q ls st h uc us post) : zWp ro M pc ls (.int x :: st) h uc us post := by
  by_cases hc : x ≤ 0
  · exact zw_if_le_t t0 e ht hc (kt hc)
  · exact zw_if_le_f q t0 e ht hq hc (kf hc)
theorem zw_ic_eq_t {x y : Int32} {off : Int} (q : Nat) (e : zf M pc = some (.if_icmp .eq off)) (hq : (pc : Int) + off = (q : Int)) (hc : x = y) (k : zWp ro M q ls st h uc us post) : zWp ro M pc ls (.int y :: .int x :: st) h uc us post := by
  refine zw_go (c := (q, ls, st, h, uc, us)) e ?_ k
  simp only [zo, zbr, ztg_of hq, zgo, if_pos hc]
theorem zw_ic_eq_f {x y : Int32} {off : Int} (q t0 : Nat) (e : zf M pc = some (.if_icmp .eq off)) (ht : (pc : Int) + off = (t0 : Int)) (hq : pc + 3 = q) (hc : ¬ (x = y)) (k : zWp ro M q ls st h uc us post) : zWp ro M pc ls (.int y :: .int x :: st) h uc us post := by
  subst hq
  refine zw_go (c := (pc + 3, ls, st, h, uc, us)) e ?_ k
  simp only [zo, zbr, ztg_of ht, zgo, if_neg hc]
theorem zw_ic_eq {x y : Int32} {off : Int} (q t0 : Nat) (e : zf M pc = some (.if_icmp .eq off)) (ht : (pc : Int) + off = (t0 : Int)) (hq : pc + 3 = q) (kt : x = y → zWp ro M t0 ls st h uc us post) (kf : ¬ (x = y) → zWp ro M q ls st h uc us post) : zWp ro M pc ls (.int y :: .int x :: st) h uc us post := by
  by_cases hc : x = y
  · exact zw_ic_eq_t t0 e ht hc (kt hc)
  · exact zw_ic_eq_f q t0 e ht hq hc (kf hc)
theorem zw_ic_ne_t {x y : Int32} {off : Int} (q : Nat) (e : zf M pc = some (.if_icmp .ne off)) (hq : (pc : Int) + off = (q : Int)) (hc : ¬ x = y) (k : zWp ro M q ls st h uc us post) : zWp ro M pc ls (.int y :: .int x :: st) h uc us post := by
  refine zw_go (c := (q, ls, st, h, uc, us)) e ?_ k
  simp only [zo, zbr, ztg_of hq, zgo, if_pos hc]
theorem zw_ic_ne_f {x y : Int32} {off : Int} (q t0 : Nat) (e : zf M pc = some (.if_icmp .ne off)) (ht : (pc : Int) + off = (t0 : Int)) (hq : pc + 3 = q) (hc : ¬ (¬ x = y)) (k : zWp ro M q ls st h uc us post) : zWp ro M pc ls (.int y :: .int x :: st) h uc us post := by
  subst hq
  refine zw_go (c := (pc + 3, ls, st, h, uc, us)) e ?_ k
  simp only [zo, zbr, ztg_of ht, zgo, if_neg hc]
theorem zw_ic_ne {x y : Int32} {off : Int} (q t0 : Nat) (e : zf M pc = some (.if_icmp .ne off)) (ht : (pc : Int) + off = (t0 : Int)) (hq : pc + 3 = q) (kt : ¬ x = y → zWp ro M t0 ls st h uc us post) (kf : ¬ (¬ x = y) → zWp ro M q ls st h uc us post) : zWp ro M pc ls (.int y :: .int x :: st) h uc us post := by
  by_cases hc : ¬ x = y
  · exact zw_ic_ne_t t0 e ht hc (kt hc)
  · exact zw_ic_ne_f q t0 e ht hq hc (kf hc)
theorem zw_ic_lt_t {x y : Int32} {off : Int} (q : Nat) (e : zf M pc = some (.if_icmp .lt off)) (hq : (pc : Int) + off = (q : Int)) (hc : x < y) (k : zWp ro M q ls st h uc us post) : zWp ro M pc ls (.int y :: .int x :: st) h uc us post := by
  refine zw_go (c := (q, ls, st, h, uc, us)) e ?_ k
  simp only [zo, zbr, ztg_of hq, zgo, if_pos hc]
theorem zw_ic_lt_f {x y : Int32} {off : Int} (q t0 : Nat) (e : zf M pc = some (.if_icmp .lt off)) (ht : (pc : Int) + off = (t0 : Int)) (hq : pc + 3 = q) (hc : ¬ (x < y)) (k : zWp ro M q ls st h uc us post) : zWp ro M pc ls (.int y :: .int x :: st) h uc us post := by
  subst hq
  refine zw_go (c := (pc + 3, ls, st, h, uc, us)) e ?_ k
  simp only [zo, zbr, ztg_of ht, zgo, if_neg hc]
theorem zw_ic_lt {x y : Int32} {off : Int} (q t0 : Nat) (e : zf M pc = some (.if_icmp .lt off)) (ht : (pc : Int) + off = (t0 : Int)) (hq : pc + 3 = q) (kt : x < y → zWp ro M t0 ls st h uc us post) (kf : ¬ (x < y) → zWp ro M q ls st h uc us post) : zWp ro M pc ls (.int y :: .int x :: st) h uc us post := by
  by_cases hc : x < y
  · exact zw_ic_lt_t t0 e ht hc (kt hc)
  · exact zw_ic_lt_f q t0 e ht hq hc (kf hc)
theorem zw_ic_ge_t {x y : Int32} {off : Int} (q : Nat) (e : zf M pc = some (.if_icmp .ge off)) (hq : (pc : Int) + off = (q : Int)) (hc : y ≤ x) (k : zWp ro M q ls st h uc us post) : zWp ro M pc ls (.int y :: .int x :: st) h uc us post := by
  refine zw_go (c := (q, ls, st, h, uc, us)) e ?_ k
  simp only [zo, zbr, ztg_of hq, zgo, if_pos hc]
theorem zw_ic_ge_f {x y : Int32} {off : Int} (q t0 : Nat) (e : zf M pc = some (.if_icmp .ge off)) (ht : (pc : Int) + off = (t0 : Int)) (hq : pc + 3 = q) (hc : ¬ (y ≤ x)) (k : zWp ro M q ls st h uc us post) : zWp ro M pc ls (.int y :: .int x :: st) h uc us post := by
  subst hq
  refine zw_go (c := (pc + 3, ls, st, h, uc, us)) e ?_ k
  simp only [zo, zbr, ztg_of ht, zgo, if_neg hc]
theorem zw_ic_ge {x y : Int32} {off : Int} (q t0 : Nat) (e : zf M pc = some (.if_icmp .ge off)) (ht : (pc : Int) + off = (t0 : Int)) (hq : pc + 3 = q) (kt : y ≤ x → zWp ro M t0 ls st h uc us post) (kf : ¬ (y ≤ x) → zWp ro M q ls st h uc us post) : zWp ro M pc ls (.int y :: .int x :: st) h uc us post := by
  by_cases hc : y ≤ x
  · exact zw_ic_ge_t t0 e ht hc (kt hc)
  · exact zw_ic_ge_f q t0 e ht hq hc (kf hc)
theorem zw_ic_gt_t {x y : Int32} {off : Int} (q : Nat) (e : zf M pc = some (.if_icmp .gt off)) (hq : (pc : Int) + off = (q : Int)) (hc : y < x) (k : zWp ro M q ls st h uc us post) : zWp ro M pc ls (.int y :: .int x :: st) h uc us post := by
  refine zw_go (c := (q, ls, st, h, uc, us)) e ?_ k
  simp only [zo, zbr, ztg_of hq, zgo, if_pos hc]
theorem zw_ic_gt_f {x y : Int32} {off : Int} (q t0 : Nat) (e : zf M pc = some (.if_icmp .gt off)) (ht : (pc : Int) + off = (t0 : Int)) (hq : pc + 3 = q) (hc : ¬ (y < x)) (k : zWp ro M q ls st h uc us post) : zWp ro M pc ls (.int y :: .int x :: st) h uc us post := by
  subst hq
  refine zw_go (c := (pc + 3, ls, st, h, uc, us)) e ?_ k
  simp only [zo, zbr, ztg_of ht, zgo, if_neg hc]
theorem zw_ic_gt {x y : Int32} {off : Int} (q t0 : Nat) (e : zf M pc = some (.if_icmp .gt off)) (ht : (pc : Int) + off = (t0 : Int)) (hq : pc + 3 = q) (kt : y < x → zWp ro M t0 ls st h uc us post) (kf : ¬ (y < x) → zWp ro M q ls st h uc us post) : zWp ro M pc ls (.int y :: .int x :: st) h uc us post := by
  by_cases hc : y < x
  · exact zw_ic_gt_t t0 e ht hc (kt hc)
  · exact zw_ic_gt_f q t0 e ht hq hc (kf hc)
theorem zw_ic_le_t {x y : Int32} {off : Int} (q : Nat) (e : zf M pc = some (.if_icmp .le off)) (hq : (pc : Int) + off = (q : Int)) (hc : x ≤ y) (k : zWp ro M q ls st h uc us post) : zWp ro M pc ls (.int y :: .int x :: st) h uc us post := by
  refine zw_go (c := (q, ls, st, h, uc, us)) e ?_ k
  simp only [zo, zbr, ztg_of hq, zgo, if_pos hc]
theorem zw_ic_le_f {x y : Int32} {off : Int} (q t0 : Nat) (e : zf M pc = some (.if_icmp .le off)) (ht : (pc : Int) + off = (t0 : Int)) (hq : pc + 3 = q) (hc : ¬ (x ≤ y)) (k : zWp ro M q ls st h uc us post) : zWp ro M pc ls (.int y :: .int x :: st) h uc us post := by
  subst hq
  refine zw_go (c := (pc + 3, ls, st, h, uc, us)) e ?_ k
  simp only [zo, zbr, ztg_of ht, zgo, if_neg hc]
theorem zw_ic_le {x y : Int32} {off : Int} (q t0 : Nat) (e : zf M pc = some (.if_icmp .le off)) (ht : (pc : Int) + off = (t0 : Int)) (hq : pc + 3 = q) (kt : x ≤ y → zWp ro M t0 ls st h uc us post) (kf : ¬ (x ≤ y) → zWp ro M q ls st h uc us post) : zWp ro M pc ls (.int y :: .int x :: st) h uc us post := by
  by_cases hc : x ≤ y
  · exact zw_ic_le_t t0 e ht hc (kt hc)
  · exact zw_ic_le_f q t0 e ht hq hc (kf hc)
theorem zw_ifnonnull {x : Nat} {off : Int} (q : Nat) (e : zf M pc = some (.ifnonnull off)) (hq : (pc : Int) + off = (q : Int)) (k : zWp ro M q ls st h uc us post) : zWp ro M pc ls (.ref x :: st) h uc us post := by
  refine zw_go (c := (q, ls, st, h, uc, us)) e ?_ k
  simp only [zo, zju, ztg_of hq, zgo]
theorem zw_goto {off : Int} (q : Nat) (e : zf M pc = some (.goto off)) (hq : (pc : Int) + off = (q : Int)) (k : zWp ro M q ls st h uc us post) : zWp ro M pc ls st h uc us post := by
  refine zw_go (c := (q, ls, st, h, uc, us)) e ?_ k
  simp only [zo, zju, ztg_of hq, zgo]
theorem zw_table_o {x : Int32} {d lo hi : Int} {offs : Array Int} (q : Nat) (e : zf M pc = some (.tableswitch d lo hi offs)) (hc : x.toInt < lo ∨ hi < x.toInt) (hq : (pc : Int) + d = (q : Int)) (k : zWp ro M q ls st h uc us post) : zWp ro M pc ls (.int x :: st) h uc us post := by
  refine zw_go (c := (q, ls, st, h, uc, us)) e ?_ k
  simp only [zo, zju, if_pos hc, ztg_of hq, zgo]
theorem zw_table_i {x : Int32} {d lo hi off : Int} {offs : Array Int} (q : Nat) (e : zf M pc = some (.tableswitch d lo hi offs)) (hc : ¬ (x.toInt < lo ∨ hi < x.toInt)) (hf : offs[(x.toInt - lo).toNat]? = some off) (hq : (pc : Int) + off = (q : Int)) (k : zWp ro M q ls st h uc us post) : zWp ro M pc ls (.int x :: st) h uc us post := by
  refine zw_go (c := (q, ls, st, h, uc, us)) e ?_ k
  simp only [zo, zju, if_neg hc, hf, ztg_of hq, zgo]
theorem zw_lookup {x : Int32} {d off : Int} {ps : Array (Int × Int)} (q : Nat) (e : zf M pc = some (.lookupswitch d ps)) (hs : (ps.toList.zip (ps.toList.drop 1)).all (fun (a, next) => a.1 < next.1) = true) (hf : Op.lookupswitch.offset ps.toList d x.toInt = off) (hq : (pc : Int) + off = (q : Int)) (k : zWp ro M q ls st h uc us post) : zWp ro M pc ls (.int x :: st) h uc us post := by
  refine zw_go (c := (q, ls, st, h, uc, us)) e ?_ k
  simp only [zo, zju]
  rw [if_pos hs, hf, ztg_of hq]
  rfl
theorem zw_ldc {n : Nat} (v : Int32) (q : Nat) (e : zf M pc = some (.ldc n)) (hq : pc + 2 = q) (hv : zki (zoc M) n = some v) (kk : zWp ro M q (ls) (.int v :: st) (h) uc us post) : zWp ro M pc ls (st) h uc us post := by
  refine zw_go (c := (q, ls, .int v :: st, h, uc, us)) e ?_ kk
  subst hq
  first | rfl | (simp only [zo, hv, zgo]; first | done | rfl)
theorem zw_ldc2_w {n : Nat} (v : Int64) (q : Nat) (e : zf M pc = some (.ldc2_w n)) (hq : pc + 3 = q) (hv : zkl (zoc M) n = some v) (kk : zWp ro M q (ls) (.long v :: st) (h) uc us post) : zWp ro M pc ls (st) h uc us post := by
  refine zw_go (c := (q, ls, .long v :: st, h, uc, us)) e ?_ kk
  subst hq
  first | rfl | (simp only [zo, hv, zgo]; first | done | rfl)
theorem zw_getfield {n k ci j : Nat} {fs : List Value} {v : Value} (q : Nat) (e : zf M pc = some (.getfield n)) (hq : pc + 3 = q) (hf : zfd (zoc M) n ci = some j) (hk : h[k]? = some (.inr (ci, fs))) (hv : fs[j]? = some v) (kk : zWp ro M q (ls) (v :: st) (h) uc us post) : zWp ro M pc ls (.ref k :: st) h uc us post := by
  refine zw_go (c := (q, ls, v :: st, h, uc, us)) e ?_ kk
  subst hq
  first | rfl | (simp only [zo, hk, hf, hv]; first | done | rfl)
theorem zw_putfield {n k ci j : Nat} {fs : List Value} {v : Value} (q : Nat) (e : zf M pc = some (.putfield n)) (hq : pc + 3 = q) (hf : zfd (zoc M) n ci = some j) (hk : h[k]? = some (.inr (ci, fs))) (hc : zfit (zty ci j) v = true) (hj : j < fs.length) (hi : zfin ci j = true → zini M = true ∧ zdc ci j = (zy M).cls) (kk : zWp ro M q (ls) (st) (h.set k (.inr (ci, fs.set j v))) uc us post) : zWp ro M pc ls (v :: .ref k :: st) h uc us post := by
  refine zw_go (c := (q, ls, st, h.set k (.inr (ci, fs.set j v)), uc, us)) e ?_ kk
  subst hq
  first | rfl | (simp only [zo, hk, hf]; rw [if_pos ⟨hc, hj, hi⟩]; first | done | rfl)
theorem zset_same {α : Type} {l : List α} {k : Nat} {x : α} (h : l[k]? = some x) : l.set k x = l := by
  apply List.ext_getElem?
  intro j
  rw [List.getElem?_set]
  split
  · next e =>
    subst e
    split
    · exact h.symm
    · next hl => rw [List.getElem?_eq_none (by omega)]
  · rfl
theorem zw_putfieldS {n k ci j : Nat} {fs : List Value} {v : Value} (q : Nat) (e : zf M pc = some (.putfield n)) (hq : pc + 3 = q) (hf : zfd (zoc M) n ci = some j) (hk : h[k]? = some (.inr (ci, fs))) (hc : zfit (zty ci j) v = true) (hj : fs[j]? = some v) (hi : zfin ci j = true → zini M = true ∧ zdc ci j = (zy M).cls) (kk : zWp ro M q ls st h uc us post) : zWp ro M pc ls (v :: .ref k :: st) h uc us post := by
  refine zw_putfield q e hq hf hk hc (List.getElem?_eq_some_iff.mp hj).1 hi ?_
  rw [zset_same hj, zset_same hk]
  exact kk
theorem zw_new {n ci : Nat} (l uc2 us2 : Nat) (q : Nat) (e : zf M pc = some (.new n)) (hq : pc + 3 = q) (hc : zcl (zoc M) n = some ci) (hl : h.length = l) (h1 : uc + 1 = uc2) (h2 : us + znf ci = us2) (h3 : uc2 ≤ (zrm M).cells) (h4 : us2 ≤ (zrm M).slots) (kk : zWp ro M q (ls) (.ref l :: st) (h ++ [.inr (ci, zdf ci)]) uc2 us2 post) : zWp ro M pc ls (st) h uc us post := by
  refine zw_go (c := (q, ls, .ref l :: st, h ++ [.inr (ci, zdf ci)], uc2, us2)) e ?_ kk
  subst hq; subst hl; subst h1; subst h2
  first | rfl | (simp only [zo, hc]; rw [if_pos ⟨h3, h4⟩]; first | done | rfl)
theorem zw_newarray {ty : ArrayType} {n : Int32} {tc : Nat} {f : (Nat → Int32) ⊕ (Nat → Int64) ⊕ (Nat → UInt32) ⊕ (Nat → UInt64) ⊕ (Nat → Option Nat)} (l n1 uc2 us2 : Nat) (q : Nat) (e : zf M pc = some (.newarray ty)) (hq : pc + 2 = q) (ht : zat ty = some (tc, f)) (hl : h.length = l) (hn : n.toNatClampNeg = n1) (h0 : ¬ n < 0) (h5 : n1 ≤ 1000000) (h1 : uc + 1 = uc2) (h2 : us + n1 = us2) (h3 : uc2 ≤ (zrm M).cells) (h4 : us2 ≤ (zrm M).slots) (kk : zWp ro M q (ls) (.ref l :: st) (h ++ [.inl (tc, n1, f)]) uc2 us2 post) : zWp ro M pc ls (.int n :: st) h uc us post := by
  refine zw_go (c := (q, ls, .ref l :: st, h ++ [.inl (tc, n1, f)], uc2, us2)) e ?_ kk
  subst hq; subst hl; subst h1; subst h2; subst hn
  first | rfl | (simp only [zo, ht]; rw [if_pos ⟨h0, h5, h3, h4⟩]; first | done | rfl)
theorem zw_anewarray {n0 : Nat} {n : Int32} (l n1 uc2 us2 : Nat) (q : Nat) (e : zf M pc = some (.anewarray n0)) (hq : pc + 3 = q) (hc : zcl (zoc M) n0 = some 8) (hl : h.length = l) (hn : n.toNatClampNeg = n1) (h0 : ¬ n < 0) (h5 : n1 ≤ 1000000) (h1 : uc + 1 = uc2) (h2 : us + n1 = us2) (h3 : uc2 ≤ (zrm M).cells) (h4 : us2 ≤ (zrm M).slots) (kk : zWp ro M q (ls) (.ref l :: st) (h ++ [.inl (3, n1, .inr (.inr (.inr (.inr (fun _ => none)))))]) uc2 us2 post) : zWp ro M pc ls (.int n :: st) h uc us post := by
  refine zw_go (c := (q, ls, .ref l :: st, h ++ [.inl (3, n1, .inr (.inr (.inr (.inr (fun _ => none)))))], uc2, us2)) e ?_ kk
  subst hq; subst hl; subst h1; subst h2; subst hn
  first | rfl | (simp only [zo]; rw [if_pos ⟨hc, h0, h5, h3, h4⟩]; first | done | rfl)
theorem zw_iaload {i : Int32} {k n : Nat} {f : Nat → Int32} (j : Nat) (v : Int32) (q : Nat) (e : zf M pc = some (.iaload)) (hq : pc + 1 = q) (hk : h[k]? = some (.inl (0, n, .inl f))) (hi : i.toNatClampNeg = j) (h0 : ¬ i < 0) (hj : j < n) (hv : f j = v) (kk : zWp ro M q (ls) (.int v :: st) (h) uc us post) : zWp ro M pc ls (.int i :: .ref k :: st) h uc us post := by
  refine zw_go (c := (q, ls, .int v :: st, h, uc, us)) e ?_ kk
  subst hq; subst hi; subst hv
  first | rfl | (simp only [zo, hk]; rw [if_neg (fun w => w.elim h0 (fun w => Nat.not_le.mpr hj w))]; first | done | rfl)
theorem zw_baload {i : Int32} {k n : Nat} {f : Nat → Int32} (j : Nat) (v : Int32) (q : Nat) (e : zf M pc = some (.baload)) (hq : pc + 1 = q) (hk : h[k]? = some (.inl (2, n, .inl f))) (hi : i.toNatClampNeg = j) (h0 : ¬ i < 0) (hj : j < n) (hv : f j = v) (kk : zWp ro M q (ls) (.int v :: st) (h) uc us post) : zWp ro M pc ls (.int i :: .ref k :: st) h uc us post := by
  refine zw_go (c := (q, ls, .int v :: st, h, uc, us)) e ?_ kk
  subst hq; subst hi; subst hv
  first | rfl | (simp only [zo, hk]; rw [if_neg (fun w => w.elim h0 (fun w => Nat.not_le.mpr hj w))]; first | done | rfl)
theorem zw_laload {i : Int32} {k n : Nat} {f : Nat → Int64} (j : Nat) (v : Int64) (q : Nat) (e : zf M pc = some (.laload)) (hq : pc + 1 = q) (hk : h[k]? = some (.inl (1, n, .inr (.inl f)))) (hi : i.toNatClampNeg = j) (h0 : ¬ i < 0) (hj : j < n) (hv : f j = v) (kk : zWp ro M q (ls) (.long v :: st) (h) uc us post) : zWp ro M pc ls (.int i :: .ref k :: st) h uc us post := by
  refine zw_go (c := (q, ls, .long v :: st, h, uc, us)) e ?_ kk
  subst hq; subst hi; subst hv
  first | rfl | (simp only [zo, hk]; rw [if_neg (fun w => w.elim h0 (fun w => Nat.not_le.mpr hj w))]; first | done | rfl)
theorem zw_iaload_f {i : Int32} {x : UInt32} (j n : Nat) (v : Int32) (q : Nat) (e : zf M pc = some (.iaload)) (hq : pc + 1 = q) (hk : (ro x).1 = n) (hi : i.toNatClampNeg = j) (h0 : ¬ i < 0) (hj : j < n) (hv : (ro x).2 j = v) (kk : zWp ro M q (ls) (.int v :: st) (h) uc us post) : zWp ro M pc ls (.int i :: .float x :: st) h uc us post := by
  refine zw_go (c := (q, ls, .int v :: st, h, uc, us)) e ?_ kk
  subst hq; subst hi; subst hv; subst hk
  first | rfl | (simp only [zo]; rw [if_neg (fun w => w.elim h0 (fun w => Nat.not_le.mpr hj w))]; first | done | rfl)
theorem zw_aaload {i : Int32} {k n a : Nat} {f : Nat → Option Nat} (j : Nat) (q : Nat) (e : zf M pc = some (.aaload)) (hq : pc + 1 = q) (hk : h[k]? = some (.inl (3, n, .inr (.inr (.inr (.inr f)))))) (hi : i.toNatClampNeg = j) (h0 : ¬ i < 0) (hj : j < n) (hv : f j = some a) (kk : zWp ro M q (ls) (.ref a :: st) (h) uc us post) : zWp ro M pc ls (.int i :: .ref k :: st) h uc us post := by
  refine zw_go (c := (q, ls, .ref a :: st, h, uc, us)) e ?_ kk
  subst hq; subst hi
  first | rfl | (simp only [zo, hk, hv]; rw [if_neg (fun w => w.elim h0 (fun w => Nat.not_le.mpr hj w))]; first | done | rfl)
theorem zw_iastore {i : Int32} {k n : Nat} {x : Int32} {f : Nat → Int32} (j : Nat) (q : Nat) (e : zf M pc = some (.iastore)) (hq : pc + 1 = q) (hk : h[k]? = some (.inl (0, n, .inl f))) (hi : i.toNatClampNeg = j) (h0 : ¬ i < 0) (hj : j < n) (kk : zWp ro M q (ls) (st) (h.set k (.inl (0, n, .inl (upd f j x)))) uc us post) : zWp ro M pc ls (.int x :: .int i :: .ref k :: st) h uc us post := by
  refine zw_go (c := (q, ls, st, h.set k (.inl (0, n, .inl (upd f j x))), uc, us)) e ?_ kk
  subst hq; subst hi
  first | rfl | (simp only [zo, hk]; rw [if_neg (fun w => w.elim h0 (fun w => Nat.not_le.mpr hj w))]; first | done | rfl)
theorem zw_bastore {i : Int32} {k n : Nat} {x : Int32} {f : Nat → Int32} (j : Nat) (q : Nat) (e : zf M pc = some (.bastore)) (hq : pc + 1 = q) (hk : h[k]? = some (.inl (2, n, .inl f))) (hi : i.toNatClampNeg = j) (h0 : ¬ i < 0) (hj : j < n) (kk : zWp ro M q (ls) (st) (h.set k (.inl (2, n, .inl (upd f j (vp_nar .boolean x))))) uc us post) : zWp ro M pc ls (.int x :: .int i :: .ref k :: st) h uc us post := by
  refine zw_go (c := (q, ls, st, h.set k (.inl (2, n, .inl (upd f j (vp_nar .boolean x)))), uc, us)) e ?_ kk
  subst hq; subst hi
  first | rfl | (simp only [zo, hk]; rw [if_neg (fun w => w.elim h0 (fun w => Nat.not_le.mpr hj w))]; first | done | rfl)
theorem zw_lastore {i : Int32} {k n : Nat} {x : Int64} {f : Nat → Int64} (j : Nat) (q : Nat) (e : zf M pc = some (.lastore)) (hq : pc + 1 = q) (hk : h[k]? = some (.inl (1, n, .inr (.inl f)))) (hi : i.toNatClampNeg = j) (h0 : ¬ i < 0) (hj : j < n) (kk : zWp ro M q (ls) (st) (h.set k (.inl (1, n, .inr (.inl (vp_updL f j x))))) uc us post) : zWp ro M pc ls (.long x :: .int i :: .ref k :: st) h uc us post := by
  refine zw_go (c := (q, ls, st, h.set k (.inl (1, n, .inr (.inl (vp_updL f j x)))), uc, us)) e ?_ kk
  subst hq; subst hi
  first | rfl | (simp only [zo, hk]; rw [if_neg (fun w => w.elim h0 (fun w => Nat.not_le.mpr hj w))]; first | done | rfl)
theorem zupd_same {f : Nat → Int32} {j : Nat} {x : Int32} (h : f j = x) : upd f j x = f := by
  funext q
  unfold upd
  split
  · next e => rw [e]; exact h.symm
  · rfl
theorem zupdL_same {f : Nat → Int64} {j : Nat} {x : Int64} (h : f j = x) : vp_updL f j x = f := by
  funext q
  unfold vp_updL
  split
  · next e => rw [e]; exact h.symm
  · rfl
theorem zw_iastoreS {i : Int32} {k n : Nat} {x : Int32} {f : Nat → Int32} (j : Nat) (q : Nat) (e : zf M pc = some (.iastore)) (hq : pc + 1 = q) (hk : h[k]? = some (.inl (0, n, .inl f))) (hi : i.toNatClampNeg = j) (h0 : ¬ i < 0) (hj : j < n) (hs : f j = x) (kk : zWp ro M q ls st h uc us post) : zWp ro M pc ls (.int x :: .int i :: .ref k :: st) h uc us post := by
  refine zw_iastore j q e hq hk hi h0 hj ?_
  rw [zupd_same hs, zset_same hk]
  exact kk
theorem zw_bastoreS {i : Int32} {k n : Nat} {x : Int32} {f : Nat → Int32} (j : Nat) (q : Nat) (e : zf M pc = some (.bastore)) (hq : pc + 1 = q) (hk : h[k]? = some (.inl (2, n, .inl f))) (hi : i.toNatClampNeg = j) (h0 : ¬ i < 0) (hj : j < n) (hs : f j = vp_nar .boolean x) (kk : zWp ro M q ls st h uc us post) : zWp ro M pc ls (.int x :: .int i :: .ref k :: st) h uc us post := by
  refine zw_bastore j q e hq hk hi h0 hj ?_
  rw [zupd_same hs, zset_same hk]
  exact kk
theorem zw_lastoreS {i : Int32} {k n : Nat} {x : Int64} {f : Nat → Int64} (j : Nat) (q : Nat) (e : zf M pc = some (.lastore)) (hq : pc + 1 = q) (hk : h[k]? = some (.inl (1, n, .inr (.inl f)))) (hi : i.toNatClampNeg = j) (h0 : ¬ i < 0) (hj : j < n) (hs : f j = x) (kk : zWp ro M q ls st h uc us post) : zWp ro M pc ls (.long x :: .int i :: .ref k :: st) h uc us post := by
  refine zw_lastore j q e hq hk hi h0 hj ?_
  rw [zupdL_same hs, zset_same hk]
  exact kk
theorem zw_aastore {i : Int32} {k n v ci : Nat} {vs : List Value} {f : Nat → Option Nat} (j : Nat) (q : Nat) (e : zf M pc = some (.aastore)) (hq : pc + 1 = q) (hk : h[k]? = some (.inl (3, n, .inr (.inr (.inr (.inr f)))))) (hv : h[v]? = some (.inr (ci, vs))) (hi : i.toNatClampNeg = j) (h0 : ¬ i < 0) (hj : j < n) (hc : ci = 8 ∨ ci = 6 ∨ ci = 7 ∨ ci = 2 ∨ ci = 1) (kk : zWp ro M q (ls) (st) (h.set k (.inl (3, n, .inr (.inr (.inr (.inr (va_up f j (some v)))))))) uc us post) : zWp ro M pc ls (.ref v :: .int i :: .ref k :: st) h uc us post := by
  refine zw_go (c := (q, ls, st, h.set k (.inl (3, n, .inr (.inr (.inr (.inr (va_up f j (some v))))))), uc, us)) e ?_ kk
  subst hq; subst hi
  first | rfl | (simp only [zo, hk, hv]; rw [if_neg (fun w => w.elim h0 (fun w => Nat.not_le.mpr hj w)), if_pos hc]; first | done | rfl)
theorem zw_arraylength {x : UInt32} (v : Int32) (q : Nat) (e : zf M pc = some (.arraylength)) (hq : pc + 1 = q) (hv : Int32.ofNat (ro x).1 = v) (kk : zWp ro M q (ls) (.int v :: st) (h) uc us post) : zWp ro M pc ls (.float x :: st) h uc us post := by
  refine zw_go (c := (q, ls, .int v :: st, h, uc, us)) e ?_ kk
  subst hq; subst hv
  rfl
theorem zw_getstatic {n : Nat} (q : Nat) (e : zf M pc = some (.getstatic n)) (hq : pc + 3 = q) (hc : zoc M = 11 ∧ n = 333) (kk : zWp ro M q (ls) (.float 1 :: st) (h) uc us post) : zWp ro M pc ls (st) h uc us post := by
  refine zw_go (c := (q, ls, .float 1 :: st, h, uc, us)) e ?_ kk
  subst hq
  first | rfl | (simp only [zo]; rw [if_pos hc]; first | done | rfl)
theorem zw_ireturn {v : Int32} (e : zf M pc = some .ireturn) (hr : zret M = some .int) (hu : uc = (zrm M).cells ∧ us = (zrm M).slots) (k : post (some (.int v)) h) : zWp ro M pc ls [.int v] h uc us post := zw_end e (by simp only [zo, hr]; rw [if_pos hu]) k
theorem zw_zreturn {v : Int32} (e : zf M pc = some .ireturn) (hr : zret M = some .boolean) (hu : uc = (zrm M).cells ∧ us = (zrm M).slots) (hv : v = 0 ∨ v = 1) (k : post (some (.int v)) h) : zWp ro M pc ls [.int v] h uc us post := zw_end e (by simp only [zo, hr]; rw [if_pos ⟨hu.1, hu.2, hv⟩]) k
theorem zw_lreturn {v : Int64} (e : zf M pc = some .lreturn) (hr : zret M = some .long) (hu : uc = (zrm M).cells ∧ us = (zrm M).slots) (k : post (some (.long v)) h) : zWp ro M pc ls [.long v] h uc us post := zw_end e (by simp only [zo, hr]; rw [if_pos hu]) k
theorem zw_vreturn (e : zf M pc = some .return_) (hr : zret M = none) (hu : uc = (zrm M).cells ∧ us = (zrm M).slots) (k : post none h) : zWp ro M pc ls [] h uc us post := zw_end e (by simp only [zo, hr]; rw [if_pos hu]) k
/-- a call: st is what lies on the stack, as the values with the receiver first, rest what lies below -/
theorem zw_virtual {n0 n k0 ci kd M1 Mx a1 a2 a3 : Nat} {ps : List Nat} {fs : List Value} {rest : List Value} (q uc2 us2 : Nat) (as : List Value) (la : List (Nat × Value)) (e : zf M pc = some (.invokevirtual n0)) (hq : pc + 3 = q) (hn : zna M n0 = some n) (hc : zcall M n0 ci = some (a1, a2, a3, kd, M1, n, Mx, ps)) (hd : st.drop n = .ref k0 :: rest) (hk : h[k0]? = some (.inr (ci, fs))) (hkd : kd ≤ 1) (hcat : (rest.map (fun v => v.category)).sum ≤ 8) (h1 : uc + (zrm M1).cells = uc2) (h2 : us + (zrm M1).slots = us2) (h3 : uc2 ≤ (zrm M).cells) (h4 : us2 ≤ (zrm M).slots) (has : .ref k0 :: (st.take n).reverse = as) (ha : (as.map (fun v => v.category)).sum ≤ zN M1) (hla : zargs 0 as = la)
    (k : zWp ro M1 0 la [] h 0 0 (fun r h1 => zWp ro M q ls (r.toList ++ rest) h1 uc2 us2 post)) : zWp ro M pc ls st h uc us post := by
  subst hq; subst h1; subst h2; subst hla; subst has
  exact zw_callg e (by simp only [zo, hn, hd, hk, hc]; rw [if_pos ⟨hkd, trivial, hcat, h3, h4⟩]) ha k
theorem zw_static {n0 n kd ci M1 Mx a1 a2 : Nat} {ps : List Nat} (q uc2 us2 : Nat) (as rest : List Value) (la : List (Nat × Value)) (e : zf M pc = some (.invokestatic n0)) (hq : pc + 3 = q) (hc : zcall M n0 99 = some (a1, a2, ci, kd, M1, n, Mx, ps)) (hd : st.drop n = rest) (hkd : kd = 2 ∨ kd = 3) (hlen : n ≤ st.length) (hcat : (rest.map (fun v => v.category)).sum ≤ 8) (h1 : uc + (zrm M1).cells = uc2) (h2 : us + (zrm M1).slots = us2) (h3 : uc2 ≤ (zrm M).cells) (h4 : us2 ≤ (zrm M).slots) (has : (st.take n).reverse = as) (ha : (as.map (fun v => v.category)).sum ≤ zN M1) (hla : zargs 0 as = la)
    (k : zWp ro M1 0 la [] h 0 0 (fun r h1 => zWp ro M q ls (r.toList ++ rest) h1 uc2 us2 post)) : zWp ro M pc ls st h uc us post := by
  subst hq; subst h1; subst h2; subst hla; subst has; subst hd
  exact zw_callg e (by simp only [zo, hc]; rw [if_pos hkd, if_pos ⟨hlen, hcat, h3, h4⟩]) ha k
theorem zw_init {n0 n k0 kd ci M1 Mx a1 a2 : Nat} {ps : List Nat} {rest : List Value} (q uc2 us2 : Nat) (as : List Value) (la : List (Nat × Value)) (e : zf M pc = some (.invokespecial n0)) (hq : pc + 3 = q) (hc : zcall M n0 99 = some (a1, a2, ci, kd, M1, n, Mx, ps)) (hd : st.drop n = .ref k0 :: rest) (hkd : kd = 4 ∨ kd = 5) (hcat : (rest.map (fun v => v.category)).sum ≤ 8) (h1 : uc + (zrm M1).cells = uc2) (h2 : us + (zrm M1).slots = us2) (h3 : uc2 ≤ (zrm M).cells) (h4 : us2 ≤ (zrm M).slots) (has : .ref k0 :: (st.take n).reverse = as) (ha : (as.map (fun v => v.category)).sum ≤ zN M1) (hla : zargs 0 as = la)
    (k : zWp ro M1 0 la [] h 0 0 (fun r h1 => zWp ro M q ls (r.toList ++ rest) h1 uc2 us2 post)) : zWp ro M pc ls st h uc us post := by
  subst hq; subst h1; subst h2; subst hla; subst has
  refine zw_callg e ?_ ha k
  have h7 : ¬ kd = 7 := by omega
  simp only [zo, hc]
  rw [if_neg h7, if_pos hkd, hd]
  simp only
  rw [if_pos ⟨hcat, h3, h4⟩]
theorem zw_obj {n0 n k0 ci M1 Mx a1 a2 : Nat} {ps : List Nat} (q : Nat) (e : zf M pc = some (.invokespecial n0)) (hq : pc + 3 = q) (hc : zcall M n0 99 = some (a1, a2, ci, 7, M1, n, Mx, ps)) (hcat : (st.map (fun v => v.category)).sum ≤ 8) (k : zWp ro M q ls st h uc us post) : zWp ro M pc ls (.ref k0 :: st) h uc us post := by
  subst hq
  refine zw_go (c := (pc + 3, ls, st, h, uc, us)) e ?_ k
  simp only [zo, hc, if_true]
  rw [if_pos hcat]
  rfl
theorem zw_super {n0 n k0 ci kd M1 Mx a1 a2 a3 : Nat} {ps : List Nat} {fs : List Value} {rest : List Value} (q uc2 us2 : Nat) (as : List Value) (la : List (Nat × Value)) (e : zf M pc = some (.invokespecial n0)) (hq : pc + 3 = q) (hc0 : zcall M n0 99 = none) (hc : zcall M n0 98 = some (a1, a2, a3, kd, M1, n, Mx, ps)) (hkd : kd = 6 ∨ kd = 9) (hd : st.drop n = .ref k0 :: rest) (hk : h[k0]? = some (.inr (ci, fs))) (hci : ci < 13) (hcat : (rest.map (fun v => v.category)).sum ≤ 8) (h1 : uc + (zrm M1).cells = uc2) (h2 : us + (zrm M1).slots = us2) (h3 : uc2 ≤ (zrm M).cells) (h4 : us2 ≤ (zrm M).slots) (has : .ref k0 :: (st.take n).reverse = as) (ha : (as.map (fun v => v.category)).sum ≤ zN M1) (hla : zargs 0 as = la)
    (k : zWp ro M1 0 la [] h 0 0 (fun r h1 => zWp ro M q ls (r.toList ++ rest) h1 uc2 us2 post)) : zWp ro M pc ls st h uc us post := by
  subst hq; subst h1; subst h2; subst hla; subst has
  refine zw_callg e ?_ ha k
  simp only [zo, hc0, hc]
  rw [if_pos hkd, hd]
  simp only [hk]
  rw [if_pos ⟨hci, hcat, h3, h4⟩]
theorem zw_copyi {n0 n ci M1 Mx b1 b2 k0 k1 m0 m1 : Nat} {ps : List Nat} {nn dp sp : Int32} {f g : Nat → Int32} (q n1 d1 s1 : Nat) (e : zf M pc = some (.invokestatic n0)) (hq : pc + 3 = q) (hc : zcall M n0 99 = some (b1, b2, ci, 8, M1, n, Mx, ps)) (hk0 : h[k0]? = some (.inl (0, m0, .inl f))) (hk1 : h[k1]? = some (.inl (0, m1, .inl g))) (hn : nn.toNatClampNeg = n1) (hdp : dp.toNatClampNeg = d1) (hsp : sp.toNatClampNeg = s1) (e1 : ¬ sp < 0) (e2 : ¬ dp < 0) (e3 : ¬ nn < 0) (e4 : s1 + n1 ≤ m0) (e5 : d1 + n1 ≤ m1) (hcat : (st.map (fun v => v.category)).sum ≤ 8) (k : zWp ro M q ls st (h.set k1 (.inl (0, m1, .inl (va_cpy f g s1 d1 n1)))) uc us post) : zWp ro M pc ls (.int nn :: .int dp :: .ref k1 :: .int sp :: .ref k0 :: st) h uc us post := by
  subst hq; subst hn; subst hdp; subst hsp
  refine zw_go (c := (pc + 3, ls, st, h.set k1 (.inl (0, m1, .inl (va_cpy f g sp.toNatClampNeg dp.toNatClampNeg nn.toNatClampNeg))), uc, us)) e ?_ k
  simp only [zo, hc, reduceCtorEq, Nat.reduceEqDiff, or_self, if_false, if_true, hk0, hk1]
  rw [if_pos ⟨e1, e2, e3, e4, e5, hcat⟩]
  rfl
theorem zw_copyl {n0 n ci M1 Mx b1 b2 k0 k1 m0 m1 : Nat} {ps : List Nat} {nn dp sp : Int32} {f g : Nat → Int64} (q n1 d1 s1 : Nat) (e : zf M pc = some (.invokestatic n0)) (hq : pc + 3 = q) (hc : zcall M n0 99 = some (b1, b2, ci, 8, M1, n, Mx, ps)) (hk0 : h[k0]? = some (.inl (1, m0, .inr (.inl f)))) (hk1 : h[k1]? = some (.inl (1, m1, .inr (.inl g)))) (hn : nn.toNatClampNeg = n1) (hdp : dp.toNatClampNeg = d1) (hsp : sp.toNatClampNeg = s1) (e1 : ¬ sp < 0) (e2 : ¬ dp < 0) (e3 : ¬ nn < 0) (e4 : s1 + n1 ≤ m0) (e5 : d1 + n1 ≤ m1) (hcat : (st.map (fun v => v.category)).sum ≤ 8) (k : zWp ro M q ls st (h.set k1 (.inl (1, m1, .inr (.inl (va_cpy f g s1 d1 n1))))) uc us post) : zWp ro M pc ls (.int nn :: .int dp :: .ref k1 :: .int sp :: .ref k0 :: st) h uc us post := by
  subst hq; subst hn; subst hdp; subst hsp
  refine zw_go (c := (pc + 3, ls, st, h.set k1 (.inl (1, m1, .inr (.inl (va_cpy f g sp.toNatClampNeg dp.toNatClampNeg nn.toNatClampNeg)))), uc, us)) e ?_ k
  simp only [zo, hc, reduceCtorEq, Nat.reduceEqDiff, or_self, if_false, if_true, hk0, hk1]
  rw [if_pos ⟨e1, e2, e3, e4, e5, hcat⟩]
  rfl
end ZWP
