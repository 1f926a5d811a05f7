theorem zg_ne {α : Type} {h : List α} {k j : Nat} {c : α} {v : Option α} (hn : Nat.beq k j = false) (e : h[j]? = v) : (h.set k c)[j]? = v := by
  rw [List.getElem?_set_ne (Nat.ne_of_beq_eq_false hn)]
  exact e
theorem zg_lt {α : Type} {h : List α} {k : Nat} {v : α} (e : h[k]? = some v) : k < h.length := (List.getElem?_eq_some_iff.mp e).1
theorem zg_eq {α : Type} {h : List α} {k : Nat} {c v : α} (e : h[k]? = some v) : (h.set k c)[k]? = some c := by
  rw [List.getElem?_set_self (zg_lt e)]
theorem mb_52 (x : Nat → va_E) : (hMx x)[52]? = some (.inr (12, [.int 0, .ref 53, .ref 54, .ref 55, .ref 56, .ref 57, .ref 58, .ref 59, .int 0, .ref 60, .ref 61, .ref 62, .long 1, .long 0, .long 0, .long 0, .ref 63, .ref 64, .ref 65, .ref 66, .int 0, .long 0, .int 1, .ref 67, .ref 68, .ref 69, .ref 70, .int 0, .ref 71, .int 0, .ref 72, .ref 73, .ref 74, .ref 75, .int 0, .int 0, .long 0, .long 0, .int 0, .long 0, .ref 76, .int (-1), .int 0, .long 0, .long 0, .long 0, .long 0, .int 0, .ref 77, .ref 78, .ref 79, .ref 80, .ref 81, .int 0, .int 0])) := rfl
theorem mb_53 (x : Nat → va_E) : (hMx x)[53]? = some (.inl (0, 8, .inl (fun _ => 0))) := rfl
theorem mb_54 (x : Nat → va_E) : (hMx x)[54]? = some (.inl (0, 8, .inl (fun _ => 0))) := rfl
theorem mb_55 (x : Nat → va_E) : (hMx x)[55]? = some (.inl (0, 8, .inl (fun _ => 0))) := rfl
theorem mb_56 (x : Nat → va_E) : (hMx x)[56]? = some (.inl (0, 8, .inl (fun _ => 0))) := rfl
theorem mb_57 (x : Nat → va_E) : (hMx x)[57]? = some (.inl (0, 8, .inl (fun _ => 0))) := rfl
theorem mb_58 (x : Nat → va_E) : (hMx x)[58]? = some (.inl (0, 8, .inl (fun _ => 0))) := rfl
theorem mb_59 (x : Nat → va_E) : (hMx x)[59]? = some (.inl (0, 8, .inl (fun _ => 0))) := rfl
theorem mb_60 (x : Nat → va_E) : (hMx x)[60]? = some (.inl (0, 14, .inl (fun _ => 0))) := rfl
theorem mb_61 (x : Nat → va_E) : (hMx x)[61]? = some (.inl (0, 14, .inl (fun _ => 0))) := rfl
theorem mb_62 (x : Nat → va_E) : (hMx x)[62]? = some (.inl (0, 14, .inl (fun _ => 0))) := rfl
theorem mb_63 (x : Nat → va_E) : (hMx x)[63]? = some (.inl (1, 8, .inr (.inl (fun _ => 0)))) := rfl
theorem mb_64 (x : Nat → va_E) : (hMx x)[64]? = some (.inl (2, 14, .inl (fun _ => 0))) := rfl
theorem mb_65 (x : Nat → va_E) : (hMx x)[65]? = some (.inl (2, 8, .inl (fun _ => 0))) := rfl
theorem mb_66 (x : Nat → va_E) : (hMx x)[66]? = some (.inl (0, 8, .inl (fun _ => 0))) := rfl
theorem mb_67 (x : Nat → va_E) : (hMx x)[67]? = some (.inl (0, 400, .inl (fun _ => 0))) := rfl
theorem mb_68 (x : Nat → va_E) : (hMx x)[68]? = some (.inl (0, 400, .inl (fun _ => 0))) := rfl
theorem mb_69 (x : Nat → va_E) : (hMx x)[69]? = some (.inl (1, 400, .inr (.inl (fun _ => 0)))) := rfl
theorem mb_70 (x : Nat → va_E) : (hMx x)[70]? = some (.inl (1, 400, .inr (.inl (fun _ => 0)))) := rfl
theorem mb_71 (x : Nat → va_E) : (hMx x)[71]? = some (.inl (0, 50, .inl (fun _ => 0))) := rfl
theorem mb_72 (x : Nat → va_E) : (hMx x)[72]? = some (.inl (0, 8, .inl (fun _ => 0))) := rfl
theorem mb_73 (x : Nat → va_E) : (hMx x)[73]? = some (.inl (0, 8, .inl (fun _ => 0))) := rfl
theorem mb_74 (x : Nat → va_E) : (hMx x)[74]? = some (.inl (0, 8, .inl (fun _ => 0))) := rfl
theorem mb_75 (x : Nat → va_E) : (hMx x)[75]? = some (.inl (0, 14, .inl (fun _ => 0))) := rfl
theorem mb_76 (x : Nat → va_E) : (hMx x)[76]? = some (.inl (1, 11, .inr (.inl (fun _ => 0)))) := rfl
theorem mb_77 (x : Nat → va_E) : (hMx x)[77]? = some (.inl (1, 8, .inr (.inl (fun _ => 0)))) := rfl
theorem mb_78 (x : Nat → va_E) : (hMx x)[78]? = some (.inl (2, 14, .inl (fun _ => 0))) := rfl
theorem mb_79 (x : Nat → va_E) : (hMx x)[79]? = some (.inl (2, 8, .inl (fun _ => 0))) := rfl
theorem mb_80 (x : Nat → va_E) : (hMx x)[80]? = some (.inl (0, 8, .inl (fun _ => 0))) := rfl
theorem mb_81 (x : Nat → va_E) : (hMx x)[81]? = some (.inl (1, 1661, .inr (.inl (fun _ => 0)))) := rfl
