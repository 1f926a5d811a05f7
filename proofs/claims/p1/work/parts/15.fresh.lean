def zMF (h : List va_E) : Prop := h.length = 82 ∧ ∀ k, 52 ≤ k → k < 82 → h[k]? = hF[k]?
theorem zMF_0 : zMF hF := ⟨rfl, fun _ _ _ => rfl⟩
theorem zMF_set {h : List va_E} {k : Nat} {c : va_E} (hk : k < 52) (m : zMF h) : zMF (h.set k c) := by
  refine ⟨by rw [List.length_set]; exact m.1, fun j h1 h2 => ?_⟩
  rw [List.getElem?_set_ne (by omega)]
  exact m.2 j h1 h2
def hMx (x : Nat → va_E) : List va_E := [x 0, x 1, x 2, x 3, x 4, x 5, x 6, x 7, x 8, x 9, x 10, x 11, x 12, x 13, x 14, x 15, x 16, x 17, x 18, x 19, x 20, x 21, x 22, x 23, x 24, x 25, x 26, x 27, x 28, x 29, x 30, x 31, x 32, x 33, x 34, x 35, x 36, x 37, x 38, x 39, x 40, x 41, x 42, x 43, x 44, x 45, x 46, x 47, x 48, x 49, x 50, x 51, .inr (12, [.int 0, .ref 53, .ref 54, .ref 55, .ref 56, .ref 57, .ref 58, .ref 59, .int 0, .ref 60, .ref 61, .ref 62, .long 1, .long 0, .long 0, .long 0, .ref 63, .ref 64, .ref 65, .ref 66, .int 0, .long 0, .int 1, .ref 67, .ref 68, .ref 69, .ref 70, .int 0, .ref 71, .int 0, .ref 72, .ref 73, .ref 74, .ref 75, .int 0, .int 0, .long 0, .long 0, .int 0, .long 0, .ref 76, .int (-1), .int 0, .long 0, .long 0, .long 0, .long 0, .int 0, .ref 77, .ref 78, .ref 79, .ref 80, .ref 81, .int 0, .int 0]), .inl (0, 8, .inl (fun _ => 0)), .inl (0, 8, .inl (fun _ => 0)), .inl (0, 8, .inl (fun _ => 0)), .inl (0, 8, .inl (fun _ => 0)), .inl (0, 8, .inl (fun _ => 0)), .inl (0, 8, .inl (fun _ => 0)), .inl (0, 8, .inl (fun _ => 0)), .inl (0, 14, .inl (fun _ => 0)), .inl (0, 14, .inl (fun _ => 0)), .inl (0, 14, .inl (fun _ => 0)), .inl (1, 8, .inr (.inl (fun _ => 0))), .inl (2, 14, .inl (fun _ => 0)), .inl (2, 8, .inl (fun _ => 0)), .inl (0, 8, .inl (fun _ => 0)), .inl (0, 400, .inl (fun _ => 0)), .inl (0, 400, .inl (fun _ => 0)), .inl (1, 400, .inr (.inl (fun _ => 0))), .inl (1, 400, .inr (.inl (fun _ => 0))), .inl (0, 50, .inl (fun _ => 0)), .inl (0, 8, .inl (fun _ => 0)), .inl (0, 8, .inl (fun _ => 0)), .inl (0, 8, .inl (fun _ => 0)), .inl (0, 14, .inl (fun _ => 0)), .inl (1, 11, .inr (.inl (fun _ => 0))), .inl (1, 8, .inr (.inl (fun _ => 0))), .inl (2, 14, .inl (fun _ => 0)), .inl (2, 8, .inl (fun _ => 0)), .inl (0, 8, .inl (fun _ => 0)), .inl (1, 1661, .inr (.inl (fun _ => 0)))]
theorem zMF_ex {h : List va_E} (m : zMF h) : ∃ x : Nat → va_E, h = hMx x := by
  refine ⟨fun k => h.getD k (.inr (0, [])), ?_⟩
  apply List.ext_getElem?
  intro j
  by_cases h1 : j < 52
  · have e1 : ∀ (f : Nat → va_E), ∀ i, i < 52 → (hMx f)[i]? = some (f i) := by
      intro f i hi
      have e2 : (hMx f)[i]? = (((List.range 52).map f) ++ (hMx f).drop 52)[i]? := rfl
      rw [e2, List.getElem?_append_left (by simpa using hi), List.getElem?_map, List.getElem?_range hi]
      rfl
    rw [e1 _ j h1, List.getD_eq_getElem?_getD, List.getElem?_eq_getElem (by rw [m.1]; omega)]
    rfl
  · by_cases h2 : j < 82
    · rw [m.2 j (by omega) h2]
      have e3 : ∀ (f : Nat → va_E), (hMx f).drop 52 = hF.drop 52 := fun f => rfl
      have e4 := congrArg (fun l : List va_E => l[j - 52]?) (e3 (fun k => h.getD k (.inr (0, []))))
      simp only [List.getElem?_drop] at e4
      rw [show 52 + (j - 52) = j by omega] at e4
      exact e4.symm
    · rw [List.getElem?_eq_none (by rw [m.1]; omega), List.getElem?_eq_none (by show 82 ≤ j; omega)]
theorem zl_m1 {a : Int32} (h : ¬ a < 0) : -1 < a := by
  rw [Int32.lt_iff_toInt_lt] at h ⊢
  have e1 : (-1 : Int32).toInt = -1 := by decide
  have e0 : (0 : Int32).toInt = 0 := by decide
  omega
theorem zl_w (a : Int32) : a.toInt64.toInt = a.toInt := by simp
theorem zl_pos {a : Int32} (h : 0 < a) : lg_cmp 0 a.toInt64 = -1 ∧ lg_cmp a.toInt64 0 = 1 := by
  rw [Int32.lt_iff_toInt_lt] at h
  have e0 : (0 : Int32).toInt = 0 := by decide
  have e1 : (0 : Int64).toInt = 0 := by decide
  have e2 := zl_w a
  unfold lg_cmp
  refine ⟨?_, ?_⟩
  · rw [if_neg (fun q => by rw [gt_iff_lt, Int64.lt_iff_toInt_lt] at q; omega), if_neg (fun q => by rw [← q] at e2; omega)]
  · rw [if_pos (by rw [gt_iff_lt, Int64.lt_iff_toInt_lt]; omega)]
theorem zl_neg {a : Int32} (h : a < 0) : lg_cmp 0 a.toInt64 = 1 ∧ lg_cmp a.toInt64 0 = -1 := by
  rw [Int32.lt_iff_toInt_lt] at h
  have e0 : (0 : Int32).toInt = 0 := by decide
  have e1 : (0 : Int64).toInt = 0 := by decide
  have e2 := zl_w a
  unfold lg_cmp
  refine ⟨?_, ?_⟩
  · rw [if_pos (by rw [gt_iff_lt, Int64.lt_iff_toInt_lt]; omega)]
  · rw [if_neg (fun q => by rw [gt_iff_lt, Int64.lt_iff_toInt_lt] at q; omega), if_neg (fun q => by rw [q] at e2; omega)]
theorem zl_one {b : Int32} (h : ¬ b < 1) : 0 < b := by
  rw [Int32.lt_iff_toInt_lt] at h ⊢
  have e0 : (0 : Int32).toInt = 0 := by decide
  have e1 : (1 : Int32).toInt = 1 := by decide
  omega
theorem zl_sw (n : Nat) (hn : n < 100) (a : Int32) : (a.toInt < 0 ∨ (n : Int) < a.toInt) ∨ ∃ k : Nat, k ≤ n ∧ a = nI k := by
  by_cases h : a.toInt < 0 ∨ (n : Int) < a.toInt
  · exact Or.inl h
  · refine Or.inr ⟨a.toInt.toNat, by omega, ?_⟩
    apply Int32.toInt_inj.mp
    rw [nI_toInt (by omega)]
    omega
theorem zl_ne {a : Int32} {n : Int} {k : Int32} (h : a.toInt < 0 ∨ n < a.toInt) (hk : ¬ (k.toInt < 0 ∨ n < k.toInt)) : ¬ a = k := fun e => hk (e ▸ h)
theorem zl_nlt {a : Int32} {n : Int} (h : a.toInt < 0 ∨ n < a.toInt) : a < 0 ∨ n < a.toInt := by
  rcases h with h | h
  · left; rw [Int32.lt_iff_toInt_lt]; have e0 : (0 : Int32).toInt = 0 := by decide
    omega
  · exact Or.inr h
def zodd (b : Int32) : Bool := (decide (b - b / 2 * 2 = 0) && decide (b &&& 1 = 0)) || ((decide (b - b / 2 * 2 = 1) && decide (b &&& 1 = 1)) || (decide (b - b / 2 * 2 = -1) && decide (b &&& 1 = 1)))
theorem zodd_all : ∀ k : Nat, k < 201 → zodd (Int32.ofInt ((k : Int) - 100)) = true := by decide +kernel
theorem zl_odd {b : Int32} (h1 : ¬ b < -100) (h2 : ¬ 100 < b) : (b - b / 2 * 2 = 0 ∧ b &&& 1 = 0) ∨ (b - b / 2 * 2 = 1 ∧ b &&& 1 = 1) ∨ (b - b / 2 * 2 = -1 ∧ b &&& 1 = 1) := by
  rw [Int32.lt_iff_toInt_lt] at h1 h2
  have e0 : (-100 : Int32).toInt = -100 := by decide
  have e1 : (100 : Int32).toInt = 100 := by decide
  have e : b = Int32.ofInt (((b.toInt + 100).toNat : Int) - 100) := by
    have e3 : (((b.toInt + 100).toNat : Int) - 100) = b.toInt := by omega
    rw [e3]
    exact (Int32.ofInt_toInt b).symm
  have h := zodd_all (b.toInt + 100).toNat (by omega)
  rw [← e] at h
  simpa [zodd] using h
theorem zl_zero2 {b c : Int32} (h1 : ¬ b < 0) (h2 : ¬ c < 0) (h3 : ¬ 100 < b) (h4 : ¬ 100 < c) (h5 : ¬ 0 < c + b) : b = 0 ∧ c = 0 := by
  rw [Int32.lt_iff_toInt_lt] at h1 h2 h3 h4 h5
  have e0 : (0 : Int32).toInt = 0 := by decide
  have e1 : (100 : Int32).toInt = 100 := by decide
  rw [Int32.toInt_add] at h5
  have e5 : (c.toInt + b.toInt).bmod (2 ^ 32) = c.toInt + b.toInt := by
    apply Int.bmod_eq_of_le <;> omega
  rw [e5] at h5
  refine ⟨Int32.toInt_inj.mp (by omega), Int32.toInt_inj.mp (by omega)⟩
