/-! ===== hands at the class, exact ===== -/
def fHd (k j : Nat) : Bool := decide ((k = 0 ∧ j = 7) ∨ k = 1 ∨ (k = 11 ∧ j = 12) ∨ k = 12 ∨ k = 33)
def pHd (k : Nat) : Bool := decide ((2 ≤ k ∧ k ≤ 10) ∨ k = 13 ∨ k = 14 ∨ k = 15 ∨ k = 20 ∨ k = 21 ∨ (34 ≤ k ∧ k ≤ 37))
theorem fSe_Hd : ∀ k j, fHd k j = false → fSe 11 k j = false := by
  intro k j h
  simp only [fSe, fHd, decide_eq_false_iff_not] at h ⊢
  omega
theorem pSe_Hd : ∀ k, pHd k = false → pSe 11 k = false := by
  intro k h
  simp only [pSe, pHd, decide_eq_false_iff_not] at h ⊢
  omega
theorem fLt_Hd : ∀ k j, fHd k j = false → fLt k j = false := by
  intro k j h
  simp only [fLt, fHd, decide_eq_false_iff_not] at h ⊢
  omega
theorem pLt_Hd : ∀ k, pHd k = false → pLt k = false := by
  intro k h
  simp only [pLt, pHd, decide_eq_false_iff_not] at h ⊢
  omega
theorem fCp_Hd : ∀ k j, fHd k j = false → fCp 11 k j = false := by
  intro k j h
  simp only [fCp, fHd, decide_eq_false_iff_not] at h ⊢
  omega
theorem pCa_Hd : ∀ k, pHd k = false → pCa 11 k = false := by
  intro k h
  simp only [pCa, pHd, decide_eq_false_iff_not] at h ⊢
  omega

theorem cnt_v {nv : Nat} {kind c c1 kind2 : Nat → Int32} {a : Int32} (h : ∀ v, (v < nv → kind v = 4) → c1 v = c v) (hk : kind2 = upd kind nv a) : ∀ v, (v < nv + 1 → kind2 v = 4) → c1 v = c v := by
  intro v hv
  refine h v (fun q => ?_)
  have := hv (by omega)
  rw [hk, upd_o (by omega)] at this
  exact this
theorem fil_b {b : Int32} {g : Int64} (hg : 1 ≤ g.toInt ∧ g.toInt ≤ 10000) (h : qRg b 1 1000) : 0 ≤ (Int32.toInt64 b * g).toInt ∧ (Int32.toInt64 b * g).toInt ≤ 100000000 := by
  have q := qRg.i (l := 1) (h := 1000) (by decide) (by decide) h
  have m := mul_bd (a := b.toInt) (b := g.toInt) (A := 1000) (B := 10000) (by omega) q.2 (by omega) hg.2
  have t := Int32.toInt_toInt64 b
  have e : (Int32.toInt64 b * g).toInt = b.toInt * g.toInt := by
    rw [i64_mul, t] <;> rw [t] <;> omega
  rw [e]; omega
theorem qV.to {n : Nat} {a : Int32} (h : qV n a) : mTo n 0 a := Or.inr ⟨a.toNatClampNeg, Nat.zero_le _, h.1, h.2⟩
theorem bset_a {x : Int32} {a : Int32} {f : Nat → Int32} (h : qV 14 a) (e : bOf 14 x = f) : bOf 14 (x ||| ((1 : Int32) <<< (a &&& 31))) = upd f a.toNatClampNeg 1 := by
  have hn := h.1
  rw [show (x ||| ((1 : Int32) <<< (a &&& 31))) = (x ||| ((1 : Int32) <<< (nI a.toNatClampNeg &&& 31))) by rw [← h.2], bOf_set hn (by omega), e]
theorem bclr_a {x : Int32} {a : Int32} {f : Nat → Int32} (h : qV 14 a) (e : bOf 14 x = f) : bOf 14 (x &&& (((1 : Int32) <<< (a &&& 31)) ^^^ (-1))) = upd f a.toNatClampNeg 0 := by
  have hn := h.1
  rw [show (x &&& (((1 : Int32) <<< (a &&& 31)) ^^^ (-1))) = (x &&& (((1 : Int32) <<< (nI a.toNatClampNeg &&& 31)) ^^^ (-1))) by rw [← h.2], bOf_clr hn (by omega), e]
theorem qV.mono {n m : Nat} {a : Int32} (h : qV n a) (hm : n ≤ m) : qV m a := ⟨by have := h.1; omega, h.2⟩
set_option maxRecDepth 100000 in
set_option maxHeartbeats 0 in
theorem cx_vessel (ro : UInt32 → Nat × (Nat → Int32)) (nv np : Nat) (P : Nat → Nat → Int32) (W : qW) (L : qLog) (K : Int) (so : Int32) (I : Nat → Nat → Int32) (G : Nat → Nat → Int64) (A : Nat → Nat → Int32) (B : Nat → Nat → Int64) (hR : cRS 11 nv np P W I G A B) (hp : MPa nv np P) (hW : wInv nv 10000 K P W) (hQ : qKd nv P) (hL : cLg L I A) (hK : K ≤ 199000000) (hn : L.1 < 900000000) (a : Int32) (b : Int32) (hok : ok_vessel nv np P a b → MPa (nv + 1) np (updA (updA (updA (updA (updA (updA (updA P 53 (upd (P 53) nv a)) 54 (upd ((updA P 53 (upd (P 53) nv a)) 54) nv b)) 55 (upd ((updA (updA P 53 (upd (P 53) nv a)) 54 (upd ((updA P 53 (upd (P 53) nv a)) 54) nv b)) 55) nv (if a = 0 ∨ a = 2 then 0 else b))) 56 (upd ((updA (updA (updA P 53 (upd (P 53) nv a)) 54 (upd ((updA P 53 (upd (P 53) nv a)) 54) nv b)) 55 (upd ((updA (updA P 53 (upd (P 53) nv a)) 54 (upd ((updA P 53 (upd (P 53) nv a)) 54) nv b)) 55) nv (if a = 0 ∨ a = 2 then 0 else b))) 56) nv 0)) 57 (upd ((updA (updA (updA (updA P 53 (upd (P 53) nv a)) 54 (upd ((updA P 53 (upd (P 53) nv a)) 54) nv b)) 55 (upd ((updA (updA P 53 (upd (P 53) nv a)) 54 (upd ((updA P 53 (upd (P 53) nv a)) 54) nv b)) 55) nv (if a = 0 ∨ a = 2 then 0 else b))) 56 (upd ((updA (updA (updA P 53 (upd (P 53) nv a)) 54 (upd ((updA P 53 (upd (P 53) nv a)) 54) nv b)) 55 (upd ((updA (updA P 53 (upd (P 53) nv a)) 54 (upd ((updA P 53 (upd (P 53) nv a)) 54) nv b)) 55) nv (if a = 0 ∨ a = 2 then 0 else b))) 56) nv 0)) 57) nv (-1))) 58 (upd ((updA (updA (updA (updA (updA P 53 (upd (P 53) nv a)) 54 (upd ((updA P 53 (upd (P 53) nv a)) 54) nv b)) 55 (upd ((updA (updA P 53 (upd (P 53) nv a)) 54 (upd ((updA P 53 (upd (P 53) nv a)) 54) nv b)) 55) nv (if a = 0 ∨ a = 2 then 0 else b))) 56 (upd ((updA (updA (updA P 53 (upd (P 53) nv a)) 54 (upd ((updA P 53 (upd (P 53) nv a)) 54) nv b)) 55 (upd ((updA (updA P 53 (upd (P 53) nv a)) 54 (upd ((updA P 53 (upd (P 53) nv a)) 54) nv b)) 55) nv (if a = 0 ∨ a = 2 then 0 else b))) 56) nv 0)) 57 (upd ((updA (updA (updA (updA P 53 (upd (P 53) nv a)) 54 (upd ((updA P 53 (upd (P 53) nv a)) 54) nv b)) 55 (upd ((updA (updA P 53 (upd (P 53) nv a)) 54 (upd ((updA P 53 (upd (P 53) nv a)) 54) nv b)) 55) nv (if a = 0 ∨ a = 2 then 0 else b))) 56 (upd ((updA (updA (updA P 53 (upd (P 53) nv a)) 54 (upd ((updA P 53 (upd (P 53) nv a)) 54) nv b)) 55 (upd ((updA (updA P 53 (upd (P 53) nv a)) 54 (upd ((updA P 53 (upd (P 53) nv a)) 54) nv b)) 55) nv (if a = 0 ∨ a = 2 then 0 else b))) 56) nv 0)) 57) nv (-1))) 58) nv (-1))) 59 (upd ((updA (updA (updA (updA (updA (updA P 53 (upd (P 53) nv a)) 54 (upd ((updA P 53 (upd (P 53) nv a)) 54) nv b)) 55 (upd ((updA (updA P 53 (upd (P 53) nv a)) 54 (upd ((updA P 53 (upd (P 53) nv a)) 54) nv b)) 55) nv (if a = 0 ∨ a = 2 then 0 else b))) 56 (upd ((updA (updA (updA P 53 (upd (P 53) nv a)) 54 (upd ((updA P 53 (upd (P 53) nv a)) 54) nv b)) 55 (upd ((updA (updA P 53 (upd (P 53) nv a)) 54 (upd ((updA P 53 (upd (P 53) nv a)) 54) nv b)) 55) nv (if a = 0 ∨ a = 2 then 0 else b))) 56) nv 0)) 57 (upd ((updA (updA (updA (updA P 53 (upd (P 53) nv a)) 54 (upd ((updA P 53 (upd (P 53) nv a)) 54) nv b)) 55 (upd ((updA (updA P 53 (upd (P 53) nv a)) 54 (upd ((updA P 53 (upd (P 53) nv a)) 54) nv b)) 55) nv (if a = 0 ∨ a = 2 then 0 else b))) 56 (upd ((updA (updA (updA P 53 (upd (P 53) nv a)) 54 (upd ((updA P 53 (upd (P 53) nv a)) 54) nv b)) 55 (upd ((updA (updA P 53 (upd (P 53) nv a)) 54 (upd ((updA P 53 (upd (P 53) nv a)) 54) nv b)) 55) nv (if a = 0 ∨ a = 2 then 0 else b))) 56) nv 0)) 57) nv (-1))) 58 (upd ((updA (updA (updA (updA (updA P 53 (upd (P 53) nv a)) 54 (upd ((updA P 53 (upd (P 53) nv a)) 54) nv b)) 55 (upd ((updA (updA P 53 (upd (P 53) nv a)) 54 (upd ((updA P 53 (upd (P 53) nv a)) 54) nv b)) 55) nv (if a = 0 ∨ a = 2 then 0 else b))) 56 (upd ((updA (updA (updA P 53 (upd (P 53) nv a)) 54 (upd ((updA P 53 (upd (P 53) nv a)) 54) nv b)) 55 (upd ((updA (updA P 53 (upd (P 53) nv a)) 54 (upd ((updA P 53 (upd (P 53) nv a)) 54) nv b)) 55) nv (if a = 0 ∨ a = 2 then 0 else b))) 56) nv 0)) 57 (upd ((updA (updA (updA (updA P 53 (upd (P 53) nv a)) 54 (upd ((updA P 53 (upd (P 53) nv a)) 54) nv b)) 55 (upd ((updA (updA P 53 (upd (P 53) nv a)) 54 (upd ((updA P 53 (upd (P 53) nv a)) 54) nv b)) 55) nv (if a = 0 ∨ a = 2 then 0 else b))) 56 (upd ((updA (updA (updA P 53 (upd (P 53) nv a)) 54 (upd ((updA P 53 (upd (P 53) nv a)) 54) nv b)) 55 (upd ((updA (updA P 53 (upd (P 53) nv a)) 54 (upd ((updA P 53 (upd (P 53) nv a)) 54) nv b)) 55) nv (if a = 0 ∨ a = 2 then 0 else b))) 56) nv 0)) 57) nv (-1))) 58) nv (-1))) 59) nv (-1))) ∧ wInv (nv + 1) 10000 (K + 1000) (updA (updA (updA (updA (updA (updA (updA P 53 (upd (P 53) nv a)) 54 (upd ((updA P 53 (upd (P 53) nv a)) 54) nv b)) 55 (upd ((updA (updA P 53 (upd (P 53) nv a)) 54 (upd ((updA P 53 (upd (P 53) nv a)) 54) nv b)) 55) nv (if a = 0 ∨ a = 2 then 0 else b))) 56 (upd ((updA (updA (updA P 53 (upd (P 53) nv a)) 54 (upd ((updA P 53 (upd (P 53) nv a)) 54) nv b)) 55 (upd ((updA (updA P 53 (upd (P 53) nv a)) 54 (upd ((updA P 53 (upd (P 53) nv a)) 54) nv b)) 55) nv (if a = 0 ∨ a = 2 then 0 else b))) 56) nv 0)) 57 (upd ((updA (updA (updA (updA P 53 (upd (P 53) nv a)) 54 (upd ((updA P 53 (upd (P 53) nv a)) 54) nv b)) 55 (upd ((updA (updA P 53 (upd (P 53) nv a)) 54 (upd ((updA P 53 (upd (P 53) nv a)) 54) nv b)) 55) nv (if a = 0 ∨ a = 2 then 0 else b))) 56 (upd ((updA (updA (updA P 53 (upd (P 53) nv a)) 54 (upd ((updA P 53 (upd (P 53) nv a)) 54) nv b)) 55 (upd ((updA (updA P 53 (upd (P 53) nv a)) 54 (upd ((updA P 53 (upd (P 53) nv a)) 54) nv b)) 55) nv (if a = 0 ∨ a = 2 then 0 else b))) 56) nv 0)) 57) nv (-1))) 58 (upd ((updA (updA (updA (updA (updA P 53 (upd (P 53) nv a)) 54 (upd ((updA P 53 (upd (P 53) nv a)) 54) nv b)) 55 (upd ((updA (updA P 53 (upd (P 53) nv a)) 54 (upd ((updA P 53 (upd (P 53) nv a)) 54) nv b)) 55) nv (if a = 0 ∨ a = 2 then 0 else b))) 56 (upd ((updA (updA (updA P 53 (upd (P 53) nv a)) 54 (upd ((updA P 53 (upd (P 53) nv a)) 54) nv b)) 55 (upd ((updA (updA P 53 (upd (P 53) nv a)) 54 (upd ((updA P 53 (upd (P 53) nv a)) 54) nv b)) 55) nv (if a = 0 ∨ a = 2 then 0 else b))) 56) nv 0)) 57 (upd ((updA (updA (updA (updA P 53 (upd (P 53) nv a)) 54 (upd ((updA P 53 (upd (P 53) nv a)) 54) nv b)) 55 (upd ((updA (updA P 53 (upd (P 53) nv a)) 54 (upd ((updA P 53 (upd (P 53) nv a)) 54) nv b)) 55) nv (if a = 0 ∨ a = 2 then 0 else b))) 56 (upd ((updA (updA (updA P 53 (upd (P 53) nv a)) 54 (upd ((updA P 53 (upd (P 53) nv a)) 54) nv b)) 55 (upd ((updA (updA P 53 (upd (P 53) nv a)) 54 (upd ((updA P 53 (upd (P 53) nv a)) 54) nv b)) 55) nv (if a = 0 ∨ a = 2 then 0 else b))) 56) nv 0)) 57) nv (-1))) 58) nv (-1))) 59 (upd ((updA (updA (updA (updA (updA (updA P 53 (upd (P 53) nv a)) 54 (upd ((updA P 53 (upd (P 53) nv a)) 54) nv b)) 55 (upd ((updA (updA P 53 (upd (P 53) nv a)) 54 (upd ((updA P 53 (upd (P 53) nv a)) 54) nv b)) 55) nv (if a = 0 ∨ a = 2 then 0 else b))) 56 (upd ((updA (updA (updA P 53 (upd (P 53) nv a)) 54 (upd ((updA P 53 (upd (P 53) nv a)) 54) nv b)) 55 (upd ((updA (updA P 53 (upd (P 53) nv a)) 54 (upd ((updA P 53 (upd (P 53) nv a)) 54) nv b)) 55) nv (if a = 0 ∨ a = 2 then 0 else b))) 56) nv 0)) 57 (upd ((updA (updA (updA (updA P 53 (upd (P 53) nv a)) 54 (upd ((updA P 53 (upd (P 53) nv a)) 54) nv b)) 55 (upd ((updA (updA P 53 (upd (P 53) nv a)) 54 (upd ((updA P 53 (upd (P 53) nv a)) 54) nv b)) 55) nv (if a = 0 ∨ a = 2 then 0 else b))) 56 (upd ((updA (updA (updA P 53 (upd (P 53) nv a)) 54 (upd ((updA P 53 (upd (P 53) nv a)) 54) nv b)) 55 (upd ((updA (updA P 53 (upd (P 53) nv a)) 54 (upd ((updA P 53 (upd (P 53) nv a)) 54) nv b)) 55) nv (if a = 0 ∨ a = 2 then 0 else b))) 56) nv 0)) 57) nv (-1))) 58 (upd ((updA (updA (updA (updA (updA P 53 (upd (P 53) nv a)) 54 (upd ((updA P 53 (upd (P 53) nv a)) 54) nv b)) 55 (upd ((updA (updA P 53 (upd (P 53) nv a)) 54 (upd ((updA P 53 (upd (P 53) nv a)) 54) nv b)) 55) nv (if a = 0 ∨ a = 2 then 0 else b))) 56 (upd ((updA (updA (updA P 53 (upd (P 53) nv a)) 54 (upd ((updA P 53 (upd (P 53) nv a)) 54) nv b)) 55 (upd ((updA (updA P 53 (upd (P 53) nv a)) 54 (upd ((updA P 53 (upd (P 53) nv a)) 54) nv b)) 55) nv (if a = 0 ∨ a = 2 then 0 else b))) 56) nv 0)) 57 (upd ((updA (updA (updA (updA P 53 (upd (P 53) nv a)) 54 (upd ((updA P 53 (upd (P 53) nv a)) 54) nv b)) 55 (upd ((updA (updA P 53 (upd (P 53) nv a)) 54 (upd ((updA P 53 (upd (P 53) nv a)) 54) nv b)) 55) nv (if a = 0 ∨ a = 2 then 0 else b))) 56 (upd ((updA (updA (updA P 53 (upd (P 53) nv a)) 54 (upd ((updA P 53 (upd (P 53) nv a)) 54) nv b)) 55 (upd ((updA (updA P 53 (upd (P 53) nv a)) 54 (upd ((updA P 53 (upd (P 53) nv a)) 54) nv b)) 55) nv (if a = 0 ∨ a = 2 then 0 else b))) 56) nv 0)) 57) nv (-1))) 58) nv (-1))) 59) nv (-1))) W) : zWp ro 78 0 [(0, .ref 0), (1, .int a), (2, .int b)] [] (hS I G A B) 0 0 (fun r h1 => ∃ I2 G2 A2 B2, h1 = hS I2 G2 A2 B2 ∧ KQ fHd pHd I G A B I2 G2 A2 B2 ∧ ((¬ ok_vessel nv np P a b ∧ cRS 11 nv np P W I2 G2 A2 B2 ∧ cLg L I2 A2 ∧ r = some (.int (-1))) ∨ (ok_vessel nv np P a b ∧ cRS 11 (nv + 1) np (updA (updA (updA (updA (updA (updA (updA P 53 (upd (P 53) nv a)) 54 (upd ((updA P 53 (upd (P 53) nv a)) 54) nv b)) 55 (upd ((updA (updA P 53 (upd (P 53) nv a)) 54 (upd ((updA P 53 (upd (P 53) nv a)) 54) nv b)) 55) nv (if a = 0 ∨ a = 2 then 0 else b))) 56 (upd ((updA (updA (updA P 53 (upd (P 53) nv a)) 54 (upd ((updA P 53 (upd (P 53) nv a)) 54) nv b)) 55 (upd ((updA (updA P 53 (upd (P 53) nv a)) 54 (upd ((updA P 53 (upd (P 53) nv a)) 54) nv b)) 55) nv (if a = 0 ∨ a = 2 then 0 else b))) 56) nv 0)) 57 (upd ((updA (updA (updA (updA P 53 (upd (P 53) nv a)) 54 (upd ((updA P 53 (upd (P 53) nv a)) 54) nv b)) 55 (upd ((updA (updA P 53 (upd (P 53) nv a)) 54 (upd ((updA P 53 (upd (P 53) nv a)) 54) nv b)) 55) nv (if a = 0 ∨ a = 2 then 0 else b))) 56 (upd ((updA (updA (updA P 53 (upd (P 53) nv a)) 54 (upd ((updA P 53 (upd (P 53) nv a)) 54) nv b)) 55 (upd ((updA (updA P 53 (upd (P 53) nv a)) 54 (upd ((updA P 53 (upd (P 53) nv a)) 54) nv b)) 55) nv (if a = 0 ∨ a = 2 then 0 else b))) 56) nv 0)) 57) nv (-1))) 58 (upd ((updA (updA (updA (updA (updA P 53 (upd (P 53) nv a)) 54 (upd ((updA P 53 (upd (P 53) nv a)) 54) nv b)) 55 (upd ((updA (updA P 53 (upd (P 53) nv a)) 54 (upd ((updA P 53 (upd (P 53) nv a)) 54) nv b)) 55) nv (if a = 0 ∨ a = 2 then 0 else b))) 56 (upd ((updA (updA (updA P 53 (upd (P 53) nv a)) 54 (upd ((updA P 53 (upd (P 53) nv a)) 54) nv b)) 55 (upd ((updA (updA P 53 (upd (P 53) nv a)) 54 (upd ((updA P 53 (upd (P 53) nv a)) 54) nv b)) 55) nv (if a = 0 ∨ a = 2 then 0 else b))) 56) nv 0)) 57 (upd ((updA (updA (updA (updA P 53 (upd (P 53) nv a)) 54 (upd ((updA P 53 (upd (P 53) nv a)) 54) nv b)) 55 (upd ((updA (updA P 53 (upd (P 53) nv a)) 54 (upd ((updA P 53 (upd (P 53) nv a)) 54) nv b)) 55) nv (if a = 0 ∨ a = 2 then 0 else b))) 56 (upd ((updA (updA (updA P 53 (upd (P 53) nv a)) 54 (upd ((updA P 53 (upd (P 53) nv a)) 54) nv b)) 55 (upd ((updA (updA P 53 (upd (P 53) nv a)) 54 (upd ((updA P 53 (upd (P 53) nv a)) 54) nv b)) 55) nv (if a = 0 ∨ a = 2 then 0 else b))) 56) nv 0)) 57) nv (-1))) 58) nv (-1))) 59 (upd ((updA (updA (updA (updA (updA (updA P 53 (upd (P 53) nv a)) 54 (upd ((updA P 53 (upd (P 53) nv a)) 54) nv b)) 55 (upd ((updA (updA P 53 (upd (P 53) nv a)) 54 (upd ((updA P 53 (upd (P 53) nv a)) 54) nv b)) 55) nv (if a = 0 ∨ a = 2 then 0 else b))) 56 (upd ((updA (updA (updA P 53 (upd (P 53) nv a)) 54 (upd ((updA P 53 (upd (P 53) nv a)) 54) nv b)) 55 (upd ((updA (updA P 53 (upd (P 53) nv a)) 54 (upd ((updA P 53 (upd (P 53) nv a)) 54) nv b)) 55) nv (if a = 0 ∨ a = 2 then 0 else b))) 56) nv 0)) 57 (upd ((updA (updA (updA (updA P 53 (upd (P 53) nv a)) 54 (upd ((updA P 53 (upd (P 53) nv a)) 54) nv b)) 55 (upd ((updA (updA P 53 (upd (P 53) nv a)) 54 (upd ((updA P 53 (upd (P 53) nv a)) 54) nv b)) 55) nv (if a = 0 ∨ a = 2 then 0 else b))) 56 (upd ((updA (updA (updA P 53 (upd (P 53) nv a)) 54 (upd ((updA P 53 (upd (P 53) nv a)) 54) nv b)) 55 (upd ((updA (updA P 53 (upd (P 53) nv a)) 54 (upd ((updA P 53 (upd (P 53) nv a)) 54) nv b)) 55) nv (if a = 0 ∨ a = 2 then 0 else b))) 56) nv 0)) 57) nv (-1))) 58 (upd ((updA (updA (updA (updA (updA P 53 (upd (P 53) nv a)) 54 (upd ((updA P 53 (upd (P 53) nv a)) 54) nv b)) 55 (upd ((updA (updA P 53 (upd (P 53) nv a)) 54 (upd ((updA P 53 (upd (P 53) nv a)) 54) nv b)) 55) nv (if a = 0 ∨ a = 2 then 0 else b))) 56 (upd ((updA (updA (updA P 53 (upd (P 53) nv a)) 54 (upd ((updA P 53 (upd (P 53) nv a)) 54) nv b)) 55 (upd ((updA (updA P 53 (upd (P 53) nv a)) 54 (upd ((updA P 53 (upd (P 53) nv a)) 54) nv b)) 55) nv (if a = 0 ∨ a = 2 then 0 else b))) 56) nv 0)) 57 (upd ((updA (updA (updA (updA P 53 (upd (P 53) nv a)) 54 (upd ((updA P 53 (upd (P 53) nv a)) 54) nv b)) 55 (upd ((updA (updA P 53 (upd (P 53) nv a)) 54 (upd ((updA P 53 (upd (P 53) nv a)) 54) nv b)) 55) nv (if a = 0 ∨ a = 2 then 0 else b))) 56 (upd ((updA (updA (updA P 53 (upd (P 53) nv a)) 54 (upd ((updA P 53 (upd (P 53) nv a)) 54) nv b)) 55 (upd ((updA (updA P 53 (upd (P 53) nv a)) 54 (upd ((updA P 53 (upd (P 53) nv a)) 54) nv b)) 55) nv (if a = 0 ∨ a = 2 then 0 else b))) 56) nv 0)) 57) nv (-1))) 58) nv (-1))) 59) nv (-1))) (wMom (nv + 1) (updA (updA (updA (updA (updA (updA (updA P 53 (upd (P 53) nv a)) 54 (upd ((updA P 53 (upd (P 53) nv a)) 54) nv b)) 55 (upd ((updA (updA P 53 (upd (P 53) nv a)) 54 (upd ((updA P 53 (upd (P 53) nv a)) 54) nv b)) 55) nv (if a = 0 ∨ a = 2 then 0 else b))) 56 (upd ((updA (updA (updA P 53 (upd (P 53) nv a)) 54 (upd ((updA P 53 (upd (P 53) nv a)) 54) nv b)) 55 (upd ((updA (updA P 53 (upd (P 53) nv a)) 54 (upd ((updA P 53 (upd (P 53) nv a)) 54) nv b)) 55) nv (if a = 0 ∨ a = 2 then 0 else b))) 56) nv 0)) 57 (upd ((updA (updA (updA (updA P 53 (upd (P 53) nv a)) 54 (upd ((updA P 53 (upd (P 53) nv a)) 54) nv b)) 55 (upd ((updA (updA P 53 (upd (P 53) nv a)) 54 (upd ((updA P 53 (upd (P 53) nv a)) 54) nv b)) 55) nv (if a = 0 ∨ a = 2 then 0 else b))) 56 (upd ((updA (updA (updA P 53 (upd (P 53) nv a)) 54 (upd ((updA P 53 (upd (P 53) nv a)) 54) nv b)) 55 (upd ((updA (updA P 53 (upd (P 53) nv a)) 54 (upd ((updA P 53 (upd (P 53) nv a)) 54) nv b)) 55) nv (if a = 0 ∨ a = 2 then 0 else b))) 56) nv 0)) 57) nv (-1))) 58 (upd ((updA (updA (updA (updA (updA P 53 (upd (P 53) nv a)) 54 (upd ((updA P 53 (upd (P 53) nv a)) 54) nv b)) 55 (upd ((updA (updA P 53 (upd (P 53) nv a)) 54 (upd ((updA P 53 (upd (P 53) nv a)) 54) nv b)) 55) nv (if a = 0 ∨ a = 2 then 0 else b))) 56 (upd ((updA (updA (updA P 53 (upd (P 53) nv a)) 54 (upd ((updA P 53 (upd (P 53) nv a)) 54) nv b)) 55 (upd ((updA (updA P 53 (upd (P 53) nv a)) 54 (upd ((updA P 53 (upd (P 53) nv a)) 54) nv b)) 55) nv (if a = 0 ∨ a = 2 then 0 else b))) 56) nv 0)) 57 (upd ((updA (updA (updA (updA P 53 (upd (P 53) nv a)) 54 (upd ((updA P 53 (upd (P 53) nv a)) 54) nv b)) 55 (upd ((updA (updA P 53 (upd (P 53) nv a)) 54 (upd ((updA P 53 (upd (P 53) nv a)) 54) nv b)) 55) nv (if a = 0 ∨ a = 2 then 0 else b))) 56 (upd ((updA (updA (updA P 53 (upd (P 53) nv a)) 54 (upd ((updA P 53 (upd (P 53) nv a)) 54) nv b)) 55 (upd ((updA (updA P 53 (upd (P 53) nv a)) 54 (upd ((updA P 53 (upd (P 53) nv a)) 54) nv b)) 55) nv (if a = 0 ∨ a = 2 then 0 else b))) 56) nv 0)) 57) nv (-1))) 58) nv (-1))) 59 (upd ((updA (updA (updA (updA (updA (updA P 53 (upd (P 53) nv a)) 54 (upd ((updA P 53 (upd (P 53) nv a)) 54) nv b)) 55 (upd ((updA (updA P 53 (upd (P 53) nv a)) 54 (upd ((updA P 53 (upd (P 53) nv a)) 54) nv b)) 55) nv (if a = 0 ∨ a = 2 then 0 else b))) 56 (upd ((updA (updA (updA P 53 (upd (P 53) nv a)) 54 (upd ((updA P 53 (upd (P 53) nv a)) 54) nv b)) 55 (upd ((updA (updA P 53 (upd (P 53) nv a)) 54 (upd ((updA P 53 (upd (P 53) nv a)) 54) nv b)) 55) nv (if a = 0 ∨ a = 2 then 0 else b))) 56) nv 0)) 57 (upd ((updA (updA (updA (updA P 53 (upd (P 53) nv a)) 54 (upd ((updA P 53 (upd (P 53) nv a)) 54) nv b)) 55 (upd ((updA (updA P 53 (upd (P 53) nv a)) 54 (upd ((updA P 53 (upd (P 53) nv a)) 54) nv b)) 55) nv (if a = 0 ∨ a = 2 then 0 else b))) 56 (upd ((updA (updA (updA P 53 (upd (P 53) nv a)) 54 (upd ((updA P 53 (upd (P 53) nv a)) 54) nv b)) 55 (upd ((updA (updA P 53 (upd (P 53) nv a)) 54 (upd ((updA P 53 (upd (P 53) nv a)) 54) nv b)) 55) nv (if a = 0 ∨ a = 2 then 0 else b))) 56) nv 0)) 57) nv (-1))) 58 (upd ((updA (updA (updA (updA (updA P 53 (upd (P 53) nv a)) 54 (upd ((updA P 53 (upd (P 53) nv a)) 54) nv b)) 55 (upd ((updA (updA P 53 (upd (P 53) nv a)) 54 (upd ((updA P 53 (upd (P 53) nv a)) 54) nv b)) 55) nv (if a = 0 ∨ a = 2 then 0 else b))) 56 (upd ((updA (updA (updA P 53 (upd (P 53) nv a)) 54 (upd ((updA P 53 (upd (P 53) nv a)) 54) nv b)) 55 (upd ((updA (updA P 53 (upd (P 53) nv a)) 54 (upd ((updA P 53 (upd (P 53) nv a)) 54) nv b)) 55) nv (if a = 0 ∨ a = 2 then 0 else b))) 56) nv 0)) 57 (upd ((updA (updA (updA (updA P 53 (upd (P 53) nv a)) 54 (upd ((updA P 53 (upd (P 53) nv a)) 54) nv b)) 55 (upd ((updA (updA P 53 (upd (P 53) nv a)) 54 (upd ((updA P 53 (upd (P 53) nv a)) 54) nv b)) 55) nv (if a = 0 ∨ a = 2 then 0 else b))) 56 (upd ((updA (updA (updA P 53 (upd (P 53) nv a)) 54 (upd ((updA P 53 (upd (P 53) nv a)) 54) nv b)) 55 (upd ((updA (updA P 53 (upd (P 53) nv a)) 54 (upd ((updA P 53 (upd (P 53) nv a)) 54) nv b)) 55) nv (if a = 0 ∨ a = 2 then 0 else b))) 56) nv 0)) 57) nv (-1))) 58) nv (-1))) 59) nv (-1))) W) I2 G2 A2 B2 ∧ cLg (qNotes 1 W.2.1 W.1 so L (wEv (nv + 1) (updA (updA (updA (updA (updA (updA (updA P 53 (upd (P 53) nv a)) 54 (upd ((updA P 53 (upd (P 53) nv a)) 54) nv b)) 55 (upd ((updA (updA P 53 (upd (P 53) nv a)) 54 (upd ((updA P 53 (upd (P 53) nv a)) 54) nv b)) 55) nv (if a = 0 ∨ a = 2 then 0 else b))) 56 (upd ((updA (updA (updA P 53 (upd (P 53) nv a)) 54 (upd ((updA P 53 (upd (P 53) nv a)) 54) nv b)) 55 (upd ((updA (updA P 53 (upd (P 53) nv a)) 54 (upd ((updA P 53 (upd (P 53) nv a)) 54) nv b)) 55) nv (if a = 0 ∨ a = 2 then 0 else b))) 56) nv 0)) 57 (upd ((updA (updA (updA (updA P 53 (upd (P 53) nv a)) 54 (upd ((updA P 53 (upd (P 53) nv a)) 54) nv b)) 55 (upd ((updA (updA P 53 (upd (P 53) nv a)) 54 (upd ((updA P 53 (upd (P 53) nv a)) 54) nv b)) 55) nv (if a = 0 ∨ a = 2 then 0 else b))) 56 (upd ((updA (updA (updA P 53 (upd (P 53) nv a)) 54 (upd ((updA P 53 (upd (P 53) nv a)) 54) nv b)) 55 (upd ((updA (updA P 53 (upd (P 53) nv a)) 54 (upd ((updA P 53 (upd (P 53) nv a)) 54) nv b)) 55) nv (if a = 0 ∨ a = 2 then 0 else b))) 56) nv 0)) 57) nv (-1))) 58 (upd ((updA (updA (updA (updA (updA P 53 (upd (P 53) nv a)) 54 (upd ((updA P 53 (upd (P 53) nv a)) 54) nv b)) 55 (upd ((updA (updA P 53 (upd (P 53) nv a)) 54 (upd ((updA P 53 (upd (P 53) nv a)) 54) nv b)) 55) nv (if a = 0 ∨ a = 2 then 0 else b))) 56 (upd ((updA (updA (updA P 53 (upd (P 53) nv a)) 54 (upd ((updA P 53 (upd (P 53) nv a)) 54) nv b)) 55 (upd ((updA (updA P 53 (upd (P 53) nv a)) 54 (upd ((updA P 53 (upd (P 53) nv a)) 54) nv b)) 55) nv (if a = 0 ∨ a = 2 then 0 else b))) 56) nv 0)) 57 (upd ((updA (updA (updA (updA P 53 (upd (P 53) nv a)) 54 (upd ((updA P 53 (upd (P 53) nv a)) 54) nv b)) 55 (upd ((updA (updA P 53 (upd (P 53) nv a)) 54 (upd ((updA P 53 (upd (P 53) nv a)) 54) nv b)) 55) nv (if a = 0 ∨ a = 2 then 0 else b))) 56 (upd ((updA (updA (updA P 53 (upd (P 53) nv a)) 54 (upd ((updA P 53 (upd (P 53) nv a)) 54) nv b)) 55 (upd ((updA (updA P 53 (upd (P 53) nv a)) 54 (upd ((updA P 53 (upd (P 53) nv a)) 54) nv b)) 55) nv (if a = 0 ∨ a = 2 then 0 else b))) 56) nv 0)) 57) nv (-1))) 58) nv (-1))) 59 (upd ((updA (updA (updA (updA (updA (updA P 53 (upd (P 53) nv a)) 54 (upd ((updA P 53 (upd (P 53) nv a)) 54) nv b)) 55 (upd ((updA (updA P 53 (upd (P 53) nv a)) 54 (upd ((updA P 53 (upd (P 53) nv a)) 54) nv b)) 55) nv (if a = 0 ∨ a = 2 then 0 else b))) 56 (upd ((updA (updA (updA P 53 (upd (P 53) nv a)) 54 (upd ((updA P 53 (upd (P 53) nv a)) 54) nv b)) 55 (upd ((updA (updA P 53 (upd (P 53) nv a)) 54 (upd ((updA P 53 (upd (P 53) nv a)) 54) nv b)) 55) nv (if a = 0 ∨ a = 2 then 0 else b))) 56) nv 0)) 57 (upd ((updA (updA (updA (updA P 53 (upd (P 53) nv a)) 54 (upd ((updA P 53 (upd (P 53) nv a)) 54) nv b)) 55 (upd ((updA (updA P 53 (upd (P 53) nv a)) 54 (upd ((updA P 53 (upd (P 53) nv a)) 54) nv b)) 55) nv (if a = 0 ∨ a = 2 then 0 else b))) 56 (upd ((updA (updA (updA P 53 (upd (P 53) nv a)) 54 (upd ((updA P 53 (upd (P 53) nv a)) 54) nv b)) 55 (upd ((updA (updA P 53 (upd (P 53) nv a)) 54 (upd ((updA P 53 (upd (P 53) nv a)) 54) nv b)) 55) nv (if a = 0 ∨ a = 2 then 0 else b))) 56) nv 0)) 57) nv (-1))) 58 (upd ((updA (updA (updA (updA (updA P 53 (upd (P 53) nv a)) 54 (upd ((updA P 53 (upd (P 53) nv a)) 54) nv b)) 55 (upd ((updA (updA P 53 (upd (P 53) nv a)) 54 (upd ((updA P 53 (upd (P 53) nv a)) 54) nv b)) 55) nv (if a = 0 ∨ a = 2 then 0 else b))) 56 (upd ((updA (updA (updA P 53 (upd (P 53) nv a)) 54 (upd ((updA P 53 (upd (P 53) nv a)) 54) nv b)) 55 (upd ((updA (updA P 53 (upd (P 53) nv a)) 54 (upd ((updA P 53 (upd (P 53) nv a)) 54) nv b)) 55) nv (if a = 0 ∨ a = 2 then 0 else b))) 56) nv 0)) 57 (upd ((updA (updA (updA (updA P 53 (upd (P 53) nv a)) 54 (upd ((updA P 53 (upd (P 53) nv a)) 54) nv b)) 55 (upd ((updA (updA P 53 (upd (P 53) nv a)) 54 (upd ((updA P 53 (upd (P 53) nv a)) 54) nv b)) 55) nv (if a = 0 ∨ a = 2 then 0 else b))) 56 (upd ((updA (updA (updA P 53 (upd (P 53) nv a)) 54 (upd ((updA P 53 (upd (P 53) nv a)) 54) nv b)) 55 (upd ((updA (updA P 53 (upd (P 53) nv a)) 54 (upd ((updA P 53 (upd (P 53) nv a)) 54) nv b)) 55) nv (if a = 0 ∨ a = 2 then 0 else b))) 56) nv 0)) 57) nv (-1))) 58) nv (-1))) 59) nv (-1))) W)) I2 A2 ∧ r = some (.int (nI nv))))) := by
  have h8 := hp.1
  have h14 := hp.2.1
  have hg : 1 ≤ W.1.toInt ∧ W.1.toInt ≤ 10000 := hW.1.1.1
  refine zw_iload_n 1 f78_0 rfl rfl ?_
  refine zw_iconst 0 2 f78_1 rfl (by decide +kernel) ?_
  refine zw_iconst 4 3 f78_2 rfl (by decide +kernel) ?_
  refine zw_static_i 6 0 0 [.int a, .int 0, .int 4] [] [(0, .int a), (1, .int 0), (2, .int 4)] f78_3 rfl k78_74_99 rfl (by decide +kernel) (Nat.le_of_ble_eq_true rfl) (Nat.le_of_ble_eq_true rfl) rfl rfl (by decide +kernel) (by decide +kernel) rfl (Nat.le_of_ble_eq_true rfl) rfl ?_
  refine zw_iload_n 1 f112_0 rfl rfl ?_
  refine zw_iload_n 2 f112_1 rfl rfl ?_
  refine zw_ic_lt 5 14 f112_2 (by decide +kernel) rfl (fun hc1 => ?_) (fun hc1 => ?_)
  · refine zw_iconst 0 15 f112_14 rfl (by decide +kernel) ?_
    refine zw_zreturn f112_15 r112 u112 (by decide +kernel) ⟨_, rfl, ?_⟩
    refine zw_if_eq_t 20 f78_6 (by decide +kernel) (by decide +kernel) ?_
    refine zw_aload_n 21 f78_20 rfl rfl ?_
    refine zw_iconst 1 22 f78_21 rfl (by decide +kernel) ?_
    refine zw_virtual_i 25 0 0 [.ref 0, .int 1] [(0, .ref 0), (1, .int 1)] f78_22 rfl n78_78 k78_78_11 rfl (hb_0 _ _ _ _) (by decide +kernel) (Nat.le_of_ble_eq_true rfl) rfl rfl (by decide +kernel) (by decide +kernel) rfl (Nat.le_of_ble_eq_true rfl) rfl ?_
    refine zw_aload_n 1 f105_0 rfl rfl ?_
    refine zw_iload_n 2 f105_1 rfl rfl ?_
    refine zw_put _ 5 f105_2 rfl g105_70_11 (hb_0 _ _ _ _) rfl (Nat.le_of_ble_eq_true rfl) (by decide +kernel) (hi_0_7 _ _ _ _ _) ?_
    refine zw_iconst (-1) 6 f105_5 rfl (by decide +kernel) ?_
    refine zw_ireturn f105_6 r105 u105 ⟨_, rfl, ?_⟩
    refine zw_ireturn f78_25 r78 u78 ?_
    exact ⟨_, _, _, _, rfl, (KQ.i rfl KQ.rf), Or.inl ⟨(fun q => (fun q => q.1 hc1) q.1), hR.k (show KQ (fun k j => decide (k = 0 ∧ j = 7)) p0 _ _ _ _ _ _ _ _ from KQ.i (k := 0) (j := 7) (v := 1) rfl KQ.rf) ⟨rfl, rfl⟩ (fun j _ _ => by simp) (p0_w 11), hL, rfl⟩⟩
  · refine zw_iload_n 6 f112_5 rfl rfl ?_
    refine zw_iload_n 7 f112_6 rfl rfl ?_
    refine zw_ic_gt 10 14 f112_7 (by decide +kernel) rfl (fun hc2 => ?_) (fun hc2 => ?_)
    · refine zw_iconst 0 15 f112_14 rfl (by decide +kernel) ?_
      refine zw_zreturn f112_15 r112 u112 (by decide +kernel) ⟨_, rfl, ?_⟩
      refine zw_if_eq_t 20 f78_6 (by decide +kernel) (by decide +kernel) ?_
      refine zw_aload_n 21 f78_20 rfl rfl ?_
      refine zw_iconst 1 22 f78_21 rfl (by decide +kernel) ?_
      refine zw_virtual_i 25 0 0 [.ref 0, .int 1] [(0, .ref 0), (1, .int 1)] f78_22 rfl n78_78 k78_78_11 rfl (hb_0 _ _ _ _) (by decide +kernel) (Nat.le_of_ble_eq_true rfl) rfl rfl (by decide +kernel) (by decide +kernel) rfl (Nat.le_of_ble_eq_true rfl) rfl ?_
      refine zw_aload_n 1 f105_0 rfl rfl ?_
      refine zw_iload_n 2 f105_1 rfl rfl ?_
      refine zw_put _ 5 f105_2 rfl g105_70_11 (hb_0 _ _ _ _) rfl (Nat.le_of_ble_eq_true rfl) (by decide +kernel) (hi_0_7 _ _ _ _ _) ?_
      refine zw_iconst (-1) 6 f105_5 rfl (by decide +kernel) ?_
      refine zw_ireturn f105_6 r105 u105 ⟨_, rfl, ?_⟩
      refine zw_ireturn f78_25 r78 u78 ?_
      exact ⟨_, _, _, _, rfl, (KQ.i rfl KQ.rf), Or.inl ⟨(fun q => (fun q => q.2 hc2) q.1), hR.k (show KQ (fun k j => decide (k = 0 ∧ j = 7)) p0 _ _ _ _ _ _ _ _ from KQ.i (k := 0) (j := 7) (v := 1) rfl KQ.rf) ⟨rfl, rfl⟩ (fun j _ _ => by simp) (p0_w 11), hL, rfl⟩⟩
    · refine zw_iconst 1 11 f112_10 rfl (by decide +kernel) ?_
      refine zw_goto 15 f112_11 (by decide +kernel) ?_
      refine zw_zreturn f112_15 r112 u112 (by decide +kernel) ⟨_, rfl, ?_⟩
      refine zw_if_eq_f 9 20 f78_6 (by decide +kernel) rfl (by decide +kernel) ?_
      refine zw_iload_n 10 f78_9 rfl rfl ?_
      refine zw_iconst 1 11 f78_10 rfl (by decide +kernel) ?_
      refine zw_sipush 200 14 f78_11 rfl (by decide +kernel) ?_
      refine zw_static_i 17 0 0 [.int b, .int 1, .int 200] [] [(0, .int b), (1, .int 1), (2, .int 200)] f78_14 rfl k78_74_99 rfl (by decide +kernel) (Nat.le_of_ble_eq_true rfl) (Nat.le_of_ble_eq_true rfl) rfl rfl (by decide +kernel) (by decide +kernel) rfl (Nat.le_of_ble_eq_true rfl) rfl ?_
      refine zw_iload_n 1 f112_0 rfl rfl ?_
      refine zw_iload_n 2 f112_1 rfl rfl ?_
      refine zw_ic_lt 5 14 f112_2 (by decide +kernel) rfl (fun hc3 => ?_) (fun hc3 => ?_)
      · refine zw_iconst 0 15 f112_14 rfl (by decide +kernel) ?_
        refine zw_zreturn f112_15 r112 u112 (by decide +kernel) ⟨_, rfl, ?_⟩
        refine zw_if_ne_f 20 26 f78_17 (by decide +kernel) rfl (by decide +kernel) ?_
        refine zw_aload_n 21 f78_20 rfl rfl ?_
        refine zw_iconst 1 22 f78_21 rfl (by decide +kernel) ?_
        refine zw_virtual_i 25 0 0 [.ref 0, .int 1] [(0, .ref 0), (1, .int 1)] f78_22 rfl n78_78 k78_78_11 rfl (hb_0 _ _ _ _) (by decide +kernel) (Nat.le_of_ble_eq_true rfl) rfl rfl (by decide +kernel) (by decide +kernel) rfl (Nat.le_of_ble_eq_true rfl) rfl ?_
        refine zw_aload_n 1 f105_0 rfl rfl ?_
        refine zw_iload_n 2 f105_1 rfl rfl ?_
        refine zw_put _ 5 f105_2 rfl g105_70_11 (hb_0 _ _ _ _) rfl (Nat.le_of_ble_eq_true rfl) (by decide +kernel) (hi_0_7 _ _ _ _ _) ?_
        refine zw_iconst (-1) 6 f105_5 rfl (by decide +kernel) ?_
        refine zw_ireturn f105_6 r105 u105 ⟨_, rfl, ?_⟩
        refine zw_ireturn f78_25 r78 u78 ?_
        exact ⟨_, _, _, _, rfl, (KQ.i rfl KQ.rf), Or.inl ⟨(fun q => (fun q => q.1 hc3) q.2.1), hR.k (show KQ (fun k j => decide (k = 0 ∧ j = 7)) p0 _ _ _ _ _ _ _ _ from KQ.i (k := 0) (j := 7) (v := 1) rfl KQ.rf) ⟨rfl, rfl⟩ (fun j _ _ => by simp) (p0_w 11), hL, rfl⟩⟩
      · refine zw_iload_n 6 f112_5 rfl rfl ?_
        refine zw_iload_n 7 f112_6 rfl rfl ?_
        refine zw_ic_gt 10 14 f112_7 (by decide +kernel) rfl (fun hc4 => ?_) (fun hc4 => ?_)
        · refine zw_iconst 0 15 f112_14 rfl (by decide +kernel) ?_
          refine zw_zreturn f112_15 r112 u112 (by decide +kernel) ⟨_, rfl, ?_⟩
          refine zw_if_ne_f 20 26 f78_17 (by decide +kernel) rfl (by decide +kernel) ?_
          refine zw_aload_n 21 f78_20 rfl rfl ?_
          refine zw_iconst 1 22 f78_21 rfl (by decide +kernel) ?_
          refine zw_virtual_i 25 0 0 [.ref 0, .int 1] [(0, .ref 0), (1, .int 1)] f78_22 rfl n78_78 k78_78_11 rfl (hb_0 _ _ _ _) (by decide +kernel) (Nat.le_of_ble_eq_true rfl) rfl rfl (by decide +kernel) (by decide +kernel) rfl (Nat.le_of_ble_eq_true rfl) rfl ?_
          refine zw_aload_n 1 f105_0 rfl rfl ?_
          refine zw_iload_n 2 f105_1 rfl rfl ?_
          refine zw_put _ 5 f105_2 rfl g105_70_11 (hb_0 _ _ _ _) rfl (Nat.le_of_ble_eq_true rfl) (by decide +kernel) (hi_0_7 _ _ _ _ _) ?_
          refine zw_iconst (-1) 6 f105_5 rfl (by decide +kernel) ?_
          refine zw_ireturn f105_6 r105 u105 ⟨_, rfl, ?_⟩
          refine zw_ireturn f78_25 r78 u78 ?_
          exact ⟨_, _, _, _, rfl, (KQ.i rfl KQ.rf), Or.inl ⟨(fun q => (fun q => q.2 hc4) q.2.1), hR.k (show KQ (fun k j => decide (k = 0 ∧ j = 7)) p0 _ _ _ _ _ _ _ _ from KQ.i (k := 0) (j := 7) (v := 1) rfl KQ.rf) ⟨rfl, rfl⟩ (fun j _ _ => by simp) (p0_w 11), hL, rfl⟩⟩
        · refine zw_iconst 1 11 f112_10 rfl (by decide +kernel) ?_
          refine zw_goto 15 f112_11 (by decide +kernel) ?_
          refine zw_zreturn f112_15 r112 u112 (by decide +kernel) ⟨_, rfl, ?_⟩
          refine zw_if_ne_t 26 f78_17 (by decide +kernel) (by decide +kernel) ?_
          refine zw_aload_n 27 f78_26 rfl rfl ?_
          refine zw_getfield 30 f78_27 rfl g78_10_11 (hb_0 _ _ _ _) rfl ?_
          refine zw_iload_n 31 f78_30 rfl rfl ?_
          refine zw_iload_n 32 f78_31 rfl rfl ?_
          refine zw_virtual_i 35 0 0 [.ref 1, .int a, .int b] [(0, .ref 1), (1, .int a), (2, .int b)] f78_32 rfl n78_82 k78_82_4 rfl (hb_1 _ _ _ _) (by decide +kernel) (Nat.le_of_ble_eq_true rfl) rfl rfl (by decide +kernel) (by decide +kernel) rfl (Nat.le_of_ble_eq_true rfl) rfl ?_
          refine zw_aload_n 1 f20_0 rfl rfl ?_
          refine zw_getI (nI nv) 4 f20_1 rfl g20_39_4 (hb_1 _ _ _ _) rfl hR.1.1 ?_
          refine zw_istore_n _ 5 f20_4 rfl (by decide +kernel) rfl ?_
          refine zw_iload_n 6 f20_5 rfl zl1_eq ?_
          refine zw_bipush 8 8 f20_6 rfl (by decide +kernel) ?_
          refine zw_ic_lt 11 13 f20_8 (by decide +kernel) rfl (fun hc5 => ?_) (fun hc5 => ?_)
          · have hn_hc5 : nv < 8 := zn_lt (by omega) (by omega) (Int32.not_le.mpr hc5)
            refine zw_aload_n 14 f20_13 rfl (zl1_ne rfl rfl rfl) ?_
            refine zw_getfield 17 f20_14 rfl g20_9_4 (hb_1 _ _ _ _) rfl ?_
            refine zw_iload_n 18 f20_17 rfl zl1_eq ?_
            refine zw_iload_n 19 f20_18 rfl (zl1_ne rfl rfl rfl) ?_
            refine zw_ast nv _ 20 f20_19 rfl (hb_2 _ _ _ _) (nI_clamp (by omega)) (nI_pos (by omega)) (by omega) (ha_2 _ _ _ _ _) ?_
            refine zw_aload_n 21 f20_20 rfl (zl1_ne rfl rfl rfl) ?_
            refine zw_getfield 24 f20_21 rfl g20_15_4 (hb_1 _ _ _ _) rfl ?_
            refine zw_iload_n 25 f20_24 rfl zl1_eq ?_
            refine zw_iload_n 26 f20_25 rfl (zl1_ne rfl rfl rfl) ?_
            refine zw_ast nv _ 27 f20_26 rfl (hb_3 _ _ _ _) (nI_clamp (by omega)) (nI_pos (by omega)) (by omega) (ha_3 _ _ _ _ _) ?_
            refine zw_aload_n 28 f20_27 rfl (zl1_ne rfl rfl rfl) ?_
            refine zw_getfield 31 f20_28 rfl g20_18_4 (hb_1 _ _ _ _) rfl ?_
            refine zw_iload_n 32 f20_31 rfl zl1_eq ?_
            refine zw_iload_n 33 f20_32 rfl (zl1_ne rfl rfl rfl) ?_
            refine zw_if_eq 36 41 f20_33 (by decide +kernel) rfl (fun hc6 => ?_) (fun hc6 => ?_)
            · refine zw_iconst 0 42 f20_41 rfl (by decide +kernel) ?_
              refine zw_goto 46 f20_42 (by decide +kernel) ?_
              refine zw_ast nv _ 47 f20_46 rfl (hb_4 _ _ _ _) (nI_clamp (by omega)) (nI_pos (by omega)) (by omega) (ha_4 _ _ _ _ _) ?_
              refine zw_aload_n 48 f20_47 rfl (zl1_ne rfl rfl rfl) ?_
              refine zw_getfield 51 f20_48 rfl g20_21_4 (hb_1 _ _ _ _) rfl ?_
              refine zw_iload_n 52 f20_51 rfl zl1_eq ?_
              refine zw_iconst 0 53 f20_52 rfl (by decide +kernel) ?_
              refine zw_ast nv _ 54 f20_53 rfl (hb_5 _ _ _ _) (nI_clamp (by omega)) (nI_pos (by omega)) (by omega) (ha_5 _ _ _ _ _) ?_
              refine zw_aload_n 55 f20_54 rfl (zl1_ne rfl rfl rfl) ?_
              refine zw_getfield 58 f20_55 rfl g20_24_4 (hb_1 _ _ _ _) rfl ?_
              refine zw_iload_n 59 f20_58 rfl zl1_eq ?_
              refine zw_iconst (-1) 60 f20_59 rfl (by decide +kernel) ?_
              refine zw_ast nv _ 61 f20_60 rfl (hb_6 _ _ _ _) (nI_clamp (by omega)) (nI_pos (by omega)) (by omega) (ha_6 _ _ _ _ _) ?_
              refine zw_aload_n 62 f20_61 rfl (zl1_ne rfl rfl rfl) ?_
              refine zw_getfield 65 f20_62 rfl g20_27_4 (hb_1 _ _ _ _) rfl ?_
              refine zw_iload_n 66 f20_65 rfl zl1_eq ?_
              refine zw_iconst (-1) 67 f20_66 rfl (by decide +kernel) ?_
              refine zw_ast nv _ 68 f20_67 rfl (hb_7 _ _ _ _) (nI_clamp (by omega)) (nI_pos (by omega)) (by omega) (ha_7 _ _ _ _ _) ?_
              refine zw_aload_n 69 f20_68 rfl (zl1_ne rfl rfl rfl) ?_
              refine zw_getfield 72 f20_69 rfl g20_30_4 (hb_1 _ _ _ _) rfl ?_
              refine zw_iload_n 73 f20_72 rfl zl1_eq ?_
              refine zw_iconst (-1) 74 f20_73 rfl (by decide +kernel) ?_
              refine zw_ast nv _ 75 f20_74 rfl (hb_8 _ _ _ _) (nI_clamp (by omega)) (nI_pos (by omega)) (by omega) (ha_8 _ _ _ _ _) ?_
              refine zw_aload_n 76 f20_75 rfl (zl1_ne rfl rfl rfl) ?_
              refine zw_iload_n 77 f20_76 rfl zl1_eq ?_
              refine zw_iconst 1 78 f20_77 rfl (by decide +kernel) ?_
              refine zw_iadd (nI (nv + 1)) 79 f20_78 rfl (nI_add _ 1) ?_
              refine zw_put _ 82 f20_79 rfl g20_39_4 (hb_1 _ _ _ _) rfl (Nat.le_of_ble_eq_true rfl) (by decide +kernel) (hi_1_0 _ _ _ _ _) ?_
              refine zw_iload_n 83 f20_82 rfl zl1_eq ?_
              refine zw_ireturn f20_83 r20 u20 ⟨_, rfl, ?_⟩
              refine zw_istore_n _ 36 f78_35 rfl (by decide +kernel) rfl ?_
              refine zw_iload_n 37 f78_36 rfl zl1_eq ?_
              refine zw_iconst (-1) 38 f78_37 rfl (by decide +kernel) ?_
              refine zw_ic_ne_t 49 f78_38 (by decide +kernel) (nI_nem (by omega)) ?_
              refine zw_aload_n 50 f78_49 rfl (zl1_ne rfl rfl rfl) ?_
              refine zw_iload_n 51 f78_50 rfl zl1_eq ?_
              refine zw_virtual_i 54 0 0 [.ref 0, .int (nI nv)] [(0, .ref 0), (1, .int (nI nv))] f78_51 rfl n78_86 k78_86_11 rfl (hb_0 _ _ _ _) (by decide +kernel) (Nat.le_of_ble_eq_true rfl) rfl rfl (by decide +kernel) (by decide +kernel) rfl (Nat.le_of_ble_eq_true rfl) rfl ?_
              refine zw_aload_n 1 f107_0 rfl rfl ?_
              refine zw_getfield 4 f107_1 rfl g107_21_11 (hb_0 _ _ _ _) rfl ?_
              refine zw_virtual_v 7 0 0 [.ref 11] [(0, .ref 11)] f107_4 rfl n107_318 k107_318_10 rfl (hb_11 _ _ _ _) (by decide +kernel) (Nat.le_of_ble_eq_true rfl) rfl rfl (by decide +kernel) (by decide +kernel) rfl (Nat.le_of_ble_eq_true rfl) rfl ?_
              have hok1 : ok_vessel nv np P a b := ⟨⟨hc1, hc2⟩, ⟨hc3, hc4⟩, (by omega)⟩
              obtain ⟨hp2, hW2⟩ := hok hok1
              have hR2 : cRS 11 (nv + 1) np (updA (updA (updA (updA (updA (updA (updA P 53 (upd (P 53) nv a)) 54 (upd ((updA P 53 (upd (P 53) nv a)) 54) nv b)) 55 (upd ((updA (updA P 53 (upd (P 53) nv a)) 54 (upd ((updA P 53 (upd (P 53) nv a)) 54) nv b)) 55) nv (if a = 0 ∨ a = 2 then 0 else b))) 56 (upd ((updA (updA (updA P 53 (upd (P 53) nv a)) 54 (upd ((updA P 53 (upd (P 53) nv a)) 54) nv b)) 55 (upd ((updA (updA P 53 (upd (P 53) nv a)) 54 (upd ((updA P 53 (upd (P 53) nv a)) 54) nv b)) 55) nv (if a = 0 ∨ a = 2 then 0 else b))) 56) nv 0)) 57 (upd ((updA (updA (updA (updA P 53 (upd (P 53) nv a)) 54 (upd ((updA P 53 (upd (P 53) nv a)) 54) nv b)) 55 (upd ((updA (updA P 53 (upd (P 53) nv a)) 54 (upd ((updA P 53 (upd (P 53) nv a)) 54) nv b)) 55) nv (if a = 0 ∨ a = 2 then 0 else b))) 56 (upd ((updA (updA (updA P 53 (upd (P 53) nv a)) 54 (upd ((updA P 53 (upd (P 53) nv a)) 54) nv b)) 55 (upd ((updA (updA P 53 (upd (P 53) nv a)) 54 (upd ((updA P 53 (upd (P 53) nv a)) 54) nv b)) 55) nv (if a = 0 ∨ a = 2 then 0 else b))) 56) nv 0)) 57) nv (-1))) 58 (upd ((updA (updA (updA (updA (updA P 53 (upd (P 53) nv a)) 54 (upd ((updA P 53 (upd (P 53) nv a)) 54) nv b)) 55 (upd ((updA (updA P 53 (upd (P 53) nv a)) 54 (upd ((updA P 53 (upd (P 53) nv a)) 54) nv b)) 55) nv (if a = 0 ∨ a = 2 then 0 else b))) 56 (upd ((updA (updA (updA P 53 (upd (P 53) nv a)) 54 (upd ((updA P 53 (upd (P 53) nv a)) 54) nv b)) 55 (upd ((updA (updA P 53 (upd (P 53) nv a)) 54 (upd ((updA P 53 (upd (P 53) nv a)) 54) nv b)) 55) nv (if a = 0 ∨ a = 2 then 0 else b))) 56) nv 0)) 57 (upd ((updA (updA (updA (updA P 53 (upd (P 53) nv a)) 54 (upd ((updA P 53 (upd (P 53) nv a)) 54) nv b)) 55 (upd ((updA (updA P 53 (upd (P 53) nv a)) 54 (upd ((updA P 53 (upd (P 53) nv a)) 54) nv b)) 55) nv (if a = 0 ∨ a = 2 then 0 else b))) 56 (upd ((updA (updA (updA P 53 (upd (P 53) nv a)) 54 (upd ((updA P 53 (upd (P 53) nv a)) 54) nv b)) 55 (upd ((updA (updA P 53 (upd (P 53) nv a)) 54 (upd ((updA P 53 (upd (P 53) nv a)) 54) nv b)) 55) nv (if a = 0 ∨ a = 2 then 0 else b))) 56) nv 0)) 57) nv (-1))) 58) nv (-1))) 59 (upd ((updA (updA (updA (updA (updA (updA P 53 (upd (P 53) nv a)) 54 (upd ((updA P 53 (upd (P 53) nv a)) 54) nv b)) 55 (upd ((updA (updA P 53 (upd (P 53) nv a)) 54 (upd ((updA P 53 (upd (P 53) nv a)) 54) nv b)) 55) nv (if a = 0 ∨ a = 2 then 0 else b))) 56 (upd ((updA (updA (updA P 53 (upd (P 53) nv a)) 54 (upd ((updA P 53 (upd (P 53) nv a)) 54) nv b)) 55 (upd ((updA (updA P 53 (upd (P 53) nv a)) 54 (upd ((updA P 53 (upd (P 53) nv a)) 54) nv b)) 55) nv (if a = 0 ∨ a = 2 then 0 else b))) 56) nv 0)) 57 (upd ((updA (updA (updA (updA P 53 (upd (P 53) nv a)) 54 (upd ((updA P 53 (upd (P 53) nv a)) 54) nv b)) 55 (upd ((updA (updA P 53 (upd (P 53) nv a)) 54 (upd ((updA P 53 (upd (P 53) nv a)) 54) nv b)) 55) nv (if a = 0 ∨ a = 2 then 0 else b))) 56 (upd ((updA (updA (updA P 53 (upd (P 53) nv a)) 54 (upd ((updA P 53 (upd (P 53) nv a)) 54) nv b)) 55 (upd ((updA (updA P 53 (upd (P 53) nv a)) 54 (upd ((updA P 53 (upd (P 53) nv a)) 54) nv b)) 55) nv (if a = 0 ∨ a = 2 then 0 else b))) 56) nv 0)) 57) nv (-1))) 58 (upd ((updA (updA (updA (updA (updA P 53 (upd (P 53) nv a)) 54 (upd ((updA P 53 (upd (P 53) nv a)) 54) nv b)) 55 (upd ((updA (updA P 53 (upd (P 53) nv a)) 54 (upd ((updA P 53 (upd (P 53) nv a)) 54) nv b)) 55) nv (if a = 0 ∨ a = 2 then 0 else b))) 56 (upd ((updA (updA (updA P 53 (upd (P 53) nv a)) 54 (upd ((updA P 53 (upd (P 53) nv a)) 54) nv b)) 55 (upd ((updA (updA P 53 (upd (P 53) nv a)) 54 (upd ((updA P 53 (upd (P 53) nv a)) 54) nv b)) 55) nv (if a = 0 ∨ a = 2 then 0 else b))) 56) nv 0)) 57 (upd ((updA (updA (updA (updA P 53 (upd (P 53) nv a)) 54 (upd ((updA P 53 (upd (P 53) nv a)) 54) nv b)) 55 (upd ((updA (updA P 53 (upd (P 53) nv a)) 54 (upd ((updA P 53 (upd (P 53) nv a)) 54) nv b)) 55) nv (if a = 0 ∨ a = 2 then 0 else b))) 56 (upd ((updA (updA (updA P 53 (upd (P 53) nv a)) 54 (upd ((updA P 53 (upd (P 53) nv a)) 54) nv b)) 55 (upd ((updA (updA P 53 (upd (P 53) nv a)) 54 (upd ((updA P 53 (upd (P 53) nv a)) 54) nv b)) 55) nv (if a = 0 ∨ a = 2 then 0 else b))) 56) nv 0)) 57) nv (-1))) 58) nv (-1))) 59) nv (-1))) W (upd2 I 1 0 (nI (nv + 1))) G (updA (updA (updA (updA (updA (updA (updA A 2 (upd (A 2) nv a)) 3 (upd ((updA A 2 (upd (A 2) nv a)) 3) nv b)) 4 (upd ((updA (updA A 2 (upd (A 2) nv a)) 3 (upd ((updA A 2 (upd (A 2) nv a)) 3) nv b)) 4) nv 0)) 5 (upd ((updA (updA (updA A 2 (upd (A 2) nv a)) 3 (upd ((updA A 2 (upd (A 2) nv a)) 3) nv b)) 4 (upd ((updA (updA A 2 (upd (A 2) nv a)) 3 (upd ((updA A 2 (upd (A 2) nv a)) 3) nv b)) 4) nv 0)) 5) nv 0)) 6 (upd ((updA (updA (updA (updA A 2 (upd (A 2) nv a)) 3 (upd ((updA A 2 (upd (A 2) nv a)) 3) nv b)) 4 (upd ((updA (updA A 2 (upd (A 2) nv a)) 3 (upd ((updA A 2 (upd (A 2) nv a)) 3) nv b)) 4) nv 0)) 5 (upd ((updA (updA (updA A 2 (upd (A 2) nv a)) 3 (upd ((updA A 2 (upd (A 2) nv a)) 3) nv b)) 4 (upd ((updA (updA A 2 (upd (A 2) nv a)) 3 (upd ((updA A 2 (upd (A 2) nv a)) 3) nv b)) 4) nv 0)) 5) nv 0)) 6) nv (-1))) 7 (upd ((updA (updA (updA (updA (updA A 2 (upd (A 2) nv a)) 3 (upd ((updA A 2 (upd (A 2) nv a)) 3) nv b)) 4 (upd ((updA (updA A 2 (upd (A 2) nv a)) 3 (upd ((updA A 2 (upd (A 2) nv a)) 3) nv b)) 4) nv 0)) 5 (upd ((updA (updA (updA A 2 (upd (A 2) nv a)) 3 (upd ((updA A 2 (upd (A 2) nv a)) 3) nv b)) 4 (upd ((updA (updA A 2 (upd (A 2) nv a)) 3 (upd ((updA A 2 (upd (A 2) nv a)) 3) nv b)) 4) nv 0)) 5) nv 0)) 6 (upd ((updA (updA (updA (updA A 2 (upd (A 2) nv a)) 3 (upd ((updA A 2 (upd (A 2) nv a)) 3) nv b)) 4 (upd ((updA (updA A 2 (upd (A 2) nv a)) 3 (upd ((updA A 2 (upd (A 2) nv a)) 3) nv b)) 4) nv 0)) 5 (upd ((updA (updA (updA A 2 (upd (A 2) nv a)) 3 (upd ((updA A 2 (upd (A 2) nv a)) 3) nv b)) 4 (upd ((updA (updA A 2 (upd (A 2) nv a)) 3 (upd ((updA A 2 (upd (A 2) nv a)) 3) nv b)) 4) nv 0)) 5) nv 0)) 6) nv (-1))) 7) nv (-1))) 8 (upd ((updA (updA (updA (updA (updA (updA A 2 (upd (A 2) nv a)) 3 (upd ((updA A 2 (upd (A 2) nv a)) 3) nv b)) 4 (upd ((updA (updA A 2 (upd (A 2) nv a)) 3 (upd ((updA A 2 (upd (A 2) nv a)) 3) nv b)) 4) nv 0)) 5 (upd ((updA (updA (updA A 2 (upd (A 2) nv a)) 3 (upd ((updA A 2 (upd (A 2) nv a)) 3) nv b)) 4 (upd ((updA (updA A 2 (upd (A 2) nv a)) 3 (upd ((updA A 2 (upd (A 2) nv a)) 3) nv b)) 4) nv 0)) 5) nv 0)) 6 (upd ((updA (updA (updA (updA A 2 (upd (A 2) nv a)) 3 (upd ((updA A 2 (upd (A 2) nv a)) 3) nv b)) 4 (upd ((updA (updA A 2 (upd (A 2) nv a)) 3 (upd ((updA A 2 (upd (A 2) nv a)) 3) nv b)) 4) nv 0)) 5 (upd ((updA (updA (updA A 2 (upd (A 2) nv a)) 3 (upd ((updA A 2 (upd (A 2) nv a)) 3) nv b)) 4 (upd ((updA (updA A 2 (upd (A 2) nv a)) 3 (upd ((updA A 2 (upd (A 2) nv a)) 3) nv b)) 4) nv 0)) 5) nv 0)) 6) nv (-1))) 7 (upd ((updA (updA (updA (updA (updA A 2 (upd (A 2) nv a)) 3 (upd ((updA A 2 (upd (A 2) nv a)) 3) nv b)) 4 (upd ((updA (updA A 2 (upd (A 2) nv a)) 3 (upd ((updA A 2 (upd (A 2) nv a)) 3) nv b)) 4) nv 0)) 5 (upd ((updA (updA (updA A 2 (upd (A 2) nv a)) 3 (upd ((updA A 2 (upd (A 2) nv a)) 3) nv b)) 4 (upd ((updA (updA A 2 (upd (A 2) nv a)) 3 (upd ((updA A 2 (upd (A 2) nv a)) 3) nv b)) 4) nv 0)) 5) nv 0)) 6 (upd ((updA (updA (updA (updA A 2 (upd (A 2) nv a)) 3 (upd ((updA A 2 (upd (A 2) nv a)) 3) nv b)) 4 (upd ((updA (updA A 2 (upd (A 2) nv a)) 3 (upd ((updA A 2 (upd (A 2) nv a)) 3) nv b)) 4) nv 0)) 5 (upd ((updA (updA (updA A 2 (upd (A 2) nv a)) 3 (upd ((updA A 2 (upd (A 2) nv a)) 3) nv b)) 4 (upd ((updA (updA A 2 (upd (A 2) nv a)) 3 (upd ((updA A 2 (upd (A 2) nv a)) 3) nv b)) 4) nv 0)) 5) nv 0)) 6) nv (-1))) 7) nv (-1))) 8) nv (-1))) B := ⟨⟨rfl, hR.1.2⟩, PE.of10 ((congrArg (fun z => upd z nv a) ((hR.2.1 53 (by omega) (by omega))))) ((congrArg (fun z => upd z nv b) ((hR.2.1 54 (by omega) (by omega))))) ((by rw [show (if a = 0 ∨ a = 2 then (0 : Int32) else b) = _ from if_pos (Or.inl hc6)]; exact (congrArg (fun z => upd z nv 0) ((hR.2.1 55 (by omega) (by omega)))))) ((congrArg (fun z => upd z nv 0) ((hR.2.1 56 (by omega) (by omega))))) ((congrArg (fun z => upd z nv (-1)) ((hR.2.1 57 (by omega) (by omega))))) ((congrArg (fun z => upd z nv (-1)) ((hR.2.1 58 (by omega) (by omega))))) ((congrArg (fun z => upd z nv (-1)) ((hR.2.1 59 (by omega) (by omega))))) ((hR.2.1 60 (by omega) (by omega))) ((hR.2.1 61 (by omega) (by omega))) ((hR.2.1 62 (by omega) (by omega))), ⟨hR.2.2.1.1, hR.2.2.1.2.1, hR.2.2.1.2.2.1, hR.2.2.1.2.2.2⟩, hR.2.2.2.1, hR.2.2.2.2.1, hR.2.2.2.2.2.1, (cnt_v hR.2.2.2.2.2.2 rfl)⟩
              have hL2 : cLg L (upd2 I 1 0 (nI (nv + 1))) (updA (updA (updA (updA (updA (updA (updA A 2 (upd (A 2) nv a)) 3 (upd ((updA A 2 (upd (A 2) nv a)) 3) nv b)) 4 (upd ((updA (updA A 2 (upd (A 2) nv a)) 3 (upd ((updA A 2 (upd (A 2) nv a)) 3) nv b)) 4) nv 0)) 5 (upd ((updA (updA (updA A 2 (upd (A 2) nv a)) 3 (upd ((updA A 2 (upd (A 2) nv a)) 3) nv b)) 4 (upd ((updA (updA A 2 (upd (A 2) nv a)) 3 (upd ((updA A 2 (upd (A 2) nv a)) 3) nv b)) 4) nv 0)) 5) nv 0)) 6 (upd ((updA (updA (updA (updA A 2 (upd (A 2) nv a)) 3 (upd ((updA A 2 (upd (A 2) nv a)) 3) nv b)) 4 (upd ((updA (updA A 2 (upd (A 2) nv a)) 3 (upd ((updA A 2 (upd (A 2) nv a)) 3) nv b)) 4) nv 0)) 5 (upd ((updA (updA (updA A 2 (upd (A 2) nv a)) 3 (upd ((updA A 2 (upd (A 2) nv a)) 3) nv b)) 4 (upd ((updA (updA A 2 (upd (A 2) nv a)) 3 (upd ((updA A 2 (upd (A 2) nv a)) 3) nv b)) 4) nv 0)) 5) nv 0)) 6) nv (-1))) 7 (upd ((updA (updA (updA (updA (updA A 2 (upd (A 2) nv a)) 3 (upd ((updA A 2 (upd (A 2) nv a)) 3) nv b)) 4 (upd ((updA (updA A 2 (upd (A 2) nv a)) 3 (upd ((updA A 2 (upd (A 2) nv a)) 3) nv b)) 4) nv 0)) 5 (upd ((updA (updA (updA A 2 (upd (A 2) nv a)) 3 (upd ((updA A 2 (upd (A 2) nv a)) 3) nv b)) 4 (upd ((updA (updA A 2 (upd (A 2) nv a)) 3 (upd ((updA A 2 (upd (A 2) nv a)) 3) nv b)) 4) nv 0)) 5) nv 0)) 6 (upd ((updA (updA (updA (updA A 2 (upd (A 2) nv a)) 3 (upd ((updA A 2 (upd (A 2) nv a)) 3) nv b)) 4 (upd ((updA (updA A 2 (upd (A 2) nv a)) 3 (upd ((updA A 2 (upd (A 2) nv a)) 3) nv b)) 4) nv 0)) 5 (upd ((updA (updA (updA A 2 (upd (A 2) nv a)) 3 (upd ((updA A 2 (upd (A 2) nv a)) 3) nv b)) 4 (upd ((updA (updA A 2 (upd (A 2) nv a)) 3 (upd ((updA A 2 (upd (A 2) nv a)) 3) nv b)) 4) nv 0)) 5) nv 0)) 6) nv (-1))) 7) nv (-1))) 8 (upd ((updA (updA (updA (updA (updA (updA A 2 (upd (A 2) nv a)) 3 (upd ((updA A 2 (upd (A 2) nv a)) 3) nv b)) 4 (upd ((updA (updA A 2 (upd (A 2) nv a)) 3 (upd ((updA A 2 (upd (A 2) nv a)) 3) nv b)) 4) nv 0)) 5 (upd ((updA (updA (updA A 2 (upd (A 2) nv a)) 3 (upd ((updA A 2 (upd (A 2) nv a)) 3) nv b)) 4 (upd ((updA (updA A 2 (upd (A 2) nv a)) 3 (upd ((updA A 2 (upd (A 2) nv a)) 3) nv b)) 4) nv 0)) 5) nv 0)) 6 (upd ((updA (updA (updA (updA A 2 (upd (A 2) nv a)) 3 (upd ((updA A 2 (upd (A 2) nv a)) 3) nv b)) 4 (upd ((updA (updA A 2 (upd (A 2) nv a)) 3 (upd ((updA A 2 (upd (A 2) nv a)) 3) nv b)) 4) nv 0)) 5 (upd ((updA (updA (updA A 2 (upd (A 2) nv a)) 3 (upd ((updA A 2 (upd (A 2) nv a)) 3) nv b)) 4 (upd ((updA (updA A 2 (upd (A 2) nv a)) 3 (upd ((updA A 2 (upd (A 2) nv a)) 3) nv b)) 4) nv 0)) 5) nv 0)) 6) nv (-1))) 7 (upd ((updA (updA (updA (updA (updA A 2 (upd (A 2) nv a)) 3 (upd ((updA A 2 (upd (A 2) nv a)) 3) nv b)) 4 (upd ((updA (updA A 2 (upd (A 2) nv a)) 3 (upd ((updA A 2 (upd (A 2) nv a)) 3) nv b)) 4) nv 0)) 5 (upd ((updA (updA (updA A 2 (upd (A 2) nv a)) 3 (upd ((updA A 2 (upd (A 2) nv a)) 3) nv b)) 4 (upd ((updA (updA A 2 (upd (A 2) nv a)) 3 (upd ((updA A 2 (upd (A 2) nv a)) 3) nv b)) 4) nv 0)) 5) nv 0)) 6 (upd ((updA (updA (updA (updA A 2 (upd (A 2) nv a)) 3 (upd ((updA A 2 (upd (A 2) nv a)) 3) nv b)) 4 (upd ((updA (updA A 2 (upd (A 2) nv a)) 3 (upd ((updA A 2 (upd (A 2) nv a)) 3) nv b)) 4) nv 0)) 5 (upd ((updA (updA (updA A 2 (upd (A 2) nv a)) 3 (upd ((updA A 2 (upd (A 2) nv a)) 3) nv b)) 4 (upd ((updA (updA A 2 (upd (A 2) nv a)) 3 (upd ((updA A 2 (upd (A 2) nv a)) 3) nv b)) 4) nv 0)) 5) nv 0)) 6) nv (-1))) 7) nv (-1))) 8) nv (-1))) := hL
              refine zWp.mono (cx_settle_11 ro (nv + 1) np _ W 10000 (K + 1000) _ _ _ _ hR2 hp2 hW2.2.1 hW2.1 (by omega) (by omega)) ?_
              rintro r h1 ⟨I_s, G_s, A_s, B_s, rfl, K_s, ⟨hR3, hH3⟩, rfl⟩
              refine ⟨rfl, ?_⟩
              have hL3 := hL2.k K_s rfl rfl rfl rfl rfl
              refine zw_aload_n 8 f107_7 rfl rfl ?_
              refine zw_getfield 11 f107_8 rfl g107_31_11 (hb_0 _ _ _ _) rfl ?_
              refine zw_aload_n 12 f107_11 rfl rfl ?_
              refine zw_getfield 15 f107_12 rfl g107_21_11 (hb_0 _ _ _ _) rfl ?_
              refine zw_virtual_v 18 0 0 [.ref 33, .ref 11] [(0, .ref 33), (1, .ref 11)] f107_15 rfl n107_187 k107_187_3 rfl (hb_33 _ _ _ _) (by decide +kernel) (Nat.le_of_ble_eq_true rfl) rfl rfl (by decide +kernel) (by decide +kernel) rfl (Nat.le_of_ble_eq_true rfl) rfl ?_
              have hq2 := mom_t hp2 hW2.2.1 hW2.1 (by omega) (by omega)
              refine zWp.mono (cx_take ro _ _ _ _ _ _ W.2.1 W.1 so L (wEv (nv + 1) _ W) hR3.2.2.1.2.1 hR3.2.2.1.1 hq2.1 hq2.2.1 hH3 hq2.2.2 hL3 (by omega)) ?_
              rintro r h1 ⟨I_u, G_u, A_u, B_u, rfl, K_u, hL4, rfl⟩
              refine ⟨rfl, ?_⟩
              have hR4 := hR3.k K_u ⟨rfl, rfl⟩ fLt_w pLt_w
              refine zw_aload_n 19 f107_18 rfl rfl ?_
              refine zw_iload_n 20 f107_19 rfl rfl ?_
              refine zw_virtual_i 23 0 0 [.ref 0, .int (nI nv)] [(0, .ref 0), (1, .int (nI nv))] f107_20 rfl n107_181 k107_181_11 rfl (hb_0 _ _ _ _) (by decide +kernel) (Nat.le_of_ble_eq_true rfl) rfl rfl (by decide +kernel) (by decide +kernel) rfl (Nat.le_of_ble_eq_true rfl) rfl ?_
              refine zw_aload_n 1 f106_0 rfl rfl ?_
              refine zw_iconst 0 2 f106_1 rfl (by decide +kernel) ?_
              refine zw_put _ 5 f106_2 rfl g106_70_11 (hb_0 _ _ _ _) rfl (Nat.le_of_ble_eq_true rfl) (by decide +kernel) (hi_0_7 _ _ _ _ _) ?_
              refine zw_iload_n 6 f106_5 rfl rfl ?_
              refine zw_ireturn f106_6 r106 u106 ⟨_, rfl, ?_⟩
              refine zw_ireturn f107_23 r107 u107 ⟨_, rfl, ?_⟩
              refine zw_ireturn f78_54 r78 u78 ?_
              exact ⟨_, _, _, _, rfl, (KQ.i rfl (KQ.tr (KQ.tr (KQ.i rfl (KQ.a rfl (KQ.a rfl (KQ.a rfl (KQ.a rfl (KQ.a rfl (KQ.a rfl (KQ.a rfl KQ.rf)))))))) (KQ.wk K_s fSe_Hd pSe_Hd)) (KQ.wk K_u fLt_Hd pLt_Hd))), Or.inr ⟨hok1, hR4.k (show KQ (fun k j => decide (k = 0 ∧ j = 7)) p0 _ _ _ _ _ _ _ _ from KQ.i (k := 0) (j := 7) (v := 0) rfl KQ.rf) ⟨rfl, rfl⟩ (fun j _ _ => by simp) (p0_w 11), hL4, rfl⟩⟩
            · refine zw_iload_n 37 f20_36 rfl (zl1_ne rfl rfl rfl) ?_
              refine zw_iconst 2 38 f20_37 rfl (by decide +kernel) ?_
              refine zw_ic_ne 41 45 f20_38 (by decide +kernel) rfl (fun hc7 => ?_) (fun hc7 => ?_)
              · refine zw_iload_n 46 f20_45 rfl (zl1_ne rfl rfl rfl) ?_
                refine zw_ast nv _ 47 f20_46 rfl (hb_4 _ _ _ _) (nI_clamp (by omega)) (nI_pos (by omega)) (by omega) (ha_4 _ _ _ _ _) ?_
                refine zw_aload_n 48 f20_47 rfl (zl1_ne rfl rfl rfl) ?_
                refine zw_getfield 51 f20_48 rfl g20_21_4 (hb_1 _ _ _ _) rfl ?_
                refine zw_iload_n 52 f20_51 rfl zl1_eq ?_
                refine zw_iconst 0 53 f20_52 rfl (by decide +kernel) ?_
                refine zw_ast nv _ 54 f20_53 rfl (hb_5 _ _ _ _) (nI_clamp (by omega)) (nI_pos (by omega)) (by omega) (ha_5 _ _ _ _ _) ?_
                refine zw_aload_n 55 f20_54 rfl (zl1_ne rfl rfl rfl) ?_
                refine zw_getfield 58 f20_55 rfl g20_24_4 (hb_1 _ _ _ _) rfl ?_
                refine zw_iload_n 59 f20_58 rfl zl1_eq ?_
                refine zw_iconst (-1) 60 f20_59 rfl (by decide +kernel) ?_
                refine zw_ast nv _ 61 f20_60 rfl (hb_6 _ _ _ _) (nI_clamp (by omega)) (nI_pos (by omega)) (by omega) (ha_6 _ _ _ _ _) ?_
                refine zw_aload_n 62 f20_61 rfl (zl1_ne rfl rfl rfl) ?_
                refine zw_getfield 65 f20_62 rfl g20_27_4 (hb_1 _ _ _ _) rfl ?_
                refine zw_iload_n 66 f20_65 rfl zl1_eq ?_
                refine zw_iconst (-1) 67 f20_66 rfl (by decide +kernel) ?_
                refine zw_ast nv _ 68 f20_67 rfl (hb_7 _ _ _ _) (nI_clamp (by omega)) (nI_pos (by omega)) (by omega) (ha_7 _ _ _ _ _) ?_
                refine zw_aload_n 69 f20_68 rfl (zl1_ne rfl rfl rfl) ?_
                refine zw_getfield 72 f20_69 rfl g20_30_4 (hb_1 _ _ _ _) rfl ?_
                refine zw_iload_n 73 f20_72 rfl zl1_eq ?_
                refine zw_iconst (-1) 74 f20_73 rfl (by decide +kernel) ?_
                refine zw_ast nv _ 75 f20_74 rfl (hb_8 _ _ _ _) (nI_clamp (by omega)) (nI_pos (by omega)) (by omega) (ha_8 _ _ _ _ _) ?_
                refine zw_aload_n 76 f20_75 rfl (zl1_ne rfl rfl rfl) ?_
                refine zw_iload_n 77 f20_76 rfl zl1_eq ?_
                refine zw_iconst 1 78 f20_77 rfl (by decide +kernel) ?_
                refine zw_iadd (nI (nv + 1)) 79 f20_78 rfl (nI_add _ 1) ?_
                refine zw_put _ 82 f20_79 rfl g20_39_4 (hb_1 _ _ _ _) rfl (Nat.le_of_ble_eq_true rfl) (by decide +kernel) (hi_1_0 _ _ _ _ _) ?_
                refine zw_iload_n 83 f20_82 rfl zl1_eq ?_
                refine zw_ireturn f20_83 r20 u20 ⟨_, rfl, ?_⟩
                refine zw_istore_n _ 36 f78_35 rfl (by decide +kernel) rfl ?_
                refine zw_iload_n 37 f78_36 rfl zl1_eq ?_
                refine zw_iconst (-1) 38 f78_37 rfl (by decide +kernel) ?_
                refine zw_ic_ne_t 49 f78_38 (by decide +kernel) (nI_nem (by omega)) ?_
                refine zw_aload_n 50 f78_49 rfl (zl1_ne rfl rfl rfl) ?_
                refine zw_iload_n 51 f78_50 rfl zl1_eq ?_
                refine zw_virtual_i 54 0 0 [.ref 0, .int (nI nv)] [(0, .ref 0), (1, .int (nI nv))] f78_51 rfl n78_86 k78_86_11 rfl (hb_0 _ _ _ _) (by decide +kernel) (Nat.le_of_ble_eq_true rfl) rfl rfl (by decide +kernel) (by decide +kernel) rfl (Nat.le_of_ble_eq_true rfl) rfl ?_
                refine zw_aload_n 1 f107_0 rfl rfl ?_
                refine zw_getfield 4 f107_1 rfl g107_21_11 (hb_0 _ _ _ _) rfl ?_
                refine zw_virtual_v 7 0 0 [.ref 11] [(0, .ref 11)] f107_4 rfl n107_318 k107_318_10 rfl (hb_11 _ _ _ _) (by decide +kernel) (Nat.le_of_ble_eq_true rfl) rfl rfl (by decide +kernel) (by decide +kernel) rfl (Nat.le_of_ble_eq_true rfl) rfl ?_
                have hok1 : ok_vessel nv np P a b := ⟨⟨hc1, hc2⟩, ⟨hc3, hc4⟩, (by omega)⟩
                obtain ⟨hp2, hW2⟩ := hok hok1
                have hR2 : cRS 11 (nv + 1) np (updA (updA (updA (updA (updA (updA (updA P 53 (upd (P 53) nv a)) 54 (upd ((updA P 53 (upd (P 53) nv a)) 54) nv b)) 55 (upd ((updA (updA P 53 (upd (P 53) nv a)) 54 (upd ((updA P 53 (upd (P 53) nv a)) 54) nv b)) 55) nv (if a = 0 ∨ a = 2 then 0 else b))) 56 (upd ((updA (updA (updA P 53 (upd (P 53) nv a)) 54 (upd ((updA P 53 (upd (P 53) nv a)) 54) nv b)) 55 (upd ((updA (updA P 53 (upd (P 53) nv a)) 54 (upd ((updA P 53 (upd (P 53) nv a)) 54) nv b)) 55) nv (if a = 0 ∨ a = 2 then 0 else b))) 56) nv 0)) 57 (upd ((updA (updA (updA (updA P 53 (upd (P 53) nv a)) 54 (upd ((updA P 53 (upd (P 53) nv a)) 54) nv b)) 55 (upd ((updA (updA P 53 (upd (P 53) nv a)) 54 (upd ((updA P 53 (upd (P 53) nv a)) 54) nv b)) 55) nv (if a = 0 ∨ a = 2 then 0 else b))) 56 (upd ((updA (updA (updA P 53 (upd (P 53) nv a)) 54 (upd ((updA P 53 (upd (P 53) nv a)) 54) nv b)) 55 (upd ((updA (updA P 53 (upd (P 53) nv a)) 54 (upd ((updA P 53 (upd (P 53) nv a)) 54) nv b)) 55) nv (if a = 0 ∨ a = 2 then 0 else b))) 56) nv 0)) 57) nv (-1))) 58 (upd ((updA (updA (updA (updA (updA P 53 (upd (P 53) nv a)) 54 (upd ((updA P 53 (upd (P 53) nv a)) 54) nv b)) 55 (upd ((updA (updA P 53 (upd (P 53) nv a)) 54 (upd ((updA P 53 (upd (P 53) nv a)) 54) nv b)) 55) nv (if a = 0 ∨ a = 2 then 0 else b))) 56 (upd ((updA (updA (updA P 53 (upd (P 53) nv a)) 54 (upd ((updA P 53 (upd (P 53) nv a)) 54) nv b)) 55 (upd ((updA (updA P 53 (upd (P 53) nv a)) 54 (upd ((updA P 53 (upd (P 53) nv a)) 54) nv b)) 55) nv (if a = 0 ∨ a = 2 then 0 else b))) 56) nv 0)) 57 (upd ((updA (updA (updA (updA P 53 (upd (P 53) nv a)) 54 (upd ((updA P 53 (upd (P 53) nv a)) 54) nv b)) 55 (upd ((updA (updA P 53 (upd (P 53) nv a)) 54 (upd ((updA P 53 (upd (P 53) nv a)) 54) nv b)) 55) nv (if a = 0 ∨ a = 2 then 0 else b))) 56 (upd ((updA (updA (updA P 53 (upd (P 53) nv a)) 54 (upd ((updA P 53 (upd (P 53) nv a)) 54) nv b)) 55 (upd ((updA (updA P 53 (upd (P 53) nv a)) 54 (upd ((updA P 53 (upd (P 53) nv a)) 54) nv b)) 55) nv (if a = 0 ∨ a = 2 then 0 else b))) 56) nv 0)) 57) nv (-1))) 58) nv (-1))) 59 (upd ((updA (updA (updA (updA (updA (updA P 53 (upd (P 53) nv a)) 54 (upd ((updA P 53 (upd (P 53) nv a)) 54) nv b)) 55 (upd ((updA (updA P 53 (upd (P 53) nv a)) 54 (upd ((updA P 53 (upd (P 53) nv a)) 54) nv b)) 55) nv (if a = 0 ∨ a = 2 then 0 else b))) 56 (upd ((updA (updA (updA P 53 (upd (P 53) nv a)) 54 (upd ((updA P 53 (upd (P 53) nv a)) 54) nv b)) 55 (upd ((updA (updA P 53 (upd (P 53) nv a)) 54 (upd ((updA P 53 (upd (P 53) nv a)) 54) nv b)) 55) nv (if a = 0 ∨ a = 2 then 0 else b))) 56) nv 0)) 57 (upd ((updA (updA (updA (updA P 53 (upd (P 53) nv a)) 54 (upd ((updA P 53 (upd (P 53) nv a)) 54) nv b)) 55 (upd ((updA (updA P 53 (upd (P 53) nv a)) 54 (upd ((updA P 53 (upd (P 53) nv a)) 54) nv b)) 55) nv (if a = 0 ∨ a = 2 then 0 else b))) 56 (upd ((updA (updA (updA P 53 (upd (P 53) nv a)) 54 (upd ((updA P 53 (upd (P 53) nv a)) 54) nv b)) 55 (upd ((updA (updA P 53 (upd (P 53) nv a)) 54 (upd ((updA P 53 (upd (P 53) nv a)) 54) nv b)) 55) nv (if a = 0 ∨ a = 2 then 0 else b))) 56) nv 0)) 57) nv (-1))) 58 (upd ((updA (updA (updA (updA (updA P 53 (upd (P 53) nv a)) 54 (upd ((updA P 53 (upd (P 53) nv a)) 54) nv b)) 55 (upd ((updA (updA P 53 (upd (P 53) nv a)) 54 (upd ((updA P 53 (upd (P 53) nv a)) 54) nv b)) 55) nv (if a = 0 ∨ a = 2 then 0 else b))) 56 (upd ((updA (updA (updA P 53 (upd (P 53) nv a)) 54 (upd ((updA P 53 (upd (P 53) nv a)) 54) nv b)) 55 (upd ((updA (updA P 53 (upd (P 53) nv a)) 54 (upd ((updA P 53 (upd (P 53) nv a)) 54) nv b)) 55) nv (if a = 0 ∨ a = 2 then 0 else b))) 56) nv 0)) 57 (upd ((updA (updA (updA (updA P 53 (upd (P 53) nv a)) 54 (upd ((updA P 53 (upd (P 53) nv a)) 54) nv b)) 55 (upd ((updA (updA P 53 (upd (P 53) nv a)) 54 (upd ((updA P 53 (upd (P 53) nv a)) 54) nv b)) 55) nv (if a = 0 ∨ a = 2 then 0 else b))) 56 (upd ((updA (updA (updA P 53 (upd (P 53) nv a)) 54 (upd ((updA P 53 (upd (P 53) nv a)) 54) nv b)) 55 (upd ((updA (updA P 53 (upd (P 53) nv a)) 54 (upd ((updA P 53 (upd (P 53) nv a)) 54) nv b)) 55) nv (if a = 0 ∨ a = 2 then 0 else b))) 56) nv 0)) 57) nv (-1))) 58) nv (-1))) 59) nv (-1))) W (upd2 I 1 0 (nI (nv + 1))) G (updA (updA (updA (updA (updA (updA (updA A 2 (upd (A 2) nv a)) 3 (upd ((updA A 2 (upd (A 2) nv a)) 3) nv b)) 4 (upd ((updA (updA A 2 (upd (A 2) nv a)) 3 (upd ((updA A 2 (upd (A 2) nv a)) 3) nv b)) 4) nv b)) 5 (upd ((updA (updA (updA A 2 (upd (A 2) nv a)) 3 (upd ((updA A 2 (upd (A 2) nv a)) 3) nv b)) 4 (upd ((updA (updA A 2 (upd (A 2) nv a)) 3 (upd ((updA A 2 (upd (A 2) nv a)) 3) nv b)) 4) nv b)) 5) nv 0)) 6 (upd ((updA (updA (updA (updA A 2 (upd (A 2) nv a)) 3 (upd ((updA A 2 (upd (A 2) nv a)) 3) nv b)) 4 (upd ((updA (updA A 2 (upd (A 2) nv a)) 3 (upd ((updA A 2 (upd (A 2) nv a)) 3) nv b)) 4) nv b)) 5 (upd ((updA (updA (updA A 2 (upd (A 2) nv a)) 3 (upd ((updA A 2 (upd (A 2) nv a)) 3) nv b)) 4 (upd ((updA (updA A 2 (upd (A 2) nv a)) 3 (upd ((updA A 2 (upd (A 2) nv a)) 3) nv b)) 4) nv b)) 5) nv 0)) 6) nv (-1))) 7 (upd ((updA (updA (updA (updA (updA A 2 (upd (A 2) nv a)) 3 (upd ((updA A 2 (upd (A 2) nv a)) 3) nv b)) 4 (upd ((updA (updA A 2 (upd (A 2) nv a)) 3 (upd ((updA A 2 (upd (A 2) nv a)) 3) nv b)) 4) nv b)) 5 (upd ((updA (updA (updA A 2 (upd (A 2) nv a)) 3 (upd ((updA A 2 (upd (A 2) nv a)) 3) nv b)) 4 (upd ((updA (updA A 2 (upd (A 2) nv a)) 3 (upd ((updA A 2 (upd (A 2) nv a)) 3) nv b)) 4) nv b)) 5) nv 0)) 6 (upd ((updA (updA (updA (updA A 2 (upd (A 2) nv a)) 3 (upd ((updA A 2 (upd (A 2) nv a)) 3) nv b)) 4 (upd ((updA (updA A 2 (upd (A 2) nv a)) 3 (upd ((updA A 2 (upd (A 2) nv a)) 3) nv b)) 4) nv b)) 5 (upd ((updA (updA (updA A 2 (upd (A 2) nv a)) 3 (upd ((updA A 2 (upd (A 2) nv a)) 3) nv b)) 4 (upd ((updA (updA A 2 (upd (A 2) nv a)) 3 (upd ((updA A 2 (upd (A 2) nv a)) 3) nv b)) 4) nv b)) 5) nv 0)) 6) nv (-1))) 7) nv (-1))) 8 (upd ((updA (updA (updA (updA (updA (updA A 2 (upd (A 2) nv a)) 3 (upd ((updA A 2 (upd (A 2) nv a)) 3) nv b)) 4 (upd ((updA (updA A 2 (upd (A 2) nv a)) 3 (upd ((updA A 2 (upd (A 2) nv a)) 3) nv b)) 4) nv b)) 5 (upd ((updA (updA (updA A 2 (upd (A 2) nv a)) 3 (upd ((updA A 2 (upd (A 2) nv a)) 3) nv b)) 4 (upd ((updA (updA A 2 (upd (A 2) nv a)) 3 (upd ((updA A 2 (upd (A 2) nv a)) 3) nv b)) 4) nv b)) 5) nv 0)) 6 (upd ((updA (updA (updA (updA A 2 (upd (A 2) nv a)) 3 (upd ((updA A 2 (upd (A 2) nv a)) 3) nv b)) 4 (upd ((updA (updA A 2 (upd (A 2) nv a)) 3 (upd ((updA A 2 (upd (A 2) nv a)) 3) nv b)) 4) nv b)) 5 (upd ((updA (updA (updA A 2 (upd (A 2) nv a)) 3 (upd ((updA A 2 (upd (A 2) nv a)) 3) nv b)) 4 (upd ((updA (updA A 2 (upd (A 2) nv a)) 3 (upd ((updA A 2 (upd (A 2) nv a)) 3) nv b)) 4) nv b)) 5) nv 0)) 6) nv (-1))) 7 (upd ((updA (updA (updA (updA (updA A 2 (upd (A 2) nv a)) 3 (upd ((updA A 2 (upd (A 2) nv a)) 3) nv b)) 4 (upd ((updA (updA A 2 (upd (A 2) nv a)) 3 (upd ((updA A 2 (upd (A 2) nv a)) 3) nv b)) 4) nv b)) 5 (upd ((updA (updA (updA A 2 (upd (A 2) nv a)) 3 (upd ((updA A 2 (upd (A 2) nv a)) 3) nv b)) 4 (upd ((updA (updA A 2 (upd (A 2) nv a)) 3 (upd ((updA A 2 (upd (A 2) nv a)) 3) nv b)) 4) nv b)) 5) nv 0)) 6 (upd ((updA (updA (updA (updA A 2 (upd (A 2) nv a)) 3 (upd ((updA A 2 (upd (A 2) nv a)) 3) nv b)) 4 (upd ((updA (updA A 2 (upd (A 2) nv a)) 3 (upd ((updA A 2 (upd (A 2) nv a)) 3) nv b)) 4) nv b)) 5 (upd ((updA (updA (updA A 2 (upd (A 2) nv a)) 3 (upd ((updA A 2 (upd (A 2) nv a)) 3) nv b)) 4 (upd ((updA (updA A 2 (upd (A 2) nv a)) 3 (upd ((updA A 2 (upd (A 2) nv a)) 3) nv b)) 4) nv b)) 5) nv 0)) 6) nv (-1))) 7) nv (-1))) 8) nv (-1))) B := ⟨⟨rfl, hR.1.2⟩, PE.of10 ((congrArg (fun z => upd z nv a) ((hR.2.1 53 (by omega) (by omega))))) ((congrArg (fun z => upd z nv b) ((hR.2.1 54 (by omega) (by omega))))) ((by rw [show (if a = 0 ∨ a = 2 then (0 : Int32) else b) = _ from if_neg (fun q => q.elim hc6 hc7)]; exact (congrArg (fun z => upd z nv b) ((hR.2.1 55 (by omega) (by omega)))))) ((congrArg (fun z => upd z nv 0) ((hR.2.1 56 (by omega) (by omega))))) ((congrArg (fun z => upd z nv (-1)) ((hR.2.1 57 (by omega) (by omega))))) ((congrArg (fun z => upd z nv (-1)) ((hR.2.1 58 (by omega) (by omega))))) ((congrArg (fun z => upd z nv (-1)) ((hR.2.1 59 (by omega) (by omega))))) ((hR.2.1 60 (by omega) (by omega))) ((hR.2.1 61 (by omega) (by omega))) ((hR.2.1 62 (by omega) (by omega))), ⟨hR.2.2.1.1, hR.2.2.1.2.1, hR.2.2.1.2.2.1, hR.2.2.1.2.2.2⟩, hR.2.2.2.1, hR.2.2.2.2.1, hR.2.2.2.2.2.1, (cnt_v hR.2.2.2.2.2.2 rfl)⟩
                have hL2 : cLg L (upd2 I 1 0 (nI (nv + 1))) (updA (updA (updA (updA (updA (updA (updA A 2 (upd (A 2) nv a)) 3 (upd ((updA A 2 (upd (A 2) nv a)) 3) nv b)) 4 (upd ((updA (updA A 2 (upd (A 2) nv a)) 3 (upd ((updA A 2 (upd (A 2) nv a)) 3) nv b)) 4) nv b)) 5 (upd ((updA (updA (updA A 2 (upd (A 2) nv a)) 3 (upd ((updA A 2 (upd (A 2) nv a)) 3) nv b)) 4 (upd ((updA (updA A 2 (upd (A 2) nv a)) 3 (upd ((updA A 2 (upd (A 2) nv a)) 3) nv b)) 4) nv b)) 5) nv 0)) 6 (upd ((updA (updA (updA (updA A 2 (upd (A 2) nv a)) 3 (upd ((updA A 2 (upd (A 2) nv a)) 3) nv b)) 4 (upd ((updA (updA A 2 (upd (A 2) nv a)) 3 (upd ((updA A 2 (upd (A 2) nv a)) 3) nv b)) 4) nv b)) 5 (upd ((updA (updA (updA A 2 (upd (A 2) nv a)) 3 (upd ((updA A 2 (upd (A 2) nv a)) 3) nv b)) 4 (upd ((updA (updA A 2 (upd (A 2) nv a)) 3 (upd ((updA A 2 (upd (A 2) nv a)) 3) nv b)) 4) nv b)) 5) nv 0)) 6) nv (-1))) 7 (upd ((updA (updA (updA (updA (updA A 2 (upd (A 2) nv a)) 3 (upd ((updA A 2 (upd (A 2) nv a)) 3) nv b)) 4 (upd ((updA (updA A 2 (upd (A 2) nv a)) 3 (upd ((updA A 2 (upd (A 2) nv a)) 3) nv b)) 4) nv b)) 5 (upd ((updA (updA (updA A 2 (upd (A 2) nv a)) 3 (upd ((updA A 2 (upd (A 2) nv a)) 3) nv b)) 4 (upd ((updA (updA A 2 (upd (A 2) nv a)) 3 (upd ((updA A 2 (upd (A 2) nv a)) 3) nv b)) 4) nv b)) 5) nv 0)) 6 (upd ((updA (updA (updA (updA A 2 (upd (A 2) nv a)) 3 (upd ((updA A 2 (upd (A 2) nv a)) 3) nv b)) 4 (upd ((updA (updA A 2 (upd (A 2) nv a)) 3 (upd ((updA A 2 (upd (A 2) nv a)) 3) nv b)) 4) nv b)) 5 (upd ((updA (updA (updA A 2 (upd (A 2) nv a)) 3 (upd ((updA A 2 (upd (A 2) nv a)) 3) nv b)) 4 (upd ((updA (updA A 2 (upd (A 2) nv a)) 3 (upd ((updA A 2 (upd (A 2) nv a)) 3) nv b)) 4) nv b)) 5) nv 0)) 6) nv (-1))) 7) nv (-1))) 8 (upd ((updA (updA (updA (updA (updA (updA A 2 (upd (A 2) nv a)) 3 (upd ((updA A 2 (upd (A 2) nv a)) 3) nv b)) 4 (upd ((updA (updA A 2 (upd (A 2) nv a)) 3 (upd ((updA A 2 (upd (A 2) nv a)) 3) nv b)) 4) nv b)) 5 (upd ((updA (updA (updA A 2 (upd (A 2) nv a)) 3 (upd ((updA A 2 (upd (A 2) nv a)) 3) nv b)) 4 (upd ((updA (updA A 2 (upd (A 2) nv a)) 3 (upd ((updA A 2 (upd (A 2) nv a)) 3) nv b)) 4) nv b)) 5) nv 0)) 6 (upd ((updA (updA (updA (updA A 2 (upd (A 2) nv a)) 3 (upd ((updA A 2 (upd (A 2) nv a)) 3) nv b)) 4 (upd ((updA (updA A 2 (upd (A 2) nv a)) 3 (upd ((updA A 2 (upd (A 2) nv a)) 3) nv b)) 4) nv b)) 5 (upd ((updA (updA (updA A 2 (upd (A 2) nv a)) 3 (upd ((updA A 2 (upd (A 2) nv a)) 3) nv b)) 4 (upd ((updA (updA A 2 (upd (A 2) nv a)) 3 (upd ((updA A 2 (upd (A 2) nv a)) 3) nv b)) 4) nv b)) 5) nv 0)) 6) nv (-1))) 7 (upd ((updA (updA (updA (updA (updA A 2 (upd (A 2) nv a)) 3 (upd ((updA A 2 (upd (A 2) nv a)) 3) nv b)) 4 (upd ((updA (updA A 2 (upd (A 2) nv a)) 3 (upd ((updA A 2 (upd (A 2) nv a)) 3) nv b)) 4) nv b)) 5 (upd ((updA (updA (updA A 2 (upd (A 2) nv a)) 3 (upd ((updA A 2 (upd (A 2) nv a)) 3) nv b)) 4 (upd ((updA (updA A 2 (upd (A 2) nv a)) 3 (upd ((updA A 2 (upd (A 2) nv a)) 3) nv b)) 4) nv b)) 5) nv 0)) 6 (upd ((updA (updA (updA (updA A 2 (upd (A 2) nv a)) 3 (upd ((updA A 2 (upd (A 2) nv a)) 3) nv b)) 4 (upd ((updA (updA A 2 (upd (A 2) nv a)) 3 (upd ((updA A 2 (upd (A 2) nv a)) 3) nv b)) 4) nv b)) 5 (upd ((updA (updA (updA A 2 (upd (A 2) nv a)) 3 (upd ((updA A 2 (upd (A 2) nv a)) 3) nv b)) 4 (upd ((updA (updA A 2 (upd (A 2) nv a)) 3 (upd ((updA A 2 (upd (A 2) nv a)) 3) nv b)) 4) nv b)) 5) nv 0)) 6) nv (-1))) 7) nv (-1))) 8) nv (-1))) := hL
                refine zWp.mono (cx_settle_11 ro (nv + 1) np _ W 10000 (K + 1000) _ _ _ _ hR2 hp2 hW2.2.1 hW2.1 (by omega) (by omega)) ?_
                rintro r h1 ⟨I_s, G_s, A_s, B_s, rfl, K_s, ⟨hR3, hH3⟩, rfl⟩
                refine ⟨rfl, ?_⟩
                have hL3 := hL2.k K_s rfl rfl rfl rfl rfl
                refine zw_aload_n 8 f107_7 rfl rfl ?_
                refine zw_getfield 11 f107_8 rfl g107_31_11 (hb_0 _ _ _ _) rfl ?_
                refine zw_aload_n 12 f107_11 rfl rfl ?_
                refine zw_getfield 15 f107_12 rfl g107_21_11 (hb_0 _ _ _ _) rfl ?_
                refine zw_virtual_v 18 0 0 [.ref 33, .ref 11] [(0, .ref 33), (1, .ref 11)] f107_15 rfl n107_187 k107_187_3 rfl (hb_33 _ _ _ _) (by decide +kernel) (Nat.le_of_ble_eq_true rfl) rfl rfl (by decide +kernel) (by decide +kernel) rfl (Nat.le_of_ble_eq_true rfl) rfl ?_
                have hq2 := mom_t hp2 hW2.2.1 hW2.1 (by omega) (by omega)
                refine zWp.mono (cx_take ro _ _ _ _ _ _ W.2.1 W.1 so L (wEv (nv + 1) _ W) hR3.2.2.1.2.1 hR3.2.2.1.1 hq2.1 hq2.2.1 hH3 hq2.2.2 hL3 (by omega)) ?_
                rintro r h1 ⟨I_u, G_u, A_u, B_u, rfl, K_u, hL4, rfl⟩
                refine ⟨rfl, ?_⟩
                have hR4 := hR3.k K_u ⟨rfl, rfl⟩ fLt_w pLt_w
                refine zw_aload_n 19 f107_18 rfl rfl ?_
                refine zw_iload_n 20 f107_19 rfl rfl ?_
                refine zw_virtual_i 23 0 0 [.ref 0, .int (nI nv)] [(0, .ref 0), (1, .int (nI nv))] f107_20 rfl n107_181 k107_181_11 rfl (hb_0 _ _ _ _) (by decide +kernel) (Nat.le_of_ble_eq_true rfl) rfl rfl (by decide +kernel) (by decide +kernel) rfl (Nat.le_of_ble_eq_true rfl) rfl ?_
                refine zw_aload_n 1 f106_0 rfl rfl ?_
                refine zw_iconst 0 2 f106_1 rfl (by decide +kernel) ?_
                refine zw_put _ 5 f106_2 rfl g106_70_11 (hb_0 _ _ _ _) rfl (Nat.le_of_ble_eq_true rfl) (by decide +kernel) (hi_0_7 _ _ _ _ _) ?_
                refine zw_iload_n 6 f106_5 rfl rfl ?_
                refine zw_ireturn f106_6 r106 u106 ⟨_, rfl, ?_⟩
                refine zw_ireturn f107_23 r107 u107 ⟨_, rfl, ?_⟩
                refine zw_ireturn f78_54 r78 u78 ?_
                exact ⟨_, _, _, _, rfl, (KQ.i rfl (KQ.tr (KQ.tr (KQ.i rfl (KQ.a rfl (KQ.a rfl (KQ.a rfl (KQ.a rfl (KQ.a rfl (KQ.a rfl (KQ.a rfl KQ.rf)))))))) (KQ.wk K_s fSe_Hd pSe_Hd)) (KQ.wk K_u fLt_Hd pLt_Hd))), Or.inr ⟨hok1, hR4.k (show KQ (fun k j => decide (k = 0 ∧ j = 7)) p0 _ _ _ _ _ _ _ _ from KQ.i (k := 0) (j := 7) (v := 0) rfl KQ.rf) ⟨rfl, rfl⟩ (fun j _ _ => by simp) (p0_w 11), hL4, rfl⟩⟩
              · refine zw_iconst 0 42 f20_41 rfl (by decide +kernel) ?_
                refine zw_goto 46 f20_42 (by decide +kernel) ?_
                refine zw_ast nv _ 47 f20_46 rfl (hb_4 _ _ _ _) (nI_clamp (by omega)) (nI_pos (by omega)) (by omega) (ha_4 _ _ _ _ _) ?_
                refine zw_aload_n 48 f20_47 rfl (zl1_ne rfl rfl rfl) ?_
                refine zw_getfield 51 f20_48 rfl g20_21_4 (hb_1 _ _ _ _) rfl ?_
                refine zw_iload_n 52 f20_51 rfl zl1_eq ?_
                refine zw_iconst 0 53 f20_52 rfl (by decide +kernel) ?_
                refine zw_ast nv _ 54 f20_53 rfl (hb_5 _ _ _ _) (nI_clamp (by omega)) (nI_pos (by omega)) (by omega) (ha_5 _ _ _ _ _) ?_
                refine zw_aload_n 55 f20_54 rfl (zl1_ne rfl rfl rfl) ?_
                refine zw_getfield 58 f20_55 rfl g20_24_4 (hb_1 _ _ _ _) rfl ?_
                refine zw_iload_n 59 f20_58 rfl zl1_eq ?_
                refine zw_iconst (-1) 60 f20_59 rfl (by decide +kernel) ?_
                refine zw_ast nv _ 61 f20_60 rfl (hb_6 _ _ _ _) (nI_clamp (by omega)) (nI_pos (by omega)) (by omega) (ha_6 _ _ _ _ _) ?_
                refine zw_aload_n 62 f20_61 rfl (zl1_ne rfl rfl rfl) ?_
                refine zw_getfield 65 f20_62 rfl g20_27_4 (hb_1 _ _ _ _) rfl ?_
                refine zw_iload_n 66 f20_65 rfl zl1_eq ?_
                refine zw_iconst (-1) 67 f20_66 rfl (by decide +kernel) ?_
                refine zw_ast nv _ 68 f20_67 rfl (hb_7 _ _ _ _) (nI_clamp (by omega)) (nI_pos (by omega)) (by omega) (ha_7 _ _ _ _ _) ?_
                refine zw_aload_n 69 f20_68 rfl (zl1_ne rfl rfl rfl) ?_
                refine zw_getfield 72 f20_69 rfl g20_30_4 (hb_1 _ _ _ _) rfl ?_
                refine zw_iload_n 73 f20_72 rfl zl1_eq ?_
                refine zw_iconst (-1) 74 f20_73 rfl (by decide +kernel) ?_
                refine zw_ast nv _ 75 f20_74 rfl (hb_8 _ _ _ _) (nI_clamp (by omega)) (nI_pos (by omega)) (by omega) (ha_8 _ _ _ _ _) ?_
                refine zw_aload_n 76 f20_75 rfl (zl1_ne rfl rfl rfl) ?_
                refine zw_iload_n 77 f20_76 rfl zl1_eq ?_
                refine zw_iconst 1 78 f20_77 rfl (by decide +kernel) ?_
                refine zw_iadd (nI (nv + 1)) 79 f20_78 rfl (nI_add _ 1) ?_
                refine zw_put _ 82 f20_79 rfl g20_39_4 (hb_1 _ _ _ _) rfl (Nat.le_of_ble_eq_true rfl) (by decide +kernel) (hi_1_0 _ _ _ _ _) ?_
                refine zw_iload_n 83 f20_82 rfl zl1_eq ?_
                refine zw_ireturn f20_83 r20 u20 ⟨_, rfl, ?_⟩
                refine zw_istore_n _ 36 f78_35 rfl (by decide +kernel) rfl ?_
                refine zw_iload_n 37 f78_36 rfl zl1_eq ?_
                refine zw_iconst (-1) 38 f78_37 rfl (by decide +kernel) ?_
                refine zw_ic_ne_t 49 f78_38 (by decide +kernel) (nI_nem (by omega)) ?_
                refine zw_aload_n 50 f78_49 rfl (zl1_ne rfl rfl rfl) ?_
                refine zw_iload_n 51 f78_50 rfl zl1_eq ?_
                refine zw_virtual_i 54 0 0 [.ref 0, .int (nI nv)] [(0, .ref 0), (1, .int (nI nv))] f78_51 rfl n78_86 k78_86_11 rfl (hb_0 _ _ _ _) (by decide +kernel) (Nat.le_of_ble_eq_true rfl) rfl rfl (by decide +kernel) (by decide +kernel) rfl (Nat.le_of_ble_eq_true rfl) rfl ?_
                refine zw_aload_n 1 f107_0 rfl rfl ?_
                refine zw_getfield 4 f107_1 rfl g107_21_11 (hb_0 _ _ _ _) rfl ?_
                refine zw_virtual_v 7 0 0 [.ref 11] [(0, .ref 11)] f107_4 rfl n107_318 k107_318_10 rfl (hb_11 _ _ _ _) (by decide +kernel) (Nat.le_of_ble_eq_true rfl) rfl rfl (by decide +kernel) (by decide +kernel) rfl (Nat.le_of_ble_eq_true rfl) rfl ?_
                have hok1 : ok_vessel nv np P a b := ⟨⟨hc1, hc2⟩, ⟨hc3, hc4⟩, (by omega)⟩
                obtain ⟨hp2, hW2⟩ := hok hok1
                have hR2 : cRS 11 (nv + 1) np (updA (updA (updA (updA (updA (updA (updA P 53 (upd (P 53) nv a)) 54 (upd ((updA P 53 (upd (P 53) nv a)) 54) nv b)) 55 (upd ((updA (updA P 53 (upd (P 53) nv a)) 54 (upd ((updA P 53 (upd (P 53) nv a)) 54) nv b)) 55) nv (if a = 0 ∨ a = 2 then 0 else b))) 56 (upd ((updA (updA (updA P 53 (upd (P 53) nv a)) 54 (upd ((updA P 53 (upd (P 53) nv a)) 54) nv b)) 55 (upd ((updA (updA P 53 (upd (P 53) nv a)) 54 (upd ((updA P 53 (upd (P 53) nv a)) 54) nv b)) 55) nv (if a = 0 ∨ a = 2 then 0 else b))) 56) nv 0)) 57 (upd ((updA (updA (updA (updA P 53 (upd (P 53) nv a)) 54 (upd ((updA P 53 (upd (P 53) nv a)) 54) nv b)) 55 (upd ((updA (updA P 53 (upd (P 53) nv a)) 54 (upd ((updA P 53 (upd (P 53) nv a)) 54) nv b)) 55) nv (if a = 0 ∨ a = 2 then 0 else b))) 56 (upd ((updA (updA (updA P 53 (upd (P 53) nv a)) 54 (upd ((updA P 53 (upd (P 53) nv a)) 54) nv b)) 55 (upd ((updA (updA P 53 (upd (P 53) nv a)) 54 (upd ((updA P 53 (upd (P 53) nv a)) 54) nv b)) 55) nv (if a = 0 ∨ a = 2 then 0 else b))) 56) nv 0)) 57) nv (-1))) 58 (upd ((updA (updA (updA (updA (updA P 53 (upd (P 53) nv a)) 54 (upd ((updA P 53 (upd (P 53) nv a)) 54) nv b)) 55 (upd ((updA (updA P 53 (upd (P 53) nv a)) 54 (upd ((updA P 53 (upd (P 53) nv a)) 54) nv b)) 55) nv (if a = 0 ∨ a = 2 then 0 else b))) 56 (upd ((updA (updA (updA P 53 (upd (P 53) nv a)) 54 (upd ((updA P 53 (upd (P 53) nv a)) 54) nv b)) 55 (upd ((updA (updA P 53 (upd (P 53) nv a)) 54 (upd ((updA P 53 (upd (P 53) nv a)) 54) nv b)) 55) nv (if a = 0 ∨ a = 2 then 0 else b))) 56) nv 0)) 57 (upd ((updA (updA (updA (updA P 53 (upd (P 53) nv a)) 54 (upd ((updA P 53 (upd (P 53) nv a)) 54) nv b)) 55 (upd ((updA (updA P 53 (upd (P 53) nv a)) 54 (upd ((updA P 53 (upd (P 53) nv a)) 54) nv b)) 55) nv (if a = 0 ∨ a = 2 then 0 else b))) 56 (upd ((updA (updA (updA P 53 (upd (P 53) nv a)) 54 (upd ((updA P 53 (upd (P 53) nv a)) 54) nv b)) 55 (upd ((updA (updA P 53 (upd (P 53) nv a)) 54 (upd ((updA P 53 (upd (P 53) nv a)) 54) nv b)) 55) nv (if a = 0 ∨ a = 2 then 0 else b))) 56) nv 0)) 57) nv (-1))) 58) nv (-1))) 59 (upd ((updA (updA (updA (updA (updA (updA P 53 (upd (P 53) nv a)) 54 (upd ((updA P 53 (upd (P 53) nv a)) 54) nv b)) 55 (upd ((updA (updA P 53 (upd (P 53) nv a)) 54 (upd ((updA P 53 (upd (P 53) nv a)) 54) nv b)) 55) nv (if a = 0 ∨ a = 2 then 0 else b))) 56 (upd ((updA (updA (updA P 53 (upd (P 53) nv a)) 54 (upd ((updA P 53 (upd (P 53) nv a)) 54) nv b)) 55 (upd ((updA (updA P 53 (upd (P 53) nv a)) 54 (upd ((updA P 53 (upd (P 53) nv a)) 54) nv b)) 55) nv (if a = 0 ∨ a = 2 then 0 else b))) 56) nv 0)) 57 (upd ((updA (updA (updA (updA P 53 (upd (P 53) nv a)) 54 (upd ((updA P 53 (upd (P 53) nv a)) 54) nv b)) 55 (upd ((updA (updA P 53 (upd (P 53) nv a)) 54 (upd ((updA P 53 (upd (P 53) nv a)) 54) nv b)) 55) nv (if a = 0 ∨ a = 2 then 0 else b))) 56 (upd ((updA (updA (updA P 53 (upd (P 53) nv a)) 54 (upd ((updA P 53 (upd (P 53) nv a)) 54) nv b)) 55 (upd ((updA (updA P 53 (upd (P 53) nv a)) 54 (upd ((updA P 53 (upd (P 53) nv a)) 54) nv b)) 55) nv (if a = 0 ∨ a = 2 then 0 else b))) 56) nv 0)) 57) nv (-1))) 58 (upd ((updA (updA (updA (updA (updA P 53 (upd (P 53) nv a)) 54 (upd ((updA P 53 (upd (P 53) nv a)) 54) nv b)) 55 (upd ((updA (updA P 53 (upd (P 53) nv a)) 54 (upd ((updA P 53 (upd (P 53) nv a)) 54) nv b)) 55) nv (if a = 0 ∨ a = 2 then 0 else b))) 56 (upd ((updA (updA (updA P 53 (upd (P 53) nv a)) 54 (upd ((updA P 53 (upd (P 53) nv a)) 54) nv b)) 55 (upd ((updA (updA P 53 (upd (P 53) nv a)) 54 (upd ((updA P 53 (upd (P 53) nv a)) 54) nv b)) 55) nv (if a = 0 ∨ a = 2 then 0 else b))) 56) nv 0)) 57 (upd ((updA (updA (updA (updA P 53 (upd (P 53) nv a)) 54 (upd ((updA P 53 (upd (P 53) nv a)) 54) nv b)) 55 (upd ((updA (updA P 53 (upd (P 53) nv a)) 54 (upd ((updA P 53 (upd (P 53) nv a)) 54) nv b)) 55) nv (if a = 0 ∨ a = 2 then 0 else b))) 56 (upd ((updA (updA (updA P 53 (upd (P 53) nv a)) 54 (upd ((updA P 53 (upd (P 53) nv a)) 54) nv b)) 55 (upd ((updA (updA P 53 (upd (P 53) nv a)) 54 (upd ((updA P 53 (upd (P 53) nv a)) 54) nv b)) 55) nv (if a = 0 ∨ a = 2 then 0 else b))) 56) nv 0)) 57) nv (-1))) 58) nv (-1))) 59) nv (-1))) W (upd2 I 1 0 (nI (nv + 1))) G (updA (updA (updA (updA (updA (updA (updA A 2 (upd (A 2) nv a)) 3 (upd ((updA A 2 (upd (A 2) nv a)) 3) nv b)) 4 (upd ((updA (updA A 2 (upd (A 2) nv a)) 3 (upd ((updA A 2 (upd (A 2) nv a)) 3) nv b)) 4) nv 0)) 5 (upd ((updA (updA (updA A 2 (upd (A 2) nv a)) 3 (upd ((updA A 2 (upd (A 2) nv a)) 3) nv b)) 4 (upd ((updA (updA A 2 (upd (A 2) nv a)) 3 (upd ((updA A 2 (upd (A 2) nv a)) 3) nv b)) 4) nv 0)) 5) nv 0)) 6 (upd ((updA (updA (updA (updA A 2 (upd (A 2) nv a)) 3 (upd ((updA A 2 (upd (A 2) nv a)) 3) nv b)) 4 (upd ((updA (updA A 2 (upd (A 2) nv a)) 3 (upd ((updA A 2 (upd (A 2) nv a)) 3) nv b)) 4) nv 0)) 5 (upd ((updA (updA (updA A 2 (upd (A 2) nv a)) 3 (upd ((updA A 2 (upd (A 2) nv a)) 3) nv b)) 4 (upd ((updA (updA A 2 (upd (A 2) nv a)) 3 (upd ((updA A 2 (upd (A 2) nv a)) 3) nv b)) 4) nv 0)) 5) nv 0)) 6) nv (-1))) 7 (upd ((updA (updA (updA (updA (updA A 2 (upd (A 2) nv a)) 3 (upd ((updA A 2 (upd (A 2) nv a)) 3) nv b)) 4 (upd ((updA (updA A 2 (upd (A 2) nv a)) 3 (upd ((updA A 2 (upd (A 2) nv a)) 3) nv b)) 4) nv 0)) 5 (upd ((updA (updA (updA A 2 (upd (A 2) nv a)) 3 (upd ((updA A 2 (upd (A 2) nv a)) 3) nv b)) 4 (upd ((updA (updA A 2 (upd (A 2) nv a)) 3 (upd ((updA A 2 (upd (A 2) nv a)) 3) nv b)) 4) nv 0)) 5) nv 0)) 6 (upd ((updA (updA (updA (updA A 2 (upd (A 2) nv a)) 3 (upd ((updA A 2 (upd (A 2) nv a)) 3) nv b)) 4 (upd ((updA (updA A 2 (upd (A 2) nv a)) 3 (upd ((updA A 2 (upd (A 2) nv a)) 3) nv b)) 4) nv 0)) 5 (upd ((updA (updA (updA A 2 (upd (A 2) nv a)) 3 (upd ((updA A 2 (upd (A 2) nv a)) 3) nv b)) 4 (upd ((updA (updA A 2 (upd (A 2) nv a)) 3 (upd ((updA A 2 (upd (A 2) nv a)) 3) nv b)) 4) nv 0)) 5) nv 0)) 6) nv (-1))) 7) nv (-1))) 8 (upd ((updA (updA (updA (updA (updA (updA A 2 (upd (A 2) nv a)) 3 (upd ((updA A 2 (upd (A 2) nv a)) 3) nv b)) 4 (upd ((updA (updA A 2 (upd (A 2) nv a)) 3 (upd ((updA A 2 (upd (A 2) nv a)) 3) nv b)) 4) nv 0)) 5 (upd ((updA (updA (updA A 2 (upd (A 2) nv a)) 3 (upd ((updA A 2 (upd (A 2) nv a)) 3) nv b)) 4 (upd ((updA (updA A 2 (upd (A 2) nv a)) 3 (upd ((updA A 2 (upd (A 2) nv a)) 3) nv b)) 4) nv 0)) 5) nv 0)) 6 (upd ((updA (updA (updA (updA A 2 (upd (A 2) nv a)) 3 (upd ((updA A 2 (upd (A 2) nv a)) 3) nv b)) 4 (upd ((updA (updA A 2 (upd (A 2) nv a)) 3 (upd ((updA A 2 (upd (A 2) nv a)) 3) nv b)) 4) nv 0)) 5 (upd ((updA (updA (updA A 2 (upd (A 2) nv a)) 3 (upd ((updA A 2 (upd (A 2) nv a)) 3) nv b)) 4 (upd ((updA (updA A 2 (upd (A 2) nv a)) 3 (upd ((updA A 2 (upd (A 2) nv a)) 3) nv b)) 4) nv 0)) 5) nv 0)) 6) nv (-1))) 7 (upd ((updA (updA (updA (updA (updA A 2 (upd (A 2) nv a)) 3 (upd ((updA A 2 (upd (A 2) nv a)) 3) nv b)) 4 (upd ((updA (updA A 2 (upd (A 2) nv a)) 3 (upd ((updA A 2 (upd (A 2) nv a)) 3) nv b)) 4) nv 0)) 5 (upd ((updA (updA (updA A 2 (upd (A 2) nv a)) 3 (upd ((updA A 2 (upd (A 2) nv a)) 3) nv b)) 4 (upd ((updA (updA A 2 (upd (A 2) nv a)) 3 (upd ((updA A 2 (upd (A 2) nv a)) 3) nv b)) 4) nv 0)) 5) nv 0)) 6 (upd ((updA (updA (updA (updA A 2 (upd (A 2) nv a)) 3 (upd ((updA A 2 (upd (A 2) nv a)) 3) nv b)) 4 (upd ((updA (updA A 2 (upd (A 2) nv a)) 3 (upd ((updA A 2 (upd (A 2) nv a)) 3) nv b)) 4) nv 0)) 5 (upd ((updA (updA (updA A 2 (upd (A 2) nv a)) 3 (upd ((updA A 2 (upd (A 2) nv a)) 3) nv b)) 4 (upd ((updA (updA A 2 (upd (A 2) nv a)) 3 (upd ((updA A 2 (upd (A 2) nv a)) 3) nv b)) 4) nv 0)) 5) nv 0)) 6) nv (-1))) 7) nv (-1))) 8) nv (-1))) B := ⟨⟨rfl, hR.1.2⟩, PE.of10 ((congrArg (fun z => upd z nv a) ((hR.2.1 53 (by omega) (by omega))))) ((congrArg (fun z => upd z nv b) ((hR.2.1 54 (by omega) (by omega))))) ((by rw [show (if a = 0 ∨ a = 2 then (0 : Int32) else b) = _ from if_pos (Or.inr (Decidable.of_not_not hc7))]; exact (congrArg (fun z => upd z nv 0) ((hR.2.1 55 (by omega) (by omega)))))) ((congrArg (fun z => upd z nv 0) ((hR.2.1 56 (by omega) (by omega))))) ((congrArg (fun z => upd z nv (-1)) ((hR.2.1 57 (by omega) (by omega))))) ((congrArg (fun z => upd z nv (-1)) ((hR.2.1 58 (by omega) (by omega))))) ((congrArg (fun z => upd z nv (-1)) ((hR.2.1 59 (by omega) (by omega))))) ((hR.2.1 60 (by omega) (by omega))) ((hR.2.1 61 (by omega) (by omega))) ((hR.2.1 62 (by omega) (by omega))), ⟨hR.2.2.1.1, hR.2.2.1.2.1, hR.2.2.1.2.2.1, hR.2.2.1.2.2.2⟩, hR.2.2.2.1, hR.2.2.2.2.1, hR.2.2.2.2.2.1, (cnt_v hR.2.2.2.2.2.2 rfl)⟩
                have hL2 : cLg L (upd2 I 1 0 (nI (nv + 1))) (updA (updA (updA (updA (updA (updA (updA A 2 (upd (A 2) nv a)) 3 (upd ((updA A 2 (upd (A 2) nv a)) 3) nv b)) 4 (upd ((updA (updA A 2 (upd (A 2) nv a)) 3 (upd ((updA A 2 (upd (A 2) nv a)) 3) nv b)) 4) nv 0)) 5 (upd ((updA (updA (updA A 2 (upd (A 2) nv a)) 3 (upd ((updA A 2 (upd (A 2) nv a)) 3) nv b)) 4 (upd ((updA (updA A 2 (upd (A 2) nv a)) 3 (upd ((updA A 2 (upd (A 2) nv a)) 3) nv b)) 4) nv 0)) 5) nv 0)) 6 (upd ((updA (updA (updA (updA A 2 (upd (A 2) nv a)) 3 (upd ((updA A 2 (upd (A 2) nv a)) 3) nv b)) 4 (upd ((updA (updA A 2 (upd (A 2) nv a)) 3 (upd ((updA A 2 (upd (A 2) nv a)) 3) nv b)) 4) nv 0)) 5 (upd ((updA (updA (updA A 2 (upd (A 2) nv a)) 3 (upd ((updA A 2 (upd (A 2) nv a)) 3) nv b)) 4 (upd ((updA (updA A 2 (upd (A 2) nv a)) 3 (upd ((updA A 2 (upd (A 2) nv a)) 3) nv b)) 4) nv 0)) 5) nv 0)) 6) nv (-1))) 7 (upd ((updA (updA (updA (updA (updA A 2 (upd (A 2) nv a)) 3 (upd ((updA A 2 (upd (A 2) nv a)) 3) nv b)) 4 (upd ((updA (updA A 2 (upd (A 2) nv a)) 3 (upd ((updA A 2 (upd (A 2) nv a)) 3) nv b)) 4) nv 0)) 5 (upd ((updA (updA (updA A 2 (upd (A 2) nv a)) 3 (upd ((updA A 2 (upd (A 2) nv a)) 3) nv b)) 4 (upd ((updA (updA A 2 (upd (A 2) nv a)) 3 (upd ((updA A 2 (upd (A 2) nv a)) 3) nv b)) 4) nv 0)) 5) nv 0)) 6 (upd ((updA (updA (updA (updA A 2 (upd (A 2) nv a)) 3 (upd ((updA A 2 (upd (A 2) nv a)) 3) nv b)) 4 (upd ((updA (updA A 2 (upd (A 2) nv a)) 3 (upd ((updA A 2 (upd (A 2) nv a)) 3) nv b)) 4) nv 0)) 5 (upd ((updA (updA (updA A 2 (upd (A 2) nv a)) 3 (upd ((updA A 2 (upd (A 2) nv a)) 3) nv b)) 4 (upd ((updA (updA A 2 (upd (A 2) nv a)) 3 (upd ((updA A 2 (upd (A 2) nv a)) 3) nv b)) 4) nv 0)) 5) nv 0)) 6) nv (-1))) 7) nv (-1))) 8 (upd ((updA (updA (updA (updA (updA (updA A 2 (upd (A 2) nv a)) 3 (upd ((updA A 2 (upd (A 2) nv a)) 3) nv b)) 4 (upd ((updA (updA A 2 (upd (A 2) nv a)) 3 (upd ((updA A 2 (upd (A 2) nv a)) 3) nv b)) 4) nv 0)) 5 (upd ((updA (updA (updA A 2 (upd (A 2) nv a)) 3 (upd ((updA A 2 (upd (A 2) nv a)) 3) nv b)) 4 (upd ((updA (updA A 2 (upd (A 2) nv a)) 3 (upd ((updA A 2 (upd (A 2) nv a)) 3) nv b)) 4) nv 0)) 5) nv 0)) 6 (upd ((updA (updA (updA (updA A 2 (upd (A 2) nv a)) 3 (upd ((updA A 2 (upd (A 2) nv a)) 3) nv b)) 4 (upd ((updA (updA A 2 (upd (A 2) nv a)) 3 (upd ((updA A 2 (upd (A 2) nv a)) 3) nv b)) 4) nv 0)) 5 (upd ((updA (updA (updA A 2 (upd (A 2) nv a)) 3 (upd ((updA A 2 (upd (A 2) nv a)) 3) nv b)) 4 (upd ((updA (updA A 2 (upd (A 2) nv a)) 3 (upd ((updA A 2 (upd (A 2) nv a)) 3) nv b)) 4) nv 0)) 5) nv 0)) 6) nv (-1))) 7 (upd ((updA (updA (updA (updA (updA A 2 (upd (A 2) nv a)) 3 (upd ((updA A 2 (upd (A 2) nv a)) 3) nv b)) 4 (upd ((updA (updA A 2 (upd (A 2) nv a)) 3 (upd ((updA A 2 (upd (A 2) nv a)) 3) nv b)) 4) nv 0)) 5 (upd ((updA (updA (updA A 2 (upd (A 2) nv a)) 3 (upd ((updA A 2 (upd (A 2) nv a)) 3) nv b)) 4 (upd ((updA (updA A 2 (upd (A 2) nv a)) 3 (upd ((updA A 2 (upd (A 2) nv a)) 3) nv b)) 4) nv 0)) 5) nv 0)) 6 (upd ((updA (updA (updA (updA A 2 (upd (A 2) nv a)) 3 (upd ((updA A 2 (upd (A 2) nv a)) 3) nv b)) 4 (upd ((updA (updA A 2 (upd (A 2) nv a)) 3 (upd ((updA A 2 (upd (A 2) nv a)) 3) nv b)) 4) nv 0)) 5 (upd ((updA (updA (updA A 2 (upd (A 2) nv a)) 3 (upd ((updA A 2 (upd (A 2) nv a)) 3) nv b)) 4 (upd ((updA (updA A 2 (upd (A 2) nv a)) 3 (upd ((updA A 2 (upd (A 2) nv a)) 3) nv b)) 4) nv 0)) 5) nv 0)) 6) nv (-1))) 7) nv (-1))) 8) nv (-1))) := hL
                refine zWp.mono (cx_settle_11 ro (nv + 1) np _ W 10000 (K + 1000) _ _ _ _ hR2 hp2 hW2.2.1 hW2.1 (by omega) (by omega)) ?_
                rintro r h1 ⟨I_s, G_s, A_s, B_s, rfl, K_s, ⟨hR3, hH3⟩, rfl⟩
                refine ⟨rfl, ?_⟩
                have hL3 := hL2.k K_s rfl rfl rfl rfl rfl
                refine zw_aload_n 8 f107_7 rfl rfl ?_
                refine zw_getfield 11 f107_8 rfl g107_31_11 (hb_0 _ _ _ _) rfl ?_
                refine zw_aload_n 12 f107_11 rfl rfl ?_
                refine zw_getfield 15 f107_12 rfl g107_21_11 (hb_0 _ _ _ _) rfl ?_
                refine zw_virtual_v 18 0 0 [.ref 33, .ref 11] [(0, .ref 33), (1, .ref 11)] f107_15 rfl n107_187 k107_187_3 rfl (hb_33 _ _ _ _) (by decide +kernel) (Nat.le_of_ble_eq_true rfl) rfl rfl (by decide +kernel) (by decide +kernel) rfl (Nat.le_of_ble_eq_true rfl) rfl ?_
                have hq2 := mom_t hp2 hW2.2.1 hW2.1 (by omega) (by omega)
                refine zWp.mono (cx_take ro _ _ _ _ _ _ W.2.1 W.1 so L (wEv (nv + 1) _ W) hR3.2.2.1.2.1 hR3.2.2.1.1 hq2.1 hq2.2.1 hH3 hq2.2.2 hL3 (by omega)) ?_
                rintro r h1 ⟨I_u, G_u, A_u, B_u, rfl, K_u, hL4, rfl⟩
                refine ⟨rfl, ?_⟩
                have hR4 := hR3.k K_u ⟨rfl, rfl⟩ fLt_w pLt_w
                refine zw_aload_n 19 f107_18 rfl rfl ?_
                refine zw_iload_n 20 f107_19 rfl rfl ?_
                refine zw_virtual_i 23 0 0 [.ref 0, .int (nI nv)] [(0, .ref 0), (1, .int (nI nv))] f107_20 rfl n107_181 k107_181_11 rfl (hb_0 _ _ _ _) (by decide +kernel) (Nat.le_of_ble_eq_true rfl) rfl rfl (by decide +kernel) (by decide +kernel) rfl (Nat.le_of_ble_eq_true rfl) rfl ?_
                refine zw_aload_n 1 f106_0 rfl rfl ?_
                refine zw_iconst 0 2 f106_1 rfl (by decide +kernel) ?_
                refine zw_put _ 5 f106_2 rfl g106_70_11 (hb_0 _ _ _ _) rfl (Nat.le_of_ble_eq_true rfl) (by decide +kernel) (hi_0_7 _ _ _ _ _) ?_
                refine zw_iload_n 6 f106_5 rfl rfl ?_
                refine zw_ireturn f106_6 r106 u106 ⟨_, rfl, ?_⟩
                refine zw_ireturn f107_23 r107 u107 ⟨_, rfl, ?_⟩
                refine zw_ireturn f78_54 r78 u78 ?_
                exact ⟨_, _, _, _, rfl, (KQ.i rfl (KQ.tr (KQ.tr (KQ.i rfl (KQ.a rfl (KQ.a rfl (KQ.a rfl (KQ.a rfl (KQ.a rfl (KQ.a rfl (KQ.a rfl KQ.rf)))))))) (KQ.wk K_s fSe_Hd pSe_Hd)) (KQ.wk K_u fLt_Hd pLt_Hd))), Or.inr ⟨hok1, hR4.k (show KQ (fun k j => decide (k = 0 ∧ j = 7)) p0 _ _ _ _ _ _ _ _ from KQ.i (k := 0) (j := 7) (v := 0) rfl KQ.rf) ⟨rfl, rfl⟩ (fun j _ _ => by simp) (p0_w 11), hL4, rfl⟩⟩
          · have hn_hc5 : 8 ≤ nv := zn_ge (by omega) (by omega) (Int32.not_lt.mp hc5)
            refine zw_iconst (-1) 12 f20_11 rfl (by decide +kernel) ?_
            refine zw_ireturn f20_12 r20 u20 ⟨_, rfl, ?_⟩
            refine zw_istore_n _ 36 f78_35 rfl (by decide +kernel) rfl ?_
            refine zw_iload_n 37 f78_36 rfl zl1_eq ?_
            refine zw_iconst (-1) 38 f78_37 rfl (by decide +kernel) ?_
            refine zw_ic_ne_f 41 49 f78_38 (by decide +kernel) rfl (by decide +kernel) ?_
            refine zw_aload_n 42 f78_41 rfl (zl1_ne rfl rfl rfl) ?_
            refine zw_iconst 2 43 f78_42 rfl (by decide +kernel) ?_
            refine zw_virtual_i 46 0 0 [.ref 0, .int 2] [(0, .ref 0), (1, .int 2)] f78_43 rfl n78_78 k78_78_11 rfl (hb_0 _ _ _ _) (by decide +kernel) (Nat.le_of_ble_eq_true rfl) rfl rfl (by decide +kernel) (by decide +kernel) rfl (Nat.le_of_ble_eq_true rfl) rfl ?_
            refine zw_aload_n 1 f105_0 rfl rfl ?_
            refine zw_iload_n 2 f105_1 rfl rfl ?_
            refine zw_put _ 5 f105_2 rfl g105_70_11 (hb_0 _ _ _ _) rfl (Nat.le_of_ble_eq_true rfl) (by decide +kernel) (hi_0_7 _ _ _ _ _) ?_
            refine zw_iconst (-1) 6 f105_5 rfl (by decide +kernel) ?_
            refine zw_ireturn f105_6 r105 u105 ⟨_, rfl, ?_⟩
            refine zw_goto 54 f78_46 (by decide +kernel) ?_
            refine zw_ireturn f78_54 r78 u78 ?_
            exact ⟨_, _, _, _, rfl, (KQ.i rfl KQ.rf), Or.inl ⟨(fun q => (fun q => q (by omega)) q.2.2), hR.k (show KQ (fun k j => decide (k = 0 ∧ j = 7)) p0 _ _ _ _ _ _ _ _ from KQ.i (k := 0) (j := 7) (v := 2) rfl KQ.rf) ⟨rfl, rfl⟩ (fun j _ _ => by simp) (p0_w 11), hL, rfl⟩⟩
set_option maxRecDepth 100000 in
set_option maxHeartbeats 0 in
theorem cx_marks (ro : UInt32 → Nat × (Nat → Int32)) (nv np : Nat) (P : Nat → Nat → Int32) (W : qW) (L : qLog) (K : Int) (so : Int32) (I : Nat → Nat → Int32) (G : Nat → Nat → Int64) (A : Nat → Nat → Int32) (B : Nat → Nat → Int64) (hR : cRS 11 nv np P W I G A B) (hp : MPa nv np P) (hW : wInv nv 10000 K P W) (hQ : qKd nv P) (hL : cLg L I A) (hK : K ≤ 199000000) (hn : L.1 < 900000000) (a : Int32) (b : Int32) (c : Int32) (hok : ok_marks nv np P a b c → MPa nv np (updA (updA P 55 (upd (P 55) a.toNatClampNeg b)) 56 (upd ((updA P 55 (upd (P 55) a.toNatClampNeg b)) 56) a.toNatClampNeg (if P 53 a.toNatClampNeg = 1 then 0 else c))) ∧ wInv nv 10000 (K + 1000) (updA (updA P 55 (upd (P 55) a.toNatClampNeg b)) 56 (upd ((updA P 55 (upd (P 55) a.toNatClampNeg b)) 56) a.toNatClampNeg (if P 53 a.toNatClampNeg = 1 then 0 else c))) W) : zWp ro 79 0 [(0, .ref 0), (1, .int a), (2, .int b), (3, .int c)] [] (hS I G A B) 0 0 (fun r h1 => ∃ I2 G2 A2 B2, h1 = hS I2 G2 A2 B2 ∧ KQ fHd pHd I G A B I2 G2 A2 B2 ∧ ((¬ ok_marks nv np P a b c ∧ cRS 11 nv np P W I2 G2 A2 B2 ∧ cLg L I2 A2 ∧ r = some (.int (-1))) ∨ (ok_marks nv np P a b c ∧ cRS 11 nv np (updA (updA P 55 (upd (P 55) a.toNatClampNeg b)) 56 (upd ((updA P 55 (upd (P 55) a.toNatClampNeg b)) 56) a.toNatClampNeg (if P 53 a.toNatClampNeg = 1 then 0 else c))) (wMom nv (updA (updA P 55 (upd (P 55) a.toNatClampNeg b)) 56 (upd ((updA P 55 (upd (P 55) a.toNatClampNeg b)) 56) a.toNatClampNeg (if P 53 a.toNatClampNeg = 1 then 0 else c))) W) I2 G2 A2 B2 ∧ cLg (qNotes 1 W.2.1 W.1 so L (wEv nv (updA (updA P 55 (upd (P 55) a.toNatClampNeg b)) 56 (upd ((updA P 55 (upd (P 55) a.toNatClampNeg b)) 56) a.toNatClampNeg (if P 53 a.toNatClampNeg = 1 then 0 else c))) W)) I2 A2 ∧ r = some (.int 1)))) := by
  have h8 := hp.1
  have h14 := hp.2.1
  have hg : 1 ≤ W.1.toInt ∧ W.1.toInt ≤ 10000 := hW.1.1.1
  refine zw_aload_n 1 f79_0 rfl rfl ?_
  refine zw_getfield 4 f79_1 rfl g79_10_11 (hb_0 _ _ _ _) rfl ?_
  refine zw_iload_n 5 f79_4 rfl rfl ?_
  refine zw_virtual_i 8 0 0 [.ref 1, .int a] [(0, .ref 1), (1, .int a)] f79_5 rfl n79_89 k79_89_4 rfl (hb_1 _ _ _ _) (by decide +kernel) (Nat.le_of_ble_eq_true rfl) rfl rfl (by decide +kernel) (by decide +kernel) rfl (Nat.le_of_ble_eq_true rfl) rfl ?_
  refine zw_iload_n 1 f13_0 rfl rfl ?_
  refine zw_if_lt 4 22 f13_1 (by decide +kernel) rfl (fun hc1 => ?_) (fun hc1 => ?_)
  · refine zw_iconst 0 23 f13_22 rfl (by decide +kernel) ?_
    refine zw_zreturn f13_23 r13 u13 (by decide +kernel) ⟨_, rfl, ?_⟩
    refine zw_if_ne_f 11 17 f79_8 (by decide +kernel) rfl (by decide +kernel) ?_
    refine zw_aload_n 12 f79_11 rfl rfl ?_
    refine zw_iconst 1 13 f79_12 rfl (by decide +kernel) ?_
    refine zw_virtual_i 16 0 0 [.ref 0, .int 1] [(0, .ref 0), (1, .int 1)] f79_13 rfl n79_78 k79_78_11 rfl (hb_0 _ _ _ _) (by decide +kernel) (Nat.le_of_ble_eq_true rfl) rfl rfl (by decide +kernel) (by decide +kernel) rfl (Nat.le_of_ble_eq_true rfl) rfl ?_
    refine zw_aload_n 1 f105_0 rfl rfl ?_
    refine zw_iload_n 2 f105_1 rfl rfl ?_
    refine zw_put _ 5 f105_2 rfl g105_70_11 (hb_0 _ _ _ _) rfl (Nat.le_of_ble_eq_true rfl) (by decide +kernel) (hi_0_7 _ _ _ _ _) ?_
    refine zw_iconst (-1) 6 f105_5 rfl (by decide +kernel) ?_
    refine zw_ireturn f105_6 r105 u105 ⟨_, rfl, ?_⟩
    refine zw_ireturn f79_16 r79 u79 ?_
    exact ⟨_, _, _, _, rfl, (KQ.i rfl KQ.rf), Or.inl ⟨(fun q => (qV.n0 (by omega) hc1) q.1), hR.k (show KQ (fun k j => decide (k = 0 ∧ j = 7)) p0 _ _ _ _ _ _ _ _ from KQ.i (k := 0) (j := 7) (v := 1) rfl KQ.rf) ⟨rfl, rfl⟩ (fun j _ _ => by simp) (p0_w 11), hL, rfl⟩⟩
  · refine zw_iload_n 5 f13_4 rfl rfl ?_
    refine zw_aload_n 6 f13_5 rfl rfl ?_
    refine zw_getI (nI nv) 9 f13_6 rfl g13_39_4 (hb_1 _ _ _ _) rfl hR.1.1 ?_
    refine zw_ic_ge 12 22 f13_9 (by decide +kernel) rfl (fun hc2 => ?_) (fun hc2 => ?_)
    · refine zw_iconst 0 23 f13_22 rfl (by decide +kernel) ?_
      refine zw_zreturn f13_23 r13 u13 (by decide +kernel) ⟨_, rfl, ?_⟩
      refine zw_if_ne_f 11 17 f79_8 (by decide +kernel) rfl (by decide +kernel) ?_
      refine zw_aload_n 12 f79_11 rfl rfl ?_
      refine zw_iconst 1 13 f79_12 rfl (by decide +kernel) ?_
      refine zw_virtual_i 16 0 0 [.ref 0, .int 1] [(0, .ref 0), (1, .int 1)] f79_13 rfl n79_78 k79_78_11 rfl (hb_0 _ _ _ _) (by decide +kernel) (Nat.le_of_ble_eq_true rfl) rfl rfl (by decide +kernel) (by decide +kernel) rfl (Nat.le_of_ble_eq_true rfl) rfl ?_
      refine zw_aload_n 1 f105_0 rfl rfl ?_
      refine zw_iload_n 2 f105_1 rfl rfl ?_
      refine zw_put _ 5 f105_2 rfl g105_70_11 (hb_0 _ _ _ _) rfl (Nat.le_of_ble_eq_true rfl) (by decide +kernel) (hi_0_7 _ _ _ _ _) ?_
      refine zw_iconst (-1) 6 f105_5 rfl (by decide +kernel) ?_
      refine zw_ireturn f105_6 r105 u105 ⟨_, rfl, ?_⟩
      refine zw_ireturn f79_16 r79 u79 ?_
      exact ⟨_, _, _, _, rfl, (KQ.i rfl KQ.rf), Or.inl ⟨(fun q => (qV.n2 (by omega) hc2) q.1), hR.k (show KQ (fun k j => decide (k = 0 ∧ j = 7)) p0 _ _ _ _ _ _ _ _ from KQ.i (k := 0) (j := 7) (v := 1) rfl KQ.rf) ⟨rfl, rfl⟩ (fun j _ _ => by simp) (p0_w 11), hL, rfl⟩⟩
    · refine zw_iload_n 13 f13_12 rfl rfl ?_
      refine zw_bipush 8 15 f13_13 rfl (by decide +kernel) ?_
      refine zw_ic_ge 18 22 f13_15 (by decide +kernel) rfl (fun hc3 => ?_) (fun hc3 => ?_)
      · refine zw_iconst 0 23 f13_22 rfl (by decide +kernel) ?_
        refine zw_zreturn f13_23 r13 u13 (by decide +kernel) ⟨_, rfl, ?_⟩
        refine zw_if_ne_f 11 17 f79_8 (by decide +kernel) rfl (by decide +kernel) ?_
        refine zw_aload_n 12 f79_11 rfl rfl ?_
        refine zw_iconst 1 13 f79_12 rfl (by decide +kernel) ?_
        refine zw_virtual_i 16 0 0 [.ref 0, .int 1] [(0, .ref 0), (1, .int 1)] f79_13 rfl n79_78 k79_78_11 rfl (hb_0 _ _ _ _) (by decide +kernel) (Nat.le_of_ble_eq_true rfl) rfl rfl (by decide +kernel) (by decide +kernel) rfl (Nat.le_of_ble_eq_true rfl) rfl ?_
        refine zw_aload_n 1 f105_0 rfl rfl ?_
        refine zw_iload_n 2 f105_1 rfl rfl ?_
        refine zw_put _ 5 f105_2 rfl g105_70_11 (hb_0 _ _ _ _) rfl (Nat.le_of_ble_eq_true rfl) (by decide +kernel) (hi_0_7 _ _ _ _ _) ?_
        refine zw_iconst (-1) 6 f105_5 rfl (by decide +kernel) ?_
        refine zw_ireturn f105_6 r105 u105 ⟨_, rfl, ?_⟩
        refine zw_ireturn f79_16 r79 u79 ?_
        exact ⟨_, _, _, _, rfl, (KQ.i rfl KQ.rf), Or.inl ⟨(fun q => (qV.n3 (m := 8) (N := 8) (by omega) (by omega) (by decide) hc3) q.1), hR.k (show KQ (fun k j => decide (k = 0 ∧ j = 7)) p0 _ _ _ _ _ _ _ _ from KQ.i (k := 0) (j := 7) (v := 1) rfl KQ.rf) ⟨rfl, rfl⟩ (fun j _ _ => by simp) (p0_w 11), hL, rfl⟩⟩
      · refine zw_iconst 1 19 f13_18 rfl (by decide +kernel) ?_
        refine zw_goto 23 f13_19 (by decide +kernel) ?_
        refine zw_zreturn f13_23 r13 u13 (by decide +kernel) ⟨_, rfl, ?_⟩
        refine zw_if_ne_t 17 f79_8 (by decide +kernel) (by decide +kernel) ?_
        refine zw_aload_n 18 f79_17 rfl rfl ?_
        refine zw_getfield 21 f79_18 rfl g79_10_11 (hb_0 _ _ _ _) rfl ?_
        refine zw_iload_n 22 f79_21 rfl rfl ?_
        refine zw_virtual_i 25 0 0 [.ref 1, .int a] [(0, .ref 1), (1, .int a)] f79_22 rfl n79_93 k79_93_4 rfl (hb_1 _ _ _ _) (by decide +kernel) (Nat.le_of_ble_eq_true rfl) rfl rfl (by decide +kernel) (by decide +kernel) rfl (Nat.le_of_ble_eq_true rfl) rfl ?_
        refine zw_aload_n 1 f18_0 rfl rfl ?_
        refine zw_iload_n 2 f18_1 rfl rfl ?_
        refine zw_virtual_i 5 0 0 [.ref 1, .int a] [(0, .ref 1), (1, .int a)] f18_2 rfl n18_50 k18_50_4 rfl (hb_1 _ _ _ _) (by decide +kernel) (Nat.le_of_ble_eq_true rfl) rfl rfl (by decide +kernel) (by decide +kernel) rfl (Nat.le_of_ble_eq_true rfl) rfl ?_
        refine zw_iload_n 1 f15_0 rfl rfl ?_
        refine zw_if_lt_f 4 27 f15_1 (by decide +kernel) rfl hc1 ?_
        refine zw_iload_n 5 f15_4 rfl rfl ?_
        refine zw_aload_n 6 f15_5 rfl rfl ?_
        refine zw_getI (nI nv) 9 f15_6 rfl g15_39_4 (hb_1 _ _ _ _) rfl hR.1.1 ?_
        refine zw_ic_ge_f 12 27 f15_9 (by decide +kernel) rfl hc2 ?_
        refine zw_iload_n 13 f15_12 rfl rfl ?_
        refine zw_bipush 8 15 f15_13 rfl (by decide +kernel) ?_
        refine zw_ic_ge_f 18 27 f15_15 (by decide +kernel) rfl hc3 ?_
        refine zw_aload_n 19 f15_18 rfl rfl ?_
        refine zw_getfield 22 f15_19 rfl g15_9_4 (hb_1 _ _ _ _) rfl ?_
        refine zw_iload_n 23 f15_22 rfl rfl ?_
        refine zw_iaload a.toNatClampNeg (P 53 a.toNatClampNeg) 24 f15_23 rfl (hb_2 _ _ _ _) rfl hc1 (zix (by decide) hc1 hc3) (congrFun ((hR.2.1 53 (by omega) (by omega))) a.toNatClampNeg) ?_
        refine zw_goto 28 f15_24 (by decide +kernel) ?_
        refine zw_ireturn f15_28 r15 u15 ⟨_, rfl, ?_⟩
        refine zw_iconst 1 6 f18_5 rfl (by decide +kernel) ?_
        refine zw_ic_eq 9 17 f18_6 (by decide +kernel) rfl (fun hc4 => ?_) (fun hc4 => ?_)
        · refine zw_iconst 1 18 f18_17 rfl (by decide +kernel) ?_
          refine zw_goto 22 f18_18 (by decide +kernel) ?_
          refine zw_zreturn f18_22 r18 u18 (by decide +kernel) ⟨_, rfl, ?_⟩
          refine zw_if_ne_t 34 f79_25 (by decide +kernel) (by decide +kernel) ?_
          refine zw_iload_n 35 f79_34 rfl rfl ?_
          refine zw_iconst 1 36 f79_35 rfl (by decide +kernel) ?_
          refine zw_aload_n 37 f79_36 rfl rfl ?_
          refine zw_getfield 40 f79_37 rfl g79_10_11 (hb_0 _ _ _ _) rfl ?_
          refine zw_getfield 43 f79_40 rfl g79_96_4 (hb_1 _ _ _ _) rfl ?_
          refine zw_iload_n 44 f79_43 rfl rfl ?_
          refine zw_iaload a.toNatClampNeg (P 54 a.toNatClampNeg) 45 f79_44 rfl (hb_3 _ _ _ _) rfl hc1 (zix (by decide) hc1 hc3) (congrFun ((hR.2.1 54 (by omega) (by omega))) a.toNatClampNeg) ?_
          refine zw_static_i 48 0 0 [.int b, .int 1, .int (P 54 a.toNatClampNeg)] [] [(0, .int b), (1, .int 1), (2, .int (P 54 a.toNatClampNeg))] f79_45 rfl k79_74_99 rfl (by decide +kernel) (Nat.le_of_ble_eq_true rfl) (Nat.le_of_ble_eq_true rfl) rfl rfl (by decide +kernel) (by decide +kernel) rfl (Nat.le_of_ble_eq_true rfl) rfl ?_
          refine zw_iload_n 1 f112_0 rfl rfl ?_
          refine zw_iload_n 2 f112_1 rfl rfl ?_
          refine zw_ic_lt 5 14 f112_2 (by decide +kernel) rfl (fun hc5 => ?_) (fun hc5 => ?_)
          · refine zw_iconst 0 15 f112_14 rfl (by decide +kernel) ?_
            refine zw_zreturn f112_15 r112 u112 (by decide +kernel) ⟨_, rfl, ?_⟩
            refine zw_if_ne_f 51 57 f79_48 (by decide +kernel) rfl (by decide +kernel) ?_
            refine zw_aload_n 52 f79_51 rfl rfl ?_
            refine zw_iconst 1 53 f79_52 rfl (by decide +kernel) ?_
            refine zw_virtual_i 56 0 0 [.ref 0, .int 1] [(0, .ref 0), (1, .int 1)] f79_53 rfl n79_78 k79_78_11 rfl (hb_0 _ _ _ _) (by decide +kernel) (Nat.le_of_ble_eq_true rfl) rfl rfl (by decide +kernel) (by decide +kernel) rfl (Nat.le_of_ble_eq_true rfl) rfl ?_
            refine zw_aload_n 1 f105_0 rfl rfl ?_
            refine zw_iload_n 2 f105_1 rfl rfl ?_
            refine zw_put _ 5 f105_2 rfl g105_70_11 (hb_0 _ _ _ _) rfl (Nat.le_of_ble_eq_true rfl) (by decide +kernel) (hi_0_7 _ _ _ _ _) ?_
            refine zw_iconst (-1) 6 f105_5 rfl (by decide +kernel) ?_
            refine zw_ireturn f105_6 r105 u105 ⟨_, rfl, ?_⟩
            refine zw_ireturn f79_56 r79 u79 ?_
            exact ⟨_, _, _, _, rfl, (KQ.i rfl KQ.rf), Or.inl ⟨(fun q => (fun q => q.1 hc5) q.2.2.1), hR.k (show KQ (fun k j => decide (k = 0 ∧ j = 7)) p0 _ _ _ _ _ _ _ _ from KQ.i (k := 0) (j := 7) (v := 1) rfl KQ.rf) ⟨rfl, rfl⟩ (fun j _ _ => by simp) (p0_w 11), hL, rfl⟩⟩
          · refine zw_iload_n 6 f112_5 rfl rfl ?_
            refine zw_iload_n 7 f112_6 rfl rfl ?_
            refine zw_ic_gt 10 14 f112_7 (by decide +kernel) rfl (fun hc6 => ?_) (fun hc6 => ?_)
            · refine zw_iconst 0 15 f112_14 rfl (by decide +kernel) ?_
              refine zw_zreturn f112_15 r112 u112 (by decide +kernel) ⟨_, rfl, ?_⟩
              refine zw_if_ne_f 51 57 f79_48 (by decide +kernel) rfl (by decide +kernel) ?_
              refine zw_aload_n 52 f79_51 rfl rfl ?_
              refine zw_iconst 1 53 f79_52 rfl (by decide +kernel) ?_
              refine zw_virtual_i 56 0 0 [.ref 0, .int 1] [(0, .ref 0), (1, .int 1)] f79_53 rfl n79_78 k79_78_11 rfl (hb_0 _ _ _ _) (by decide +kernel) (Nat.le_of_ble_eq_true rfl) rfl rfl (by decide +kernel) (by decide +kernel) rfl (Nat.le_of_ble_eq_true rfl) rfl ?_
              refine zw_aload_n 1 f105_0 rfl rfl ?_
              refine zw_iload_n 2 f105_1 rfl rfl ?_
              refine zw_put _ 5 f105_2 rfl g105_70_11 (hb_0 _ _ _ _) rfl (Nat.le_of_ble_eq_true rfl) (by decide +kernel) (hi_0_7 _ _ _ _ _) ?_
              refine zw_iconst (-1) 6 f105_5 rfl (by decide +kernel) ?_
              refine zw_ireturn f105_6 r105 u105 ⟨_, rfl, ?_⟩
              refine zw_ireturn f79_56 r79 u79 ?_
              exact ⟨_, _, _, _, rfl, (KQ.i rfl KQ.rf), Or.inl ⟨(fun q => (fun q => q.2 hc6) q.2.2.1), hR.k (show KQ (fun k j => decide (k = 0 ∧ j = 7)) p0 _ _ _ _ _ _ _ _ from KQ.i (k := 0) (j := 7) (v := 1) rfl KQ.rf) ⟨rfl, rfl⟩ (fun j _ _ => by simp) (p0_w 11), hL, rfl⟩⟩
            · refine zw_iconst 1 11 f112_10 rfl (by decide +kernel) ?_
              refine zw_goto 15 f112_11 (by decide +kernel) ?_
              refine zw_zreturn f112_15 r112 u112 (by decide +kernel) ⟨_, rfl, ?_⟩
              refine zw_if_ne_t 57 f79_48 (by decide +kernel) (by decide +kernel) ?_
              refine zw_aload_n 58 f79_57 rfl rfl ?_
              refine zw_getfield 61 f79_58 rfl g79_10_11 (hb_0 _ _ _ _) rfl ?_
              refine zw_iload_n 62 f79_61 rfl rfl ?_
              refine zw_virtual_i 65 0 0 [.ref 1, .int a] [(0, .ref 1), (1, .int a)] f79_62 rfl n79_100 k79_100_4 rfl (hb_1 _ _ _ _) (by decide +kernel) (Nat.le_of_ble_eq_true rfl) rfl rfl (by decide +kernel) (by decide +kernel) rfl (Nat.le_of_ble_eq_true rfl) rfl ?_
              refine zw_iload_n 1 f17_0 rfl rfl ?_
              refine zw_if_lt_f 4 22 f17_1 (by decide +kernel) rfl hc1 ?_
              refine zw_iload_n 5 f17_4 rfl rfl ?_
              refine zw_aload_n 6 f17_5 rfl rfl ?_
              refine zw_getI (nI nv) 9 f17_6 rfl g17_39_4 (hb_1 _ _ _ _) rfl hR.1.1 ?_
              refine zw_ic_ge_f 12 22 f17_9 (by decide +kernel) rfl hc2 ?_
              refine zw_iload_n 13 f17_12 rfl rfl ?_
              refine zw_bipush 8 15 f17_13 rfl (by decide +kernel) ?_
              refine zw_ic_ge_f 18 22 f17_15 (by decide +kernel) rfl hc3 ?_
              refine zw_iconst 1 19 f17_18 rfl (by decide +kernel) ?_
              refine zw_goto 23 f17_19 (by decide +kernel) ?_
              refine zw_istore_n _ 24 f17_23 rfl (by decide +kernel) rfl ?_
              refine zw_iload_n 25 f17_24 rfl zl1_eq ?_
              refine zw_if_eq_f 28 52 f17_25 (by decide +kernel) rfl (by decide +kernel) ?_
              refine zw_aload_n 29 f17_28 rfl (zl1_ne rfl rfl rfl) ?_
              refine zw_getfield 32 f17_29 rfl g17_9_4 (hb_1 _ _ _ _) rfl ?_
              refine zw_iload_n 33 f17_32 rfl (zl1_ne rfl rfl rfl) ?_
              refine zw_iaload a.toNatClampNeg (P 53 a.toNatClampNeg) 34 f17_33 rfl (hb_2 _ _ _ _) rfl hc1 (zix (by decide) hc1 hc3) (congrFun ((hR.2.1 53 (by omega) (by omega))) a.toNatClampNeg) ?_
              refine zw_iconst 3 35 f17_34 rfl (by decide +kernel) ?_
              refine zw_ic_eq 38 48 f17_35 (by decide +kernel) rfl (fun hc7 => ?_) (fun hc7 => ?_)
              · refine zw_iconst 1 49 f17_48 rfl (by decide +kernel) ?_
                refine zw_goto 53 f17_49 (by decide +kernel) ?_
                refine zw_zreturn f17_53 r17 u17 (by decide +kernel) ⟨_, rfl, ?_⟩
                refine zw_if_eq_f 68 95 f79_65 (by decide +kernel) rfl (by decide +kernel) ?_
                refine zw_iload_n 69 f79_68 rfl rfl ?_
                refine zw_iconst 0 70 f79_69 rfl (by decide +kernel) ?_
                refine zw_iload_n 71 f79_70 rfl rfl ?_
                refine zw_iconst 1 72 f79_71 rfl (by decide +kernel) ?_
                refine zw_isub (b - 1) 73 f79_72 rfl rfl ?_
                refine zw_static_i 76 0 0 [.int c, .int 0, .int (b - 1)] [] [(0, .int c), (1, .int 0), (2, .int (b - 1))] f79_73 rfl k79_74_99 rfl (by decide +kernel) (Nat.le_of_ble_eq_true rfl) (Nat.le_of_ble_eq_true rfl) rfl rfl (by decide +kernel) (by decide +kernel) rfl (Nat.le_of_ble_eq_true rfl) rfl ?_
                refine zw_iload_n 1 f112_0 rfl rfl ?_
                refine zw_iload_n 2 f112_1 rfl rfl ?_
                refine zw_ic_lt 5 14 f112_2 (by decide +kernel) rfl (fun hc8 => ?_) (fun hc8 => ?_)
                · refine zw_iconst 0 15 f112_14 rfl (by decide +kernel) ?_
                  refine zw_zreturn f112_15 r112 u112 (by decide +kernel) ⟨_, rfl, ?_⟩
                  refine zw_if_ne_f 79 85 f79_76 (by decide +kernel) rfl (by decide +kernel) ?_
                  refine zw_aload_n 80 f79_79 rfl rfl ?_
                  refine zw_iconst 1 81 f79_80 rfl (by decide +kernel) ?_
                  refine zw_virtual_i 84 0 0 [.ref 0, .int 1] [(0, .ref 0), (1, .int 1)] f79_81 rfl n79_78 k79_78_11 rfl (hb_0 _ _ _ _) (by decide +kernel) (Nat.le_of_ble_eq_true rfl) rfl rfl (by decide +kernel) (by decide +kernel) rfl (Nat.le_of_ble_eq_true rfl) rfl ?_
                  refine zw_aload_n 1 f105_0 rfl rfl ?_
                  refine zw_iload_n 2 f105_1 rfl rfl ?_
                  refine zw_put _ 5 f105_2 rfl g105_70_11 (hb_0 _ _ _ _) rfl (Nat.le_of_ble_eq_true rfl) (by decide +kernel) (hi_0_7 _ _ _ _ _) ?_
                  refine zw_iconst (-1) 6 f105_5 rfl (by decide +kernel) ?_
                  refine zw_ireturn f105_6 r105 u105 ⟨_, rfl, ?_⟩
                  refine zw_ireturn f79_84 r79 u79 ?_
                  exact ⟨_, _, _, _, rfl, (KQ.i rfl KQ.rf), Or.inl ⟨(fun q => (fun q => q.elim (kne hc7 (by decide)) (fun q => q.1 hc8)) q.2.2.2), hR.k (show KQ (fun k j => decide (k = 0 ∧ j = 7)) p0 _ _ _ _ _ _ _ _ from KQ.i (k := 0) (j := 7) (v := 1) rfl KQ.rf) ⟨rfl, rfl⟩ (fun j _ _ => by simp) (p0_w 11), hL, rfl⟩⟩
                · refine zw_iload_n 6 f112_5 rfl rfl ?_
                  refine zw_iload_n 7 f112_6 rfl rfl ?_
                  refine zw_ic_gt 10 14 f112_7 (by decide +kernel) rfl (fun hc9 => ?_) (fun hc9 => ?_)
                  · refine zw_iconst 0 15 f112_14 rfl (by decide +kernel) ?_
                    refine zw_zreturn f112_15 r112 u112 (by decide +kernel) ⟨_, rfl, ?_⟩
                    refine zw_if_ne_f 79 85 f79_76 (by decide +kernel) rfl (by decide +kernel) ?_
                    refine zw_aload_n 80 f79_79 rfl rfl ?_
                    refine zw_iconst 1 81 f79_80 rfl (by decide +kernel) ?_
                    refine zw_virtual_i 84 0 0 [.ref 0, .int 1] [(0, .ref 0), (1, .int 1)] f79_81 rfl n79_78 k79_78_11 rfl (hb_0 _ _ _ _) (by decide +kernel) (Nat.le_of_ble_eq_true rfl) rfl rfl (by decide +kernel) (by decide +kernel) rfl (Nat.le_of_ble_eq_true rfl) rfl ?_
                    refine zw_aload_n 1 f105_0 rfl rfl ?_
                    refine zw_iload_n 2 f105_1 rfl rfl ?_
                    refine zw_put _ 5 f105_2 rfl g105_70_11 (hb_0 _ _ _ _) rfl (Nat.le_of_ble_eq_true rfl) (by decide +kernel) (hi_0_7 _ _ _ _ _) ?_
                    refine zw_iconst (-1) 6 f105_5 rfl (by decide +kernel) ?_
                    refine zw_ireturn f105_6 r105 u105 ⟨_, rfl, ?_⟩
                    refine zw_ireturn f79_84 r79 u79 ?_
                    exact ⟨_, _, _, _, rfl, (KQ.i rfl KQ.rf), Or.inl ⟨(fun q => (fun q => q.elim (kne hc7 (by decide)) (fun q => q.2 hc9)) q.2.2.2), hR.k (show KQ (fun k j => decide (k = 0 ∧ j = 7)) p0 _ _ _ _ _ _ _ _ from KQ.i (k := 0) (j := 7) (v := 1) rfl KQ.rf) ⟨rfl, rfl⟩ (fun j _ _ => by simp) (p0_w 11), hL, rfl⟩⟩
                  · refine zw_iconst 1 11 f112_10 rfl (by decide +kernel) ?_
                    refine zw_goto 15 f112_11 (by decide +kernel) ?_
                    refine zw_zreturn f112_15 r112 u112 (by decide +kernel) ⟨_, rfl, ?_⟩
                    refine zw_if_ne_t 85 f79_76 (by decide +kernel) (by decide +kernel) ?_
                    refine zw_aload_n 86 f79_85 rfl rfl ?_
                    refine zw_getfield 89 f79_86 rfl g79_10_11 (hb_0 _ _ _ _) rfl ?_
                    refine zw_getfield 92 f79_89 rfl g79_103_4 (hb_1 _ _ _ _) rfl ?_
                    refine zw_iload_n 93 f79_92 rfl rfl ?_
                    refine zw_iload_n 94 f79_93 rfl rfl ?_
                    refine zw_ast a.toNatClampNeg _ 95 f79_94 rfl (hb_5 _ _ _ _) rfl hc1 (zix (by decide) hc1 hc3) (ha_5 _ _ _ _ _) ?_
                    refine zw_aload_n 96 f79_95 rfl rfl ?_
                    refine zw_getfield 99 f79_96 rfl g79_10_11 (hb_0 _ _ _ _) rfl ?_
                    refine zw_getfield 102 f79_99 rfl g79_106_4 (hb_1 _ _ _ _) rfl ?_
                    refine zw_iload_n 103 f79_102 rfl rfl ?_
                    refine zw_iload_n 104 f79_103 rfl rfl ?_
                    refine zw_ast a.toNatClampNeg _ 105 f79_104 rfl (hb_4 _ _ _ _) rfl hc1 (zix (by decide) hc1 hc3) (ha_4 _ _ _ _ _) ?_
                    refine zw_aload_n 106 f79_105 rfl rfl ?_
                    refine zw_iconst 1 107 f79_106 rfl (by decide +kernel) ?_
                    refine zw_virtual_i 110 0 0 [.ref 0, .int 1] [(0, .ref 0), (1, .int 1)] f79_107 rfl n79_86 k79_86_11 rfl (hb_0 _ _ _ _) (by decide +kernel) (Nat.le_of_ble_eq_true rfl) rfl rfl (by decide +kernel) (by decide +kernel) rfl (Nat.le_of_ble_eq_true rfl) rfl ?_
                    refine zw_aload_n 1 f107_0 rfl rfl ?_
                    refine zw_getfield 4 f107_1 rfl g107_21_11 (hb_0 _ _ _ _) rfl ?_
                    refine zw_virtual_v 7 0 0 [.ref 11] [(0, .ref 11)] f107_4 rfl n107_318 k107_318_10 rfl (hb_11 _ _ _ _) (by decide +kernel) (Nat.le_of_ble_eq_true rfl) rfl rfl (by decide +kernel) (by decide +kernel) rfl (Nat.le_of_ble_eq_true rfl) rfl ?_
                    have hok1 : ok_marks nv np P a b c := ⟨(qV.ofc (by omega) hc1 hc2), ⟨kne hc4 (by decide), kne hc4 (by decide)⟩, ⟨hc5, hc6⟩, (Or.inl hc4)⟩
                    obtain ⟨hp2, hW2⟩ := hok hok1
                    have hR2 : cRS 11 nv np (updA (updA P 55 (upd (P 55) a.toNatClampNeg b)) 56 (upd ((updA P 55 (upd (P 55) a.toNatClampNeg b)) 56) a.toNatClampNeg (if P 53 a.toNatClampNeg = 1 then 0 else c))) W I G (updA (updA A 5 (upd (A 5) a.toNatClampNeg c)) 4 (upd ((updA A 5 (upd (A 5) a.toNatClampNeg c)) 4) a.toNatClampNeg b)) B := ⟨⟨hR.1.1, hR.1.2⟩, PE.of10 ((hR.2.1 53 (by omega) (by omega))) ((hR.2.1 54 (by omega) (by omega))) ((congrArg (fun z => upd z a.toNatClampNeg b) ((hR.2.1 55 (by omega) (by omega))))) ((absurd hc7 (kne hc4 (by decide)))) ((hR.2.1 57 (by omega) (by omega))) ((hR.2.1 58 (by omega) (by omega))) ((hR.2.1 59 (by omega) (by omega))) ((hR.2.1 60 (by omega) (by omega))) ((hR.2.1 61 (by omega) (by omega))) ((hR.2.1 62 (by omega) (by omega))), ⟨hR.2.2.1.1, hR.2.2.1.2.1, hR.2.2.1.2.2.1, hR.2.2.1.2.2.2⟩, hR.2.2.2.1, hR.2.2.2.2.1, hR.2.2.2.2.2.1, hR.2.2.2.2.2.2⟩
                    have hL2 : cLg L I (updA (updA A 5 (upd (A 5) a.toNatClampNeg c)) 4 (upd ((updA A 5 (upd (A 5) a.toNatClampNeg c)) 4) a.toNatClampNeg b)) := hL
                    refine zWp.mono (cx_settle_11 ro nv np _ W 10000 (K + 1000) _ _ _ _ hR2 hp2 hW2.2.1 hW2.1 (by omega) (by omega)) ?_
                    rintro r h1 ⟨I_s, G_s, A_s, B_s, rfl, K_s, ⟨hR3, hH3⟩, rfl⟩
                    refine ⟨rfl, ?_⟩
                    have hL3 := hL2.k K_s rfl rfl rfl rfl rfl
                    refine zw_aload_n 8 f107_7 rfl rfl ?_
                    refine zw_getfield 11 f107_8 rfl g107_31_11 (hb_0 _ _ _ _) rfl ?_
                    refine zw_aload_n 12 f107_11 rfl rfl ?_
                    refine zw_getfield 15 f107_12 rfl g107_21_11 (hb_0 _ _ _ _) rfl ?_
                    refine zw_virtual_v 18 0 0 [.ref 33, .ref 11] [(0, .ref 33), (1, .ref 11)] f107_15 rfl n107_187 k107_187_3 rfl (hb_33 _ _ _ _) (by decide +kernel) (Nat.le_of_ble_eq_true rfl) rfl rfl (by decide +kernel) (by decide +kernel) rfl (Nat.le_of_ble_eq_true rfl) rfl ?_
                    have hq2 := mom_t hp2 hW2.2.1 hW2.1 (by omega) (by omega)
                    refine zWp.mono (cx_take ro _ _ _ _ _ _ W.2.1 W.1 so L (wEv nv _ W) hR3.2.2.1.2.1 hR3.2.2.1.1 hq2.1 hq2.2.1 hH3 hq2.2.2 hL3 (by omega)) ?_
                    rintro r h1 ⟨I_u, G_u, A_u, B_u, rfl, K_u, hL4, rfl⟩
                    refine ⟨rfl, ?_⟩
                    have hR4 := hR3.k K_u ⟨rfl, rfl⟩ fLt_w pLt_w
                    refine zw_aload_n 19 f107_18 rfl rfl ?_
                    refine zw_iload_n 20 f107_19 rfl rfl ?_
                    refine zw_virtual_i 23 0 0 [.ref 0, .int 1] [(0, .ref 0), (1, .int 1)] f107_20 rfl n107_181 k107_181_11 rfl (hb_0 _ _ _ _) (by decide +kernel) (Nat.le_of_ble_eq_true rfl) rfl rfl (by decide +kernel) (by decide +kernel) rfl (Nat.le_of_ble_eq_true rfl) rfl ?_
                    refine zw_aload_n 1 f106_0 rfl rfl ?_
                    refine zw_iconst 0 2 f106_1 rfl (by decide +kernel) ?_
                    refine zw_put _ 5 f106_2 rfl g106_70_11 (hb_0 _ _ _ _) rfl (Nat.le_of_ble_eq_true rfl) (by decide +kernel) (hi_0_7 _ _ _ _ _) ?_
                    refine zw_iload_n 6 f106_5 rfl rfl ?_
                    refine zw_ireturn f106_6 r106 u106 ⟨_, rfl, ?_⟩
                    refine zw_ireturn f107_23 r107 u107 ⟨_, rfl, ?_⟩
                    refine zw_ireturn f79_110 r79 u79 ?_
                    exact ⟨_, _, _, _, rfl, (KQ.i rfl (KQ.tr (KQ.tr (KQ.a rfl (KQ.a rfl KQ.rf)) (KQ.wk K_s fSe_Hd pSe_Hd)) (KQ.wk K_u fLt_Hd pLt_Hd))), Or.inr ⟨hok1, hR4.k (show KQ (fun k j => decide (k = 0 ∧ j = 7)) p0 _ _ _ _ _ _ _ _ from KQ.i (k := 0) (j := 7) (v := 0) rfl KQ.rf) ⟨rfl, rfl⟩ (fun j _ _ => by simp) (p0_w 11), hL4, rfl⟩⟩
              · refine zw_aload_n 39 f17_38 rfl (zl1_ne rfl rfl rfl) ?_
                refine zw_getfield 42 f17_39 rfl g17_9_4 (hb_1 _ _ _ _) rfl ?_
                refine zw_iload_n 43 f17_42 rfl (zl1_ne rfl rfl rfl) ?_
                refine zw_iaload a.toNatClampNeg (P 53 a.toNatClampNeg) 44 f17_43 rfl (hb_2 _ _ _ _) rfl hc1 (zix (by decide) hc1 hc3) (congrFun ((hR.2.1 53 (by omega) (by omega))) a.toNatClampNeg) ?_
                refine zw_iconst 4 45 f17_44 rfl (by decide +kernel) ?_
                refine zw_ic_ne 48 52 f17_45 (by decide +kernel) rfl (fun hc10 => ?_) (fun hc10 => ?_)
                · refine zw_iconst 0 53 f17_52 rfl (by decide +kernel) ?_
                  refine zw_zreturn f17_53 r17 u17 (by decide +kernel) ⟨_, rfl, ?_⟩
                  refine zw_if_eq_t 95 f79_65 (by decide +kernel) (by decide +kernel) ?_
                  refine zw_aload_n 96 f79_95 rfl rfl ?_
                  refine zw_getfield 99 f79_96 rfl g79_10_11 (hb_0 _ _ _ _) rfl ?_
                  refine zw_getfield 102 f79_99 rfl g79_106_4 (hb_1 _ _ _ _) rfl ?_
                  refine zw_iload_n 103 f79_102 rfl rfl ?_
                  refine zw_iload_n 104 f79_103 rfl rfl ?_
                  refine zw_ast a.toNatClampNeg _ 105 f79_104 rfl (hb_4 _ _ _ _) rfl hc1 (zix (by decide) hc1 hc3) (ha_4 _ _ _ _ _) ?_
                  refine zw_aload_n 106 f79_105 rfl rfl ?_
                  refine zw_iconst 1 107 f79_106 rfl (by decide +kernel) ?_
                  refine zw_virtual_i 110 0 0 [.ref 0, .int 1] [(0, .ref 0), (1, .int 1)] f79_107 rfl n79_86 k79_86_11 rfl (hb_0 _ _ _ _) (by decide +kernel) (Nat.le_of_ble_eq_true rfl) rfl rfl (by decide +kernel) (by decide +kernel) rfl (Nat.le_of_ble_eq_true rfl) rfl ?_
                  refine zw_aload_n 1 f107_0 rfl rfl ?_
                  refine zw_getfield 4 f107_1 rfl g107_21_11 (hb_0 _ _ _ _) rfl ?_
                  refine zw_virtual_v 7 0 0 [.ref 11] [(0, .ref 11)] f107_4 rfl n107_318 k107_318_10 rfl (hb_11 _ _ _ _) (by decide +kernel) (Nat.le_of_ble_eq_true rfl) rfl rfl (by decide +kernel) (by decide +kernel) rfl (Nat.le_of_ble_eq_true rfl) rfl ?_
                  have hok1 : ok_marks nv np P a b c := ⟨(qV.ofc (by omega) hc1 hc2), ⟨kne hc4 (by decide), kne hc4 (by decide)⟩, ⟨hc5, hc6⟩, (Or.inl hc4)⟩
                  obtain ⟨hp2, hW2⟩ := hok hok1
                  have hR2 : cRS 11 nv np (updA (updA P 55 (upd (P 55) a.toNatClampNeg b)) 56 (upd ((updA P 55 (upd (P 55) a.toNatClampNeg b)) 56) a.toNatClampNeg (if P 53 a.toNatClampNeg = 1 then 0 else c))) W I G (updA A 4 (upd (A 4) a.toNatClampNeg b)) B := ⟨⟨hR.1.1, hR.1.2⟩, PE.of10 ((hR.2.1 53 (by omega) (by omega))) ((hR.2.1 54 (by omega) (by omega))) ((congrArg (fun z => upd z a.toNatClampNeg b) ((hR.2.1 55 (by omega) (by omega))))) ((by rw [show (if P 53 a.toNatClampNeg = 1 then (0 : Int32) else c) = 0 from if_pos hc4]; exact ((hR.2.1 56 (by omega) (by omega))).trans (upd_sm (hQ.2 _ ((qV.ofc (by omega) hc1 hc2)).1 hc4)))) ((hR.2.1 57 (by omega) (by omega))) ((hR.2.1 58 (by omega) (by omega))) ((hR.2.1 59 (by omega) (by omega))) ((hR.2.1 60 (by omega) (by omega))) ((hR.2.1 61 (by omega) (by omega))) ((hR.2.1 62 (by omega) (by omega))), ⟨hR.2.2.1.1, hR.2.2.1.2.1, hR.2.2.1.2.2.1, hR.2.2.1.2.2.2⟩, hR.2.2.2.1, hR.2.2.2.2.1, hR.2.2.2.2.2.1, hR.2.2.2.2.2.2⟩
                  have hL2 : cLg L I (updA A 4 (upd (A 4) a.toNatClampNeg b)) := hL
                  refine zWp.mono (cx_settle_11 ro nv np _ W 10000 (K + 1000) _ _ _ _ hR2 hp2 hW2.2.1 hW2.1 (by omega) (by omega)) ?_
                  rintro r h1 ⟨I_s, G_s, A_s, B_s, rfl, K_s, ⟨hR3, hH3⟩, rfl⟩
                  refine ⟨rfl, ?_⟩
                  have hL3 := hL2.k K_s rfl rfl rfl rfl rfl
                  refine zw_aload_n 8 f107_7 rfl rfl ?_
                  refine zw_getfield 11 f107_8 rfl g107_31_11 (hb_0 _ _ _ _) rfl ?_
                  refine zw_aload_n 12 f107_11 rfl rfl ?_
                  refine zw_getfield 15 f107_12 rfl g107_21_11 (hb_0 _ _ _ _) rfl ?_
                  refine zw_virtual_v 18 0 0 [.ref 33, .ref 11] [(0, .ref 33), (1, .ref 11)] f107_15 rfl n107_187 k107_187_3 rfl (hb_33 _ _ _ _) (by decide +kernel) (Nat.le_of_ble_eq_true rfl) rfl rfl (by decide +kernel) (by decide +kernel) rfl (Nat.le_of_ble_eq_true rfl) rfl ?_
                  have hq2 := mom_t hp2 hW2.2.1 hW2.1 (by omega) (by omega)
                  refine zWp.mono (cx_take ro _ _ _ _ _ _ W.2.1 W.1 so L (wEv nv _ W) hR3.2.2.1.2.1 hR3.2.2.1.1 hq2.1 hq2.2.1 hH3 hq2.2.2 hL3 (by omega)) ?_
                  rintro r h1 ⟨I_u, G_u, A_u, B_u, rfl, K_u, hL4, rfl⟩
                  refine ⟨rfl, ?_⟩
                  have hR4 := hR3.k K_u ⟨rfl, rfl⟩ fLt_w pLt_w
                  refine zw_aload_n 19 f107_18 rfl rfl ?_
                  refine zw_iload_n 20 f107_19 rfl rfl ?_
                  refine zw_virtual_i 23 0 0 [.ref 0, .int 1] [(0, .ref 0), (1, .int 1)] f107_20 rfl n107_181 k107_181_11 rfl (hb_0 _ _ _ _) (by decide +kernel) (Nat.le_of_ble_eq_true rfl) rfl rfl (by decide +kernel) (by decide +kernel) rfl (Nat.le_of_ble_eq_true rfl) rfl ?_
                  refine zw_aload_n 1 f106_0 rfl rfl ?_
                  refine zw_iconst 0 2 f106_1 rfl (by decide +kernel) ?_
                  refine zw_put _ 5 f106_2 rfl g106_70_11 (hb_0 _ _ _ _) rfl (Nat.le_of_ble_eq_true rfl) (by decide +kernel) (hi_0_7 _ _ _ _ _) ?_
                  refine zw_iload_n 6 f106_5 rfl rfl ?_
                  refine zw_ireturn f106_6 r106 u106 ⟨_, rfl, ?_⟩
                  refine zw_ireturn f107_23 r107 u107 ⟨_, rfl, ?_⟩
                  refine zw_ireturn f79_110 r79 u79 ?_
                  exact ⟨_, _, _, _, rfl, (KQ.i rfl (KQ.tr (KQ.tr (KQ.a rfl KQ.rf) (KQ.wk K_s fSe_Hd pSe_Hd)) (KQ.wk K_u fLt_Hd pLt_Hd))), Or.inr ⟨hok1, hR4.k (show KQ (fun k j => decide (k = 0 ∧ j = 7)) p0 _ _ _ _ _ _ _ _ from KQ.i (k := 0) (j := 7) (v := 0) rfl KQ.rf) ⟨rfl, rfl⟩ (fun j _ _ => by simp) (p0_w 11), hL4, rfl⟩⟩
                · refine zw_iconst 1 49 f17_48 rfl (by decide +kernel) ?_
                  refine zw_goto 53 f17_49 (by decide +kernel) ?_
                  refine zw_zreturn f17_53 r17 u17 (by decide +kernel) ⟨_, rfl, ?_⟩
                  refine zw_if_eq_f 68 95 f79_65 (by decide +kernel) rfl (by decide +kernel) ?_
                  refine zw_iload_n 69 f79_68 rfl rfl ?_
                  refine zw_iconst 0 70 f79_69 rfl (by decide +kernel) ?_
                  refine zw_iload_n 71 f79_70 rfl rfl ?_
                  refine zw_iconst 1 72 f79_71 rfl (by decide +kernel) ?_
                  refine zw_isub (b - 1) 73 f79_72 rfl rfl ?_
                  refine zw_static_i 76 0 0 [.int c, .int 0, .int (b - 1)] [] [(0, .int c), (1, .int 0), (2, .int (b - 1))] f79_73 rfl k79_74_99 rfl (by decide +kernel) (Nat.le_of_ble_eq_true rfl) (Nat.le_of_ble_eq_true rfl) rfl rfl (by decide +kernel) (by decide +kernel) rfl (Nat.le_of_ble_eq_true rfl) rfl ?_
                  refine zw_iload_n 1 f112_0 rfl rfl ?_
                  refine zw_iload_n 2 f112_1 rfl rfl ?_
                  refine zw_ic_lt 5 14 f112_2 (by decide +kernel) rfl (fun hc11 => ?_) (fun hc11 => ?_)
                  · refine zw_iconst 0 15 f112_14 rfl (by decide +kernel) ?_
                    refine zw_zreturn f112_15 r112 u112 (by decide +kernel) ⟨_, rfl, ?_⟩
                    refine zw_if_ne_f 79 85 f79_76 (by decide +kernel) rfl (by decide +kernel) ?_
                    refine zw_aload_n 80 f79_79 rfl rfl ?_
                    refine zw_iconst 1 81 f79_80 rfl (by decide +kernel) ?_
                    refine zw_virtual_i 84 0 0 [.ref 0, .int 1] [(0, .ref 0), (1, .int 1)] f79_81 rfl n79_78 k79_78_11 rfl (hb_0 _ _ _ _) (by decide +kernel) (Nat.le_of_ble_eq_true rfl) rfl rfl (by decide +kernel) (by decide +kernel) rfl (Nat.le_of_ble_eq_true rfl) rfl ?_
                    refine zw_aload_n 1 f105_0 rfl rfl ?_
                    refine zw_iload_n 2 f105_1 rfl rfl ?_
                    refine zw_put _ 5 f105_2 rfl g105_70_11 (hb_0 _ _ _ _) rfl (Nat.le_of_ble_eq_true rfl) (by decide +kernel) (hi_0_7 _ _ _ _ _) ?_
                    refine zw_iconst (-1) 6 f105_5 rfl (by decide +kernel) ?_
                    refine zw_ireturn f105_6 r105 u105 ⟨_, rfl, ?_⟩
                    refine zw_ireturn f79_84 r79 u79 ?_
                    exact ⟨_, _, _, _, rfl, (KQ.i rfl KQ.rf), Or.inl ⟨(fun q => (fun q => q.elim (kne (Decidable.of_not_not hc10) (by decide)) (fun q => q.1 hc11)) q.2.2.2), hR.k (show KQ (fun k j => decide (k = 0 ∧ j = 7)) p0 _ _ _ _ _ _ _ _ from KQ.i (k := 0) (j := 7) (v := 1) rfl KQ.rf) ⟨rfl, rfl⟩ (fun j _ _ => by simp) (p0_w 11), hL, rfl⟩⟩
                  · refine zw_iload_n 6 f112_5 rfl rfl ?_
                    refine zw_iload_n 7 f112_6 rfl rfl ?_
                    refine zw_ic_gt 10 14 f112_7 (by decide +kernel) rfl (fun hc12 => ?_) (fun hc12 => ?_)
                    · refine zw_iconst 0 15 f112_14 rfl (by decide +kernel) ?_
                      refine zw_zreturn f112_15 r112 u112 (by decide +kernel) ⟨_, rfl, ?_⟩
                      refine zw_if_ne_f 79 85 f79_76 (by decide +kernel) rfl (by decide +kernel) ?_
                      refine zw_aload_n 80 f79_79 rfl rfl ?_
                      refine zw_iconst 1 81 f79_80 rfl (by decide +kernel) ?_
                      refine zw_virtual_i 84 0 0 [.ref 0, .int 1] [(0, .ref 0), (1, .int 1)] f79_81 rfl n79_78 k79_78_11 rfl (hb_0 _ _ _ _) (by decide +kernel) (Nat.le_of_ble_eq_true rfl) rfl rfl (by decide +kernel) (by decide +kernel) rfl (Nat.le_of_ble_eq_true rfl) rfl ?_
                      refine zw_aload_n 1 f105_0 rfl rfl ?_
                      refine zw_iload_n 2 f105_1 rfl rfl ?_
                      refine zw_put _ 5 f105_2 rfl g105_70_11 (hb_0 _ _ _ _) rfl (Nat.le_of_ble_eq_true rfl) (by decide +kernel) (hi_0_7 _ _ _ _ _) ?_
                      refine zw_iconst (-1) 6 f105_5 rfl (by decide +kernel) ?_
                      refine zw_ireturn f105_6 r105 u105 ⟨_, rfl, ?_⟩
                      refine zw_ireturn f79_84 r79 u79 ?_
                      exact ⟨_, _, _, _, rfl, (KQ.i rfl KQ.rf), Or.inl ⟨(fun q => (fun q => q.elim (kne (Decidable.of_not_not hc10) (by decide)) (fun q => q.2 hc12)) q.2.2.2), hR.k (show KQ (fun k j => decide (k = 0 ∧ j = 7)) p0 _ _ _ _ _ _ _ _ from KQ.i (k := 0) (j := 7) (v := 1) rfl KQ.rf) ⟨rfl, rfl⟩ (fun j _ _ => by simp) (p0_w 11), hL, rfl⟩⟩
                    · refine zw_iconst 1 11 f112_10 rfl (by decide +kernel) ?_
                      refine zw_goto 15 f112_11 (by decide +kernel) ?_
                      refine zw_zreturn f112_15 r112 u112 (by decide +kernel) ⟨_, rfl, ?_⟩
                      refine zw_if_ne_t 85 f79_76 (by decide +kernel) (by decide +kernel) ?_
                      refine zw_aload_n 86 f79_85 rfl rfl ?_
                      refine zw_getfield 89 f79_86 rfl g79_10_11 (hb_0 _ _ _ _) rfl ?_
                      refine zw_getfield 92 f79_89 rfl g79_103_4 (hb_1 _ _ _ _) rfl ?_
                      refine zw_iload_n 93 f79_92 rfl rfl ?_
                      refine zw_iload_n 94 f79_93 rfl rfl ?_
                      refine zw_ast a.toNatClampNeg _ 95 f79_94 rfl (hb_5 _ _ _ _) rfl hc1 (zix (by decide) hc1 hc3) (ha_5 _ _ _ _ _) ?_
                      refine zw_aload_n 96 f79_95 rfl rfl ?_
                      refine zw_getfield 99 f79_96 rfl g79_10_11 (hb_0 _ _ _ _) rfl ?_
                      refine zw_getfield 102 f79_99 rfl g79_106_4 (hb_1 _ _ _ _) rfl ?_
                      refine zw_iload_n 103 f79_102 rfl rfl ?_
                      refine zw_iload_n 104 f79_103 rfl rfl ?_
                      refine zw_ast a.toNatClampNeg _ 105 f79_104 rfl (hb_4 _ _ _ _) rfl hc1 (zix (by decide) hc1 hc3) (ha_4 _ _ _ _ _) ?_
                      refine zw_aload_n 106 f79_105 rfl rfl ?_
                      refine zw_iconst 1 107 f79_106 rfl (by decide +kernel) ?_
                      refine zw_virtual_i 110 0 0 [.ref 0, .int 1] [(0, .ref 0), (1, .int 1)] f79_107 rfl n79_86 k79_86_11 rfl (hb_0 _ _ _ _) (by decide +kernel) (Nat.le_of_ble_eq_true rfl) rfl rfl (by decide +kernel) (by decide +kernel) rfl (Nat.le_of_ble_eq_true rfl) rfl ?_
                      refine zw_aload_n 1 f107_0 rfl rfl ?_
                      refine zw_getfield 4 f107_1 rfl g107_21_11 (hb_0 _ _ _ _) rfl ?_
                      refine zw_virtual_v 7 0 0 [.ref 11] [(0, .ref 11)] f107_4 rfl n107_318 k107_318_10 rfl (hb_11 _ _ _ _) (by decide +kernel) (Nat.le_of_ble_eq_true rfl) rfl rfl (by decide +kernel) (by decide +kernel) rfl (Nat.le_of_ble_eq_true rfl) rfl ?_
                      have hok1 : ok_marks nv np P a b c := ⟨(qV.ofc (by omega) hc1 hc2), ⟨kne hc4 (by decide), kne hc4 (by decide)⟩, ⟨hc5, hc6⟩, (Or.inl hc4)⟩
                      obtain ⟨hp2, hW2⟩ := hok hok1
                      have hR2 : cRS 11 nv np (updA (updA P 55 (upd (P 55) a.toNatClampNeg b)) 56 (upd ((updA P 55 (upd (P 55) a.toNatClampNeg b)) 56) a.toNatClampNeg (if P 53 a.toNatClampNeg = 1 then 0 else c))) W I G (updA (updA A 5 (upd (A 5) a.toNatClampNeg c)) 4 (upd ((updA A 5 (upd (A 5) a.toNatClampNeg c)) 4) a.toNatClampNeg b)) B := ⟨⟨hR.1.1, hR.1.2⟩, PE.of10 ((hR.2.1 53 (by omega) (by omega))) ((hR.2.1 54 (by omega) (by omega))) ((congrArg (fun z => upd z a.toNatClampNeg b) ((hR.2.1 55 (by omega) (by omega))))) ((absurd (Decidable.of_not_not hc10) (kne hc4 (by decide)))) ((hR.2.1 57 (by omega) (by omega))) ((hR.2.1 58 (by omega) (by omega))) ((hR.2.1 59 (by omega) (by omega))) ((hR.2.1 60 (by omega) (by omega))) ((hR.2.1 61 (by omega) (by omega))) ((hR.2.1 62 (by omega) (by omega))), ⟨hR.2.2.1.1, hR.2.2.1.2.1, hR.2.2.1.2.2.1, hR.2.2.1.2.2.2⟩, hR.2.2.2.1, hR.2.2.2.2.1, hR.2.2.2.2.2.1, hR.2.2.2.2.2.2⟩
                      have hL2 : cLg L I (updA (updA A 5 (upd (A 5) a.toNatClampNeg c)) 4 (upd ((updA A 5 (upd (A 5) a.toNatClampNeg c)) 4) a.toNatClampNeg b)) := hL
                      refine zWp.mono (cx_settle_11 ro nv np _ W 10000 (K + 1000) _ _ _ _ hR2 hp2 hW2.2.1 hW2.1 (by omega) (by omega)) ?_
                      rintro r h1 ⟨I_s, G_s, A_s, B_s, rfl, K_s, ⟨hR3, hH3⟩, rfl⟩
                      refine ⟨rfl, ?_⟩
                      have hL3 := hL2.k K_s rfl rfl rfl rfl rfl
                      refine zw_aload_n 8 f107_7 rfl rfl ?_
                      refine zw_getfield 11 f107_8 rfl g107_31_11 (hb_0 _ _ _ _) rfl ?_
                      refine zw_aload_n 12 f107_11 rfl rfl ?_
                      refine zw_getfield 15 f107_12 rfl g107_21_11 (hb_0 _ _ _ _) rfl ?_
                      refine zw_virtual_v 18 0 0 [.ref 33, .ref 11] [(0, .ref 33), (1, .ref 11)] f107_15 rfl n107_187 k107_187_3 rfl (hb_33 _ _ _ _) (by decide +kernel) (Nat.le_of_ble_eq_true rfl) rfl rfl (by decide +kernel) (by decide +kernel) rfl (Nat.le_of_ble_eq_true rfl) rfl ?_
                      have hq2 := mom_t hp2 hW2.2.1 hW2.1 (by omega) (by omega)
                      refine zWp.mono (cx_take ro _ _ _ _ _ _ W.2.1 W.1 so L (wEv nv _ W) hR3.2.2.1.2.1 hR3.2.2.1.1 hq2.1 hq2.2.1 hH3 hq2.2.2 hL3 (by omega)) ?_
                      rintro r h1 ⟨I_u, G_u, A_u, B_u, rfl, K_u, hL4, rfl⟩
                      refine ⟨rfl, ?_⟩
                      have hR4 := hR3.k K_u ⟨rfl, rfl⟩ fLt_w pLt_w
                      refine zw_aload_n 19 f107_18 rfl rfl ?_
                      refine zw_iload_n 20 f107_19 rfl rfl ?_
                      refine zw_virtual_i 23 0 0 [.ref 0, .int 1] [(0, .ref 0), (1, .int 1)] f107_20 rfl n107_181 k107_181_11 rfl (hb_0 _ _ _ _) (by decide +kernel) (Nat.le_of_ble_eq_true rfl) rfl rfl (by decide +kernel) (by decide +kernel) rfl (Nat.le_of_ble_eq_true rfl) rfl ?_
                      refine zw_aload_n 1 f106_0 rfl rfl ?_
                      refine zw_iconst 0 2 f106_1 rfl (by decide +kernel) ?_
                      refine zw_put _ 5 f106_2 rfl g106_70_11 (hb_0 _ _ _ _) rfl (Nat.le_of_ble_eq_true rfl) (by decide +kernel) (hi_0_7 _ _ _ _ _) ?_
                      refine zw_iload_n 6 f106_5 rfl rfl ?_
                      refine zw_ireturn f106_6 r106 u106 ⟨_, rfl, ?_⟩
                      refine zw_ireturn f107_23 r107 u107 ⟨_, rfl, ?_⟩
                      refine zw_ireturn f79_110 r79 u79 ?_
                      exact ⟨_, _, _, _, rfl, (KQ.i rfl (KQ.tr (KQ.tr (KQ.a rfl (KQ.a rfl KQ.rf)) (KQ.wk K_s fSe_Hd pSe_Hd)) (KQ.wk K_u fLt_Hd pLt_Hd))), Or.inr ⟨hok1, hR4.k (show KQ (fun k j => decide (k = 0 ∧ j = 7)) p0 _ _ _ _ _ _ _ _ from KQ.i (k := 0) (j := 7) (v := 0) rfl KQ.rf) ⟨rfl, rfl⟩ (fun j _ _ => by simp) (p0_w 11), hL4, rfl⟩⟩
        · refine zw_aload_n 10 f18_9 rfl rfl ?_
          refine zw_iload_n 11 f18_10 rfl rfl ?_
          refine zw_virtual_i 14 0 0 [.ref 1, .int a] [(0, .ref 1), (1, .int a)] f18_11 rfl n18_54 k18_54_4 rfl (hb_1 _ _ _ _) (by decide +kernel) (Nat.le_of_ble_eq_true rfl) rfl rfl (by decide +kernel) (by decide +kernel) rfl (Nat.le_of_ble_eq_true rfl) rfl ?_
          refine zw_iload_n 1 f17_0 rfl rfl ?_
          refine zw_if_lt_f 4 22 f17_1 (by decide +kernel) rfl hc1 ?_
          refine zw_iload_n 5 f17_4 rfl rfl ?_
          refine zw_aload_n 6 f17_5 rfl rfl ?_
          refine zw_getI (nI nv) 9 f17_6 rfl g17_39_4 (hb_1 _ _ _ _) rfl hR.1.1 ?_
          refine zw_ic_ge_f 12 22 f17_9 (by decide +kernel) rfl hc2 ?_
          refine zw_iload_n 13 f17_12 rfl rfl ?_
          refine zw_bipush 8 15 f17_13 rfl (by decide +kernel) ?_
          refine zw_ic_ge_f 18 22 f17_15 (by decide +kernel) rfl hc3 ?_
          refine zw_iconst 1 19 f17_18 rfl (by decide +kernel) ?_
          refine zw_goto 23 f17_19 (by decide +kernel) ?_
          refine zw_istore_n _ 24 f17_23 rfl (by decide +kernel) rfl ?_
          refine zw_iload_n 25 f17_24 rfl zl1_eq ?_
          refine zw_if_eq_f 28 52 f17_25 (by decide +kernel) rfl (by decide +kernel) ?_
          refine zw_aload_n 29 f17_28 rfl (zl1_ne rfl rfl rfl) ?_
          refine zw_getfield 32 f17_29 rfl g17_9_4 (hb_1 _ _ _ _) rfl ?_
          refine zw_iload_n 33 f17_32 rfl (zl1_ne rfl rfl rfl) ?_
          refine zw_iaload a.toNatClampNeg (P 53 a.toNatClampNeg) 34 f17_33 rfl (hb_2 _ _ _ _) rfl hc1 (zix (by decide) hc1 hc3) (congrFun ((hR.2.1 53 (by omega) (by omega))) a.toNatClampNeg) ?_
          refine zw_iconst 3 35 f17_34 rfl (by decide +kernel) ?_
          refine zw_ic_eq 38 48 f17_35 (by decide +kernel) rfl (fun hc13 => ?_) (fun hc13 => ?_)
          · refine zw_iconst 1 49 f17_48 rfl (by decide +kernel) ?_
            refine zw_goto 53 f17_49 (by decide +kernel) ?_
            refine zw_zreturn f17_53 r17 u17 (by decide +kernel) ⟨_, rfl, ?_⟩
            refine zw_if_eq_f 17 21 f18_14 (by decide +kernel) rfl (by decide +kernel) ?_
            refine zw_iconst 1 18 f18_17 rfl (by decide +kernel) ?_
            refine zw_goto 22 f18_18 (by decide +kernel) ?_
            refine zw_zreturn f18_22 r18 u18 (by decide +kernel) ⟨_, rfl, ?_⟩
            refine zw_if_ne_t 34 f79_25 (by decide +kernel) (by decide +kernel) ?_
            refine zw_iload_n 35 f79_34 rfl rfl ?_
            refine zw_iconst 1 36 f79_35 rfl (by decide +kernel) ?_
            refine zw_aload_n 37 f79_36 rfl rfl ?_
            refine zw_getfield 40 f79_37 rfl g79_10_11 (hb_0 _ _ _ _) rfl ?_
            refine zw_getfield 43 f79_40 rfl g79_96_4 (hb_1 _ _ _ _) rfl ?_
            refine zw_iload_n 44 f79_43 rfl rfl ?_
            refine zw_iaload a.toNatClampNeg (P 54 a.toNatClampNeg) 45 f79_44 rfl (hb_3 _ _ _ _) rfl hc1 (zix (by decide) hc1 hc3) (congrFun ((hR.2.1 54 (by omega) (by omega))) a.toNatClampNeg) ?_
            refine zw_static_i 48 0 0 [.int b, .int 1, .int (P 54 a.toNatClampNeg)] [] [(0, .int b), (1, .int 1), (2, .int (P 54 a.toNatClampNeg))] f79_45 rfl k79_74_99 rfl (by decide +kernel) (Nat.le_of_ble_eq_true rfl) (Nat.le_of_ble_eq_true rfl) rfl rfl (by decide +kernel) (by decide +kernel) rfl (Nat.le_of_ble_eq_true rfl) rfl ?_
            refine zw_iload_n 1 f112_0 rfl rfl ?_
            refine zw_iload_n 2 f112_1 rfl rfl ?_
            refine zw_ic_lt 5 14 f112_2 (by decide +kernel) rfl (fun hc14 => ?_) (fun hc14 => ?_)
            · refine zw_iconst 0 15 f112_14 rfl (by decide +kernel) ?_
              refine zw_zreturn f112_15 r112 u112 (by decide +kernel) ⟨_, rfl, ?_⟩
              refine zw_if_ne_f 51 57 f79_48 (by decide +kernel) rfl (by decide +kernel) ?_
              refine zw_aload_n 52 f79_51 rfl rfl ?_
              refine zw_iconst 1 53 f79_52 rfl (by decide +kernel) ?_
              refine zw_virtual_i 56 0 0 [.ref 0, .int 1] [(0, .ref 0), (1, .int 1)] f79_53 rfl n79_78 k79_78_11 rfl (hb_0 _ _ _ _) (by decide +kernel) (Nat.le_of_ble_eq_true rfl) rfl rfl (by decide +kernel) (by decide +kernel) rfl (Nat.le_of_ble_eq_true rfl) rfl ?_
              refine zw_aload_n 1 f105_0 rfl rfl ?_
              refine zw_iload_n 2 f105_1 rfl rfl ?_
              refine zw_put _ 5 f105_2 rfl g105_70_11 (hb_0 _ _ _ _) rfl (Nat.le_of_ble_eq_true rfl) (by decide +kernel) (hi_0_7 _ _ _ _ _) ?_
              refine zw_iconst (-1) 6 f105_5 rfl (by decide +kernel) ?_
              refine zw_ireturn f105_6 r105 u105 ⟨_, rfl, ?_⟩
              refine zw_ireturn f79_56 r79 u79 ?_
              exact ⟨_, _, _, _, rfl, (KQ.i rfl KQ.rf), Or.inl ⟨(fun q => (fun q => q.1 hc14) q.2.2.1), hR.k (show KQ (fun k j => decide (k = 0 ∧ j = 7)) p0 _ _ _ _ _ _ _ _ from KQ.i (k := 0) (j := 7) (v := 1) rfl KQ.rf) ⟨rfl, rfl⟩ (fun j _ _ => by simp) (p0_w 11), hL, rfl⟩⟩
            · refine zw_iload_n 6 f112_5 rfl rfl ?_
              refine zw_iload_n 7 f112_6 rfl rfl ?_
              refine zw_ic_gt 10 14 f112_7 (by decide +kernel) rfl (fun hc15 => ?_) (fun hc15 => ?_)
              · refine zw_iconst 0 15 f112_14 rfl (by decide +kernel) ?_
                refine zw_zreturn f112_15 r112 u112 (by decide +kernel) ⟨_, rfl, ?_⟩
                refine zw_if_ne_f 51 57 f79_48 (by decide +kernel) rfl (by decide +kernel) ?_
                refine zw_aload_n 52 f79_51 rfl rfl ?_
                refine zw_iconst 1 53 f79_52 rfl (by decide +kernel) ?_
                refine zw_virtual_i 56 0 0 [.ref 0, .int 1] [(0, .ref 0), (1, .int 1)] f79_53 rfl n79_78 k79_78_11 rfl (hb_0 _ _ _ _) (by decide +kernel) (Nat.le_of_ble_eq_true rfl) rfl rfl (by decide +kernel) (by decide +kernel) rfl (Nat.le_of_ble_eq_true rfl) rfl ?_
                refine zw_aload_n 1 f105_0 rfl rfl ?_
                refine zw_iload_n 2 f105_1 rfl rfl ?_
                refine zw_put _ 5 f105_2 rfl g105_70_11 (hb_0 _ _ _ _) rfl (Nat.le_of_ble_eq_true rfl) (by decide +kernel) (hi_0_7 _ _ _ _ _) ?_
                refine zw_iconst (-1) 6 f105_5 rfl (by decide +kernel) ?_
                refine zw_ireturn f105_6 r105 u105 ⟨_, rfl, ?_⟩
                refine zw_ireturn f79_56 r79 u79 ?_
                exact ⟨_, _, _, _, rfl, (KQ.i rfl KQ.rf), Or.inl ⟨(fun q => (fun q => q.2 hc15) q.2.2.1), hR.k (show KQ (fun k j => decide (k = 0 ∧ j = 7)) p0 _ _ _ _ _ _ _ _ from KQ.i (k := 0) (j := 7) (v := 1) rfl KQ.rf) ⟨rfl, rfl⟩ (fun j _ _ => by simp) (p0_w 11), hL, rfl⟩⟩
              · refine zw_iconst 1 11 f112_10 rfl (by decide +kernel) ?_
                refine zw_goto 15 f112_11 (by decide +kernel) ?_
                refine zw_zreturn f112_15 r112 u112 (by decide +kernel) ⟨_, rfl, ?_⟩
                refine zw_if_ne_t 57 f79_48 (by decide +kernel) (by decide +kernel) ?_
                refine zw_aload_n 58 f79_57 rfl rfl ?_
                refine zw_getfield 61 f79_58 rfl g79_10_11 (hb_0 _ _ _ _) rfl ?_
                refine zw_iload_n 62 f79_61 rfl rfl ?_
                refine zw_virtual_i 65 0 0 [.ref 1, .int a] [(0, .ref 1), (1, .int a)] f79_62 rfl n79_100 k79_100_4 rfl (hb_1 _ _ _ _) (by decide +kernel) (Nat.le_of_ble_eq_true rfl) rfl rfl (by decide +kernel) (by decide +kernel) rfl (Nat.le_of_ble_eq_true rfl) rfl ?_
                refine zw_iload_n 1 f17_0 rfl rfl ?_
                refine zw_if_lt_f 4 22 f17_1 (by decide +kernel) rfl hc1 ?_
                refine zw_iload_n 5 f17_4 rfl rfl ?_
                refine zw_aload_n 6 f17_5 rfl rfl ?_
                refine zw_getI (nI nv) 9 f17_6 rfl g17_39_4 (hb_1 _ _ _ _) rfl hR.1.1 ?_
                refine zw_ic_ge_f 12 22 f17_9 (by decide +kernel) rfl hc2 ?_
                refine zw_iload_n 13 f17_12 rfl rfl ?_
                refine zw_bipush 8 15 f17_13 rfl (by decide +kernel) ?_
                refine zw_ic_ge_f 18 22 f17_15 (by decide +kernel) rfl hc3 ?_
                refine zw_iconst 1 19 f17_18 rfl (by decide +kernel) ?_
                refine zw_goto 23 f17_19 (by decide +kernel) ?_
                refine zw_istore_n _ 24 f17_23 rfl (by decide +kernel) rfl ?_
                refine zw_iload_n 25 f17_24 rfl zl1_eq ?_
                refine zw_if_eq_f 28 52 f17_25 (by decide +kernel) rfl (by decide +kernel) ?_
                refine zw_aload_n 29 f17_28 rfl (zl1_ne rfl rfl rfl) ?_
                refine zw_getfield 32 f17_29 rfl g17_9_4 (hb_1 _ _ _ _) rfl ?_
                refine zw_iload_n 33 f17_32 rfl (zl1_ne rfl rfl rfl) ?_
                refine zw_iaload a.toNatClampNeg (P 53 a.toNatClampNeg) 34 f17_33 rfl (hb_2 _ _ _ _) rfl hc1 (zix (by decide) hc1 hc3) (congrFun ((hR.2.1 53 (by omega) (by omega))) a.toNatClampNeg) ?_
                refine zw_iconst 3 35 f17_34 rfl (by decide +kernel) ?_
                refine zw_ic_eq_t 48 f17_35 (by decide +kernel) hc13 ?_
                refine zw_iconst 1 49 f17_48 rfl (by decide +kernel) ?_
                refine zw_goto 53 f17_49 (by decide +kernel) ?_
                refine zw_zreturn f17_53 r17 u17 (by decide +kernel) ⟨_, rfl, ?_⟩
                refine zw_if_eq_f 68 95 f79_65 (by decide +kernel) rfl (by decide +kernel) ?_
                refine zw_iload_n 69 f79_68 rfl rfl ?_
                refine zw_iconst 0 70 f79_69 rfl (by decide +kernel) ?_
                refine zw_iload_n 71 f79_70 rfl rfl ?_
                refine zw_iconst 1 72 f79_71 rfl (by decide +kernel) ?_
                refine zw_isub (b - 1) 73 f79_72 rfl rfl ?_
                refine zw_static_i 76 0 0 [.int c, .int 0, .int (b - 1)] [] [(0, .int c), (1, .int 0), (2, .int (b - 1))] f79_73 rfl k79_74_99 rfl (by decide +kernel) (Nat.le_of_ble_eq_true rfl) (Nat.le_of_ble_eq_true rfl) rfl rfl (by decide +kernel) (by decide +kernel) rfl (Nat.le_of_ble_eq_true rfl) rfl ?_
                refine zw_iload_n 1 f112_0 rfl rfl ?_
                refine zw_iload_n 2 f112_1 rfl rfl ?_
                refine zw_ic_lt 5 14 f112_2 (by decide +kernel) rfl (fun hc16 => ?_) (fun hc16 => ?_)
                · refine zw_iconst 0 15 f112_14 rfl (by decide +kernel) ?_
                  refine zw_zreturn f112_15 r112 u112 (by decide +kernel) ⟨_, rfl, ?_⟩
                  refine zw_if_ne_f 79 85 f79_76 (by decide +kernel) rfl (by decide +kernel) ?_
                  refine zw_aload_n 80 f79_79 rfl rfl ?_
                  refine zw_iconst 1 81 f79_80 rfl (by decide +kernel) ?_
                  refine zw_virtual_i 84 0 0 [.ref 0, .int 1] [(0, .ref 0), (1, .int 1)] f79_81 rfl n79_78 k79_78_11 rfl (hb_0 _ _ _ _) (by decide +kernel) (Nat.le_of_ble_eq_true rfl) rfl rfl (by decide +kernel) (by decide +kernel) rfl (Nat.le_of_ble_eq_true rfl) rfl ?_
                  refine zw_aload_n 1 f105_0 rfl rfl ?_
                  refine zw_iload_n 2 f105_1 rfl rfl ?_
                  refine zw_put _ 5 f105_2 rfl g105_70_11 (hb_0 _ _ _ _) rfl (Nat.le_of_ble_eq_true rfl) (by decide +kernel) (hi_0_7 _ _ _ _ _) ?_
                  refine zw_iconst (-1) 6 f105_5 rfl (by decide +kernel) ?_
                  refine zw_ireturn f105_6 r105 u105 ⟨_, rfl, ?_⟩
                  refine zw_ireturn f79_84 r79 u79 ?_
                  exact ⟨_, _, _, _, rfl, (KQ.i rfl KQ.rf), Or.inl ⟨(fun q => (fun q => q.elim (kne hc13 (by decide)) (fun q => q.1 hc16)) q.2.2.2), hR.k (show KQ (fun k j => decide (k = 0 ∧ j = 7)) p0 _ _ _ _ _ _ _ _ from KQ.i (k := 0) (j := 7) (v := 1) rfl KQ.rf) ⟨rfl, rfl⟩ (fun j _ _ => by simp) (p0_w 11), hL, rfl⟩⟩
                · refine zw_iload_n 6 f112_5 rfl rfl ?_
                  refine zw_iload_n 7 f112_6 rfl rfl ?_
                  refine zw_ic_gt 10 14 f112_7 (by decide +kernel) rfl (fun hc17 => ?_) (fun hc17 => ?_)
                  · refine zw_iconst 0 15 f112_14 rfl (by decide +kernel) ?_
                    refine zw_zreturn f112_15 r112 u112 (by decide +kernel) ⟨_, rfl, ?_⟩
                    refine zw_if_ne_f 79 85 f79_76 (by decide +kernel) rfl (by decide +kernel) ?_
                    refine zw_aload_n 80 f79_79 rfl rfl ?_
                    refine zw_iconst 1 81 f79_80 rfl (by decide +kernel) ?_
                    refine zw_virtual_i 84 0 0 [.ref 0, .int 1] [(0, .ref 0), (1, .int 1)] f79_81 rfl n79_78 k79_78_11 rfl (hb_0 _ _ _ _) (by decide +kernel) (Nat.le_of_ble_eq_true rfl) rfl rfl (by decide +kernel) (by decide +kernel) rfl (Nat.le_of_ble_eq_true rfl) rfl ?_
                    refine zw_aload_n 1 f105_0 rfl rfl ?_
                    refine zw_iload_n 2 f105_1 rfl rfl ?_
                    refine zw_put _ 5 f105_2 rfl g105_70_11 (hb_0 _ _ _ _) rfl (Nat.le_of_ble_eq_true rfl) (by decide +kernel) (hi_0_7 _ _ _ _ _) ?_
                    refine zw_iconst (-1) 6 f105_5 rfl (by decide +kernel) ?_
                    refine zw_ireturn f105_6 r105 u105 ⟨_, rfl, ?_⟩
                    refine zw_ireturn f79_84 r79 u79 ?_
                    exact ⟨_, _, _, _, rfl, (KQ.i rfl KQ.rf), Or.inl ⟨(fun q => (fun q => q.elim (kne hc13 (by decide)) (fun q => q.2 hc17)) q.2.2.2), hR.k (show KQ (fun k j => decide (k = 0 ∧ j = 7)) p0 _ _ _ _ _ _ _ _ from KQ.i (k := 0) (j := 7) (v := 1) rfl KQ.rf) ⟨rfl, rfl⟩ (fun j _ _ => by simp) (p0_w 11), hL, rfl⟩⟩
                  · refine zw_iconst 1 11 f112_10 rfl (by decide +kernel) ?_
                    refine zw_goto 15 f112_11 (by decide +kernel) ?_
                    refine zw_zreturn f112_15 r112 u112 (by decide +kernel) ⟨_, rfl, ?_⟩
                    refine zw_if_ne_t 85 f79_76 (by decide +kernel) (by decide +kernel) ?_
                    refine zw_aload_n 86 f79_85 rfl rfl ?_
                    refine zw_getfield 89 f79_86 rfl g79_10_11 (hb_0 _ _ _ _) rfl ?_
                    refine zw_getfield 92 f79_89 rfl g79_103_4 (hb_1 _ _ _ _) rfl ?_
                    refine zw_iload_n 93 f79_92 rfl rfl ?_
                    refine zw_iload_n 94 f79_93 rfl rfl ?_
                    refine zw_ast a.toNatClampNeg _ 95 f79_94 rfl (hb_5 _ _ _ _) rfl hc1 (zix (by decide) hc1 hc3) (ha_5 _ _ _ _ _) ?_
                    refine zw_aload_n 96 f79_95 rfl rfl ?_
                    refine zw_getfield 99 f79_96 rfl g79_10_11 (hb_0 _ _ _ _) rfl ?_
                    refine zw_getfield 102 f79_99 rfl g79_106_4 (hb_1 _ _ _ _) rfl ?_
                    refine zw_iload_n 103 f79_102 rfl rfl ?_
                    refine zw_iload_n 104 f79_103 rfl rfl ?_
                    refine zw_ast a.toNatClampNeg _ 105 f79_104 rfl (hb_4 _ _ _ _) rfl hc1 (zix (by decide) hc1 hc3) (ha_4 _ _ _ _ _) ?_
                    refine zw_aload_n 106 f79_105 rfl rfl ?_
                    refine zw_iconst 1 107 f79_106 rfl (by decide +kernel) ?_
                    refine zw_virtual_i 110 0 0 [.ref 0, .int 1] [(0, .ref 0), (1, .int 1)] f79_107 rfl n79_86 k79_86_11 rfl (hb_0 _ _ _ _) (by decide +kernel) (Nat.le_of_ble_eq_true rfl) rfl rfl (by decide +kernel) (by decide +kernel) rfl (Nat.le_of_ble_eq_true rfl) rfl ?_
                    refine zw_aload_n 1 f107_0 rfl rfl ?_
                    refine zw_getfield 4 f107_1 rfl g107_21_11 (hb_0 _ _ _ _) rfl ?_
                    refine zw_virtual_v 7 0 0 [.ref 11] [(0, .ref 11)] f107_4 rfl n107_318 k107_318_10 rfl (hb_11 _ _ _ _) (by decide +kernel) (Nat.le_of_ble_eq_true rfl) rfl rfl (by decide +kernel) (by decide +kernel) rfl (Nat.le_of_ble_eq_true rfl) rfl ?_
                    have hok1 : ok_marks nv np P a b c := ⟨(qV.ofc (by omega) hc1 hc2), ⟨kne hc13 (by decide), kne hc13 (by decide)⟩, ⟨hc14, hc15⟩, (Or.inr ⟨hc16, hc17⟩)⟩
                    obtain ⟨hp2, hW2⟩ := hok hok1
                    have hR2 : cRS 11 nv np (updA (updA P 55 (upd (P 55) a.toNatClampNeg b)) 56 (upd ((updA P 55 (upd (P 55) a.toNatClampNeg b)) 56) a.toNatClampNeg (if P 53 a.toNatClampNeg = 1 then 0 else c))) W I G (updA (updA A 5 (upd (A 5) a.toNatClampNeg c)) 4 (upd ((updA A 5 (upd (A 5) a.toNatClampNeg c)) 4) a.toNatClampNeg b)) B := ⟨⟨hR.1.1, hR.1.2⟩, PE.of10 ((hR.2.1 53 (by omega) (by omega))) ((hR.2.1 54 (by omega) (by omega))) ((congrArg (fun z => upd z a.toNatClampNeg b) ((hR.2.1 55 (by omega) (by omega))))) ((by rw [show (if P 53 a.toNatClampNeg = 1 then (0 : Int32) else c) = c from if_neg (kne hc13 (by decide))]; exact (congrArg (fun z => upd z a.toNatClampNeg c) ((hR.2.1 56 (by omega) (by omega)))))) ((hR.2.1 57 (by omega) (by omega))) ((hR.2.1 58 (by omega) (by omega))) ((hR.2.1 59 (by omega) (by omega))) ((hR.2.1 60 (by omega) (by omega))) ((hR.2.1 61 (by omega) (by omega))) ((hR.2.1 62 (by omega) (by omega))), ⟨hR.2.2.1.1, hR.2.2.1.2.1, hR.2.2.1.2.2.1, hR.2.2.1.2.2.2⟩, hR.2.2.2.1, hR.2.2.2.2.1, hR.2.2.2.2.2.1, hR.2.2.2.2.2.2⟩
                    have hL2 : cLg L I (updA (updA A 5 (upd (A 5) a.toNatClampNeg c)) 4 (upd ((updA A 5 (upd (A 5) a.toNatClampNeg c)) 4) a.toNatClampNeg b)) := hL
                    refine zWp.mono (cx_settle_11 ro nv np _ W 10000 (K + 1000) _ _ _ _ hR2 hp2 hW2.2.1 hW2.1 (by omega) (by omega)) ?_
                    rintro r h1 ⟨I_s, G_s, A_s, B_s, rfl, K_s, ⟨hR3, hH3⟩, rfl⟩
                    refine ⟨rfl, ?_⟩
                    have hL3 := hL2.k K_s rfl rfl rfl rfl rfl
                    refine zw_aload_n 8 f107_7 rfl rfl ?_
                    refine zw_getfield 11 f107_8 rfl g107_31_11 (hb_0 _ _ _ _) rfl ?_
                    refine zw_aload_n 12 f107_11 rfl rfl ?_
                    refine zw_getfield 15 f107_12 rfl g107_21_11 (hb_0 _ _ _ _) rfl ?_
                    refine zw_virtual_v 18 0 0 [.ref 33, .ref 11] [(0, .ref 33), (1, .ref 11)] f107_15 rfl n107_187 k107_187_3 rfl (hb_33 _ _ _ _) (by decide +kernel) (Nat.le_of_ble_eq_true rfl) rfl rfl (by decide +kernel) (by decide +kernel) rfl (Nat.le_of_ble_eq_true rfl) rfl ?_
                    have hq2 := mom_t hp2 hW2.2.1 hW2.1 (by omega) (by omega)
                    refine zWp.mono (cx_take ro _ _ _ _ _ _ W.2.1 W.1 so L (wEv nv _ W) hR3.2.2.1.2.1 hR3.2.2.1.1 hq2.1 hq2.2.1 hH3 hq2.2.2 hL3 (by omega)) ?_
                    rintro r h1 ⟨I_u, G_u, A_u, B_u, rfl, K_u, hL4, rfl⟩
                    refine ⟨rfl, ?_⟩
                    have hR4 := hR3.k K_u ⟨rfl, rfl⟩ fLt_w pLt_w
                    refine zw_aload_n 19 f107_18 rfl rfl ?_
                    refine zw_iload_n 20 f107_19 rfl rfl ?_
                    refine zw_virtual_i 23 0 0 [.ref 0, .int 1] [(0, .ref 0), (1, .int 1)] f107_20 rfl n107_181 k107_181_11 rfl (hb_0 _ _ _ _) (by decide +kernel) (Nat.le_of_ble_eq_true rfl) rfl rfl (by decide +kernel) (by decide +kernel) rfl (Nat.le_of_ble_eq_true rfl) rfl ?_
                    refine zw_aload_n 1 f106_0 rfl rfl ?_
                    refine zw_iconst 0 2 f106_1 rfl (by decide +kernel) ?_
                    refine zw_put _ 5 f106_2 rfl g106_70_11 (hb_0 _ _ _ _) rfl (Nat.le_of_ble_eq_true rfl) (by decide +kernel) (hi_0_7 _ _ _ _ _) ?_
                    refine zw_iload_n 6 f106_5 rfl rfl ?_
                    refine zw_ireturn f106_6 r106 u106 ⟨_, rfl, ?_⟩
                    refine zw_ireturn f107_23 r107 u107 ⟨_, rfl, ?_⟩
                    refine zw_ireturn f79_110 r79 u79 ?_
                    exact ⟨_, _, _, _, rfl, (KQ.i rfl (KQ.tr (KQ.tr (KQ.a rfl (KQ.a rfl KQ.rf)) (KQ.wk K_s fSe_Hd pSe_Hd)) (KQ.wk K_u fLt_Hd pLt_Hd))), Or.inr ⟨hok1, hR4.k (show KQ (fun k j => decide (k = 0 ∧ j = 7)) p0 _ _ _ _ _ _ _ _ from KQ.i (k := 0) (j := 7) (v := 0) rfl KQ.rf) ⟨rfl, rfl⟩ (fun j _ _ => by simp) (p0_w 11), hL4, rfl⟩⟩
          · refine zw_aload_n 39 f17_38 rfl (zl1_ne rfl rfl rfl) ?_
            refine zw_getfield 42 f17_39 rfl g17_9_4 (hb_1 _ _ _ _) rfl ?_
            refine zw_iload_n 43 f17_42 rfl (zl1_ne rfl rfl rfl) ?_
            refine zw_iaload a.toNatClampNeg (P 53 a.toNatClampNeg) 44 f17_43 rfl (hb_2 _ _ _ _) rfl hc1 (zix (by decide) hc1 hc3) (congrFun ((hR.2.1 53 (by omega) (by omega))) a.toNatClampNeg) ?_
            refine zw_iconst 4 45 f17_44 rfl (by decide +kernel) ?_
            refine zw_ic_ne 48 52 f17_45 (by decide +kernel) rfl (fun hc18 => ?_) (fun hc18 => ?_)
            · refine zw_iconst 0 53 f17_52 rfl (by decide +kernel) ?_
              refine zw_zreturn f17_53 r17 u17 (by decide +kernel) ⟨_, rfl, ?_⟩
              refine zw_if_eq_t 21 f18_14 (by decide +kernel) (by decide +kernel) ?_
              refine zw_iconst 0 22 f18_21 rfl (by decide +kernel) ?_
              refine zw_zreturn f18_22 r18 u18 (by decide +kernel) ⟨_, rfl, ?_⟩
              refine zw_if_ne_f 28 34 f79_25 (by decide +kernel) rfl (by decide +kernel) ?_
              refine zw_aload_n 29 f79_28 rfl rfl ?_
              refine zw_iconst 3 30 f79_29 rfl (by decide +kernel) ?_
              refine zw_virtual_i 33 0 0 [.ref 0, .int 3] [(0, .ref 0), (1, .int 3)] f79_30 rfl n79_78 k79_78_11 rfl (hb_0 _ _ _ _) (by decide +kernel) (Nat.le_of_ble_eq_true rfl) rfl rfl (by decide +kernel) (by decide +kernel) rfl (Nat.le_of_ble_eq_true rfl) rfl ?_
              refine zw_aload_n 1 f105_0 rfl rfl ?_
              refine zw_iload_n 2 f105_1 rfl rfl ?_
              refine zw_put _ 5 f105_2 rfl g105_70_11 (hb_0 _ _ _ _) rfl (Nat.le_of_ble_eq_true rfl) (by decide +kernel) (hi_0_7 _ _ _ _ _) ?_
              refine zw_iconst (-1) 6 f105_5 rfl (by decide +kernel) ?_
              refine zw_ireturn f105_6 r105 u105 ⟨_, rfl, ?_⟩
              refine zw_ireturn f79_33 r79 u79 ?_
              exact ⟨_, _, _, _, rfl, (KQ.i rfl KQ.rf), Or.inl ⟨(fun q => (fun q => k02 (hQ.1 a.toNatClampNeg ((qV.ofc (by omega) hc1 hc2)).1) hc4 hc13 hc18 q.1 q.2) q.2.1), hR.k (show KQ (fun k j => decide (k = 0 ∧ j = 7)) p0 _ _ _ _ _ _ _ _ from KQ.i (k := 0) (j := 7) (v := 3) rfl KQ.rf) ⟨rfl, rfl⟩ (fun j _ _ => by simp) (p0_w 11), hL, rfl⟩⟩
            · refine zw_iconst 1 49 f17_48 rfl (by decide +kernel) ?_
              refine zw_goto 53 f17_49 (by decide +kernel) ?_
              refine zw_zreturn f17_53 r17 u17 (by decide +kernel) ⟨_, rfl, ?_⟩
              refine zw_if_eq_f 17 21 f18_14 (by decide +kernel) rfl (by decide +kernel) ?_
              refine zw_iconst 1 18 f18_17 rfl (by decide +kernel) ?_
              refine zw_goto 22 f18_18 (by decide +kernel) ?_
              refine zw_zreturn f18_22 r18 u18 (by decide +kernel) ⟨_, rfl, ?_⟩
              refine zw_if_ne_t 34 f79_25 (by decide +kernel) (by decide +kernel) ?_
              refine zw_iload_n 35 f79_34 rfl rfl ?_
              refine zw_iconst 1 36 f79_35 rfl (by decide +kernel) ?_
              refine zw_aload_n 37 f79_36 rfl rfl ?_
              refine zw_getfield 40 f79_37 rfl g79_10_11 (hb_0 _ _ _ _) rfl ?_
              refine zw_getfield 43 f79_40 rfl g79_96_4 (hb_1 _ _ _ _) rfl ?_
              refine zw_iload_n 44 f79_43 rfl rfl ?_
              refine zw_iaload a.toNatClampNeg (P 54 a.toNatClampNeg) 45 f79_44 rfl (hb_3 _ _ _ _) rfl hc1 (zix (by decide) hc1 hc3) (congrFun ((hR.2.1 54 (by omega) (by omega))) a.toNatClampNeg) ?_
              refine zw_static_i 48 0 0 [.int b, .int 1, .int (P 54 a.toNatClampNeg)] [] [(0, .int b), (1, .int 1), (2, .int (P 54 a.toNatClampNeg))] f79_45 rfl k79_74_99 rfl (by decide +kernel) (Nat.le_of_ble_eq_true rfl) (Nat.le_of_ble_eq_true rfl) rfl rfl (by decide +kernel) (by decide +kernel) rfl (Nat.le_of_ble_eq_true rfl) rfl ?_
              refine zw_iload_n 1 f112_0 rfl rfl ?_
              refine zw_iload_n 2 f112_1 rfl rfl ?_
              refine zw_ic_lt 5 14 f112_2 (by decide +kernel) rfl (fun hc19 => ?_) (fun hc19 => ?_)
              · refine zw_iconst 0 15 f112_14 rfl (by decide +kernel) ?_
                refine zw_zreturn f112_15 r112 u112 (by decide +kernel) ⟨_, rfl, ?_⟩
                refine zw_if_ne_f 51 57 f79_48 (by decide +kernel) rfl (by decide +kernel) ?_
                refine zw_aload_n 52 f79_51 rfl rfl ?_
                refine zw_iconst 1 53 f79_52 rfl (by decide +kernel) ?_
                refine zw_virtual_i 56 0 0 [.ref 0, .int 1] [(0, .ref 0), (1, .int 1)] f79_53 rfl n79_78 k79_78_11 rfl (hb_0 _ _ _ _) (by decide +kernel) (Nat.le_of_ble_eq_true rfl) rfl rfl (by decide +kernel) (by decide +kernel) rfl (Nat.le_of_ble_eq_true rfl) rfl ?_
                refine zw_aload_n 1 f105_0 rfl rfl ?_
                refine zw_iload_n 2 f105_1 rfl rfl ?_
                refine zw_put _ 5 f105_2 rfl g105_70_11 (hb_0 _ _ _ _) rfl (Nat.le_of_ble_eq_true rfl) (by decide +kernel) (hi_0_7 _ _ _ _ _) ?_
                refine zw_iconst (-1) 6 f105_5 rfl (by decide +kernel) ?_
                refine zw_ireturn f105_6 r105 u105 ⟨_, rfl, ?_⟩
                refine zw_ireturn f79_56 r79 u79 ?_
                exact ⟨_, _, _, _, rfl, (KQ.i rfl KQ.rf), Or.inl ⟨(fun q => (fun q => q.1 hc19) q.2.2.1), hR.k (show KQ (fun k j => decide (k = 0 ∧ j = 7)) p0 _ _ _ _ _ _ _ _ from KQ.i (k := 0) (j := 7) (v := 1) rfl KQ.rf) ⟨rfl, rfl⟩ (fun j _ _ => by simp) (p0_w 11), hL, rfl⟩⟩
              · refine zw_iload_n 6 f112_5 rfl rfl ?_
                refine zw_iload_n 7 f112_6 rfl rfl ?_
                refine zw_ic_gt 10 14 f112_7 (by decide +kernel) rfl (fun hc20 => ?_) (fun hc20 => ?_)
                · refine zw_iconst 0 15 f112_14 rfl (by decide +kernel) ?_
                  refine zw_zreturn f112_15 r112 u112 (by decide +kernel) ⟨_, rfl, ?_⟩
                  refine zw_if_ne_f 51 57 f79_48 (by decide +kernel) rfl (by decide +kernel) ?_
                  refine zw_aload_n 52 f79_51 rfl rfl ?_
                  refine zw_iconst 1 53 f79_52 rfl (by decide +kernel) ?_
                  refine zw_virtual_i 56 0 0 [.ref 0, .int 1] [(0, .ref 0), (1, .int 1)] f79_53 rfl n79_78 k79_78_11 rfl (hb_0 _ _ _ _) (by decide +kernel) (Nat.le_of_ble_eq_true rfl) rfl rfl (by decide +kernel) (by decide +kernel) rfl (Nat.le_of_ble_eq_true rfl) rfl ?_
                  refine zw_aload_n 1 f105_0 rfl rfl ?_
                  refine zw_iload_n 2 f105_1 rfl rfl ?_
                  refine zw_put _ 5 f105_2 rfl g105_70_11 (hb_0 _ _ _ _) rfl (Nat.le_of_ble_eq_true rfl) (by decide +kernel) (hi_0_7 _ _ _ _ _) ?_
                  refine zw_iconst (-1) 6 f105_5 rfl (by decide +kernel) ?_
                  refine zw_ireturn f105_6 r105 u105 ⟨_, rfl, ?_⟩
                  refine zw_ireturn f79_56 r79 u79 ?_
                  exact ⟨_, _, _, _, rfl, (KQ.i rfl KQ.rf), Or.inl ⟨(fun q => (fun q => q.2 hc20) q.2.2.1), hR.k (show KQ (fun k j => decide (k = 0 ∧ j = 7)) p0 _ _ _ _ _ _ _ _ from KQ.i (k := 0) (j := 7) (v := 1) rfl KQ.rf) ⟨rfl, rfl⟩ (fun j _ _ => by simp) (p0_w 11), hL, rfl⟩⟩
                · refine zw_iconst 1 11 f112_10 rfl (by decide +kernel) ?_
                  refine zw_goto 15 f112_11 (by decide +kernel) ?_
                  refine zw_zreturn f112_15 r112 u112 (by decide +kernel) ⟨_, rfl, ?_⟩
                  refine zw_if_ne_t 57 f79_48 (by decide +kernel) (by decide +kernel) ?_
                  refine zw_aload_n 58 f79_57 rfl rfl ?_
                  refine zw_getfield 61 f79_58 rfl g79_10_11 (hb_0 _ _ _ _) rfl ?_
                  refine zw_iload_n 62 f79_61 rfl rfl ?_
                  refine zw_virtual_i 65 0 0 [.ref 1, .int a] [(0, .ref 1), (1, .int a)] f79_62 rfl n79_100 k79_100_4 rfl (hb_1 _ _ _ _) (by decide +kernel) (Nat.le_of_ble_eq_true rfl) rfl rfl (by decide +kernel) (by decide +kernel) rfl (Nat.le_of_ble_eq_true rfl) rfl ?_
                  refine zw_iload_n 1 f17_0 rfl rfl ?_
                  refine zw_if_lt_f 4 22 f17_1 (by decide +kernel) rfl hc1 ?_
                  refine zw_iload_n 5 f17_4 rfl rfl ?_
                  refine zw_aload_n 6 f17_5 rfl rfl ?_
                  refine zw_getI (nI nv) 9 f17_6 rfl g17_39_4 (hb_1 _ _ _ _) rfl hR.1.1 ?_
                  refine zw_ic_ge_f 12 22 f17_9 (by decide +kernel) rfl hc2 ?_
                  refine zw_iload_n 13 f17_12 rfl rfl ?_
                  refine zw_bipush 8 15 f17_13 rfl (by decide +kernel) ?_
                  refine zw_ic_ge_f 18 22 f17_15 (by decide +kernel) rfl hc3 ?_
                  refine zw_iconst 1 19 f17_18 rfl (by decide +kernel) ?_
                  refine zw_goto 23 f17_19 (by decide +kernel) ?_
                  refine zw_istore_n _ 24 f17_23 rfl (by decide +kernel) rfl ?_
                  refine zw_iload_n 25 f17_24 rfl zl1_eq ?_
                  refine zw_if_eq_f 28 52 f17_25 (by decide +kernel) rfl (by decide +kernel) ?_
                  refine zw_aload_n 29 f17_28 rfl (zl1_ne rfl rfl rfl) ?_
                  refine zw_getfield 32 f17_29 rfl g17_9_4 (hb_1 _ _ _ _) rfl ?_
                  refine zw_iload_n 33 f17_32 rfl (zl1_ne rfl rfl rfl) ?_
                  refine zw_iaload a.toNatClampNeg (P 53 a.toNatClampNeg) 34 f17_33 rfl (hb_2 _ _ _ _) rfl hc1 (zix (by decide) hc1 hc3) (congrFun ((hR.2.1 53 (by omega) (by omega))) a.toNatClampNeg) ?_
                  refine zw_iconst 3 35 f17_34 rfl (by decide +kernel) ?_
                  refine zw_ic_eq_f 38 48 f17_35 (by decide +kernel) rfl hc13 ?_
                  refine zw_aload_n 39 f17_38 rfl (zl1_ne rfl rfl rfl) ?_
                  refine zw_getfield 42 f17_39 rfl g17_9_4 (hb_1 _ _ _ _) rfl ?_
                  refine zw_iload_n 43 f17_42 rfl (zl1_ne rfl rfl rfl) ?_
                  refine zw_iaload a.toNatClampNeg (P 53 a.toNatClampNeg) 44 f17_43 rfl (hb_2 _ _ _ _) rfl hc1 (zix (by decide) hc1 hc3) (congrFun ((hR.2.1 53 (by omega) (by omega))) a.toNatClampNeg) ?_
                  refine zw_iconst 4 45 f17_44 rfl (by decide +kernel) ?_
                  refine zw_ic_ne_f 48 52 f17_45 (by decide +kernel) rfl hc18 ?_
                  refine zw_iconst 1 49 f17_48 rfl (by decide +kernel) ?_
                  refine zw_goto 53 f17_49 (by decide +kernel) ?_
                  refine zw_zreturn f17_53 r17 u17 (by decide +kernel) ⟨_, rfl, ?_⟩
                  refine zw_if_eq_f 68 95 f79_65 (by decide +kernel) rfl (by decide +kernel) ?_
                  refine zw_iload_n 69 f79_68 rfl rfl ?_
                  refine zw_iconst 0 70 f79_69 rfl (by decide +kernel) ?_
                  refine zw_iload_n 71 f79_70 rfl rfl ?_
                  refine zw_iconst 1 72 f79_71 rfl (by decide +kernel) ?_
                  refine zw_isub (b - 1) 73 f79_72 rfl rfl ?_
                  refine zw_static_i 76 0 0 [.int c, .int 0, .int (b - 1)] [] [(0, .int c), (1, .int 0), (2, .int (b - 1))] f79_73 rfl k79_74_99 rfl (by decide +kernel) (Nat.le_of_ble_eq_true rfl) (Nat.le_of_ble_eq_true rfl) rfl rfl (by decide +kernel) (by decide +kernel) rfl (Nat.le_of_ble_eq_true rfl) rfl ?_
                  refine zw_iload_n 1 f112_0 rfl rfl ?_
                  refine zw_iload_n 2 f112_1 rfl rfl ?_
                  refine zw_ic_lt 5 14 f112_2 (by decide +kernel) rfl (fun hc21 => ?_) (fun hc21 => ?_)
                  · refine zw_iconst 0 15 f112_14 rfl (by decide +kernel) ?_
                    refine zw_zreturn f112_15 r112 u112 (by decide +kernel) ⟨_, rfl, ?_⟩
                    refine zw_if_ne_f 79 85 f79_76 (by decide +kernel) rfl (by decide +kernel) ?_
                    refine zw_aload_n 80 f79_79 rfl rfl ?_
                    refine zw_iconst 1 81 f79_80 rfl (by decide +kernel) ?_
                    refine zw_virtual_i 84 0 0 [.ref 0, .int 1] [(0, .ref 0), (1, .int 1)] f79_81 rfl n79_78 k79_78_11 rfl (hb_0 _ _ _ _) (by decide +kernel) (Nat.le_of_ble_eq_true rfl) rfl rfl (by decide +kernel) (by decide +kernel) rfl (Nat.le_of_ble_eq_true rfl) rfl ?_
                    refine zw_aload_n 1 f105_0 rfl rfl ?_
                    refine zw_iload_n 2 f105_1 rfl rfl ?_
                    refine zw_put _ 5 f105_2 rfl g105_70_11 (hb_0 _ _ _ _) rfl (Nat.le_of_ble_eq_true rfl) (by decide +kernel) (hi_0_7 _ _ _ _ _) ?_
                    refine zw_iconst (-1) 6 f105_5 rfl (by decide +kernel) ?_
                    refine zw_ireturn f105_6 r105 u105 ⟨_, rfl, ?_⟩
                    refine zw_ireturn f79_84 r79 u79 ?_
                    exact ⟨_, _, _, _, rfl, (KQ.i rfl KQ.rf), Or.inl ⟨(fun q => (fun q => q.elim (kne (Decidable.of_not_not hc18) (by decide)) (fun q => q.1 hc21)) q.2.2.2), hR.k (show KQ (fun k j => decide (k = 0 ∧ j = 7)) p0 _ _ _ _ _ _ _ _ from KQ.i (k := 0) (j := 7) (v := 1) rfl KQ.rf) ⟨rfl, rfl⟩ (fun j _ _ => by simp) (p0_w 11), hL, rfl⟩⟩
                  · refine zw_iload_n 6 f112_5 rfl rfl ?_
                    refine zw_iload_n 7 f112_6 rfl rfl ?_
                    refine zw_ic_gt 10 14 f112_7 (by decide +kernel) rfl (fun hc22 => ?_) (fun hc22 => ?_)
                    · refine zw_iconst 0 15 f112_14 rfl (by decide +kernel) ?_
                      refine zw_zreturn f112_15 r112 u112 (by decide +kernel) ⟨_, rfl, ?_⟩
                      refine zw_if_ne_f 79 85 f79_76 (by decide +kernel) rfl (by decide +kernel) ?_
                      refine zw_aload_n 80 f79_79 rfl rfl ?_
                      refine zw_iconst 1 81 f79_80 rfl (by decide +kernel) ?_
                      refine zw_virtual_i 84 0 0 [.ref 0, .int 1] [(0, .ref 0), (1, .int 1)] f79_81 rfl n79_78 k79_78_11 rfl (hb_0 _ _ _ _) (by decide +kernel) (Nat.le_of_ble_eq_true rfl) rfl rfl (by decide +kernel) (by decide +kernel) rfl (Nat.le_of_ble_eq_true rfl) rfl ?_
                      refine zw_aload_n 1 f105_0 rfl rfl ?_
                      refine zw_iload_n 2 f105_1 rfl rfl ?_
                      refine zw_put _ 5 f105_2 rfl g105_70_11 (hb_0 _ _ _ _) rfl (Nat.le_of_ble_eq_true rfl) (by decide +kernel) (hi_0_7 _ _ _ _ _) ?_
                      refine zw_iconst (-1) 6 f105_5 rfl (by decide +kernel) ?_
                      refine zw_ireturn f105_6 r105 u105 ⟨_, rfl, ?_⟩
                      refine zw_ireturn f79_84 r79 u79 ?_
                      exact ⟨_, _, _, _, rfl, (KQ.i rfl KQ.rf), Or.inl ⟨(fun q => (fun q => q.elim (kne (Decidable.of_not_not hc18) (by decide)) (fun q => q.2 hc22)) q.2.2.2), hR.k (show KQ (fun k j => decide (k = 0 ∧ j = 7)) p0 _ _ _ _ _ _ _ _ from KQ.i (k := 0) (j := 7) (v := 1) rfl KQ.rf) ⟨rfl, rfl⟩ (fun j _ _ => by simp) (p0_w 11), hL, rfl⟩⟩
                    · refine zw_iconst 1 11 f112_10 rfl (by decide +kernel) ?_
                      refine zw_goto 15 f112_11 (by decide +kernel) ?_
                      refine zw_zreturn f112_15 r112 u112 (by decide +kernel) ⟨_, rfl, ?_⟩
                      refine zw_if_ne_t 85 f79_76 (by decide +kernel) (by decide +kernel) ?_
                      refine zw_aload_n 86 f79_85 rfl rfl ?_
                      refine zw_getfield 89 f79_86 rfl g79_10_11 (hb_0 _ _ _ _) rfl ?_
                      refine zw_getfield 92 f79_89 rfl g79_103_4 (hb_1 _ _ _ _) rfl ?_
                      refine zw_iload_n 93 f79_92 rfl rfl ?_
                      refine zw_iload_n 94 f79_93 rfl rfl ?_
                      refine zw_ast a.toNatClampNeg _ 95 f79_94 rfl (hb_5 _ _ _ _) rfl hc1 (zix (by decide) hc1 hc3) (ha_5 _ _ _ _ _) ?_
                      refine zw_aload_n 96 f79_95 rfl rfl ?_
                      refine zw_getfield 99 f79_96 rfl g79_10_11 (hb_0 _ _ _ _) rfl ?_
                      refine zw_getfield 102 f79_99 rfl g79_106_4 (hb_1 _ _ _ _) rfl ?_
                      refine zw_iload_n 103 f79_102 rfl rfl ?_
                      refine zw_iload_n 104 f79_103 rfl rfl ?_
                      refine zw_ast a.toNatClampNeg _ 105 f79_104 rfl (hb_4 _ _ _ _) rfl hc1 (zix (by decide) hc1 hc3) (ha_4 _ _ _ _ _) ?_
                      refine zw_aload_n 106 f79_105 rfl rfl ?_
                      refine zw_iconst 1 107 f79_106 rfl (by decide +kernel) ?_
                      refine zw_virtual_i 110 0 0 [.ref 0, .int 1] [(0, .ref 0), (1, .int 1)] f79_107 rfl n79_86 k79_86_11 rfl (hb_0 _ _ _ _) (by decide +kernel) (Nat.le_of_ble_eq_true rfl) rfl rfl (by decide +kernel) (by decide +kernel) rfl (Nat.le_of_ble_eq_true rfl) rfl ?_
                      refine zw_aload_n 1 f107_0 rfl rfl ?_
                      refine zw_getfield 4 f107_1 rfl g107_21_11 (hb_0 _ _ _ _) rfl ?_
                      refine zw_virtual_v 7 0 0 [.ref 11] [(0, .ref 11)] f107_4 rfl n107_318 k107_318_10 rfl (hb_11 _ _ _ _) (by decide +kernel) (Nat.le_of_ble_eq_true rfl) rfl rfl (by decide +kernel) (by decide +kernel) rfl (Nat.le_of_ble_eq_true rfl) rfl ?_
                      have hok1 : ok_marks nv np P a b c := ⟨(qV.ofc (by omega) hc1 hc2), ⟨kne (Decidable.of_not_not hc18) (by decide), kne (Decidable.of_not_not hc18) (by decide)⟩, ⟨hc19, hc20⟩, (Or.inr ⟨hc21, hc22⟩)⟩
                      obtain ⟨hp2, hW2⟩ := hok hok1
                      have hR2 : cRS 11 nv np (updA (updA P 55 (upd (P 55) a.toNatClampNeg b)) 56 (upd ((updA P 55 (upd (P 55) a.toNatClampNeg b)) 56) a.toNatClampNeg (if P 53 a.toNatClampNeg = 1 then 0 else c))) W I G (updA (updA A 5 (upd (A 5) a.toNatClampNeg c)) 4 (upd ((updA A 5 (upd (A 5) a.toNatClampNeg c)) 4) a.toNatClampNeg b)) B := ⟨⟨hR.1.1, hR.1.2⟩, PE.of10 ((hR.2.1 53 (by omega) (by omega))) ((hR.2.1 54 (by omega) (by omega))) ((congrArg (fun z => upd z a.toNatClampNeg b) ((hR.2.1 55 (by omega) (by omega))))) ((by rw [show (if P 53 a.toNatClampNeg = 1 then (0 : Int32) else c) = c from if_neg (kne (Decidable.of_not_not hc18) (by decide))]; exact (congrArg (fun z => upd z a.toNatClampNeg c) ((hR.2.1 56 (by omega) (by omega)))))) ((hR.2.1 57 (by omega) (by omega))) ((hR.2.1 58 (by omega) (by omega))) ((hR.2.1 59 (by omega) (by omega))) ((hR.2.1 60 (by omega) (by omega))) ((hR.2.1 61 (by omega) (by omega))) ((hR.2.1 62 (by omega) (by omega))), ⟨hR.2.2.1.1, hR.2.2.1.2.1, hR.2.2.1.2.2.1, hR.2.2.1.2.2.2⟩, hR.2.2.2.1, hR.2.2.2.2.1, hR.2.2.2.2.2.1, hR.2.2.2.2.2.2⟩
                      have hL2 : cLg L I (updA (updA A 5 (upd (A 5) a.toNatClampNeg c)) 4 (upd ((updA A 5 (upd (A 5) a.toNatClampNeg c)) 4) a.toNatClampNeg b)) := hL
                      refine zWp.mono (cx_settle_11 ro nv np _ W 10000 (K + 1000) _ _ _ _ hR2 hp2 hW2.2.1 hW2.1 (by omega) (by omega)) ?_
                      rintro r h1 ⟨I_s, G_s, A_s, B_s, rfl, K_s, ⟨hR3, hH3⟩, rfl⟩
                      refine ⟨rfl, ?_⟩
                      have hL3 := hL2.k K_s rfl rfl rfl rfl rfl
                      refine zw_aload_n 8 f107_7 rfl rfl ?_
                      refine zw_getfield 11 f107_8 rfl g107_31_11 (hb_0 _ _ _ _) rfl ?_
                      refine zw_aload_n 12 f107_11 rfl rfl ?_
                      refine zw_getfield 15 f107_12 rfl g107_21_11 (hb_0 _ _ _ _) rfl ?_
                      refine zw_virtual_v 18 0 0 [.ref 33, .ref 11] [(0, .ref 33), (1, .ref 11)] f107_15 rfl n107_187 k107_187_3 rfl (hb_33 _ _ _ _) (by decide +kernel) (Nat.le_of_ble_eq_true rfl) rfl rfl (by decide +kernel) (by decide +kernel) rfl (Nat.le_of_ble_eq_true rfl) rfl ?_
                      have hq2 := mom_t hp2 hW2.2.1 hW2.1 (by omega) (by omega)
                      refine zWp.mono (cx_take ro _ _ _ _ _ _ W.2.1 W.1 so L (wEv nv _ W) hR3.2.2.1.2.1 hR3.2.2.1.1 hq2.1 hq2.2.1 hH3 hq2.2.2 hL3 (by omega)) ?_
                      rintro r h1 ⟨I_u, G_u, A_u, B_u, rfl, K_u, hL4, rfl⟩
                      refine ⟨rfl, ?_⟩
                      have hR4 := hR3.k K_u ⟨rfl, rfl⟩ fLt_w pLt_w
                      refine zw_aload_n 19 f107_18 rfl rfl ?_
                      refine zw_iload_n 20 f107_19 rfl rfl ?_
                      refine zw_virtual_i 23 0 0 [.ref 0, .int 1] [(0, .ref 0), (1, .int 1)] f107_20 rfl n107_181 k107_181_11 rfl (hb_0 _ _ _ _) (by decide +kernel) (Nat.le_of_ble_eq_true rfl) rfl rfl (by decide +kernel) (by decide +kernel) rfl (Nat.le_of_ble_eq_true rfl) rfl ?_
                      refine zw_aload_n 1 f106_0 rfl rfl ?_
                      refine zw_iconst 0 2 f106_1 rfl (by decide +kernel) ?_
                      refine zw_put _ 5 f106_2 rfl g106_70_11 (hb_0 _ _ _ _) rfl (Nat.le_of_ble_eq_true rfl) (by decide +kernel) (hi_0_7 _ _ _ _ _) ?_
                      refine zw_iload_n 6 f106_5 rfl rfl ?_
                      refine zw_ireturn f106_6 r106 u106 ⟨_, rfl, ?_⟩
                      refine zw_ireturn f107_23 r107 u107 ⟨_, rfl, ?_⟩
                      refine zw_ireturn f79_110 r79 u79 ?_
                      exact ⟨_, _, _, _, rfl, (KQ.i rfl (KQ.tr (KQ.tr (KQ.a rfl (KQ.a rfl KQ.rf)) (KQ.wk K_s fSe_Hd pSe_Hd)) (KQ.wk K_u fLt_Hd pLt_Hd))), Or.inr ⟨hok1, hR4.k (show KQ (fun k j => decide (k = 0 ∧ j = 7)) p0 _ _ _ _ _ _ _ _ from KQ.i (k := 0) (j := 7) (v := 0) rfl KQ.rf) ⟨rfl, rfl⟩ (fun j _ _ => by simp) (p0_w 11), hL4, rfl⟩⟩
set_option maxRecDepth 100000 in
set_option maxHeartbeats 0 in
theorem cx_own (ro : UInt32 → Nat × (Nat → Int32)) (nv np : Nat) (P : Nat → Nat → Int32) (W : qW) (L : qLog) (K : Int) (so : Int32) (I : Nat → Nat → Int32) (G : Nat → Nat → Int64) (A : Nat → Nat → Int32) (B : Nat → Nat → Int64) (hR : cRS 11 nv np P W I G A B) (hp : MPa nv np P) (hW : wInv nv 10000 K P W) (hQ : qKd nv P) (hL : cLg L I A) (hK : K ≤ 199000000) (hn : L.1 < 900000000) (a : Int32) (b : Int32) (hok : ok_own nv np P a b → MPa nv np (updA P 57 (upd (P 57) a.toNatClampNeg b)) ∧ wInv nv 10000 (K + 1000) (updA P 57 (upd (P 57) a.toNatClampNeg b)) W) : zWp ro 80 0 [(0, .ref 0), (1, .int a), (2, .int b)] [] (hS I G A B) 0 0 (fun r h1 => ∃ I2 G2 A2 B2, h1 = hS I2 G2 A2 B2 ∧ KQ fHd pHd I G A B I2 G2 A2 B2 ∧ ((¬ ok_own nv np P a b ∧ cRS 11 nv np P W I2 G2 A2 B2 ∧ cLg L I2 A2 ∧ r = some (.int (-1))) ∨ (ok_own nv np P a b ∧ cRS 11 nv np (updA P 57 (upd (P 57) a.toNatClampNeg b)) (wMom nv (updA P 57 (upd (P 57) a.toNatClampNeg b)) W) I2 G2 A2 B2 ∧ cLg (qNotes 1 W.2.1 W.1 so L (wEv nv (updA P 57 (upd (P 57) a.toNatClampNeg b)) W)) I2 A2 ∧ r = some (.int 1)))) := by
  have h8 := hp.1
  have h14 := hp.2.1
  have hg : 1 ≤ W.1.toInt ∧ W.1.toInt ≤ 10000 := hW.1.1.1
  refine zw_aload_n 1 f80_0 rfl rfl ?_
  refine zw_getfield 4 f80_1 rfl g80_10_11 (hb_0 _ _ _ _) rfl ?_
  refine zw_iload_n 5 f80_4 rfl rfl ?_
  refine zw_virtual_i 8 0 0 [.ref 1, .int a] [(0, .ref 1), (1, .int a)] f80_5 rfl n80_89 k80_89_4 rfl (hb_1 _ _ _ _) (by decide +kernel) (Nat.le_of_ble_eq_true rfl) rfl rfl (by decide +kernel) (by decide +kernel) rfl (Nat.le_of_ble_eq_true rfl) rfl ?_
  refine zw_iload_n 1 f13_0 rfl rfl ?_
  refine zw_if_lt 4 22 f13_1 (by decide +kernel) rfl (fun hc1 => ?_) (fun hc1 => ?_)
  · refine zw_iconst 0 23 f13_22 rfl (by decide +kernel) ?_
    refine zw_zreturn f13_23 r13 u13 (by decide +kernel) ⟨_, rfl, ?_⟩
    refine zw_if_eq_t 22 f80_8 (by decide +kernel) (by decide +kernel) ?_
    refine zw_aload_n 23 f80_22 rfl rfl ?_
    refine zw_iconst 1 24 f80_23 rfl (by decide +kernel) ?_
    refine zw_virtual_i 27 0 0 [.ref 0, .int 1] [(0, .ref 0), (1, .int 1)] f80_24 rfl n80_78 k80_78_11 rfl (hb_0 _ _ _ _) (by decide +kernel) (Nat.le_of_ble_eq_true rfl) rfl rfl (by decide +kernel) (by decide +kernel) rfl (Nat.le_of_ble_eq_true rfl) rfl ?_
    refine zw_aload_n 1 f105_0 rfl rfl ?_
    refine zw_iload_n 2 f105_1 rfl rfl ?_
    refine zw_put _ 5 f105_2 rfl g105_70_11 (hb_0 _ _ _ _) rfl (Nat.le_of_ble_eq_true rfl) (by decide +kernel) (hi_0_7 _ _ _ _ _) ?_
    refine zw_iconst (-1) 6 f105_5 rfl (by decide +kernel) ?_
    refine zw_ireturn f105_6 r105 u105 ⟨_, rfl, ?_⟩
    refine zw_ireturn f80_27 r80 u80 ?_
    exact ⟨_, _, _, _, rfl, (KQ.i rfl KQ.rf), Or.inl ⟨(fun q => (qV.n0 (by omega) hc1) q.1), hR.k (show KQ (fun k j => decide (k = 0 ∧ j = 7)) p0 _ _ _ _ _ _ _ _ from KQ.i (k := 0) (j := 7) (v := 1) rfl KQ.rf) ⟨rfl, rfl⟩ (fun j _ _ => by simp) (p0_w 11), hL, rfl⟩⟩
  · refine zw_iload_n 5 f13_4 rfl rfl ?_
    refine zw_aload_n 6 f13_5 rfl rfl ?_
    refine zw_getI (nI nv) 9 f13_6 rfl g13_39_4 (hb_1 _ _ _ _) rfl hR.1.1 ?_
    refine zw_ic_ge 12 22 f13_9 (by decide +kernel) rfl (fun hc2 => ?_) (fun hc2 => ?_)
    · refine zw_iconst 0 23 f13_22 rfl (by decide +kernel) ?_
      refine zw_zreturn f13_23 r13 u13 (by decide +kernel) ⟨_, rfl, ?_⟩
      refine zw_if_eq_t 22 f80_8 (by decide +kernel) (by decide +kernel) ?_
      refine zw_aload_n 23 f80_22 rfl rfl ?_
      refine zw_iconst 1 24 f80_23 rfl (by decide +kernel) ?_
      refine zw_virtual_i 27 0 0 [.ref 0, .int 1] [(0, .ref 0), (1, .int 1)] f80_24 rfl n80_78 k80_78_11 rfl (hb_0 _ _ _ _) (by decide +kernel) (Nat.le_of_ble_eq_true rfl) rfl rfl (by decide +kernel) (by decide +kernel) rfl (Nat.le_of_ble_eq_true rfl) rfl ?_
      refine zw_aload_n 1 f105_0 rfl rfl ?_
      refine zw_iload_n 2 f105_1 rfl rfl ?_
      refine zw_put _ 5 f105_2 rfl g105_70_11 (hb_0 _ _ _ _) rfl (Nat.le_of_ble_eq_true rfl) (by decide +kernel) (hi_0_7 _ _ _ _ _) ?_
      refine zw_iconst (-1) 6 f105_5 rfl (by decide +kernel) ?_
      refine zw_ireturn f105_6 r105 u105 ⟨_, rfl, ?_⟩
      refine zw_ireturn f80_27 r80 u80 ?_
      exact ⟨_, _, _, _, rfl, (KQ.i rfl KQ.rf), Or.inl ⟨(fun q => (qV.n2 (by omega) hc2) q.1), hR.k (show KQ (fun k j => decide (k = 0 ∧ j = 7)) p0 _ _ _ _ _ _ _ _ from KQ.i (k := 0) (j := 7) (v := 1) rfl KQ.rf) ⟨rfl, rfl⟩ (fun j _ _ => by simp) (p0_w 11), hL, rfl⟩⟩
    · refine zw_iload_n 13 f13_12 rfl rfl ?_
      refine zw_bipush 8 15 f13_13 rfl (by decide +kernel) ?_
      refine zw_ic_ge 18 22 f13_15 (by decide +kernel) rfl (fun hc3 => ?_) (fun hc3 => ?_)
      · refine zw_iconst 0 23 f13_22 rfl (by decide +kernel) ?_
        refine zw_zreturn f13_23 r13 u13 (by decide +kernel) ⟨_, rfl, ?_⟩
        refine zw_if_eq_t 22 f80_8 (by decide +kernel) (by decide +kernel) ?_
        refine zw_aload_n 23 f80_22 rfl rfl ?_
        refine zw_iconst 1 24 f80_23 rfl (by decide +kernel) ?_
        refine zw_virtual_i 27 0 0 [.ref 0, .int 1] [(0, .ref 0), (1, .int 1)] f80_24 rfl n80_78 k80_78_11 rfl (hb_0 _ _ _ _) (by decide +kernel) (Nat.le_of_ble_eq_true rfl) rfl rfl (by decide +kernel) (by decide +kernel) rfl (Nat.le_of_ble_eq_true rfl) rfl ?_
        refine zw_aload_n 1 f105_0 rfl rfl ?_
        refine zw_iload_n 2 f105_1 rfl rfl ?_
        refine zw_put _ 5 f105_2 rfl g105_70_11 (hb_0 _ _ _ _) rfl (Nat.le_of_ble_eq_true rfl) (by decide +kernel) (hi_0_7 _ _ _ _ _) ?_
        refine zw_iconst (-1) 6 f105_5 rfl (by decide +kernel) ?_
        refine zw_ireturn f105_6 r105 u105 ⟨_, rfl, ?_⟩
        refine zw_ireturn f80_27 r80 u80 ?_
        exact ⟨_, _, _, _, rfl, (KQ.i rfl KQ.rf), Or.inl ⟨(fun q => (qV.n3 (m := 8) (N := 8) (by omega) (by omega) (by decide) hc3) q.1), hR.k (show KQ (fun k j => decide (k = 0 ∧ j = 7)) p0 _ _ _ _ _ _ _ _ from KQ.i (k := 0) (j := 7) (v := 1) rfl KQ.rf) ⟨rfl, rfl⟩ (fun j _ _ => by simp) (p0_w 11), hL, rfl⟩⟩
      · refine zw_iconst 1 19 f13_18 rfl (by decide +kernel) ?_
        refine zw_goto 23 f13_19 (by decide +kernel) ?_
        refine zw_zreturn f13_23 r13 u13 (by decide +kernel) ⟨_, rfl, ?_⟩
        refine zw_if_eq_f 11 22 f80_8 (by decide +kernel) rfl (by decide +kernel) ?_
        refine zw_aload_n 12 f80_11 rfl rfl ?_
        refine zw_getfield 15 f80_12 rfl g80_10_11 (hb_0 _ _ _ _) rfl ?_
        refine zw_iload_n 16 f80_15 rfl rfl ?_
        refine zw_virtual_i 19 0 0 [.ref 1, .int b] [(0, .ref 1), (1, .int b)] f80_16 rfl n80_109 k80_109_4 rfl (hb_1 _ _ _ _) (by decide +kernel) (Nat.le_of_ble_eq_true rfl) rfl rfl (by decide +kernel) (by decide +kernel) rfl (Nat.le_of_ble_eq_true rfl) rfl ?_
        refine zw_iload_n 1 f14_0 rfl rfl ?_
        refine zw_if_lt 4 22 f14_1 (by decide +kernel) rfl (fun hc4 => ?_) (fun hc4 => ?_)
        · refine zw_iconst 0 23 f14_22 rfl (by decide +kernel) ?_
          refine zw_zreturn f14_23 r14 u14 (by decide +kernel) ⟨_, rfl, ?_⟩
          refine zw_if_ne_f 22 28 f80_19 (by decide +kernel) rfl (by decide +kernel) ?_
          refine zw_aload_n 23 f80_22 rfl rfl ?_
          refine zw_iconst 1 24 f80_23 rfl (by decide +kernel) ?_
          refine zw_virtual_i 27 0 0 [.ref 0, .int 1] [(0, .ref 0), (1, .int 1)] f80_24 rfl n80_78 k80_78_11 rfl (hb_0 _ _ _ _) (by decide +kernel) (Nat.le_of_ble_eq_true rfl) rfl rfl (by decide +kernel) (by decide +kernel) rfl (Nat.le_of_ble_eq_true rfl) rfl ?_
          refine zw_aload_n 1 f105_0 rfl rfl ?_
          refine zw_iload_n 2 f105_1 rfl rfl ?_
          refine zw_put _ 5 f105_2 rfl g105_70_11 (hb_0 _ _ _ _) rfl (Nat.le_of_ble_eq_true rfl) (by decide +kernel) (hi_0_7 _ _ _ _ _) ?_
          refine zw_iconst (-1) 6 f105_5 rfl (by decide +kernel) ?_
          refine zw_ireturn f105_6 r105 u105 ⟨_, rfl, ?_⟩
          refine zw_ireturn f80_27 r80 u80 ?_
          exact ⟨_, _, _, _, rfl, (KQ.i rfl KQ.rf), Or.inl ⟨(fun q => (qV.n0 (by omega) hc4) q.2.1), hR.k (show KQ (fun k j => decide (k = 0 ∧ j = 7)) p0 _ _ _ _ _ _ _ _ from KQ.i (k := 0) (j := 7) (v := 1) rfl KQ.rf) ⟨rfl, rfl⟩ (fun j _ _ => by simp) (p0_w 11), hL, rfl⟩⟩
        · refine zw_iload_n 5 f14_4 rfl rfl ?_
          refine zw_aload_n 6 f14_5 rfl rfl ?_
          refine zw_getI (nI np) 9 f14_6 rfl g14_43_4 (hb_1 _ _ _ _) rfl hR.1.2 ?_
          refine zw_ic_ge 12 22 f14_9 (by decide +kernel) rfl (fun hc5 => ?_) (fun hc5 => ?_)
          · refine zw_iconst 0 23 f14_22 rfl (by decide +kernel) ?_
            refine zw_zreturn f14_23 r14 u14 (by decide +kernel) ⟨_, rfl, ?_⟩
            refine zw_if_ne_f 22 28 f80_19 (by decide +kernel) rfl (by decide +kernel) ?_
            refine zw_aload_n 23 f80_22 rfl rfl ?_
            refine zw_iconst 1 24 f80_23 rfl (by decide +kernel) ?_
            refine zw_virtual_i 27 0 0 [.ref 0, .int 1] [(0, .ref 0), (1, .int 1)] f80_24 rfl n80_78 k80_78_11 rfl (hb_0 _ _ _ _) (by decide +kernel) (Nat.le_of_ble_eq_true rfl) rfl rfl (by decide +kernel) (by decide +kernel) rfl (Nat.le_of_ble_eq_true rfl) rfl ?_
            refine zw_aload_n 1 f105_0 rfl rfl ?_
            refine zw_iload_n 2 f105_1 rfl rfl ?_
            refine zw_put _ 5 f105_2 rfl g105_70_11 (hb_0 _ _ _ _) rfl (Nat.le_of_ble_eq_true rfl) (by decide +kernel) (hi_0_7 _ _ _ _ _) ?_
            refine zw_iconst (-1) 6 f105_5 rfl (by decide +kernel) ?_
            refine zw_ireturn f105_6 r105 u105 ⟨_, rfl, ?_⟩
            refine zw_ireturn f80_27 r80 u80 ?_
            exact ⟨_, _, _, _, rfl, (KQ.i rfl KQ.rf), Or.inl ⟨(fun q => (qV.n2 (by omega) hc5) q.2.1), hR.k (show KQ (fun k j => decide (k = 0 ∧ j = 7)) p0 _ _ _ _ _ _ _ _ from KQ.i (k := 0) (j := 7) (v := 1) rfl KQ.rf) ⟨rfl, rfl⟩ (fun j _ _ => by simp) (p0_w 11), hL, rfl⟩⟩
          · refine zw_iload_n 13 f14_12 rfl rfl ?_
            refine zw_bipush 14 15 f14_13 rfl (by decide +kernel) ?_
            refine zw_ic_ge 18 22 f14_15 (by decide +kernel) rfl (fun hc6 => ?_) (fun hc6 => ?_)
            · refine zw_iconst 0 23 f14_22 rfl (by decide +kernel) ?_
              refine zw_zreturn f14_23 r14 u14 (by decide +kernel) ⟨_, rfl, ?_⟩
              refine zw_if_ne_f 22 28 f80_19 (by decide +kernel) rfl (by decide +kernel) ?_
              refine zw_aload_n 23 f80_22 rfl rfl ?_
              refine zw_iconst 1 24 f80_23 rfl (by decide +kernel) ?_
              refine zw_virtual_i 27 0 0 [.ref 0, .int 1] [(0, .ref 0), (1, .int 1)] f80_24 rfl n80_78 k80_78_11 rfl (hb_0 _ _ _ _) (by decide +kernel) (Nat.le_of_ble_eq_true rfl) rfl rfl (by decide +kernel) (by decide +kernel) rfl (Nat.le_of_ble_eq_true rfl) rfl ?_
              refine zw_aload_n 1 f105_0 rfl rfl ?_
              refine zw_iload_n 2 f105_1 rfl rfl ?_
              refine zw_put _ 5 f105_2 rfl g105_70_11 (hb_0 _ _ _ _) rfl (Nat.le_of_ble_eq_true rfl) (by decide +kernel) (hi_0_7 _ _ _ _ _) ?_
              refine zw_iconst (-1) 6 f105_5 rfl (by decide +kernel) ?_
              refine zw_ireturn f105_6 r105 u105 ⟨_, rfl, ?_⟩
              refine zw_ireturn f80_27 r80 u80 ?_
              exact ⟨_, _, _, _, rfl, (KQ.i rfl KQ.rf), Or.inl ⟨(fun q => (qV.n3 (m := 14) (N := 14) (by omega) (by omega) (by decide) hc6) q.2.1), hR.k (show KQ (fun k j => decide (k = 0 ∧ j = 7)) p0 _ _ _ _ _ _ _ _ from KQ.i (k := 0) (j := 7) (v := 1) rfl KQ.rf) ⟨rfl, rfl⟩ (fun j _ _ => by simp) (p0_w 11), hL, rfl⟩⟩
            · refine zw_iconst 1 19 f14_18 rfl (by decide +kernel) ?_
              refine zw_goto 23 f14_19 (by decide +kernel) ?_
              refine zw_zreturn f14_23 r14 u14 (by decide +kernel) ⟨_, rfl, ?_⟩
              refine zw_if_ne_t 28 f80_19 (by decide +kernel) (by decide +kernel) ?_
              refine zw_aload_n 29 f80_28 rfl rfl ?_
              refine zw_getfield 32 f80_29 rfl g80_10_11 (hb_0 _ _ _ _) rfl ?_
              refine zw_iload_n 33 f80_32 rfl rfl ?_
              refine zw_virtual_i 36 0 0 [.ref 1, .int a] [(0, .ref 1), (1, .int a)] f80_33 rfl n80_100 k80_100_4 rfl (hb_1 _ _ _ _) (by decide +kernel) (Nat.le_of_ble_eq_true rfl) rfl rfl (by decide +kernel) (by decide +kernel) rfl (Nat.le_of_ble_eq_true rfl) rfl ?_
              refine zw_iload_n 1 f17_0 rfl rfl ?_
              refine zw_if_lt_f 4 22 f17_1 (by decide +kernel) rfl hc1 ?_
              refine zw_iload_n 5 f17_4 rfl rfl ?_
              refine zw_aload_n 6 f17_5 rfl rfl ?_
              refine zw_getI (nI nv) 9 f17_6 rfl g17_39_4 (hb_1 _ _ _ _) rfl hR.1.1 ?_
              refine zw_ic_ge_f 12 22 f17_9 (by decide +kernel) rfl hc2 ?_
              refine zw_iload_n 13 f17_12 rfl rfl ?_
              refine zw_bipush 8 15 f17_13 rfl (by decide +kernel) ?_
              refine zw_ic_ge_f 18 22 f17_15 (by decide +kernel) rfl hc3 ?_
              refine zw_iconst 1 19 f17_18 rfl (by decide +kernel) ?_
              refine zw_goto 23 f17_19 (by decide +kernel) ?_
              refine zw_istore_n _ 24 f17_23 rfl (by decide +kernel) rfl ?_
              refine zw_iload_n 25 f17_24 rfl zl1_eq ?_
              refine zw_if_eq_f 28 52 f17_25 (by decide +kernel) rfl (by decide +kernel) ?_
              refine zw_aload_n 29 f17_28 rfl (zl1_ne rfl rfl rfl) ?_
              refine zw_getfield 32 f17_29 rfl g17_9_4 (hb_1 _ _ _ _) rfl ?_
              refine zw_iload_n 33 f17_32 rfl (zl1_ne rfl rfl rfl) ?_
              refine zw_iaload a.toNatClampNeg (P 53 a.toNatClampNeg) 34 f17_33 rfl (hb_2 _ _ _ _) rfl hc1 (zix (by decide) hc1 hc3) (congrFun ((hR.2.1 53 (by omega) (by omega))) a.toNatClampNeg) ?_
              refine zw_iconst 3 35 f17_34 rfl (by decide +kernel) ?_
              refine zw_ic_eq 38 48 f17_35 (by decide +kernel) rfl (fun hc7 => ?_) (fun hc7 => ?_)
              · refine zw_iconst 1 49 f17_48 rfl (by decide +kernel) ?_
                refine zw_goto 53 f17_49 (by decide +kernel) ?_
                refine zw_zreturn f17_53 r17 u17 (by decide +kernel) ⟨_, rfl, ?_⟩
                refine zw_if_ne_t 64 f80_36 (by decide +kernel) (by decide +kernel) ?_
                refine zw_iconst 1 65 f80_64 rfl (by decide +kernel) ?_
                refine zw_goto 69 f80_65 (by decide +kernel) ?_
                refine zw_istore_n _ 70 f80_69 rfl (by decide +kernel) rfl ?_
                refine zw_iload_n 71 f80_70 rfl zl1_eq ?_
                refine zw_if_ne_t 80 f80_71 (by decide +kernel) (by decide +kernel) ?_
                refine zw_aload_n 81 f80_80 rfl (zl1_ne rfl rfl rfl) ?_
                refine zw_getfield 84 f80_81 rfl g80_10_11 (hb_0 _ _ _ _) rfl ?_
                refine zw_getfield 87 f80_84 rfl g80_118_4 (hb_1 _ _ _ _) rfl ?_
                refine zw_iload_n 88 f80_87 rfl (zl1_ne rfl rfl rfl) ?_
                refine zw_iload_n 89 f80_88 rfl (zl1_ne rfl rfl rfl) ?_
                refine zw_ast a.toNatClampNeg _ 90 f80_89 rfl (hb_6 _ _ _ _) rfl hc1 (zix (by decide) hc1 hc3) (ha_6 _ _ _ _ _) ?_
                refine zw_aload_n 91 f80_90 rfl (zl1_ne rfl rfl rfl) ?_
                refine zw_iconst 1 92 f80_91 rfl (by decide +kernel) ?_
                refine zw_virtual_i 95 0 0 [.ref 0, .int 1] [(0, .ref 0), (1, .int 1)] f80_92 rfl n80_86 k80_86_11 rfl (hb_0 _ _ _ _) (by decide +kernel) (Nat.le_of_ble_eq_true rfl) rfl rfl (by decide +kernel) (by decide +kernel) rfl (Nat.le_of_ble_eq_true rfl) rfl ?_
                refine zw_aload_n 1 f107_0 rfl rfl ?_
                refine zw_getfield 4 f107_1 rfl g107_21_11 (hb_0 _ _ _ _) rfl ?_
                refine zw_virtual_v 7 0 0 [.ref 11] [(0, .ref 11)] f107_4 rfl n107_318 k107_318_10 rfl (hb_11 _ _ _ _) (by decide +kernel) (Nat.le_of_ble_eq_true rfl) rfl rfl (by decide +kernel) (by decide +kernel) rfl (Nat.le_of_ble_eq_true rfl) rfl ?_
                have hok1 : ok_own nv np P a b := ⟨(qV.ofc (by omega) hc1 hc2), (qV.ofc (by omega) hc4 hc5), kne hc7 (by decide), kne hc7 (by decide), Or.inl (kne hc7 (by decide))⟩
                obtain ⟨hp2, hW2⟩ := hok hok1
                have hR2 : cRS 11 nv np (updA P 57 (upd (P 57) a.toNatClampNeg b)) W I G (updA A 6 (upd (A 6) a.toNatClampNeg b)) B := ⟨⟨hR.1.1, hR.1.2⟩, PE.of10 ((hR.2.1 53 (by omega) (by omega))) ((hR.2.1 54 (by omega) (by omega))) ((hR.2.1 55 (by omega) (by omega))) ((hR.2.1 56 (by omega) (by omega))) ((congrArg (fun z => upd z a.toNatClampNeg b) ((hR.2.1 57 (by omega) (by omega))))) ((hR.2.1 58 (by omega) (by omega))) ((hR.2.1 59 (by omega) (by omega))) ((hR.2.1 60 (by omega) (by omega))) ((hR.2.1 61 (by omega) (by omega))) ((hR.2.1 62 (by omega) (by omega))), ⟨hR.2.2.1.1, hR.2.2.1.2.1, hR.2.2.1.2.2.1, hR.2.2.1.2.2.2⟩, hR.2.2.2.1, hR.2.2.2.2.1, hR.2.2.2.2.2.1, hR.2.2.2.2.2.2⟩
                have hL2 : cLg L I (updA A 6 (upd (A 6) a.toNatClampNeg b)) := hL
                refine zWp.mono (cx_settle_11 ro nv np _ W 10000 (K + 1000) _ _ _ _ hR2 hp2 hW2.2.1 hW2.1 (by omega) (by omega)) ?_
                rintro r h1 ⟨I_s, G_s, A_s, B_s, rfl, K_s, ⟨hR3, hH3⟩, rfl⟩
                refine ⟨rfl, ?_⟩
                have hL3 := hL2.k K_s rfl rfl rfl rfl rfl
                refine zw_aload_n 8 f107_7 rfl rfl ?_
                refine zw_getfield 11 f107_8 rfl g107_31_11 (hb_0 _ _ _ _) rfl ?_
                refine zw_aload_n 12 f107_11 rfl rfl ?_
                refine zw_getfield 15 f107_12 rfl g107_21_11 (hb_0 _ _ _ _) rfl ?_
                refine zw_virtual_v 18 0 0 [.ref 33, .ref 11] [(0, .ref 33), (1, .ref 11)] f107_15 rfl n107_187 k107_187_3 rfl (hb_33 _ _ _ _) (by decide +kernel) (Nat.le_of_ble_eq_true rfl) rfl rfl (by decide +kernel) (by decide +kernel) rfl (Nat.le_of_ble_eq_true rfl) rfl ?_
                have hq2 := mom_t hp2 hW2.2.1 hW2.1 (by omega) (by omega)
                refine zWp.mono (cx_take ro _ _ _ _ _ _ W.2.1 W.1 so L (wEv nv _ W) hR3.2.2.1.2.1 hR3.2.2.1.1 hq2.1 hq2.2.1 hH3 hq2.2.2 hL3 (by omega)) ?_
                rintro r h1 ⟨I_u, G_u, A_u, B_u, rfl, K_u, hL4, rfl⟩
                refine ⟨rfl, ?_⟩
                have hR4 := hR3.k K_u ⟨rfl, rfl⟩ fLt_w pLt_w
                refine zw_aload_n 19 f107_18 rfl rfl ?_
                refine zw_iload_n 20 f107_19 rfl rfl ?_
                refine zw_virtual_i 23 0 0 [.ref 0, .int 1] [(0, .ref 0), (1, .int 1)] f107_20 rfl n107_181 k107_181_11 rfl (hb_0 _ _ _ _) (by decide +kernel) (Nat.le_of_ble_eq_true rfl) rfl rfl (by decide +kernel) (by decide +kernel) rfl (Nat.le_of_ble_eq_true rfl) rfl ?_
                refine zw_aload_n 1 f106_0 rfl rfl ?_
                refine zw_iconst 0 2 f106_1 rfl (by decide +kernel) ?_
                refine zw_put _ 5 f106_2 rfl g106_70_11 (hb_0 _ _ _ _) rfl (Nat.le_of_ble_eq_true rfl) (by decide +kernel) (hi_0_7 _ _ _ _ _) ?_
                refine zw_iload_n 6 f106_5 rfl rfl ?_
                refine zw_ireturn f106_6 r106 u106 ⟨_, rfl, ?_⟩
                refine zw_ireturn f107_23 r107 u107 ⟨_, rfl, ?_⟩
                refine zw_ireturn f80_95 r80 u80 ?_
                exact ⟨_, _, _, _, rfl, (KQ.i rfl (KQ.tr (KQ.tr (KQ.a rfl KQ.rf) (KQ.wk K_s fSe_Hd pSe_Hd)) (KQ.wk K_u fLt_Hd pLt_Hd))), Or.inr ⟨hok1, hR4.k (show KQ (fun k j => decide (k = 0 ∧ j = 7)) p0 _ _ _ _ _ _ _ _ from KQ.i (k := 0) (j := 7) (v := 0) rfl KQ.rf) ⟨rfl, rfl⟩ (fun j _ _ => by simp) (p0_w 11), hL4, rfl⟩⟩
              · refine zw_aload_n 39 f17_38 rfl (zl1_ne rfl rfl rfl) ?_
                refine zw_getfield 42 f17_39 rfl g17_9_4 (hb_1 _ _ _ _) rfl ?_
                refine zw_iload_n 43 f17_42 rfl (zl1_ne rfl rfl rfl) ?_
                refine zw_iaload a.toNatClampNeg (P 53 a.toNatClampNeg) 44 f17_43 rfl (hb_2 _ _ _ _) rfl hc1 (zix (by decide) hc1 hc3) (congrFun ((hR.2.1 53 (by omega) (by omega))) a.toNatClampNeg) ?_
                refine zw_iconst 4 45 f17_44 rfl (by decide +kernel) ?_
                refine zw_ic_ne 48 52 f17_45 (by decide +kernel) rfl (fun hc8 => ?_) (fun hc8 => ?_)
                · refine zw_iconst 0 53 f17_52 rfl (by decide +kernel) ?_
                  refine zw_zreturn f17_53 r17 u17 (by decide +kernel) ⟨_, rfl, ?_⟩
                  refine zw_if_ne_f 39 64 f80_36 (by decide +kernel) rfl (by decide +kernel) ?_
                  refine zw_aload_n 40 f80_39 rfl rfl ?_
                  refine zw_getfield 43 f80_40 rfl g80_10_11 (hb_0 _ _ _ _) rfl ?_
                  refine zw_iload_n 44 f80_43 rfl rfl ?_
                  refine zw_virtual_i 47 0 0 [.ref 1, .int a] [(0, .ref 1), (1, .int a)] f80_44 rfl n80_112 k80_112_4 rfl (hb_1 _ _ _ _) (by decide +kernel) (Nat.le_of_ble_eq_true rfl) rfl rfl (by decide +kernel) (by decide +kernel) rfl (Nat.le_of_ble_eq_true rfl) rfl ?_
                  refine zw_iload_n 1 f15_0 rfl rfl ?_
                  refine zw_if_lt_f 4 27 f15_1 (by decide +kernel) rfl hc1 ?_
                  refine zw_iload_n 5 f15_4 rfl rfl ?_
                  refine zw_aload_n 6 f15_5 rfl rfl ?_
                  refine zw_getI (nI nv) 9 f15_6 rfl g15_39_4 (hb_1 _ _ _ _) rfl hR.1.1 ?_
                  refine zw_ic_ge_f 12 27 f15_9 (by decide +kernel) rfl hc2 ?_
                  refine zw_iload_n 13 f15_12 rfl rfl ?_
                  refine zw_bipush 8 15 f15_13 rfl (by decide +kernel) ?_
                  refine zw_ic_ge_f 18 27 f15_15 (by decide +kernel) rfl hc3 ?_
                  refine zw_aload_n 19 f15_18 rfl rfl ?_
                  refine zw_getfield 22 f15_19 rfl g15_9_4 (hb_1 _ _ _ _) rfl ?_
                  refine zw_iload_n 23 f15_22 rfl rfl ?_
                  refine zw_iaload a.toNatClampNeg (P 53 a.toNatClampNeg) 24 f15_23 rfl (hb_2 _ _ _ _) rfl hc1 (zix (by decide) hc1 hc3) (congrFun ((hR.2.1 53 (by omega) (by omega))) a.toNatClampNeg) ?_
                  refine zw_goto 28 f15_24 (by decide +kernel) ?_
                  refine zw_ireturn f15_28 r15 u15 ⟨_, rfl, ?_⟩
                  refine zw_iconst 1 48 f80_47 rfl (by decide +kernel) ?_
                  refine zw_ic_ne 51 68 f80_48 (by decide +kernel) rfl (fun hc9 => ?_) (fun hc9 => ?_)
                  · refine zw_iconst 0 69 f80_68 rfl (by decide +kernel) ?_
                    refine zw_istore_n _ 70 f80_69 rfl (by decide +kernel) rfl ?_
                    refine zw_iload_n 71 f80_70 rfl zl1_eq ?_
                    refine zw_if_ne_f 74 80 f80_71 (by decide +kernel) rfl (by decide +kernel) ?_
                    refine zw_aload_n 75 f80_74 rfl (zl1_ne rfl rfl rfl) ?_
                    refine zw_iconst 3 76 f80_75 rfl (by decide +kernel) ?_
                    refine zw_virtual_i 79 0 0 [.ref 0, .int 3] [(0, .ref 0), (1, .int 3)] f80_76 rfl n80_78 k80_78_11 rfl (hb_0 _ _ _ _) (by decide +kernel) (Nat.le_of_ble_eq_true rfl) rfl rfl (by decide +kernel) (by decide +kernel) rfl (Nat.le_of_ble_eq_true rfl) rfl ?_
                    refine zw_aload_n 1 f105_0 rfl rfl ?_
                    refine zw_iload_n 2 f105_1 rfl rfl ?_
                    refine zw_put _ 5 f105_2 rfl g105_70_11 (hb_0 _ _ _ _) rfl (Nat.le_of_ble_eq_true rfl) (by decide +kernel) (hi_0_7 _ _ _ _ _) ?_
                    refine zw_iconst (-1) 6 f105_5 rfl (by decide +kernel) ?_
                    refine zw_ireturn f105_6 r105 u105 ⟨_, rfl, ?_⟩
                    refine zw_ireturn f80_79 r80 u80 ?_
                    exact ⟨_, _, _, _, rfl, (KQ.i rfl KQ.rf), Or.inl ⟨(fun q => (fun q => k02 (hQ.1 a.toNatClampNeg ((qV.ofc (by omega) hc1 hc2)).1) hc9 hc7 hc8 q.1 q.2.1) q.2.2), hR.k (show KQ (fun k j => decide (k = 0 ∧ j = 7)) p0 _ _ _ _ _ _ _ _ from KQ.i (k := 0) (j := 7) (v := 3) rfl KQ.rf) ⟨rfl, rfl⟩ (fun j _ _ => by simp) (p0_w 11), hL, rfl⟩⟩
                  · refine zw_aload_n 52 f80_51 rfl rfl ?_
                    refine zw_getfield 55 f80_52 rfl g80_10_11 (hb_0 _ _ _ _) rfl ?_
                    refine zw_getfield 58 f80_55 rfl g80_115_4 (hb_1 _ _ _ _) rfl ?_
                    refine zw_iload_n 59 f80_58 rfl rfl ?_
                    refine zw_iaload b.toNatClampNeg (P 60 b.toNatClampNeg) 60 f80_59 rfl (hb_9 _ _ _ _) rfl hc4 (zix (by decide) hc4 hc6) (congrFun ((hR.2.1 60 (by omega) (by omega))) b.toNatClampNeg) ?_
                    refine zw_iload_n 61 f80_60 rfl rfl ?_
                    refine zw_ic_ne 64 68 f80_61 (by decide +kernel) rfl (fun hc10 => ?_) (fun hc10 => ?_)
                    · refine zw_iconst 0 69 f80_68 rfl (by decide +kernel) ?_
                      refine zw_istore_n _ 70 f80_69 rfl (by decide +kernel) rfl ?_
                      refine zw_iload_n 71 f80_70 rfl zl1_eq ?_
                      refine zw_if_ne_f 74 80 f80_71 (by decide +kernel) rfl (by decide +kernel) ?_
                      refine zw_aload_n 75 f80_74 rfl (zl1_ne rfl rfl rfl) ?_
                      refine zw_iconst 3 76 f80_75 rfl (by decide +kernel) ?_
                      refine zw_virtual_i 79 0 0 [.ref 0, .int 3] [(0, .ref 0), (1, .int 3)] f80_76 rfl n80_78 k80_78_11 rfl (hb_0 _ _ _ _) (by decide +kernel) (Nat.le_of_ble_eq_true rfl) rfl rfl (by decide +kernel) (by decide +kernel) rfl (Nat.le_of_ble_eq_true rfl) rfl ?_
                      refine zw_aload_n 1 f105_0 rfl rfl ?_
                      refine zw_iload_n 2 f105_1 rfl rfl ?_
                      refine zw_put _ 5 f105_2 rfl g105_70_11 (hb_0 _ _ _ _) rfl (Nat.le_of_ble_eq_true rfl) (by decide +kernel) (hi_0_7 _ _ _ _ _) ?_
                      refine zw_iconst (-1) 6 f105_5 rfl (by decide +kernel) ?_
                      refine zw_ireturn f105_6 r105 u105 ⟨_, rfl, ?_⟩
                      refine zw_ireturn f80_79 r80 u80 ?_
                      exact ⟨_, _, _, _, rfl, (KQ.i rfl KQ.rf), Or.inl ⟨(fun q => (fun q => q.2.2.elim (fun z => z (Decidable.of_not_not hc9)) hc10) q.2.2), hR.k (show KQ (fun k j => decide (k = 0 ∧ j = 7)) p0 _ _ _ _ _ _ _ _ from KQ.i (k := 0) (j := 7) (v := 3) rfl KQ.rf) ⟨rfl, rfl⟩ (fun j _ _ => by simp) (p0_w 11), hL, rfl⟩⟩
                    · refine zw_iconst 1 65 f80_64 rfl (by decide +kernel) ?_
                      refine zw_goto 69 f80_65 (by decide +kernel) ?_
                      refine zw_istore_n _ 70 f80_69 rfl (by decide +kernel) rfl ?_
                      refine zw_iload_n 71 f80_70 rfl zl1_eq ?_
                      refine zw_if_ne_t 80 f80_71 (by decide +kernel) (by decide +kernel) ?_
                      refine zw_aload_n 81 f80_80 rfl (zl1_ne rfl rfl rfl) ?_
                      refine zw_getfield 84 f80_81 rfl g80_10_11 (hb_0 _ _ _ _) rfl ?_
                      refine zw_getfield 87 f80_84 rfl g80_118_4 (hb_1 _ _ _ _) rfl ?_
                      refine zw_iload_n 88 f80_87 rfl (zl1_ne rfl rfl rfl) ?_
                      refine zw_iload_n 89 f80_88 rfl (zl1_ne rfl rfl rfl) ?_
                      refine zw_ast a.toNatClampNeg _ 90 f80_89 rfl (hb_6 _ _ _ _) rfl hc1 (zix (by decide) hc1 hc3) (ha_6 _ _ _ _ _) ?_
                      refine zw_aload_n 91 f80_90 rfl (zl1_ne rfl rfl rfl) ?_
                      refine zw_iconst 1 92 f80_91 rfl (by decide +kernel) ?_
                      refine zw_virtual_i 95 0 0 [.ref 0, .int 1] [(0, .ref 0), (1, .int 1)] f80_92 rfl n80_86 k80_86_11 rfl (hb_0 _ _ _ _) (by decide +kernel) (Nat.le_of_ble_eq_true rfl) rfl rfl (by decide +kernel) (by decide +kernel) rfl (Nat.le_of_ble_eq_true rfl) rfl ?_
                      refine zw_aload_n 1 f107_0 rfl rfl ?_
                      refine zw_getfield 4 f107_1 rfl g107_21_11 (hb_0 _ _ _ _) rfl ?_
                      refine zw_virtual_v 7 0 0 [.ref 11] [(0, .ref 11)] f107_4 rfl n107_318 k107_318_10 rfl (hb_11 _ _ _ _) (by decide +kernel) (Nat.le_of_ble_eq_true rfl) rfl rfl (by decide +kernel) (by decide +kernel) rfl (Nat.le_of_ble_eq_true rfl) rfl ?_
                      have hok1 : ok_own nv np P a b := ⟨(qV.ofc (by omega) hc1 hc2), (qV.ofc (by omega) hc4 hc5), kne (Decidable.of_not_not hc9) (by decide), kne (Decidable.of_not_not hc9) (by decide), Or.inr (Decidable.of_not_not hc10)⟩
                      obtain ⟨hp2, hW2⟩ := hok hok1
                      have hR2 : cRS 11 nv np (updA P 57 (upd (P 57) a.toNatClampNeg b)) W I G (updA A 6 (upd (A 6) a.toNatClampNeg b)) B := ⟨⟨hR.1.1, hR.1.2⟩, PE.of10 ((hR.2.1 53 (by omega) (by omega))) ((hR.2.1 54 (by omega) (by omega))) ((hR.2.1 55 (by omega) (by omega))) ((hR.2.1 56 (by omega) (by omega))) ((congrArg (fun z => upd z a.toNatClampNeg b) ((hR.2.1 57 (by omega) (by omega))))) ((hR.2.1 58 (by omega) (by omega))) ((hR.2.1 59 (by omega) (by omega))) ((hR.2.1 60 (by omega) (by omega))) ((hR.2.1 61 (by omega) (by omega))) ((hR.2.1 62 (by omega) (by omega))), ⟨hR.2.2.1.1, hR.2.2.1.2.1, hR.2.2.1.2.2.1, hR.2.2.1.2.2.2⟩, hR.2.2.2.1, hR.2.2.2.2.1, hR.2.2.2.2.2.1, hR.2.2.2.2.2.2⟩
                      have hL2 : cLg L I (updA A 6 (upd (A 6) a.toNatClampNeg b)) := hL
                      refine zWp.mono (cx_settle_11 ro nv np _ W 10000 (K + 1000) _ _ _ _ hR2 hp2 hW2.2.1 hW2.1 (by omega) (by omega)) ?_
                      rintro r h1 ⟨I_s, G_s, A_s, B_s, rfl, K_s, ⟨hR3, hH3⟩, rfl⟩
                      refine ⟨rfl, ?_⟩
                      have hL3 := hL2.k K_s rfl rfl rfl rfl rfl
                      refine zw_aload_n 8 f107_7 rfl rfl ?_
                      refine zw_getfield 11 f107_8 rfl g107_31_11 (hb_0 _ _ _ _) rfl ?_
                      refine zw_aload_n 12 f107_11 rfl rfl ?_
                      refine zw_getfield 15 f107_12 rfl g107_21_11 (hb_0 _ _ _ _) rfl ?_
                      refine zw_virtual_v 18 0 0 [.ref 33, .ref 11] [(0, .ref 33), (1, .ref 11)] f107_15 rfl n107_187 k107_187_3 rfl (hb_33 _ _ _ _) (by decide +kernel) (Nat.le_of_ble_eq_true rfl) rfl rfl (by decide +kernel) (by decide +kernel) rfl (Nat.le_of_ble_eq_true rfl) rfl ?_
                      have hq2 := mom_t hp2 hW2.2.1 hW2.1 (by omega) (by omega)
                      refine zWp.mono (cx_take ro _ _ _ _ _ _ W.2.1 W.1 so L (wEv nv _ W) hR3.2.2.1.2.1 hR3.2.2.1.1 hq2.1 hq2.2.1 hH3 hq2.2.2 hL3 (by omega)) ?_
                      rintro r h1 ⟨I_u, G_u, A_u, B_u, rfl, K_u, hL4, rfl⟩
                      refine ⟨rfl, ?_⟩
                      have hR4 := hR3.k K_u ⟨rfl, rfl⟩ fLt_w pLt_w
                      refine zw_aload_n 19 f107_18 rfl rfl ?_
                      refine zw_iload_n 20 f107_19 rfl rfl ?_
                      refine zw_virtual_i 23 0 0 [.ref 0, .int 1] [(0, .ref 0), (1, .int 1)] f107_20 rfl n107_181 k107_181_11 rfl (hb_0 _ _ _ _) (by decide +kernel) (Nat.le_of_ble_eq_true rfl) rfl rfl (by decide +kernel) (by decide +kernel) rfl (Nat.le_of_ble_eq_true rfl) rfl ?_
                      refine zw_aload_n 1 f106_0 rfl rfl ?_
                      refine zw_iconst 0 2 f106_1 rfl (by decide +kernel) ?_
                      refine zw_put _ 5 f106_2 rfl g106_70_11 (hb_0 _ _ _ _) rfl (Nat.le_of_ble_eq_true rfl) (by decide +kernel) (hi_0_7 _ _ _ _ _) ?_
                      refine zw_iload_n 6 f106_5 rfl rfl ?_
                      refine zw_ireturn f106_6 r106 u106 ⟨_, rfl, ?_⟩
                      refine zw_ireturn f107_23 r107 u107 ⟨_, rfl, ?_⟩
                      refine zw_ireturn f80_95 r80 u80 ?_
                      exact ⟨_, _, _, _, rfl, (KQ.i rfl (KQ.tr (KQ.tr (KQ.a rfl KQ.rf) (KQ.wk K_s fSe_Hd pSe_Hd)) (KQ.wk K_u fLt_Hd pLt_Hd))), Or.inr ⟨hok1, hR4.k (show KQ (fun k j => decide (k = 0 ∧ j = 7)) p0 _ _ _ _ _ _ _ _ from KQ.i (k := 0) (j := 7) (v := 0) rfl KQ.rf) ⟨rfl, rfl⟩ (fun j _ _ => by simp) (p0_w 11), hL4, rfl⟩⟩
                · refine zw_iconst 1 49 f17_48 rfl (by decide +kernel) ?_
                  refine zw_goto 53 f17_49 (by decide +kernel) ?_
                  refine zw_zreturn f17_53 r17 u17 (by decide +kernel) ⟨_, rfl, ?_⟩
                  refine zw_if_ne_t 64 f80_36 (by decide +kernel) (by decide +kernel) ?_
                  refine zw_iconst 1 65 f80_64 rfl (by decide +kernel) ?_
                  refine zw_goto 69 f80_65 (by decide +kernel) ?_
                  refine zw_istore_n _ 70 f80_69 rfl (by decide +kernel) rfl ?_
                  refine zw_iload_n 71 f80_70 rfl zl1_eq ?_
                  refine zw_if_ne_t 80 f80_71 (by decide +kernel) (by decide +kernel) ?_
                  refine zw_aload_n 81 f80_80 rfl (zl1_ne rfl rfl rfl) ?_
                  refine zw_getfield 84 f80_81 rfl g80_10_11 (hb_0 _ _ _ _) rfl ?_
                  refine zw_getfield 87 f80_84 rfl g80_118_4 (hb_1 _ _ _ _) rfl ?_
                  refine zw_iload_n 88 f80_87 rfl (zl1_ne rfl rfl rfl) ?_
                  refine zw_iload_n 89 f80_88 rfl (zl1_ne rfl rfl rfl) ?_
                  refine zw_ast a.toNatClampNeg _ 90 f80_89 rfl (hb_6 _ _ _ _) rfl hc1 (zix (by decide) hc1 hc3) (ha_6 _ _ _ _ _) ?_
                  refine zw_aload_n 91 f80_90 rfl (zl1_ne rfl rfl rfl) ?_
                  refine zw_iconst 1 92 f80_91 rfl (by decide +kernel) ?_
                  refine zw_virtual_i 95 0 0 [.ref 0, .int 1] [(0, .ref 0), (1, .int 1)] f80_92 rfl n80_86 k80_86_11 rfl (hb_0 _ _ _ _) (by decide +kernel) (Nat.le_of_ble_eq_true rfl) rfl rfl (by decide +kernel) (by decide +kernel) rfl (Nat.le_of_ble_eq_true rfl) rfl ?_
                  refine zw_aload_n 1 f107_0 rfl rfl ?_
                  refine zw_getfield 4 f107_1 rfl g107_21_11 (hb_0 _ _ _ _) rfl ?_
                  refine zw_virtual_v 7 0 0 [.ref 11] [(0, .ref 11)] f107_4 rfl n107_318 k107_318_10 rfl (hb_11 _ _ _ _) (by decide +kernel) (Nat.le_of_ble_eq_true rfl) rfl rfl (by decide +kernel) (by decide +kernel) rfl (Nat.le_of_ble_eq_true rfl) rfl ?_
                  have hok1 : ok_own nv np P a b := ⟨(qV.ofc (by omega) hc1 hc2), (qV.ofc (by omega) hc4 hc5), kne (Decidable.of_not_not hc8) (by decide), kne (Decidable.of_not_not hc8) (by decide), Or.inl (kne (Decidable.of_not_not hc8) (by decide))⟩
                  obtain ⟨hp2, hW2⟩ := hok hok1
                  have hR2 : cRS 11 nv np (updA P 57 (upd (P 57) a.toNatClampNeg b)) W I G (updA A 6 (upd (A 6) a.toNatClampNeg b)) B := ⟨⟨hR.1.1, hR.1.2⟩, PE.of10 ((hR.2.1 53 (by omega) (by omega))) ((hR.2.1 54 (by omega) (by omega))) ((hR.2.1 55 (by omega) (by omega))) ((hR.2.1 56 (by omega) (by omega))) ((congrArg (fun z => upd z a.toNatClampNeg b) ((hR.2.1 57 (by omega) (by omega))))) ((hR.2.1 58 (by omega) (by omega))) ((hR.2.1 59 (by omega) (by omega))) ((hR.2.1 60 (by omega) (by omega))) ((hR.2.1 61 (by omega) (by omega))) ((hR.2.1 62 (by omega) (by omega))), ⟨hR.2.2.1.1, hR.2.2.1.2.1, hR.2.2.1.2.2.1, hR.2.2.1.2.2.2⟩, hR.2.2.2.1, hR.2.2.2.2.1, hR.2.2.2.2.2.1, hR.2.2.2.2.2.2⟩
                  have hL2 : cLg L I (updA A 6 (upd (A 6) a.toNatClampNeg b)) := hL
                  refine zWp.mono (cx_settle_11 ro nv np _ W 10000 (K + 1000) _ _ _ _ hR2 hp2 hW2.2.1 hW2.1 (by omega) (by omega)) ?_
                  rintro r h1 ⟨I_s, G_s, A_s, B_s, rfl, K_s, ⟨hR3, hH3⟩, rfl⟩
                  refine ⟨rfl, ?_⟩
                  have hL3 := hL2.k K_s rfl rfl rfl rfl rfl
                  refine zw_aload_n 8 f107_7 rfl rfl ?_
                  refine zw_getfield 11 f107_8 rfl g107_31_11 (hb_0 _ _ _ _) rfl ?_
                  refine zw_aload_n 12 f107_11 rfl rfl ?_
                  refine zw_getfield 15 f107_12 rfl g107_21_11 (hb_0 _ _ _ _) rfl ?_
                  refine zw_virtual_v 18 0 0 [.ref 33, .ref 11] [(0, .ref 33), (1, .ref 11)] f107_15 rfl n107_187 k107_187_3 rfl (hb_33 _ _ _ _) (by decide +kernel) (Nat.le_of_ble_eq_true rfl) rfl rfl (by decide +kernel) (by decide +kernel) rfl (Nat.le_of_ble_eq_true rfl) rfl ?_
                  have hq2 := mom_t hp2 hW2.2.1 hW2.1 (by omega) (by omega)
                  refine zWp.mono (cx_take ro _ _ _ _ _ _ W.2.1 W.1 so L (wEv nv _ W) hR3.2.2.1.2.1 hR3.2.2.1.1 hq2.1 hq2.2.1 hH3 hq2.2.2 hL3 (by omega)) ?_
                  rintro r h1 ⟨I_u, G_u, A_u, B_u, rfl, K_u, hL4, rfl⟩
                  refine ⟨rfl, ?_⟩
                  have hR4 := hR3.k K_u ⟨rfl, rfl⟩ fLt_w pLt_w
                  refine zw_aload_n 19 f107_18 rfl rfl ?_
                  refine zw_iload_n 20 f107_19 rfl rfl ?_
                  refine zw_virtual_i 23 0 0 [.ref 0, .int 1] [(0, .ref 0), (1, .int 1)] f107_20 rfl n107_181 k107_181_11 rfl (hb_0 _ _ _ _) (by decide +kernel) (Nat.le_of_ble_eq_true rfl) rfl rfl (by decide +kernel) (by decide +kernel) rfl (Nat.le_of_ble_eq_true rfl) rfl ?_
                  refine zw_aload_n 1 f106_0 rfl rfl ?_
                  refine zw_iconst 0 2 f106_1 rfl (by decide +kernel) ?_
                  refine zw_put _ 5 f106_2 rfl g106_70_11 (hb_0 _ _ _ _) rfl (Nat.le_of_ble_eq_true rfl) (by decide +kernel) (hi_0_7 _ _ _ _ _) ?_
                  refine zw_iload_n 6 f106_5 rfl rfl ?_
                  refine zw_ireturn f106_6 r106 u106 ⟨_, rfl, ?_⟩
                  refine zw_ireturn f107_23 r107 u107 ⟨_, rfl, ?_⟩
                  refine zw_ireturn f80_95 r80 u80 ?_
                  exact ⟨_, _, _, _, rfl, (KQ.i rfl (KQ.tr (KQ.tr (KQ.a rfl KQ.rf) (KQ.wk K_s fSe_Hd pSe_Hd)) (KQ.wk K_u fLt_Hd pLt_Hd))), Or.inr ⟨hok1, hR4.k (show KQ (fun k j => decide (k = 0 ∧ j = 7)) p0 _ _ _ _ _ _ _ _ from KQ.i (k := 0) (j := 7) (v := 0) rfl KQ.rf) ⟨rfl, rfl⟩ (fun j _ _ => by simp) (p0_w 11), hL4, rfl⟩⟩
set_option maxRecDepth 100000 in
set_option maxHeartbeats 0 in
theorem cx_tips (ro : UInt32 → Nat × (Nat → Int32)) (nv np : Nat) (P : Nat → Nat → Int32) (W : qW) (L : qLog) (K : Int) (so : Int32) (I : Nat → Nat → Int32) (G : Nat → Nat → Int64) (A : Nat → Nat → Int32) (B : Nat → Nat → Int64) (hR : cRS 11 nv np P W I G A B) (hp : MPa nv np P) (hW : wInv nv 10000 K P W) (hQ : qKd nv P) (hL : cLg L I A) (hK : K ≤ 199000000) (hn : L.1 < 900000000) (a : Int32) (b : Int32) (hok : ok_tips nv np P a b → MPa nv np (updA P 58 (upd (P 58) a.toNatClampNeg b)) ∧ wInv nv 10000 (K + 1000) (updA P 58 (upd (P 58) a.toNatClampNeg b)) W) : zWp ro 81 0 [(0, .ref 0), (1, .int a), (2, .int b)] [] (hS I G A B) 0 0 (fun r h1 => ∃ I2 G2 A2 B2, h1 = hS I2 G2 A2 B2 ∧ KQ fHd pHd I G A B I2 G2 A2 B2 ∧ ((¬ ok_tips nv np P a b ∧ cRS 11 nv np P W I2 G2 A2 B2 ∧ cLg L I2 A2 ∧ r = some (.int (-1))) ∨ (ok_tips nv np P a b ∧ cRS 11 nv np (updA P 58 (upd (P 58) a.toNatClampNeg b)) (wMom nv (updA P 58 (upd (P 58) a.toNatClampNeg b)) W) I2 G2 A2 B2 ∧ cLg (qNotes 1 W.2.1 W.1 so L (wEv nv (updA P 58 (upd (P 58) a.toNatClampNeg b)) W)) I2 A2 ∧ r = some (.int 1)))) := by
  have h8 := hp.1
  have h14 := hp.2.1
  have hg : 1 ≤ W.1.toInt ∧ W.1.toInt ≤ 10000 := hW.1.1.1
  refine zw_aload_n 1 f81_0 rfl rfl ?_
  refine zw_getfield 4 f81_1 rfl g81_10_11 (hb_0 _ _ _ _) rfl ?_
  refine zw_iload_n 5 f81_4 rfl rfl ?_
  refine zw_virtual_i 8 0 0 [.ref 1, .int a] [(0, .ref 1), (1, .int a)] f81_5 rfl n81_89 k81_89_4 rfl (hb_1 _ _ _ _) (by decide +kernel) (Nat.le_of_ble_eq_true rfl) rfl rfl (by decide +kernel) (by decide +kernel) rfl (Nat.le_of_ble_eq_true rfl) rfl ?_
  refine zw_iload_n 1 f13_0 rfl rfl ?_
  refine zw_if_lt 4 22 f13_1 (by decide +kernel) rfl (fun hc1 => ?_) (fun hc1 => ?_)
  · refine zw_iconst 0 23 f13_22 rfl (by decide +kernel) ?_
    refine zw_zreturn f13_23 r13 u13 (by decide +kernel) ⟨_, rfl, ?_⟩
    refine zw_if_eq_t 23 f81_8 (by decide +kernel) (by decide +kernel) ?_
    refine zw_aload_n 24 f81_23 rfl rfl ?_
    refine zw_iconst 1 25 f81_24 rfl (by decide +kernel) ?_
    refine zw_virtual_i 28 0 0 [.ref 0, .int 1] [(0, .ref 0), (1, .int 1)] f81_25 rfl n81_78 k81_78_11 rfl (hb_0 _ _ _ _) (by decide +kernel) (Nat.le_of_ble_eq_true rfl) rfl rfl (by decide +kernel) (by decide +kernel) rfl (Nat.le_of_ble_eq_true rfl) rfl ?_
    refine zw_aload_n 1 f105_0 rfl rfl ?_
    refine zw_iload_n 2 f105_1 rfl rfl ?_
    refine zw_put _ 5 f105_2 rfl g105_70_11 (hb_0 _ _ _ _) rfl (Nat.le_of_ble_eq_true rfl) (by decide +kernel) (hi_0_7 _ _ _ _ _) ?_
    refine zw_iconst (-1) 6 f105_5 rfl (by decide +kernel) ?_
    refine zw_ireturn f105_6 r105 u105 ⟨_, rfl, ?_⟩
    refine zw_ireturn f81_28 r81 u81 ?_
    exact ⟨_, _, _, _, rfl, (KQ.i rfl KQ.rf), Or.inl ⟨(fun q => (qV.n0 (by omega) hc1) q.1), hR.k (show KQ (fun k j => decide (k = 0 ∧ j = 7)) p0 _ _ _ _ _ _ _ _ from KQ.i (k := 0) (j := 7) (v := 1) rfl KQ.rf) ⟨rfl, rfl⟩ (fun j _ _ => by simp) (p0_w 11), hL, rfl⟩⟩
  · refine zw_iload_n 5 f13_4 rfl rfl ?_
    refine zw_aload_n 6 f13_5 rfl rfl ?_
    refine zw_getI (nI nv) 9 f13_6 rfl g13_39_4 (hb_1 _ _ _ _) rfl hR.1.1 ?_
    refine zw_ic_ge 12 22 f13_9 (by decide +kernel) rfl (fun hc2 => ?_) (fun hc2 => ?_)
    · refine zw_iconst 0 23 f13_22 rfl (by decide +kernel) ?_
      refine zw_zreturn f13_23 r13 u13 (by decide +kernel) ⟨_, rfl, ?_⟩
      refine zw_if_eq_t 23 f81_8 (by decide +kernel) (by decide +kernel) ?_
      refine zw_aload_n 24 f81_23 rfl rfl ?_
      refine zw_iconst 1 25 f81_24 rfl (by decide +kernel) ?_
      refine zw_virtual_i 28 0 0 [.ref 0, .int 1] [(0, .ref 0), (1, .int 1)] f81_25 rfl n81_78 k81_78_11 rfl (hb_0 _ _ _ _) (by decide +kernel) (Nat.le_of_ble_eq_true rfl) rfl rfl (by decide +kernel) (by decide +kernel) rfl (Nat.le_of_ble_eq_true rfl) rfl ?_
      refine zw_aload_n 1 f105_0 rfl rfl ?_
      refine zw_iload_n 2 f105_1 rfl rfl ?_
      refine zw_put _ 5 f105_2 rfl g105_70_11 (hb_0 _ _ _ _) rfl (Nat.le_of_ble_eq_true rfl) (by decide +kernel) (hi_0_7 _ _ _ _ _) ?_
      refine zw_iconst (-1) 6 f105_5 rfl (by decide +kernel) ?_
      refine zw_ireturn f105_6 r105 u105 ⟨_, rfl, ?_⟩
      refine zw_ireturn f81_28 r81 u81 ?_
      exact ⟨_, _, _, _, rfl, (KQ.i rfl KQ.rf), Or.inl ⟨(fun q => (qV.n2 (by omega) hc2) q.1), hR.k (show KQ (fun k j => decide (k = 0 ∧ j = 7)) p0 _ _ _ _ _ _ _ _ from KQ.i (k := 0) (j := 7) (v := 1) rfl KQ.rf) ⟨rfl, rfl⟩ (fun j _ _ => by simp) (p0_w 11), hL, rfl⟩⟩
    · refine zw_iload_n 13 f13_12 rfl rfl ?_
      refine zw_bipush 8 15 f13_13 rfl (by decide +kernel) ?_
      refine zw_ic_ge 18 22 f13_15 (by decide +kernel) rfl (fun hc3 => ?_) (fun hc3 => ?_)
      · refine zw_iconst 0 23 f13_22 rfl (by decide +kernel) ?_
        refine zw_zreturn f13_23 r13 u13 (by decide +kernel) ⟨_, rfl, ?_⟩
        refine zw_if_eq_t 23 f81_8 (by decide +kernel) (by decide +kernel) ?_
        refine zw_aload_n 24 f81_23 rfl rfl ?_
        refine zw_iconst 1 25 f81_24 rfl (by decide +kernel) ?_
        refine zw_virtual_i 28 0 0 [.ref 0, .int 1] [(0, .ref 0), (1, .int 1)] f81_25 rfl n81_78 k81_78_11 rfl (hb_0 _ _ _ _) (by decide +kernel) (Nat.le_of_ble_eq_true rfl) rfl rfl (by decide +kernel) (by decide +kernel) rfl (Nat.le_of_ble_eq_true rfl) rfl ?_
        refine zw_aload_n 1 f105_0 rfl rfl ?_
        refine zw_iload_n 2 f105_1 rfl rfl ?_
        refine zw_put _ 5 f105_2 rfl g105_70_11 (hb_0 _ _ _ _) rfl (Nat.le_of_ble_eq_true rfl) (by decide +kernel) (hi_0_7 _ _ _ _ _) ?_
        refine zw_iconst (-1) 6 f105_5 rfl (by decide +kernel) ?_
        refine zw_ireturn f105_6 r105 u105 ⟨_, rfl, ?_⟩
        refine zw_ireturn f81_28 r81 u81 ?_
        exact ⟨_, _, _, _, rfl, (KQ.i rfl KQ.rf), Or.inl ⟨(fun q => (qV.n3 (m := 8) (N := 8) (by omega) (by omega) (by decide) hc3) q.1), hR.k (show KQ (fun k j => decide (k = 0 ∧ j = 7)) p0 _ _ _ _ _ _ _ _ from KQ.i (k := 0) (j := 7) (v := 1) rfl KQ.rf) ⟨rfl, rfl⟩ (fun j _ _ => by simp) (p0_w 11), hL, rfl⟩⟩
      · refine zw_iconst 1 19 f13_18 rfl (by decide +kernel) ?_
        refine zw_goto 23 f13_19 (by decide +kernel) ?_
        refine zw_zreturn f13_23 r13 u13 (by decide +kernel) ⟨_, rfl, ?_⟩
        refine zw_if_eq_f 11 23 f81_8 (by decide +kernel) rfl (by decide +kernel) ?_
        refine zw_aload_n 12 f81_11 rfl rfl ?_
        refine zw_getfield 15 f81_12 rfl g81_10_11 (hb_0 _ _ _ _) rfl ?_
        refine zw_iload_n 16 f81_15 rfl rfl ?_
        refine zw_iload_n 17 f81_16 rfl rfl ?_
        refine zw_virtual_i 20 0 0 [.ref 1, .int b, .int a] [(0, .ref 1), (1, .int b), (2, .int a)] f81_17 rfl n81_121 k81_121_4 rfl (hb_1 _ _ _ _) (by decide +kernel) (Nat.le_of_ble_eq_true rfl) rfl rfl (by decide +kernel) (by decide +kernel) rfl (Nat.le_of_ble_eq_true rfl) rfl ?_
        refine zw_iload_n 1 f19_0 rfl rfl ?_
        refine zw_iconst (-1) 2 f19_1 rfl (by decide +kernel) ?_
        refine zw_ic_eq 5 18 f19_2 (by decide +kernel) rfl (fun hc4 => ?_) (fun hc4 => ?_)
        · refine zw_iconst 1 19 f19_18 rfl (by decide +kernel) ?_
          refine zw_goto 23 f19_19 (by decide +kernel) ?_
          refine zw_zreturn f19_23 r19 u19 (by decide +kernel) ⟨_, rfl, ?_⟩
          refine zw_if_ne_t 29 f81_20 (by decide +kernel) (by decide +kernel) ?_
          refine zw_aload_n 30 f81_29 rfl rfl ?_
          refine zw_getfield 33 f81_30 rfl g81_10_11 (hb_0 _ _ _ _) rfl ?_
          refine zw_iload_n 34 f81_33 rfl rfl ?_
          refine zw_virtual_i 37 0 0 [.ref 1, .int a] [(0, .ref 1), (1, .int a)] f81_34 rfl n81_112 k81_112_4 rfl (hb_1 _ _ _ _) (by decide +kernel) (Nat.le_of_ble_eq_true rfl) rfl rfl (by decide +kernel) (by decide +kernel) rfl (Nat.le_of_ble_eq_true rfl) rfl ?_
          refine zw_iload_n 1 f15_0 rfl rfl ?_
          refine zw_if_lt_f 4 27 f15_1 (by decide +kernel) rfl hc1 ?_
          refine zw_iload_n 5 f15_4 rfl rfl ?_
          refine zw_aload_n 6 f15_5 rfl rfl ?_
          refine zw_getI (nI nv) 9 f15_6 rfl g15_39_4 (hb_1 _ _ _ _) rfl hR.1.1 ?_
          refine zw_ic_ge_f 12 27 f15_9 (by decide +kernel) rfl hc2 ?_
          refine zw_iload_n 13 f15_12 rfl rfl ?_
          refine zw_bipush 8 15 f15_13 rfl (by decide +kernel) ?_
          refine zw_ic_ge_f 18 27 f15_15 (by decide +kernel) rfl hc3 ?_
          refine zw_aload_n 19 f15_18 rfl rfl ?_
          refine zw_getfield 22 f15_19 rfl g15_9_4 (hb_1 _ _ _ _) rfl ?_
          refine zw_iload_n 23 f15_22 rfl rfl ?_
          refine zw_iaload a.toNatClampNeg (P 53 a.toNatClampNeg) 24 f15_23 rfl (hb_2 _ _ _ _) rfl hc1 (zix (by decide) hc1 hc3) (congrFun ((hR.2.1 53 (by omega) (by omega))) a.toNatClampNeg) ?_
          refine zw_goto 28 f15_24 (by decide +kernel) ?_
          refine zw_ireturn f15_28 r15 u15 ⟨_, rfl, ?_⟩
          refine zw_iconst 2 38 f81_37 rfl (by decide +kernel) ?_
          refine zw_ic_eq 41 47 f81_38 (by decide +kernel) rfl (fun hc5 => ?_) (fun hc5 => ?_)
          · refine zw_aload_n 48 f81_47 rfl rfl ?_
            refine zw_getfield 51 f81_48 rfl g81_10_11 (hb_0 _ _ _ _) rfl ?_
            refine zw_getfield 54 f81_51 rfl g81_125_4 (hb_1 _ _ _ _) rfl ?_
            refine zw_iload_n 55 f81_54 rfl rfl ?_
            refine zw_iload_n 56 f81_55 rfl rfl ?_
            refine zw_ast a.toNatClampNeg _ 57 f81_56 rfl (hb_7 _ _ _ _) rfl hc1 (zix (by decide) hc1 hc3) (ha_7 _ _ _ _ _) ?_
            refine zw_aload_n 58 f81_57 rfl rfl ?_
            refine zw_iconst 1 59 f81_58 rfl (by decide +kernel) ?_
            refine zw_virtual_i 62 0 0 [.ref 0, .int 1] [(0, .ref 0), (1, .int 1)] f81_59 rfl n81_86 k81_86_11 rfl (hb_0 _ _ _ _) (by decide +kernel) (Nat.le_of_ble_eq_true rfl) rfl rfl (by decide +kernel) (by decide +kernel) rfl (Nat.le_of_ble_eq_true rfl) rfl ?_
            refine zw_aload_n 1 f107_0 rfl rfl ?_
            refine zw_getfield 4 f107_1 rfl g107_21_11 (hb_0 _ _ _ _) rfl ?_
            refine zw_virtual_v 7 0 0 [.ref 11] [(0, .ref 11)] f107_4 rfl n107_318 k107_318_10 rfl (hb_11 _ _ _ _) (by decide +kernel) (Nat.le_of_ble_eq_true rfl) rfl rfl (by decide +kernel) (by decide +kernel) rfl (Nat.le_of_ble_eq_true rfl) rfl ?_
            have hok1 : ok_tips nv np P a b := ⟨(qV.ofc (by omega) hc1 hc2), (Or.inl hc4), hc5⟩
            obtain ⟨hp2, hW2⟩ := hok hok1
            have hR2 : cRS 11 nv np (updA P 58 (upd (P 58) a.toNatClampNeg b)) W I G (updA A 7 (upd (A 7) a.toNatClampNeg b)) B := ⟨⟨hR.1.1, hR.1.2⟩, PE.of10 ((hR.2.1 53 (by omega) (by omega))) ((hR.2.1 54 (by omega) (by omega))) ((hR.2.1 55 (by omega) (by omega))) ((hR.2.1 56 (by omega) (by omega))) ((hR.2.1 57 (by omega) (by omega))) ((congrArg (fun z => upd z a.toNatClampNeg b) ((hR.2.1 58 (by omega) (by omega))))) ((hR.2.1 59 (by omega) (by omega))) ((hR.2.1 60 (by omega) (by omega))) ((hR.2.1 61 (by omega) (by omega))) ((hR.2.1 62 (by omega) (by omega))), ⟨hR.2.2.1.1, hR.2.2.1.2.1, hR.2.2.1.2.2.1, hR.2.2.1.2.2.2⟩, hR.2.2.2.1, hR.2.2.2.2.1, hR.2.2.2.2.2.1, hR.2.2.2.2.2.2⟩
            have hL2 : cLg L I (updA A 7 (upd (A 7) a.toNatClampNeg b)) := hL
            refine zWp.mono (cx_settle_11 ro nv np _ W 10000 (K + 1000) _ _ _ _ hR2 hp2 hW2.2.1 hW2.1 (by omega) (by omega)) ?_
            rintro r h1 ⟨I_s, G_s, A_s, B_s, rfl, K_s, ⟨hR3, hH3⟩, rfl⟩
            refine ⟨rfl, ?_⟩
            have hL3 := hL2.k K_s rfl rfl rfl rfl rfl
            refine zw_aload_n 8 f107_7 rfl rfl ?_
            refine zw_getfield 11 f107_8 rfl g107_31_11 (hb_0 _ _ _ _) rfl ?_
            refine zw_aload_n 12 f107_11 rfl rfl ?_
            refine zw_getfield 15 f107_12 rfl g107_21_11 (hb_0 _ _ _ _) rfl ?_
            refine zw_virtual_v 18 0 0 [.ref 33, .ref 11] [(0, .ref 33), (1, .ref 11)] f107_15 rfl n107_187 k107_187_3 rfl (hb_33 _ _ _ _) (by decide +kernel) (Nat.le_of_ble_eq_true rfl) rfl rfl (by decide +kernel) (by decide +kernel) rfl (Nat.le_of_ble_eq_true rfl) rfl ?_
            have hq2 := mom_t hp2 hW2.2.1 hW2.1 (by omega) (by omega)
            refine zWp.mono (cx_take ro _ _ _ _ _ _ W.2.1 W.1 so L (wEv nv _ W) hR3.2.2.1.2.1 hR3.2.2.1.1 hq2.1 hq2.2.1 hH3 hq2.2.2 hL3 (by omega)) ?_
            rintro r h1 ⟨I_u, G_u, A_u, B_u, rfl, K_u, hL4, rfl⟩
            refine ⟨rfl, ?_⟩
            have hR4 := hR3.k K_u ⟨rfl, rfl⟩ fLt_w pLt_w
            refine zw_aload_n 19 f107_18 rfl rfl ?_
            refine zw_iload_n 20 f107_19 rfl rfl ?_
            refine zw_virtual_i 23 0 0 [.ref 0, .int 1] [(0, .ref 0), (1, .int 1)] f107_20 rfl n107_181 k107_181_11 rfl (hb_0 _ _ _ _) (by decide +kernel) (Nat.le_of_ble_eq_true rfl) rfl rfl (by decide +kernel) (by decide +kernel) rfl (Nat.le_of_ble_eq_true rfl) rfl ?_
            refine zw_aload_n 1 f106_0 rfl rfl ?_
            refine zw_iconst 0 2 f106_1 rfl (by decide +kernel) ?_
            refine zw_put _ 5 f106_2 rfl g106_70_11 (hb_0 _ _ _ _) rfl (Nat.le_of_ble_eq_true rfl) (by decide +kernel) (hi_0_7 _ _ _ _ _) ?_
            refine zw_iload_n 6 f106_5 rfl rfl ?_
            refine zw_ireturn f106_6 r106 u106 ⟨_, rfl, ?_⟩
            refine zw_ireturn f107_23 r107 u107 ⟨_, rfl, ?_⟩
            refine zw_ireturn f81_62 r81 u81 ?_
            exact ⟨_, _, _, _, rfl, (KQ.i rfl (KQ.tr (KQ.tr (KQ.a rfl KQ.rf) (KQ.wk K_s fSe_Hd pSe_Hd)) (KQ.wk K_u fLt_Hd pLt_Hd))), Or.inr ⟨hok1, hR4.k (show KQ (fun k j => decide (k = 0 ∧ j = 7)) p0 _ _ _ _ _ _ _ _ from KQ.i (k := 0) (j := 7) (v := 0) rfl KQ.rf) ⟨rfl, rfl⟩ (fun j _ _ => by simp) (p0_w 11), hL4, rfl⟩⟩
          · refine zw_aload_n 42 f81_41 rfl rfl ?_
            refine zw_iconst 3 43 f81_42 rfl (by decide +kernel) ?_
            refine zw_virtual_i 46 0 0 [.ref 0, .int 3] [(0, .ref 0), (1, .int 3)] f81_43 rfl n81_78 k81_78_11 rfl (hb_0 _ _ _ _) (by decide +kernel) (Nat.le_of_ble_eq_true rfl) rfl rfl (by decide +kernel) (by decide +kernel) rfl (Nat.le_of_ble_eq_true rfl) rfl ?_
            refine zw_aload_n 1 f105_0 rfl rfl ?_
            refine zw_iload_n 2 f105_1 rfl rfl ?_
            refine zw_put _ 5 f105_2 rfl g105_70_11 (hb_0 _ _ _ _) rfl (Nat.le_of_ble_eq_true rfl) (by decide +kernel) (hi_0_7 _ _ _ _ _) ?_
            refine zw_iconst (-1) 6 f105_5 rfl (by decide +kernel) ?_
            refine zw_ireturn f105_6 r105 u105 ⟨_, rfl, ?_⟩
            refine zw_ireturn f81_46 r81 u81 ?_
            exact ⟨_, _, _, _, rfl, (KQ.i rfl KQ.rf), Or.inl ⟨(fun q => hc5 q.2.2), hR.k (show KQ (fun k j => decide (k = 0 ∧ j = 7)) p0 _ _ _ _ _ _ _ _ from KQ.i (k := 0) (j := 7) (v := 3) rfl KQ.rf) ⟨rfl, rfl⟩ (fun j _ _ => by simp) (p0_w 11), hL, rfl⟩⟩
        · refine zw_aload_n 6 f19_5 rfl rfl ?_
          refine zw_iload_n 7 f19_6 rfl rfl ?_
          refine zw_virtual_i 10 0 0 [.ref 1, .int b] [(0, .ref 1), (1, .int b)] f19_7 rfl n19_46 k19_46_4 rfl (hb_1 _ _ _ _) (by decide +kernel) (Nat.le_of_ble_eq_true rfl) rfl rfl (by decide +kernel) (by decide +kernel) rfl (Nat.le_of_ble_eq_true rfl) rfl ?_
          refine zw_iload_n 1 f13_0 rfl rfl ?_
          refine zw_if_lt 4 22 f13_1 (by decide +kernel) rfl (fun hc6 => ?_) (fun hc6 => ?_)
          · refine zw_iconst 0 23 f13_22 rfl (by decide +kernel) ?_
            refine zw_zreturn f13_23 r13 u13 (by decide +kernel) ⟨_, rfl, ?_⟩
            refine zw_if_eq_t 22 f19_10 (by decide +kernel) (by decide +kernel) ?_
            refine zw_iconst 0 23 f19_22 rfl (by decide +kernel) ?_
            refine zw_zreturn f19_23 r19 u19 (by decide +kernel) ⟨_, rfl, ?_⟩
            refine zw_if_ne_f 23 29 f81_20 (by decide +kernel) rfl (by decide +kernel) ?_
            refine zw_aload_n 24 f81_23 rfl rfl ?_
            refine zw_iconst 1 25 f81_24 rfl (by decide +kernel) ?_
            refine zw_virtual_i 28 0 0 [.ref 0, .int 1] [(0, .ref 0), (1, .int 1)] f81_25 rfl n81_78 k81_78_11 rfl (hb_0 _ _ _ _) (by decide +kernel) (Nat.le_of_ble_eq_true rfl) rfl rfl (by decide +kernel) (by decide +kernel) rfl (Nat.le_of_ble_eq_true rfl) rfl ?_
            refine zw_aload_n 1 f105_0 rfl rfl ?_
            refine zw_iload_n 2 f105_1 rfl rfl ?_
            refine zw_put _ 5 f105_2 rfl g105_70_11 (hb_0 _ _ _ _) rfl (Nat.le_of_ble_eq_true rfl) (by decide +kernel) (hi_0_7 _ _ _ _ _) ?_
            refine zw_iconst (-1) 6 f105_5 rfl (by decide +kernel) ?_
            refine zw_ireturn f105_6 r105 u105 ⟨_, rfl, ?_⟩
            refine zw_ireturn f81_28 r81 u81 ?_
            exact ⟨_, _, _, _, rfl, (KQ.i rfl KQ.rf), Or.inl ⟨(fun q => (fun q => q.elim hc4 (fun z => (qV.n0 (by omega) hc6) z.1)) q.2.1), hR.k (show KQ (fun k j => decide (k = 0 ∧ j = 7)) p0 _ _ _ _ _ _ _ _ from KQ.i (k := 0) (j := 7) (v := 1) rfl KQ.rf) ⟨rfl, rfl⟩ (fun j _ _ => by simp) (p0_w 11), hL, rfl⟩⟩
          · refine zw_iload_n 5 f13_4 rfl rfl ?_
            refine zw_aload_n 6 f13_5 rfl rfl ?_
            refine zw_getI (nI nv) 9 f13_6 rfl g13_39_4 (hb_1 _ _ _ _) rfl hR.1.1 ?_
            refine zw_ic_ge 12 22 f13_9 (by decide +kernel) rfl (fun hc7 => ?_) (fun hc7 => ?_)
            · refine zw_iconst 0 23 f13_22 rfl (by decide +kernel) ?_
              refine zw_zreturn f13_23 r13 u13 (by decide +kernel) ⟨_, rfl, ?_⟩
              refine zw_if_eq_t 22 f19_10 (by decide +kernel) (by decide +kernel) ?_
              refine zw_iconst 0 23 f19_22 rfl (by decide +kernel) ?_
              refine zw_zreturn f19_23 r19 u19 (by decide +kernel) ⟨_, rfl, ?_⟩
              refine zw_if_ne_f 23 29 f81_20 (by decide +kernel) rfl (by decide +kernel) ?_
              refine zw_aload_n 24 f81_23 rfl rfl ?_
              refine zw_iconst 1 25 f81_24 rfl (by decide +kernel) ?_
              refine zw_virtual_i 28 0 0 [.ref 0, .int 1] [(0, .ref 0), (1, .int 1)] f81_25 rfl n81_78 k81_78_11 rfl (hb_0 _ _ _ _) (by decide +kernel) (Nat.le_of_ble_eq_true rfl) rfl rfl (by decide +kernel) (by decide +kernel) rfl (Nat.le_of_ble_eq_true rfl) rfl ?_
              refine zw_aload_n 1 f105_0 rfl rfl ?_
              refine zw_iload_n 2 f105_1 rfl rfl ?_
              refine zw_put _ 5 f105_2 rfl g105_70_11 (hb_0 _ _ _ _) rfl (Nat.le_of_ble_eq_true rfl) (by decide +kernel) (hi_0_7 _ _ _ _ _) ?_
              refine zw_iconst (-1) 6 f105_5 rfl (by decide +kernel) ?_
              refine zw_ireturn f105_6 r105 u105 ⟨_, rfl, ?_⟩
              refine zw_ireturn f81_28 r81 u81 ?_
              exact ⟨_, _, _, _, rfl, (KQ.i rfl KQ.rf), Or.inl ⟨(fun q => (fun q => q.elim hc4 (fun z => (qV.n2 (by omega) hc7) z.1)) q.2.1), hR.k (show KQ (fun k j => decide (k = 0 ∧ j = 7)) p0 _ _ _ _ _ _ _ _ from KQ.i (k := 0) (j := 7) (v := 1) rfl KQ.rf) ⟨rfl, rfl⟩ (fun j _ _ => by simp) (p0_w 11), hL, rfl⟩⟩
            · refine zw_iload_n 13 f13_12 rfl rfl ?_
              refine zw_bipush 8 15 f13_13 rfl (by decide +kernel) ?_
              refine zw_ic_ge 18 22 f13_15 (by decide +kernel) rfl (fun hc8 => ?_) (fun hc8 => ?_)
              · refine zw_iconst 0 23 f13_22 rfl (by decide +kernel) ?_
                refine zw_zreturn f13_23 r13 u13 (by decide +kernel) ⟨_, rfl, ?_⟩
                refine zw_if_eq_t 22 f19_10 (by decide +kernel) (by decide +kernel) ?_
                refine zw_iconst 0 23 f19_22 rfl (by decide +kernel) ?_
                refine zw_zreturn f19_23 r19 u19 (by decide +kernel) ⟨_, rfl, ?_⟩
                refine zw_if_ne_f 23 29 f81_20 (by decide +kernel) rfl (by decide +kernel) ?_
                refine zw_aload_n 24 f81_23 rfl rfl ?_
                refine zw_iconst 1 25 f81_24 rfl (by decide +kernel) ?_
                refine zw_virtual_i 28 0 0 [.ref 0, .int 1] [(0, .ref 0), (1, .int 1)] f81_25 rfl n81_78 k81_78_11 rfl (hb_0 _ _ _ _) (by decide +kernel) (Nat.le_of_ble_eq_true rfl) rfl rfl (by decide +kernel) (by decide +kernel) rfl (Nat.le_of_ble_eq_true rfl) rfl ?_
                refine zw_aload_n 1 f105_0 rfl rfl ?_
                refine zw_iload_n 2 f105_1 rfl rfl ?_
                refine zw_put _ 5 f105_2 rfl g105_70_11 (hb_0 _ _ _ _) rfl (Nat.le_of_ble_eq_true rfl) (by decide +kernel) (hi_0_7 _ _ _ _ _) ?_
                refine zw_iconst (-1) 6 f105_5 rfl (by decide +kernel) ?_
                refine zw_ireturn f105_6 r105 u105 ⟨_, rfl, ?_⟩
                refine zw_ireturn f81_28 r81 u81 ?_
                exact ⟨_, _, _, _, rfl, (KQ.i rfl KQ.rf), Or.inl ⟨(fun q => (fun q => q.elim hc4 (fun z => (qV.n3 (m := 8) (N := 8) (by omega) (by omega) (by decide) hc8) z.1)) q.2.1), hR.k (show KQ (fun k j => decide (k = 0 ∧ j = 7)) p0 _ _ _ _ _ _ _ _ from KQ.i (k := 0) (j := 7) (v := 1) rfl KQ.rf) ⟨rfl, rfl⟩ (fun j _ _ => by simp) (p0_w 11), hL, rfl⟩⟩
              · refine zw_iconst 1 19 f13_18 rfl (by decide +kernel) ?_
                refine zw_goto 23 f13_19 (by decide +kernel) ?_
                refine zw_zreturn f13_23 r13 u13 (by decide +kernel) ⟨_, rfl, ?_⟩
                refine zw_if_eq_f 13 22 f19_10 (by decide +kernel) rfl (by decide +kernel) ?_
                refine zw_iload_n 14 f19_13 rfl rfl ?_
                refine zw_iload_n 15 f19_14 rfl rfl ?_
                refine zw_ic_le 18 22 f19_15 (by decide +kernel) rfl (fun hc9 => ?_) (fun hc9 => ?_)
                · refine zw_iconst 0 23 f19_22 rfl (by decide +kernel) ?_
                  refine zw_zreturn f19_23 r19 u19 (by decide +kernel) ⟨_, rfl, ?_⟩
                  refine zw_if_ne_f 23 29 f81_20 (by decide +kernel) rfl (by decide +kernel) ?_
                  refine zw_aload_n 24 f81_23 rfl rfl ?_
                  refine zw_iconst 1 25 f81_24 rfl (by decide +kernel) ?_
                  refine zw_virtual_i 28 0 0 [.ref 0, .int 1] [(0, .ref 0), (1, .int 1)] f81_25 rfl n81_78 k81_78_11 rfl (hb_0 _ _ _ _) (by decide +kernel) (Nat.le_of_ble_eq_true rfl) rfl rfl (by decide +kernel) (by decide +kernel) rfl (Nat.le_of_ble_eq_true rfl) rfl ?_
                  refine zw_aload_n 1 f105_0 rfl rfl ?_
                  refine zw_iload_n 2 f105_1 rfl rfl ?_
                  refine zw_put _ 5 f105_2 rfl g105_70_11 (hb_0 _ _ _ _) rfl (Nat.le_of_ble_eq_true rfl) (by decide +kernel) (hi_0_7 _ _ _ _ _) ?_
                  refine zw_iconst (-1) 6 f105_5 rfl (by decide +kernel) ?_
                  refine zw_ireturn f105_6 r105 u105 ⟨_, rfl, ?_⟩
                  refine zw_ireturn f81_28 r81 u81 ?_
                  exact ⟨_, _, _, _, rfl, (KQ.i rfl KQ.rf), Or.inl ⟨(fun q => (fun q => q.elim hc4 (fun z => z.2 hc9)) q.2.1), hR.k (show KQ (fun k j => decide (k = 0 ∧ j = 7)) p0 _ _ _ _ _ _ _ _ from KQ.i (k := 0) (j := 7) (v := 1) rfl KQ.rf) ⟨rfl, rfl⟩ (fun j _ _ => by simp) (p0_w 11), hL, rfl⟩⟩
                · refine zw_iconst 1 19 f19_18 rfl (by decide +kernel) ?_
                  refine zw_goto 23 f19_19 (by decide +kernel) ?_
                  refine zw_zreturn f19_23 r19 u19 (by decide +kernel) ⟨_, rfl, ?_⟩
                  refine zw_if_ne_t 29 f81_20 (by decide +kernel) (by decide +kernel) ?_
                  refine zw_aload_n 30 f81_29 rfl rfl ?_
                  refine zw_getfield 33 f81_30 rfl g81_10_11 (hb_0 _ _ _ _) rfl ?_
                  refine zw_iload_n 34 f81_33 rfl rfl ?_
                  refine zw_virtual_i 37 0 0 [.ref 1, .int a] [(0, .ref 1), (1, .int a)] f81_34 rfl n81_112 k81_112_4 rfl (hb_1 _ _ _ _) (by decide +kernel) (Nat.le_of_ble_eq_true rfl) rfl rfl (by decide +kernel) (by decide +kernel) rfl (Nat.le_of_ble_eq_true rfl) rfl ?_
                  refine zw_iload_n 1 f15_0 rfl rfl ?_
                  refine zw_if_lt_f 4 27 f15_1 (by decide +kernel) rfl hc1 ?_
                  refine zw_iload_n 5 f15_4 rfl rfl ?_
                  refine zw_aload_n 6 f15_5 rfl rfl ?_
                  refine zw_getI (nI nv) 9 f15_6 rfl g15_39_4 (hb_1 _ _ _ _) rfl hR.1.1 ?_
                  refine zw_ic_ge_f 12 27 f15_9 (by decide +kernel) rfl hc2 ?_
                  refine zw_iload_n 13 f15_12 rfl rfl ?_
                  refine zw_bipush 8 15 f15_13 rfl (by decide +kernel) ?_
                  refine zw_ic_ge_f 18 27 f15_15 (by decide +kernel) rfl hc3 ?_
                  refine zw_aload_n 19 f15_18 rfl rfl ?_
                  refine zw_getfield 22 f15_19 rfl g15_9_4 (hb_1 _ _ _ _) rfl ?_
                  refine zw_iload_n 23 f15_22 rfl rfl ?_
                  refine zw_iaload a.toNatClampNeg (P 53 a.toNatClampNeg) 24 f15_23 rfl (hb_2 _ _ _ _) rfl hc1 (zix (by decide) hc1 hc3) (congrFun ((hR.2.1 53 (by omega) (by omega))) a.toNatClampNeg) ?_
                  refine zw_goto 28 f15_24 (by decide +kernel) ?_
                  refine zw_ireturn f15_28 r15 u15 ⟨_, rfl, ?_⟩
                  refine zw_iconst 2 38 f81_37 rfl (by decide +kernel) ?_
                  refine zw_ic_eq 41 47 f81_38 (by decide +kernel) rfl (fun hc10 => ?_) (fun hc10 => ?_)
                  · refine zw_aload_n 48 f81_47 rfl rfl ?_
                    refine zw_getfield 51 f81_48 rfl g81_10_11 (hb_0 _ _ _ _) rfl ?_
                    refine zw_getfield 54 f81_51 rfl g81_125_4 (hb_1 _ _ _ _) rfl ?_
                    refine zw_iload_n 55 f81_54 rfl rfl ?_
                    refine zw_iload_n 56 f81_55 rfl rfl ?_
                    refine zw_ast a.toNatClampNeg _ 57 f81_56 rfl (hb_7 _ _ _ _) rfl hc1 (zix (by decide) hc1 hc3) (ha_7 _ _ _ _ _) ?_
                    refine zw_aload_n 58 f81_57 rfl rfl ?_
                    refine zw_iconst 1 59 f81_58 rfl (by decide +kernel) ?_
                    refine zw_virtual_i 62 0 0 [.ref 0, .int 1] [(0, .ref 0), (1, .int 1)] f81_59 rfl n81_86 k81_86_11 rfl (hb_0 _ _ _ _) (by decide +kernel) (Nat.le_of_ble_eq_true rfl) rfl rfl (by decide +kernel) (by decide +kernel) rfl (Nat.le_of_ble_eq_true rfl) rfl ?_
                    refine zw_aload_n 1 f107_0 rfl rfl ?_
                    refine zw_getfield 4 f107_1 rfl g107_21_11 (hb_0 _ _ _ _) rfl ?_
                    refine zw_virtual_v 7 0 0 [.ref 11] [(0, .ref 11)] f107_4 rfl n107_318 k107_318_10 rfl (hb_11 _ _ _ _) (by decide +kernel) (Nat.le_of_ble_eq_true rfl) rfl rfl (by decide +kernel) (by decide +kernel) rfl (Nat.le_of_ble_eq_true rfl) rfl ?_
                    have hok1 : ok_tips nv np P a b := ⟨(qV.ofc (by omega) hc1 hc2), (Or.inr ⟨(qV.ofc (by omega) hc6 hc7), hc9⟩), hc10⟩
                    obtain ⟨hp2, hW2⟩ := hok hok1
                    have hR2 : cRS 11 nv np (updA P 58 (upd (P 58) a.toNatClampNeg b)) W I G (updA A 7 (upd (A 7) a.toNatClampNeg b)) B := ⟨⟨hR.1.1, hR.1.2⟩, PE.of10 ((hR.2.1 53 (by omega) (by omega))) ((hR.2.1 54 (by omega) (by omega))) ((hR.2.1 55 (by omega) (by omega))) ((hR.2.1 56 (by omega) (by omega))) ((hR.2.1 57 (by omega) (by omega))) ((congrArg (fun z => upd z a.toNatClampNeg b) ((hR.2.1 58 (by omega) (by omega))))) ((hR.2.1 59 (by omega) (by omega))) ((hR.2.1 60 (by omega) (by omega))) ((hR.2.1 61 (by omega) (by omega))) ((hR.2.1 62 (by omega) (by omega))), ⟨hR.2.2.1.1, hR.2.2.1.2.1, hR.2.2.1.2.2.1, hR.2.2.1.2.2.2⟩, hR.2.2.2.1, hR.2.2.2.2.1, hR.2.2.2.2.2.1, hR.2.2.2.2.2.2⟩
                    have hL2 : cLg L I (updA A 7 (upd (A 7) a.toNatClampNeg b)) := hL
                    refine zWp.mono (cx_settle_11 ro nv np _ W 10000 (K + 1000) _ _ _ _ hR2 hp2 hW2.2.1 hW2.1 (by omega) (by omega)) ?_
                    rintro r h1 ⟨I_s, G_s, A_s, B_s, rfl, K_s, ⟨hR3, hH3⟩, rfl⟩
                    refine ⟨rfl, ?_⟩
                    have hL3 := hL2.k K_s rfl rfl rfl rfl rfl
                    refine zw_aload_n 8 f107_7 rfl rfl ?_
                    refine zw_getfield 11 f107_8 rfl g107_31_11 (hb_0 _ _ _ _) rfl ?_
                    refine zw_aload_n 12 f107_11 rfl rfl ?_
                    refine zw_getfield 15 f107_12 rfl g107_21_11 (hb_0 _ _ _ _) rfl ?_
                    refine zw_virtual_v 18 0 0 [.ref 33, .ref 11] [(0, .ref 33), (1, .ref 11)] f107_15 rfl n107_187 k107_187_3 rfl (hb_33 _ _ _ _) (by decide +kernel) (Nat.le_of_ble_eq_true rfl) rfl rfl (by decide +kernel) (by decide +kernel) rfl (Nat.le_of_ble_eq_true rfl) rfl ?_
                    have hq2 := mom_t hp2 hW2.2.1 hW2.1 (by omega) (by omega)
                    refine zWp.mono (cx_take ro _ _ _ _ _ _ W.2.1 W.1 so L (wEv nv _ W) hR3.2.2.1.2.1 hR3.2.2.1.1 hq2.1 hq2.2.1 hH3 hq2.2.2 hL3 (by omega)) ?_
                    rintro r h1 ⟨I_u, G_u, A_u, B_u, rfl, K_u, hL4, rfl⟩
                    refine ⟨rfl, ?_⟩
                    have hR4 := hR3.k K_u ⟨rfl, rfl⟩ fLt_w pLt_w
                    refine zw_aload_n 19 f107_18 rfl rfl ?_
                    refine zw_iload_n 20 f107_19 rfl rfl ?_
                    refine zw_virtual_i 23 0 0 [.ref 0, .int 1] [(0, .ref 0), (1, .int 1)] f107_20 rfl n107_181 k107_181_11 rfl (hb_0 _ _ _ _) (by decide +kernel) (Nat.le_of_ble_eq_true rfl) rfl rfl (by decide +kernel) (by decide +kernel) rfl (Nat.le_of_ble_eq_true rfl) rfl ?_
                    refine zw_aload_n 1 f106_0 rfl rfl ?_
                    refine zw_iconst 0 2 f106_1 rfl (by decide +kernel) ?_
                    refine zw_put _ 5 f106_2 rfl g106_70_11 (hb_0 _ _ _ _) rfl (Nat.le_of_ble_eq_true rfl) (by decide +kernel) (hi_0_7 _ _ _ _ _) ?_
                    refine zw_iload_n 6 f106_5 rfl rfl ?_
                    refine zw_ireturn f106_6 r106 u106 ⟨_, rfl, ?_⟩
                    refine zw_ireturn f107_23 r107 u107 ⟨_, rfl, ?_⟩
                    refine zw_ireturn f81_62 r81 u81 ?_
                    exact ⟨_, _, _, _, rfl, (KQ.i rfl (KQ.tr (KQ.tr (KQ.a rfl KQ.rf) (KQ.wk K_s fSe_Hd pSe_Hd)) (KQ.wk K_u fLt_Hd pLt_Hd))), Or.inr ⟨hok1, hR4.k (show KQ (fun k j => decide (k = 0 ∧ j = 7)) p0 _ _ _ _ _ _ _ _ from KQ.i (k := 0) (j := 7) (v := 0) rfl KQ.rf) ⟨rfl, rfl⟩ (fun j _ _ => by simp) (p0_w 11), hL4, rfl⟩⟩
                  · refine zw_aload_n 42 f81_41 rfl rfl ?_
                    refine zw_iconst 3 43 f81_42 rfl (by decide +kernel) ?_
                    refine zw_virtual_i 46 0 0 [.ref 0, .int 3] [(0, .ref 0), (1, .int 3)] f81_43 rfl n81_78 k81_78_11 rfl (hb_0 _ _ _ _) (by decide +kernel) (Nat.le_of_ble_eq_true rfl) rfl rfl (by decide +kernel) (by decide +kernel) rfl (Nat.le_of_ble_eq_true rfl) rfl ?_
                    refine zw_aload_n 1 f105_0 rfl rfl ?_
                    refine zw_iload_n 2 f105_1 rfl rfl ?_
                    refine zw_put _ 5 f105_2 rfl g105_70_11 (hb_0 _ _ _ _) rfl (Nat.le_of_ble_eq_true rfl) (by decide +kernel) (hi_0_7 _ _ _ _ _) ?_
                    refine zw_iconst (-1) 6 f105_5 rfl (by decide +kernel) ?_
                    refine zw_ireturn f105_6 r105 u105 ⟨_, rfl, ?_⟩
                    refine zw_ireturn f81_46 r81 u81 ?_
                    exact ⟨_, _, _, _, rfl, (KQ.i rfl KQ.rf), Or.inl ⟨(fun q => hc10 q.2.2), hR.k (show KQ (fun k j => decide (k = 0 ∧ j = 7)) p0 _ _ _ _ _ _ _ _ from KQ.i (k := 0) (j := 7) (v := 3) rfl KQ.rf) ⟨rfl, rfl⟩ (fun j _ _ => by simp) (p0_w 11), hL, rfl⟩⟩
set_option maxRecDepth 100000 in
set_option maxHeartbeats 0 in
theorem cx_over (ro : UInt32 → Nat × (Nat → Int32)) (nv np : Nat) (P : Nat → Nat → Int32) (W : qW) (L : qLog) (K : Int) (so : Int32) (I : Nat → Nat → Int32) (G : Nat → Nat → Int64) (A : Nat → Nat → Int32) (B : Nat → Nat → Int64) (hR : cRS 11 nv np P W I G A B) (hp : MPa nv np P) (hW : wInv nv 10000 K P W) (hQ : qKd nv P) (hL : cLg L I A) (hK : K ≤ 199000000) (hn : L.1 < 900000000) (a : Int32) (b : Int32) (hok : ok_over nv np P a b → MPa nv np (updA P 59 (upd (P 59) a.toNatClampNeg b)) ∧ wInv nv 10000 (K + 1000) (updA P 59 (upd (P 59) a.toNatClampNeg b)) W) : zWp ro 82 0 [(0, .ref 0), (1, .int a), (2, .int b)] [] (hS I G A B) 0 0 (fun r h1 => ∃ I2 G2 A2 B2, h1 = hS I2 G2 A2 B2 ∧ KQ fHd pHd I G A B I2 G2 A2 B2 ∧ ((¬ ok_over nv np P a b ∧ cRS 11 nv np P W I2 G2 A2 B2 ∧ cLg L I2 A2 ∧ r = some (.int (-1))) ∨ (ok_over nv np P a b ∧ cRS 11 nv np (updA P 59 (upd (P 59) a.toNatClampNeg b)) (wMom nv (updA P 59 (upd (P 59) a.toNatClampNeg b)) W) I2 G2 A2 B2 ∧ cLg (qNotes 1 W.2.1 W.1 so L (wEv nv (updA P 59 (upd (P 59) a.toNatClampNeg b)) W)) I2 A2 ∧ r = some (.int 1)))) := by
  have h8 := hp.1
  have h14 := hp.2.1
  have hg : 1 ≤ W.1.toInt ∧ W.1.toInt ≤ 10000 := hW.1.1.1
  refine zw_aload_n 1 f82_0 rfl rfl ?_
  refine zw_getfield 4 f82_1 rfl g82_10_11 (hb_0 _ _ _ _) rfl ?_
  refine zw_iload_n 5 f82_4 rfl rfl ?_
  refine zw_virtual_i 8 0 0 [.ref 1, .int a] [(0, .ref 1), (1, .int a)] f82_5 rfl n82_89 k82_89_4 rfl (hb_1 _ _ _ _) (by decide +kernel) (Nat.le_of_ble_eq_true rfl) rfl rfl (by decide +kernel) (by decide +kernel) rfl (Nat.le_of_ble_eq_true rfl) rfl ?_
  refine zw_iload_n 1 f13_0 rfl rfl ?_
  refine zw_if_lt 4 22 f13_1 (by decide +kernel) rfl (fun hc1 => ?_) (fun hc1 => ?_)
  · refine zw_iconst 0 23 f13_22 rfl (by decide +kernel) ?_
    refine zw_zreturn f13_23 r13 u13 (by decide +kernel) ⟨_, rfl, ?_⟩
    refine zw_if_eq_t 23 f82_8 (by decide +kernel) (by decide +kernel) ?_
    refine zw_aload_n 24 f82_23 rfl rfl ?_
    refine zw_iconst 1 25 f82_24 rfl (by decide +kernel) ?_
    refine zw_virtual_i 28 0 0 [.ref 0, .int 1] [(0, .ref 0), (1, .int 1)] f82_25 rfl n82_78 k82_78_11 rfl (hb_0 _ _ _ _) (by decide +kernel) (Nat.le_of_ble_eq_true rfl) rfl rfl (by decide +kernel) (by decide +kernel) rfl (Nat.le_of_ble_eq_true rfl) rfl ?_
    refine zw_aload_n 1 f105_0 rfl rfl ?_
    refine zw_iload_n 2 f105_1 rfl rfl ?_
    refine zw_put _ 5 f105_2 rfl g105_70_11 (hb_0 _ _ _ _) rfl (Nat.le_of_ble_eq_true rfl) (by decide +kernel) (hi_0_7 _ _ _ _ _) ?_
    refine zw_iconst (-1) 6 f105_5 rfl (by decide +kernel) ?_
    refine zw_ireturn f105_6 r105 u105 ⟨_, rfl, ?_⟩
    refine zw_ireturn f82_28 r82 u82 ?_
    exact ⟨_, _, _, _, rfl, (KQ.i rfl KQ.rf), Or.inl ⟨(fun q => (qV.n0 (by omega) hc1) q.1), hR.k (show KQ (fun k j => decide (k = 0 ∧ j = 7)) p0 _ _ _ _ _ _ _ _ from KQ.i (k := 0) (j := 7) (v := 1) rfl KQ.rf) ⟨rfl, rfl⟩ (fun j _ _ => by simp) (p0_w 11), hL, rfl⟩⟩
  · refine zw_iload_n 5 f13_4 rfl rfl ?_
    refine zw_aload_n 6 f13_5 rfl rfl ?_
    refine zw_getI (nI nv) 9 f13_6 rfl g13_39_4 (hb_1 _ _ _ _) rfl hR.1.1 ?_
    refine zw_ic_ge 12 22 f13_9 (by decide +kernel) rfl (fun hc2 => ?_) (fun hc2 => ?_)
    · refine zw_iconst 0 23 f13_22 rfl (by decide +kernel) ?_
      refine zw_zreturn f13_23 r13 u13 (by decide +kernel) ⟨_, rfl, ?_⟩
      refine zw_if_eq_t 23 f82_8 (by decide +kernel) (by decide +kernel) ?_
      refine zw_aload_n 24 f82_23 rfl rfl ?_
      refine zw_iconst 1 25 f82_24 rfl (by decide +kernel) ?_
      refine zw_virtual_i 28 0 0 [.ref 0, .int 1] [(0, .ref 0), (1, .int 1)] f82_25 rfl n82_78 k82_78_11 rfl (hb_0 _ _ _ _) (by decide +kernel) (Nat.le_of_ble_eq_true rfl) rfl rfl (by decide +kernel) (by decide +kernel) rfl (Nat.le_of_ble_eq_true rfl) rfl ?_
      refine zw_aload_n 1 f105_0 rfl rfl ?_
      refine zw_iload_n 2 f105_1 rfl rfl ?_
      refine zw_put _ 5 f105_2 rfl g105_70_11 (hb_0 _ _ _ _) rfl (Nat.le_of_ble_eq_true rfl) (by decide +kernel) (hi_0_7 _ _ _ _ _) ?_
      refine zw_iconst (-1) 6 f105_5 rfl (by decide +kernel) ?_
      refine zw_ireturn f105_6 r105 u105 ⟨_, rfl, ?_⟩
      refine zw_ireturn f82_28 r82 u82 ?_
      exact ⟨_, _, _, _, rfl, (KQ.i rfl KQ.rf), Or.inl ⟨(fun q => (qV.n2 (by omega) hc2) q.1), hR.k (show KQ (fun k j => decide (k = 0 ∧ j = 7)) p0 _ _ _ _ _ _ _ _ from KQ.i (k := 0) (j := 7) (v := 1) rfl KQ.rf) ⟨rfl, rfl⟩ (fun j _ _ => by simp) (p0_w 11), hL, rfl⟩⟩
    · refine zw_iload_n 13 f13_12 rfl rfl ?_
      refine zw_bipush 8 15 f13_13 rfl (by decide +kernel) ?_
      refine zw_ic_ge 18 22 f13_15 (by decide +kernel) rfl (fun hc3 => ?_) (fun hc3 => ?_)
      · refine zw_iconst 0 23 f13_22 rfl (by decide +kernel) ?_
        refine zw_zreturn f13_23 r13 u13 (by decide +kernel) ⟨_, rfl, ?_⟩
        refine zw_if_eq_t 23 f82_8 (by decide +kernel) (by decide +kernel) ?_
        refine zw_aload_n 24 f82_23 rfl rfl ?_
        refine zw_iconst 1 25 f82_24 rfl (by decide +kernel) ?_
        refine zw_virtual_i 28 0 0 [.ref 0, .int 1] [(0, .ref 0), (1, .int 1)] f82_25 rfl n82_78 k82_78_11 rfl (hb_0 _ _ _ _) (by decide +kernel) (Nat.le_of_ble_eq_true rfl) rfl rfl (by decide +kernel) (by decide +kernel) rfl (Nat.le_of_ble_eq_true rfl) rfl ?_
        refine zw_aload_n 1 f105_0 rfl rfl ?_
        refine zw_iload_n 2 f105_1 rfl rfl ?_
        refine zw_put _ 5 f105_2 rfl g105_70_11 (hb_0 _ _ _ _) rfl (Nat.le_of_ble_eq_true rfl) (by decide +kernel) (hi_0_7 _ _ _ _ _) ?_
        refine zw_iconst (-1) 6 f105_5 rfl (by decide +kernel) ?_
        refine zw_ireturn f105_6 r105 u105 ⟨_, rfl, ?_⟩
        refine zw_ireturn f82_28 r82 u82 ?_
        exact ⟨_, _, _, _, rfl, (KQ.i rfl KQ.rf), Or.inl ⟨(fun q => (qV.n3 (m := 8) (N := 8) (by omega) (by omega) (by decide) hc3) q.1), hR.k (show KQ (fun k j => decide (k = 0 ∧ j = 7)) p0 _ _ _ _ _ _ _ _ from KQ.i (k := 0) (j := 7) (v := 1) rfl KQ.rf) ⟨rfl, rfl⟩ (fun j _ _ => by simp) (p0_w 11), hL, rfl⟩⟩
      · refine zw_iconst 1 19 f13_18 rfl (by decide +kernel) ?_
        refine zw_goto 23 f13_19 (by decide +kernel) ?_
        refine zw_zreturn f13_23 r13 u13 (by decide +kernel) ⟨_, rfl, ?_⟩
        refine zw_if_eq_f 11 23 f82_8 (by decide +kernel) rfl (by decide +kernel) ?_
        refine zw_aload_n 12 f82_11 rfl rfl ?_
        refine zw_getfield 15 f82_12 rfl g82_10_11 (hb_0 _ _ _ _) rfl ?_
        refine zw_iload_n 16 f82_15 rfl rfl ?_
        refine zw_iload_n 17 f82_16 rfl rfl ?_
        refine zw_virtual_i 20 0 0 [.ref 1, .int b, .int a] [(0, .ref 1), (1, .int b), (2, .int a)] f82_17 rfl n82_121 k82_121_4 rfl (hb_1 _ _ _ _) (by decide +kernel) (Nat.le_of_ble_eq_true rfl) rfl rfl (by decide +kernel) (by decide +kernel) rfl (Nat.le_of_ble_eq_true rfl) rfl ?_
        refine zw_iload_n 1 f19_0 rfl rfl ?_
        refine zw_iconst (-1) 2 f19_1 rfl (by decide +kernel) ?_
        refine zw_ic_eq 5 18 f19_2 (by decide +kernel) rfl (fun hc4 => ?_) (fun hc4 => ?_)
        · refine zw_iconst 1 19 f19_18 rfl (by decide +kernel) ?_
          refine zw_goto 23 f19_19 (by decide +kernel) ?_
          refine zw_zreturn f19_23 r19 u19 (by decide +kernel) ⟨_, rfl, ?_⟩
          refine zw_if_ne_t 29 f82_20 (by decide +kernel) (by decide +kernel) ?_
          refine zw_aload_n 30 f82_29 rfl rfl ?_
          refine zw_getfield 33 f82_30 rfl g82_10_11 (hb_0 _ _ _ _) rfl ?_
          refine zw_getfield 36 f82_33 rfl g82_128_4 (hb_1 _ _ _ _) rfl ?_
          refine zw_iload_n 37 f82_36 rfl rfl ?_
          refine zw_iload_n 38 f82_37 rfl rfl ?_
          refine zw_ast a.toNatClampNeg _ 39 f82_38 rfl (hb_8 _ _ _ _) rfl hc1 (zix (by decide) hc1 hc3) (ha_8 _ _ _ _ _) ?_
          refine zw_aload_n 40 f82_39 rfl rfl ?_
          refine zw_iconst 1 41 f82_40 rfl (by decide +kernel) ?_
          refine zw_virtual_i 44 0 0 [.ref 0, .int 1] [(0, .ref 0), (1, .int 1)] f82_41 rfl n82_86 k82_86_11 rfl (hb_0 _ _ _ _) (by decide +kernel) (Nat.le_of_ble_eq_true rfl) rfl rfl (by decide +kernel) (by decide +kernel) rfl (Nat.le_of_ble_eq_true rfl) rfl ?_
          refine zw_aload_n 1 f107_0 rfl rfl ?_
          refine zw_getfield 4 f107_1 rfl g107_21_11 (hb_0 _ _ _ _) rfl ?_
          refine zw_virtual_v 7 0 0 [.ref 11] [(0, .ref 11)] f107_4 rfl n107_318 k107_318_10 rfl (hb_11 _ _ _ _) (by decide +kernel) (Nat.le_of_ble_eq_true rfl) rfl rfl (by decide +kernel) (by decide +kernel) rfl (Nat.le_of_ble_eq_true rfl) rfl ?_
          have hok1 : ok_over nv np P a b := ⟨(qV.ofc (by omega) hc1 hc2), (Or.inl hc4)⟩
          obtain ⟨hp2, hW2⟩ := hok hok1
          have hR2 : cRS 11 nv np (updA P 59 (upd (P 59) a.toNatClampNeg b)) W I G (updA A 8 (upd (A 8) a.toNatClampNeg b)) B := ⟨⟨hR.1.1, hR.1.2⟩, PE.of10 ((hR.2.1 53 (by omega) (by omega))) ((hR.2.1 54 (by omega) (by omega))) ((hR.2.1 55 (by omega) (by omega))) ((hR.2.1 56 (by omega) (by omega))) ((hR.2.1 57 (by omega) (by omega))) ((hR.2.1 58 (by omega) (by omega))) ((congrArg (fun z => upd z a.toNatClampNeg b) ((hR.2.1 59 (by omega) (by omega))))) ((hR.2.1 60 (by omega) (by omega))) ((hR.2.1 61 (by omega) (by omega))) ((hR.2.1 62 (by omega) (by omega))), ⟨hR.2.2.1.1, hR.2.2.1.2.1, hR.2.2.1.2.2.1, hR.2.2.1.2.2.2⟩, hR.2.2.2.1, hR.2.2.2.2.1, hR.2.2.2.2.2.1, hR.2.2.2.2.2.2⟩
          have hL2 : cLg L I (updA A 8 (upd (A 8) a.toNatClampNeg b)) := hL
          refine zWp.mono (cx_settle_11 ro nv np _ W 10000 (K + 1000) _ _ _ _ hR2 hp2 hW2.2.1 hW2.1 (by omega) (by omega)) ?_
          rintro r h1 ⟨I_s, G_s, A_s, B_s, rfl, K_s, ⟨hR3, hH3⟩, rfl⟩
          refine ⟨rfl, ?_⟩
          have hL3 := hL2.k K_s rfl rfl rfl rfl rfl
          refine zw_aload_n 8 f107_7 rfl rfl ?_
          refine zw_getfield 11 f107_8 rfl g107_31_11 (hb_0 _ _ _ _) rfl ?_
          refine zw_aload_n 12 f107_11 rfl rfl ?_
          refine zw_getfield 15 f107_12 rfl g107_21_11 (hb_0 _ _ _ _) rfl ?_
          refine zw_virtual_v 18 0 0 [.ref 33, .ref 11] [(0, .ref 33), (1, .ref 11)] f107_15 rfl n107_187 k107_187_3 rfl (hb_33 _ _ _ _) (by decide +kernel) (Nat.le_of_ble_eq_true rfl) rfl rfl (by decide +kernel) (by decide +kernel) rfl (Nat.le_of_ble_eq_true rfl) rfl ?_
          have hq2 := mom_t hp2 hW2.2.1 hW2.1 (by omega) (by omega)
          refine zWp.mono (cx_take ro _ _ _ _ _ _ W.2.1 W.1 so L (wEv nv _ W) hR3.2.2.1.2.1 hR3.2.2.1.1 hq2.1 hq2.2.1 hH3 hq2.2.2 hL3 (by omega)) ?_
          rintro r h1 ⟨I_u, G_u, A_u, B_u, rfl, K_u, hL4, rfl⟩
          refine ⟨rfl, ?_⟩
          have hR4 := hR3.k K_u ⟨rfl, rfl⟩ fLt_w pLt_w
          refine zw_aload_n 19 f107_18 rfl rfl ?_
          refine zw_iload_n 20 f107_19 rfl rfl ?_
          refine zw_virtual_i 23 0 0 [.ref 0, .int 1] [(0, .ref 0), (1, .int 1)] f107_20 rfl n107_181 k107_181_11 rfl (hb_0 _ _ _ _) (by decide +kernel) (Nat.le_of_ble_eq_true rfl) rfl rfl (by decide +kernel) (by decide +kernel) rfl (Nat.le_of_ble_eq_true rfl) rfl ?_
          refine zw_aload_n 1 f106_0 rfl rfl ?_
          refine zw_iconst 0 2 f106_1 rfl (by decide +kernel) ?_
          refine zw_put _ 5 f106_2 rfl g106_70_11 (hb_0 _ _ _ _) rfl (Nat.le_of_ble_eq_true rfl) (by decide +kernel) (hi_0_7 _ _ _ _ _) ?_
          refine zw_iload_n 6 f106_5 rfl rfl ?_
          refine zw_ireturn f106_6 r106 u106 ⟨_, rfl, ?_⟩
          refine zw_ireturn f107_23 r107 u107 ⟨_, rfl, ?_⟩
          refine zw_ireturn f82_44 r82 u82 ?_
          exact ⟨_, _, _, _, rfl, (KQ.i rfl (KQ.tr (KQ.tr (KQ.a rfl KQ.rf) (KQ.wk K_s fSe_Hd pSe_Hd)) (KQ.wk K_u fLt_Hd pLt_Hd))), Or.inr ⟨hok1, hR4.k (show KQ (fun k j => decide (k = 0 ∧ j = 7)) p0 _ _ _ _ _ _ _ _ from KQ.i (k := 0) (j := 7) (v := 0) rfl KQ.rf) ⟨rfl, rfl⟩ (fun j _ _ => by simp) (p0_w 11), hL4, rfl⟩⟩
        · refine zw_aload_n 6 f19_5 rfl rfl ?_
          refine zw_iload_n 7 f19_6 rfl rfl ?_
          refine zw_virtual_i 10 0 0 [.ref 1, .int b] [(0, .ref 1), (1, .int b)] f19_7 rfl n19_46 k19_46_4 rfl (hb_1 _ _ _ _) (by decide +kernel) (Nat.le_of_ble_eq_true rfl) rfl rfl (by decide +kernel) (by decide +kernel) rfl (Nat.le_of_ble_eq_true rfl) rfl ?_
          refine zw_iload_n 1 f13_0 rfl rfl ?_
          refine zw_if_lt 4 22 f13_1 (by decide +kernel) rfl (fun hc5 => ?_) (fun hc5 => ?_)
          · refine zw_iconst 0 23 f13_22 rfl (by decide +kernel) ?_
            refine zw_zreturn f13_23 r13 u13 (by decide +kernel) ⟨_, rfl, ?_⟩
            refine zw_if_eq_t 22 f19_10 (by decide +kernel) (by decide +kernel) ?_
            refine zw_iconst 0 23 f19_22 rfl (by decide +kernel) ?_
            refine zw_zreturn f19_23 r19 u19 (by decide +kernel) ⟨_, rfl, ?_⟩
            refine zw_if_ne_f 23 29 f82_20 (by decide +kernel) rfl (by decide +kernel) ?_
            refine zw_aload_n 24 f82_23 rfl rfl ?_
            refine zw_iconst 1 25 f82_24 rfl (by decide +kernel) ?_
            refine zw_virtual_i 28 0 0 [.ref 0, .int 1] [(0, .ref 0), (1, .int 1)] f82_25 rfl n82_78 k82_78_11 rfl (hb_0 _ _ _ _) (by decide +kernel) (Nat.le_of_ble_eq_true rfl) rfl rfl (by decide +kernel) (by decide +kernel) rfl (Nat.le_of_ble_eq_true rfl) rfl ?_
            refine zw_aload_n 1 f105_0 rfl rfl ?_
            refine zw_iload_n 2 f105_1 rfl rfl ?_
            refine zw_put _ 5 f105_2 rfl g105_70_11 (hb_0 _ _ _ _) rfl (Nat.le_of_ble_eq_true rfl) (by decide +kernel) (hi_0_7 _ _ _ _ _) ?_
            refine zw_iconst (-1) 6 f105_5 rfl (by decide +kernel) ?_
            refine zw_ireturn f105_6 r105 u105 ⟨_, rfl, ?_⟩
            refine zw_ireturn f82_28 r82 u82 ?_
            exact ⟨_, _, _, _, rfl, (KQ.i rfl KQ.rf), Or.inl ⟨(fun q => (fun q => q.elim hc4 (fun z => (qV.n0 (by omega) hc5) z.1)) q.2), hR.k (show KQ (fun k j => decide (k = 0 ∧ j = 7)) p0 _ _ _ _ _ _ _ _ from KQ.i (k := 0) (j := 7) (v := 1) rfl KQ.rf) ⟨rfl, rfl⟩ (fun j _ _ => by simp) (p0_w 11), hL, rfl⟩⟩
          · refine zw_iload_n 5 f13_4 rfl rfl ?_
            refine zw_aload_n 6 f13_5 rfl rfl ?_
            refine zw_getI (nI nv) 9 f13_6 rfl g13_39_4 (hb_1 _ _ _ _) rfl hR.1.1 ?_
            refine zw_ic_ge 12 22 f13_9 (by decide +kernel) rfl (fun hc6 => ?_) (fun hc6 => ?_)
            · refine zw_iconst 0 23 f13_22 rfl (by decide +kernel) ?_
              refine zw_zreturn f13_23 r13 u13 (by decide +kernel) ⟨_, rfl, ?_⟩
              refine zw_if_eq_t 22 f19_10 (by decide +kernel) (by decide +kernel) ?_
              refine zw_iconst 0 23 f19_22 rfl (by decide +kernel) ?_
              refine zw_zreturn f19_23 r19 u19 (by decide +kernel) ⟨_, rfl, ?_⟩
              refine zw_if_ne_f 23 29 f82_20 (by decide +kernel) rfl (by decide +kernel) ?_
              refine zw_aload_n 24 f82_23 rfl rfl ?_
              refine zw_iconst 1 25 f82_24 rfl (by decide +kernel) ?_
              refine zw_virtual_i 28 0 0 [.ref 0, .int 1] [(0, .ref 0), (1, .int 1)] f82_25 rfl n82_78 k82_78_11 rfl (hb_0 _ _ _ _) (by decide +kernel) (Nat.le_of_ble_eq_true rfl) rfl rfl (by decide +kernel) (by decide +kernel) rfl (Nat.le_of_ble_eq_true rfl) rfl ?_
              refine zw_aload_n 1 f105_0 rfl rfl ?_
              refine zw_iload_n 2 f105_1 rfl rfl ?_
              refine zw_put _ 5 f105_2 rfl g105_70_11 (hb_0 _ _ _ _) rfl (Nat.le_of_ble_eq_true rfl) (by decide +kernel) (hi_0_7 _ _ _ _ _) ?_
              refine zw_iconst (-1) 6 f105_5 rfl (by decide +kernel) ?_
              refine zw_ireturn f105_6 r105 u105 ⟨_, rfl, ?_⟩
              refine zw_ireturn f82_28 r82 u82 ?_
              exact ⟨_, _, _, _, rfl, (KQ.i rfl KQ.rf), Or.inl ⟨(fun q => (fun q => q.elim hc4 (fun z => (qV.n2 (by omega) hc6) z.1)) q.2), hR.k (show KQ (fun k j => decide (k = 0 ∧ j = 7)) p0 _ _ _ _ _ _ _ _ from KQ.i (k := 0) (j := 7) (v := 1) rfl KQ.rf) ⟨rfl, rfl⟩ (fun j _ _ => by simp) (p0_w 11), hL, rfl⟩⟩
            · refine zw_iload_n 13 f13_12 rfl rfl ?_
              refine zw_bipush 8 15 f13_13 rfl (by decide +kernel) ?_
              refine zw_ic_ge 18 22 f13_15 (by decide +kernel) rfl (fun hc7 => ?_) (fun hc7 => ?_)
              · refine zw_iconst 0 23 f13_22 rfl (by decide +kernel) ?_
                refine zw_zreturn f13_23 r13 u13 (by decide +kernel) ⟨_, rfl, ?_⟩
                refine zw_if_eq_t 22 f19_10 (by decide +kernel) (by decide +kernel) ?_
                refine zw_iconst 0 23 f19_22 rfl (by decide +kernel) ?_
                refine zw_zreturn f19_23 r19 u19 (by decide +kernel) ⟨_, rfl, ?_⟩
                refine zw_if_ne_f 23 29 f82_20 (by decide +kernel) rfl (by decide +kernel) ?_
                refine zw_aload_n 24 f82_23 rfl rfl ?_
                refine zw_iconst 1 25 f82_24 rfl (by decide +kernel) ?_
                refine zw_virtual_i 28 0 0 [.ref 0, .int 1] [(0, .ref 0), (1, .int 1)] f82_25 rfl n82_78 k82_78_11 rfl (hb_0 _ _ _ _) (by decide +kernel) (Nat.le_of_ble_eq_true rfl) rfl rfl (by decide +kernel) (by decide +kernel) rfl (Nat.le_of_ble_eq_true rfl) rfl ?_
                refine zw_aload_n 1 f105_0 rfl rfl ?_
                refine zw_iload_n 2 f105_1 rfl rfl ?_
                refine zw_put _ 5 f105_2 rfl g105_70_11 (hb_0 _ _ _ _) rfl (Nat.le_of_ble_eq_true rfl) (by decide +kernel) (hi_0_7 _ _ _ _ _) ?_
                refine zw_iconst (-1) 6 f105_5 rfl (by decide +kernel) ?_
                refine zw_ireturn f105_6 r105 u105 ⟨_, rfl, ?_⟩
                refine zw_ireturn f82_28 r82 u82 ?_
                exact ⟨_, _, _, _, rfl, (KQ.i rfl KQ.rf), Or.inl ⟨(fun q => (fun q => q.elim hc4 (fun z => (qV.n3 (m := 8) (N := 8) (by omega) (by omega) (by decide) hc7) z.1)) q.2), hR.k (show KQ (fun k j => decide (k = 0 ∧ j = 7)) p0 _ _ _ _ _ _ _ _ from KQ.i (k := 0) (j := 7) (v := 1) rfl KQ.rf) ⟨rfl, rfl⟩ (fun j _ _ => by simp) (p0_w 11), hL, rfl⟩⟩
              · refine zw_iconst 1 19 f13_18 rfl (by decide +kernel) ?_
                refine zw_goto 23 f13_19 (by decide +kernel) ?_
                refine zw_zreturn f13_23 r13 u13 (by decide +kernel) ⟨_, rfl, ?_⟩
                refine zw_if_eq_f 13 22 f19_10 (by decide +kernel) rfl (by decide +kernel) ?_
                refine zw_iload_n 14 f19_13 rfl rfl ?_
                refine zw_iload_n 15 f19_14 rfl rfl ?_
                refine zw_ic_le 18 22 f19_15 (by decide +kernel) rfl (fun hc8 => ?_) (fun hc8 => ?_)
                · refine zw_iconst 0 23 f19_22 rfl (by decide +kernel) ?_
                  refine zw_zreturn f19_23 r19 u19 (by decide +kernel) ⟨_, rfl, ?_⟩
                  refine zw_if_ne_f 23 29 f82_20 (by decide +kernel) rfl (by decide +kernel) ?_
                  refine zw_aload_n 24 f82_23 rfl rfl ?_
                  refine zw_iconst 1 25 f82_24 rfl (by decide +kernel) ?_
                  refine zw_virtual_i 28 0 0 [.ref 0, .int 1] [(0, .ref 0), (1, .int 1)] f82_25 rfl n82_78 k82_78_11 rfl (hb_0 _ _ _ _) (by decide +kernel) (Nat.le_of_ble_eq_true rfl) rfl rfl (by decide +kernel) (by decide +kernel) rfl (Nat.le_of_ble_eq_true rfl) rfl ?_
                  refine zw_aload_n 1 f105_0 rfl rfl ?_
                  refine zw_iload_n 2 f105_1 rfl rfl ?_
                  refine zw_put _ 5 f105_2 rfl g105_70_11 (hb_0 _ _ _ _) rfl (Nat.le_of_ble_eq_true rfl) (by decide +kernel) (hi_0_7 _ _ _ _ _) ?_
                  refine zw_iconst (-1) 6 f105_5 rfl (by decide +kernel) ?_
                  refine zw_ireturn f105_6 r105 u105 ⟨_, rfl, ?_⟩
                  refine zw_ireturn f82_28 r82 u82 ?_
                  exact ⟨_, _, _, _, rfl, (KQ.i rfl KQ.rf), Or.inl ⟨(fun q => (fun q => q.elim hc4 (fun z => z.2 hc8)) q.2), hR.k (show KQ (fun k j => decide (k = 0 ∧ j = 7)) p0 _ _ _ _ _ _ _ _ from KQ.i (k := 0) (j := 7) (v := 1) rfl KQ.rf) ⟨rfl, rfl⟩ (fun j _ _ => by simp) (p0_w 11), hL, rfl⟩⟩
                · refine zw_iconst 1 19 f19_18 rfl (by decide +kernel) ?_
                  refine zw_goto 23 f19_19 (by decide +kernel) ?_
                  refine zw_zreturn f19_23 r19 u19 (by decide +kernel) ⟨_, rfl, ?_⟩
                  refine zw_if_ne_t 29 f82_20 (by decide +kernel) (by decide +kernel) ?_
                  refine zw_aload_n 30 f82_29 rfl rfl ?_
                  refine zw_getfield 33 f82_30 rfl g82_10_11 (hb_0 _ _ _ _) rfl ?_
                  refine zw_getfield 36 f82_33 rfl g82_128_4 (hb_1 _ _ _ _) rfl ?_
                  refine zw_iload_n 37 f82_36 rfl rfl ?_
                  refine zw_iload_n 38 f82_37 rfl rfl ?_
                  refine zw_ast a.toNatClampNeg _ 39 f82_38 rfl (hb_8 _ _ _ _) rfl hc1 (zix (by decide) hc1 hc3) (ha_8 _ _ _ _ _) ?_
                  refine zw_aload_n 40 f82_39 rfl rfl ?_
                  refine zw_iconst 1 41 f82_40 rfl (by decide +kernel) ?_
                  refine zw_virtual_i 44 0 0 [.ref 0, .int 1] [(0, .ref 0), (1, .int 1)] f82_41 rfl n82_86 k82_86_11 rfl (hb_0 _ _ _ _) (by decide +kernel) (Nat.le_of_ble_eq_true rfl) rfl rfl (by decide +kernel) (by decide +kernel) rfl (Nat.le_of_ble_eq_true rfl) rfl ?_
                  refine zw_aload_n 1 f107_0 rfl rfl ?_
                  refine zw_getfield 4 f107_1 rfl g107_21_11 (hb_0 _ _ _ _) rfl ?_
                  refine zw_virtual_v 7 0 0 [.ref 11] [(0, .ref 11)] f107_4 rfl n107_318 k107_318_10 rfl (hb_11 _ _ _ _) (by decide +kernel) (Nat.le_of_ble_eq_true rfl) rfl rfl (by decide +kernel) (by decide +kernel) rfl (Nat.le_of_ble_eq_true rfl) rfl ?_
                  have hok1 : ok_over nv np P a b := ⟨(qV.ofc (by omega) hc1 hc2), (Or.inr ⟨(qV.ofc (by omega) hc5 hc6), hc8⟩)⟩
                  obtain ⟨hp2, hW2⟩ := hok hok1
                  have hR2 : cRS 11 nv np (updA P 59 (upd (P 59) a.toNatClampNeg b)) W I G (updA A 8 (upd (A 8) a.toNatClampNeg b)) B := ⟨⟨hR.1.1, hR.1.2⟩, PE.of10 ((hR.2.1 53 (by omega) (by omega))) ((hR.2.1 54 (by omega) (by omega))) ((hR.2.1 55 (by omega) (by omega))) ((hR.2.1 56 (by omega) (by omega))) ((hR.2.1 57 (by omega) (by omega))) ((hR.2.1 58 (by omega) (by omega))) ((congrArg (fun z => upd z a.toNatClampNeg b) ((hR.2.1 59 (by omega) (by omega))))) ((hR.2.1 60 (by omega) (by omega))) ((hR.2.1 61 (by omega) (by omega))) ((hR.2.1 62 (by omega) (by omega))), ⟨hR.2.2.1.1, hR.2.2.1.2.1, hR.2.2.1.2.2.1, hR.2.2.1.2.2.2⟩, hR.2.2.2.1, hR.2.2.2.2.1, hR.2.2.2.2.2.1, hR.2.2.2.2.2.2⟩
                  have hL2 : cLg L I (updA A 8 (upd (A 8) a.toNatClampNeg b)) := hL
                  refine zWp.mono (cx_settle_11 ro nv np _ W 10000 (K + 1000) _ _ _ _ hR2 hp2 hW2.2.1 hW2.1 (by omega) (by omega)) ?_
                  rintro r h1 ⟨I_s, G_s, A_s, B_s, rfl, K_s, ⟨hR3, hH3⟩, rfl⟩
                  refine ⟨rfl, ?_⟩
                  have hL3 := hL2.k K_s rfl rfl rfl rfl rfl
                  refine zw_aload_n 8 f107_7 rfl rfl ?_
                  refine zw_getfield 11 f107_8 rfl g107_31_11 (hb_0 _ _ _ _) rfl ?_
                  refine zw_aload_n 12 f107_11 rfl rfl ?_
                  refine zw_getfield 15 f107_12 rfl g107_21_11 (hb_0 _ _ _ _) rfl ?_
                  refine zw_virtual_v 18 0 0 [.ref 33, .ref 11] [(0, .ref 33), (1, .ref 11)] f107_15 rfl n107_187 k107_187_3 rfl (hb_33 _ _ _ _) (by decide +kernel) (Nat.le_of_ble_eq_true rfl) rfl rfl (by decide +kernel) (by decide +kernel) rfl (Nat.le_of_ble_eq_true rfl) rfl ?_
                  have hq2 := mom_t hp2 hW2.2.1 hW2.1 (by omega) (by omega)
                  refine zWp.mono (cx_take ro _ _ _ _ _ _ W.2.1 W.1 so L (wEv nv _ W) hR3.2.2.1.2.1 hR3.2.2.1.1 hq2.1 hq2.2.1 hH3 hq2.2.2 hL3 (by omega)) ?_
                  rintro r h1 ⟨I_u, G_u, A_u, B_u, rfl, K_u, hL4, rfl⟩
                  refine ⟨rfl, ?_⟩
                  have hR4 := hR3.k K_u ⟨rfl, rfl⟩ fLt_w pLt_w
                  refine zw_aload_n 19 f107_18 rfl rfl ?_
                  refine zw_iload_n 20 f107_19 rfl rfl ?_
                  refine zw_virtual_i 23 0 0 [.ref 0, .int 1] [(0, .ref 0), (1, .int 1)] f107_20 rfl n107_181 k107_181_11 rfl (hb_0 _ _ _ _) (by decide +kernel) (Nat.le_of_ble_eq_true rfl) rfl rfl (by decide +kernel) (by decide +kernel) rfl (Nat.le_of_ble_eq_true rfl) rfl ?_
                  refine zw_aload_n 1 f106_0 rfl rfl ?_
                  refine zw_iconst 0 2 f106_1 rfl (by decide +kernel) ?_
                  refine zw_put _ 5 f106_2 rfl g106_70_11 (hb_0 _ _ _ _) rfl (Nat.le_of_ble_eq_true rfl) (by decide +kernel) (hi_0_7 _ _ _ _ _) ?_
                  refine zw_iload_n 6 f106_5 rfl rfl ?_
                  refine zw_ireturn f106_6 r106 u106 ⟨_, rfl, ?_⟩
                  refine zw_ireturn f107_23 r107 u107 ⟨_, rfl, ?_⟩
                  refine zw_ireturn f82_44 r82 u82 ?_
                  exact ⟨_, _, _, _, rfl, (KQ.i rfl (KQ.tr (KQ.tr (KQ.a rfl KQ.rf) (KQ.wk K_s fSe_Hd pSe_Hd)) (KQ.wk K_u fLt_Hd pLt_Hd))), Or.inr ⟨hok1, hR4.k (show KQ (fun k j => decide (k = 0 ∧ j = 7)) p0 _ _ _ _ _ _ _ _ from KQ.i (k := 0) (j := 7) (v := 0) rfl KQ.rf) ⟨rfl, rfl⟩ (fun j _ _ => by simp) (p0_w 11), hL4, rfl⟩⟩
set_option maxRecDepth 100000 in
set_option maxHeartbeats 0 in
theorem cx_pipe (ro : UInt32 → Nat × (Nat → Int32)) (nv np : Nat) (P : Nat → Nat → Int32) (W : qW) (L : qLog) (K : Int) (so : Int32) (I : Nat → Nat → Int32) (G : Nat → Nat → Int64) (A : Nat → Nat → Int32) (B : Nat → Nat → Int64) (hR : cRS 11 nv np P W I G A B) (hp : MPa nv np P) (hW : wInv nv 10000 K P W) (hQ : qKd nv P) (hL : cLg L I A) (hK : K ≤ 199000000) (hn : L.1 < 900000000) (a : Int32) (b : Int32) (c : Int32) (hok : ok_pipe nv np P a b c → MPa nv (np + 1) (updA (updA (updA P 60 (upd (P 60) np a)) 61 (upd ((updA P 60 (upd (P 60) np a)) 61) np b)) 62 (upd ((updA (updA P 60 (upd (P 60) np a)) 61 (upd ((updA P 60 (upd (P 60) np a)) 61) np b)) 62) np c)) ∧ wInv nv 10000 (K + 1000) (updA (updA (updA P 60 (upd (P 60) np a)) 61 (upd ((updA P 60 (upd (P 60) np a)) 61) np b)) 62 (upd ((updA (updA P 60 (upd (P 60) np a)) 61 (upd ((updA P 60 (upd (P 60) np a)) 61) np b)) 62) np c)) (wOpn np 1 W)) : zWp ro 83 0 [(0, .ref 0), (1, .int a), (2, .int b), (3, .int c)] [] (hS I G A B) 0 0 (fun r h1 => ∃ I2 G2 A2 B2, h1 = hS I2 G2 A2 B2 ∧ KQ fHd pHd I G A B I2 G2 A2 B2 ∧ ((¬ ok_pipe nv np P a b c ∧ cRS 11 nv np P W I2 G2 A2 B2 ∧ cLg L I2 A2 ∧ r = some (.int (-1))) ∨ (ok_pipe nv np P a b c ∧ cRS 11 nv (np + 1) (updA (updA (updA P 60 (upd (P 60) np a)) 61 (upd ((updA P 60 (upd (P 60) np a)) 61) np b)) 62 (upd ((updA (updA P 60 (upd (P 60) np a)) 61 (upd ((updA P 60 (upd (P 60) np a)) 61) np b)) 62) np c)) (wMom nv (updA (updA (updA P 60 (upd (P 60) np a)) 61 (upd ((updA P 60 (upd (P 60) np a)) 61) np b)) 62 (upd ((updA (updA P 60 (upd (P 60) np a)) 61 (upd ((updA P 60 (upd (P 60) np a)) 61) np b)) 62) np c)) (wOpn np 1 W)) I2 G2 A2 B2 ∧ cLg (qNotes 1 (wOpn np 1 W).2.1 (wOpn np 1 W).1 so L (wEv nv (updA (updA (updA P 60 (upd (P 60) np a)) 61 (upd ((updA P 60 (upd (P 60) np a)) 61) np b)) 62 (upd ((updA (updA P 60 (upd (P 60) np a)) 61 (upd ((updA P 60 (upd (P 60) np a)) 61) np b)) 62) np c)) (wOpn np 1 W))) I2 A2 ∧ r = some (.int (nI np))))) := by
  have h8 := hp.1
  have h14 := hp.2.1
  have hg : 1 ≤ W.1.toInt ∧ W.1.toInt ≤ 10000 := hW.1.1.1
  refine zw_iload_n 1 f83_0 rfl rfl ?_
  refine zw_iconst (-1) 2 f83_1 rfl (by decide +kernel) ?_
  refine zw_ic_eq 5 16 f83_2 (by decide +kernel) rfl (fun hc1 => ?_) (fun hc1 => ?_)
  · refine zw_iconst 1 17 f83_16 rfl (by decide +kernel) ?_
    refine zw_goto 21 f83_17 (by decide +kernel) ?_
    refine zw_istore _ 23 f83_21 rfl (by decide +kernel) rfl ?_
    refine zw_iload_n 24 f83_23 rfl (zl1_ne rfl rfl rfl) ?_
    refine zw_iconst (-1) 25 f83_24 rfl (by decide +kernel) ?_
    refine zw_ic_ne_f 28 37 f83_25 (by decide +kernel) rfl (fun q => q hc1) ?_
    refine zw_iload_n 29 f83_28 rfl (zl1_ne rfl rfl rfl) ?_
    refine zw_iconst (-1) 30 f83_29 rfl (by decide +kernel) ?_
    refine zw_ic_ne 33 37 f83_30 (by decide +kernel) rfl (fun hc2 => ?_) (fun hc2 => ?_)
    · refine zw_iconst 0 38 f83_37 rfl (by decide +kernel) ?_
      refine zw_istore _ 40 f83_38 rfl (by decide +kernel) rfl ?_
      refine zw_iload 42 f83_40 rfl (zl1_ne rfl rfl zl1_eq) ?_
      refine zw_if_eq_f 45 72 f83_42 (by decide +kernel) rfl (by decide +kernel) ?_
      refine zw_iload 47 f83_45 rfl zl1_eq ?_
      refine zw_if_ne_f 50 72 f83_47 (by decide +kernel) rfl (by decide +kernel) ?_
      refine zw_aload_n 51 f83_50 rfl (zl1_ne rfl rfl (zl1_ne rfl rfl rfl)) ?_
      refine zw_getfield 54 f83_51 rfl g83_10_11 (hb_0 _ _ _ _) rfl ?_
      refine zw_iload_n 55 f83_54 rfl (zl1_ne rfl rfl (zl1_ne rfl rfl rfl)) ?_
      refine zw_iload_n 56 f83_55 rfl (zl1_ne rfl rfl (zl1_ne rfl rfl rfl)) ?_
      refine zw_virtual_i 59 0 0 [.ref 1, .int b, .int a] [(0, .ref 1), (1, .int b), (2, .int a)] f83_56 rfl n83_121 k83_121_4 rfl (hb_1 _ _ _ _) (by decide +kernel) (Nat.le_of_ble_eq_true rfl) rfl rfl (by decide +kernel) (by decide +kernel) rfl (Nat.le_of_ble_eq_true rfl) rfl ?_
      refine zw_iload_n 1 f19_0 rfl rfl ?_
      refine zw_iconst (-1) 2 f19_1 rfl (by decide +kernel) ?_
      refine zw_ic_eq_f 5 18 f19_2 (by decide +kernel) rfl hc2 ?_
      refine zw_aload_n 6 f19_5 rfl rfl ?_
      refine zw_iload_n 7 f19_6 rfl rfl ?_
      refine zw_virtual_i 10 0 0 [.ref 1, .int b] [(0, .ref 1), (1, .int b)] f19_7 rfl n19_46 k19_46_4 rfl (hb_1 _ _ _ _) (by decide +kernel) (Nat.le_of_ble_eq_true rfl) rfl rfl (by decide +kernel) (by decide +kernel) rfl (Nat.le_of_ble_eq_true rfl) rfl ?_
      refine zw_iload_n 1 f13_0 rfl rfl ?_
      refine zw_if_lt 4 22 f13_1 (by decide +kernel) rfl (fun hc3 => ?_) (fun hc3 => ?_)
      · refine zw_iconst 0 23 f13_22 rfl (by decide +kernel) ?_
        refine zw_zreturn f13_23 r13 u13 (by decide +kernel) ⟨_, rfl, ?_⟩
        refine zw_if_eq_t 22 f19_10 (by decide +kernel) (by decide +kernel) ?_
        refine zw_iconst 0 23 f19_22 rfl (by decide +kernel) ?_
        refine zw_zreturn f19_23 r19 u19 (by decide +kernel) ⟨_, rfl, ?_⟩
        refine zw_if_eq_t 72 f83_59 (by decide +kernel) (by decide +kernel) ?_
        refine zw_aload_n 73 f83_72 rfl (zl1_ne rfl rfl (zl1_ne rfl rfl rfl)) ?_
        refine zw_iconst 1 74 f83_73 rfl (by decide +kernel) ?_
        refine zw_virtual_i 77 0 0 [.ref 0, .int 1] [(0, .ref 0), (1, .int 1)] f83_74 rfl n83_78 k83_78_11 rfl (hb_0 _ _ _ _) (by decide +kernel) (Nat.le_of_ble_eq_true rfl) rfl rfl (by decide +kernel) (by decide +kernel) rfl (Nat.le_of_ble_eq_true rfl) rfl ?_
        refine zw_aload_n 1 f105_0 rfl rfl ?_
        refine zw_iload_n 2 f105_1 rfl rfl ?_
        refine zw_put _ 5 f105_2 rfl g105_70_11 (hb_0 _ _ _ _) rfl (Nat.le_of_ble_eq_true rfl) (by decide +kernel) (hi_0_7 _ _ _ _ _) ?_
        refine zw_iconst (-1) 6 f105_5 rfl (by decide +kernel) ?_
        refine zw_ireturn f105_6 r105 u105 ⟨_, rfl, ?_⟩
        refine zw_ireturn f83_77 r83 u83 ?_
        exact ⟨_, _, _, _, rfl, (KQ.i rfl KQ.rf), Or.inl ⟨(fun q => (fun q => q.elim hc2 (fun z => (qV.n0 (by omega) hc3) z.1)) q.2.1), hR.k (show KQ (fun k j => decide (k = 0 ∧ j = 7)) p0 _ _ _ _ _ _ _ _ from KQ.i (k := 0) (j := 7) (v := 1) rfl KQ.rf) ⟨rfl, rfl⟩ (fun j _ _ => by simp) (p0_w 11), hL, rfl⟩⟩
      · refine zw_iload_n 5 f13_4 rfl rfl ?_
        refine zw_aload_n 6 f13_5 rfl rfl ?_
        refine zw_getI (nI nv) 9 f13_6 rfl g13_39_4 (hb_1 _ _ _ _) rfl hR.1.1 ?_
        refine zw_ic_ge 12 22 f13_9 (by decide +kernel) rfl (fun hc4 => ?_) (fun hc4 => ?_)
        · refine zw_iconst 0 23 f13_22 rfl (by decide +kernel) ?_
          refine zw_zreturn f13_23 r13 u13 (by decide +kernel) ⟨_, rfl, ?_⟩
          refine zw_if_eq_t 22 f19_10 (by decide +kernel) (by decide +kernel) ?_
          refine zw_iconst 0 23 f19_22 rfl (by decide +kernel) ?_
          refine zw_zreturn f19_23 r19 u19 (by decide +kernel) ⟨_, rfl, ?_⟩
          refine zw_if_eq_t 72 f83_59 (by decide +kernel) (by decide +kernel) ?_
          refine zw_aload_n 73 f83_72 rfl (zl1_ne rfl rfl (zl1_ne rfl rfl rfl)) ?_
          refine zw_iconst 1 74 f83_73 rfl (by decide +kernel) ?_
          refine zw_virtual_i 77 0 0 [.ref 0, .int 1] [(0, .ref 0), (1, .int 1)] f83_74 rfl n83_78 k83_78_11 rfl (hb_0 _ _ _ _) (by decide +kernel) (Nat.le_of_ble_eq_true rfl) rfl rfl (by decide +kernel) (by decide +kernel) rfl (Nat.le_of_ble_eq_true rfl) rfl ?_
          refine zw_aload_n 1 f105_0 rfl rfl ?_
          refine zw_iload_n 2 f105_1 rfl rfl ?_
          refine zw_put _ 5 f105_2 rfl g105_70_11 (hb_0 _ _ _ _) rfl (Nat.le_of_ble_eq_true rfl) (by decide +kernel) (hi_0_7 _ _ _ _ _) ?_
          refine zw_iconst (-1) 6 f105_5 rfl (by decide +kernel) ?_
          refine zw_ireturn f105_6 r105 u105 ⟨_, rfl, ?_⟩
          refine zw_ireturn f83_77 r83 u83 ?_
          exact ⟨_, _, _, _, rfl, (KQ.i rfl KQ.rf), Or.inl ⟨(fun q => (fun q => q.elim hc2 (fun z => (qV.n2 (by omega) hc4) z.1)) q.2.1), hR.k (show KQ (fun k j => decide (k = 0 ∧ j = 7)) p0 _ _ _ _ _ _ _ _ from KQ.i (k := 0) (j := 7) (v := 1) rfl KQ.rf) ⟨rfl, rfl⟩ (fun j _ _ => by simp) (p0_w 11), hL, rfl⟩⟩
        · refine zw_iload_n 13 f13_12 rfl rfl ?_
          refine zw_bipush 8 15 f13_13 rfl (by decide +kernel) ?_
          refine zw_ic_ge 18 22 f13_15 (by decide +kernel) rfl (fun hc5 => ?_) (fun hc5 => ?_)
          · refine zw_iconst 0 23 f13_22 rfl (by decide +kernel) ?_
            refine zw_zreturn f13_23 r13 u13 (by decide +kernel) ⟨_, rfl, ?_⟩
            refine zw_if_eq_t 22 f19_10 (by decide +kernel) (by decide +kernel) ?_
            refine zw_iconst 0 23 f19_22 rfl (by decide +kernel) ?_
            refine zw_zreturn f19_23 r19 u19 (by decide +kernel) ⟨_, rfl, ?_⟩
            refine zw_if_eq_t 72 f83_59 (by decide +kernel) (by decide +kernel) ?_
            refine zw_aload_n 73 f83_72 rfl (zl1_ne rfl rfl (zl1_ne rfl rfl rfl)) ?_
            refine zw_iconst 1 74 f83_73 rfl (by decide +kernel) ?_
            refine zw_virtual_i 77 0 0 [.ref 0, .int 1] [(0, .ref 0), (1, .int 1)] f83_74 rfl n83_78 k83_78_11 rfl (hb_0 _ _ _ _) (by decide +kernel) (Nat.le_of_ble_eq_true rfl) rfl rfl (by decide +kernel) (by decide +kernel) rfl (Nat.le_of_ble_eq_true rfl) rfl ?_
            refine zw_aload_n 1 f105_0 rfl rfl ?_
            refine zw_iload_n 2 f105_1 rfl rfl ?_
            refine zw_put _ 5 f105_2 rfl g105_70_11 (hb_0 _ _ _ _) rfl (Nat.le_of_ble_eq_true rfl) (by decide +kernel) (hi_0_7 _ _ _ _ _) ?_
            refine zw_iconst (-1) 6 f105_5 rfl (by decide +kernel) ?_
            refine zw_ireturn f105_6 r105 u105 ⟨_, rfl, ?_⟩
            refine zw_ireturn f83_77 r83 u83 ?_
            exact ⟨_, _, _, _, rfl, (KQ.i rfl KQ.rf), Or.inl ⟨(fun q => (fun q => q.elim hc2 (fun z => (qV.n3 (m := 8) (N := 8) (by omega) (by omega) (by decide) hc5) z.1)) q.2.1), hR.k (show KQ (fun k j => decide (k = 0 ∧ j = 7)) p0 _ _ _ _ _ _ _ _ from KQ.i (k := 0) (j := 7) (v := 1) rfl KQ.rf) ⟨rfl, rfl⟩ (fun j _ _ => by simp) (p0_w 11), hL, rfl⟩⟩
          · refine zw_iconst 1 19 f13_18 rfl (by decide +kernel) ?_
            refine zw_goto 23 f13_19 (by decide +kernel) ?_
            refine zw_zreturn f13_23 r13 u13 (by decide +kernel) ⟨_, rfl, ?_⟩
            refine zw_if_eq_f 13 22 f19_10 (by decide +kernel) rfl (by decide +kernel) ?_
            refine zw_iload_n 14 f19_13 rfl rfl ?_
            refine zw_iload_n 15 f19_14 rfl rfl ?_
            refine zw_ic_le 18 22 f19_15 (by decide +kernel) rfl (fun hc6 => ?_) (fun hc6 => ?_)
            · refine zw_iconst 0 23 f19_22 rfl (by decide +kernel) ?_
              refine zw_zreturn f19_23 r19 u19 (by decide +kernel) ⟨_, rfl, ?_⟩
              refine zw_if_eq_t 72 f83_59 (by decide +kernel) (by decide +kernel) ?_
              refine zw_aload_n 73 f83_72 rfl (zl1_ne rfl rfl (zl1_ne rfl rfl rfl)) ?_
              refine zw_iconst 1 74 f83_73 rfl (by decide +kernel) ?_
              refine zw_virtual_i 77 0 0 [.ref 0, .int 1] [(0, .ref 0), (1, .int 1)] f83_74 rfl n83_78 k83_78_11 rfl (hb_0 _ _ _ _) (by decide +kernel) (Nat.le_of_ble_eq_true rfl) rfl rfl (by decide +kernel) (by decide +kernel) rfl (Nat.le_of_ble_eq_true rfl) rfl ?_
              refine zw_aload_n 1 f105_0 rfl rfl ?_
              refine zw_iload_n 2 f105_1 rfl rfl ?_
              refine zw_put _ 5 f105_2 rfl g105_70_11 (hb_0 _ _ _ _) rfl (Nat.le_of_ble_eq_true rfl) (by decide +kernel) (hi_0_7 _ _ _ _ _) ?_
              refine zw_iconst (-1) 6 f105_5 rfl (by decide +kernel) ?_
              refine zw_ireturn f105_6 r105 u105 ⟨_, rfl, ?_⟩
              refine zw_ireturn f83_77 r83 u83 ?_
              exact ⟨_, _, _, _, rfl, (KQ.i rfl KQ.rf), Or.inl ⟨(fun q => (fun q => q.elim hc2 (fun z => z.2 hc6)) q.2.1), hR.k (show KQ (fun k j => decide (k = 0 ∧ j = 7)) p0 _ _ _ _ _ _ _ _ from KQ.i (k := 0) (j := 7) (v := 1) rfl KQ.rf) ⟨rfl, rfl⟩ (fun j _ _ => by simp) (p0_w 11), hL, rfl⟩⟩
            · refine zw_iconst 1 19 f19_18 rfl (by decide +kernel) ?_
              refine zw_goto 23 f19_19 (by decide +kernel) ?_
              refine zw_zreturn f19_23 r19 u19 (by decide +kernel) ⟨_, rfl, ?_⟩
              refine zw_if_eq_f 62 72 f83_59 (by decide +kernel) rfl (by decide +kernel) ?_
              refine zw_iload_n 63 f83_62 rfl (zl1_ne rfl rfl (zl1_ne rfl rfl rfl)) ?_
              refine zw_iconst 1 64 f83_63 rfl (by decide +kernel) ?_
              refine zw_bipush 20 66 f83_64 rfl (by decide +kernel) ?_
              refine zw_static_i 69 0 0 [.int c, .int 1, .int 20] [] [(0, .int c), (1, .int 1), (2, .int 20)] f83_66 rfl k83_74_99 rfl (by decide +kernel) (Nat.le_of_ble_eq_true rfl) (Nat.le_of_ble_eq_true rfl) rfl rfl (by decide +kernel) (by decide +kernel) rfl (Nat.le_of_ble_eq_true rfl) rfl ?_
              refine zw_iload_n 1 f112_0 rfl rfl ?_
              refine zw_iload_n 2 f112_1 rfl rfl ?_
              refine zw_ic_lt 5 14 f112_2 (by decide +kernel) rfl (fun hc7 => ?_) (fun hc7 => ?_)
              · refine zw_iconst 0 15 f112_14 rfl (by decide +kernel) ?_
                refine zw_zreturn f112_15 r112 u112 (by decide +kernel) ⟨_, rfl, ?_⟩
                refine zw_if_ne_f 72 78 f83_69 (by decide +kernel) rfl (by decide +kernel) ?_
                refine zw_aload_n 73 f83_72 rfl (zl1_ne rfl rfl (zl1_ne rfl rfl rfl)) ?_
                refine zw_iconst 1 74 f83_73 rfl (by decide +kernel) ?_
                refine zw_virtual_i 77 0 0 [.ref 0, .int 1] [(0, .ref 0), (1, .int 1)] f83_74 rfl n83_78 k83_78_11 rfl (hb_0 _ _ _ _) (by decide +kernel) (Nat.le_of_ble_eq_true rfl) rfl rfl (by decide +kernel) (by decide +kernel) rfl (Nat.le_of_ble_eq_true rfl) rfl ?_
                refine zw_aload_n 1 f105_0 rfl rfl ?_
                refine zw_iload_n 2 f105_1 rfl rfl ?_
                refine zw_put _ 5 f105_2 rfl g105_70_11 (hb_0 _ _ _ _) rfl (Nat.le_of_ble_eq_true rfl) (by decide +kernel) (hi_0_7 _ _ _ _ _) ?_
                refine zw_iconst (-1) 6 f105_5 rfl (by decide +kernel) ?_
                refine zw_ireturn f105_6 r105 u105 ⟨_, rfl, ?_⟩
                refine zw_ireturn f83_77 r83 u83 ?_
                exact ⟨_, _, _, _, rfl, (KQ.i rfl KQ.rf), Or.inl ⟨(fun q => (fun q => q.1 hc7) q.2.2.2.1), hR.k (show KQ (fun k j => decide (k = 0 ∧ j = 7)) p0 _ _ _ _ _ _ _ _ from KQ.i (k := 0) (j := 7) (v := 1) rfl KQ.rf) ⟨rfl, rfl⟩ (fun j _ _ => by simp) (p0_w 11), hL, rfl⟩⟩
              · refine zw_iload_n 6 f112_5 rfl rfl ?_
                refine zw_iload_n 7 f112_6 rfl rfl ?_
                refine zw_ic_gt 10 14 f112_7 (by decide +kernel) rfl (fun hc8 => ?_) (fun hc8 => ?_)
                · refine zw_iconst 0 15 f112_14 rfl (by decide +kernel) ?_
                  refine zw_zreturn f112_15 r112 u112 (by decide +kernel) ⟨_, rfl, ?_⟩
                  refine zw_if_ne_f 72 78 f83_69 (by decide +kernel) rfl (by decide +kernel) ?_
                  refine zw_aload_n 73 f83_72 rfl (zl1_ne rfl rfl (zl1_ne rfl rfl rfl)) ?_
                  refine zw_iconst 1 74 f83_73 rfl (by decide +kernel) ?_
                  refine zw_virtual_i 77 0 0 [.ref 0, .int 1] [(0, .ref 0), (1, .int 1)] f83_74 rfl n83_78 k83_78_11 rfl (hb_0 _ _ _ _) (by decide +kernel) (Nat.le_of_ble_eq_true rfl) rfl rfl (by decide +kernel) (by decide +kernel) rfl (Nat.le_of_ble_eq_true rfl) rfl ?_
                  refine zw_aload_n 1 f105_0 rfl rfl ?_
                  refine zw_iload_n 2 f105_1 rfl rfl ?_
                  refine zw_put _ 5 f105_2 rfl g105_70_11 (hb_0 _ _ _ _) rfl (Nat.le_of_ble_eq_true rfl) (by decide +kernel) (hi_0_7 _ _ _ _ _) ?_
                  refine zw_iconst (-1) 6 f105_5 rfl (by decide +kernel) ?_
                  refine zw_ireturn f105_6 r105 u105 ⟨_, rfl, ?_⟩
                  refine zw_ireturn f83_77 r83 u83 ?_
                  exact ⟨_, _, _, _, rfl, (KQ.i rfl KQ.rf), Or.inl ⟨(fun q => (fun q => q.2 hc8) q.2.2.2.1), hR.k (show KQ (fun k j => decide (k = 0 ∧ j = 7)) p0 _ _ _ _ _ _ _ _ from KQ.i (k := 0) (j := 7) (v := 1) rfl KQ.rf) ⟨rfl, rfl⟩ (fun j _ _ => by simp) (p0_w 11), hL, rfl⟩⟩
                · refine zw_iconst 1 11 f112_10 rfl (by decide +kernel) ?_
                  refine zw_goto 15 f112_11 (by decide +kernel) ?_
                  refine zw_zreturn f112_15 r112 u112 (by decide +kernel) ⟨_, rfl, ?_⟩
                  refine zw_if_ne_t 78 f83_69 (by decide +kernel) (by decide +kernel) ?_
                  refine zw_aload_n 79 f83_78 rfl (zl1_ne rfl rfl (zl1_ne rfl rfl rfl)) ?_
                  refine zw_getfield 82 f83_79 rfl g83_10_11 (hb_0 _ _ _ _) rfl ?_
                  refine zw_iload_n 83 f83_82 rfl (zl1_ne rfl rfl (zl1_ne rfl rfl rfl)) ?_
                  refine zw_iload_n 84 f83_83 rfl (zl1_ne rfl rfl (zl1_ne rfl rfl rfl)) ?_
                  refine zw_virtual_i 87 0 0 [.ref 1, .int a, .int b] [(0, .ref 1), (1, .int a), (2, .int b)] f83_84 rfl n83_131 k83_131_4 rfl (hb_1 _ _ _ _) (by decide +kernel) (Nat.le_of_ble_eq_true rfl) rfl rfl (by decide +kernel) (by decide +kernel) rfl (Nat.le_of_ble_eq_true rfl) rfl ?_
                  refine zw_aload_n 1 f21_0 rfl rfl ?_
                  refine zw_getI (nI np) 4 f21_1 rfl g21_43_4 (hb_1 _ _ _ _) rfl hR.1.2 ?_
                  refine zw_istore_n _ 5 f21_4 rfl (by decide +kernel) rfl ?_
                  refine zw_iload_n 6 f21_5 rfl zl1_eq ?_
                  refine zw_bipush 14 8 f21_6 rfl (by decide +kernel) ?_
                  refine zw_ic_lt 11 13 f21_8 (by decide +kernel) rfl (fun hc9 => ?_) (fun hc9 => ?_)
                  · have hn_hc9 : np < 14 := zn_lt (by omega) (by omega) (Int32.not_le.mpr hc9)
                    refine zw_aload_n 14 f21_13 rfl (zl1_ne rfl rfl rfl) ?_
                    refine zw_getfield 17 f21_14 rfl g21_33_4 (hb_1 _ _ _ _) rfl ?_
                    refine zw_iload_n 18 f21_17 rfl zl1_eq ?_
                    refine zw_iload_n 19 f21_18 rfl (zl1_ne rfl rfl rfl) ?_
                    refine zw_ast np _ 20 f21_19 rfl (hb_9 _ _ _ _) (nI_clamp (by omega)) (nI_pos (by omega)) (by omega) (ha_9 _ _ _ _ _) ?_
                    refine zw_aload_n 21 f21_20 rfl (zl1_ne rfl rfl rfl) ?_
                    refine zw_getfield 24 f21_21 rfl g21_36_4 (hb_1 _ _ _ _) rfl ?_
                    refine zw_iload_n 25 f21_24 rfl zl1_eq ?_
                    refine zw_iload_n 26 f21_25 rfl (zl1_ne rfl rfl rfl) ?_
                    refine zw_ast np _ 27 f21_26 rfl (hb_10 _ _ _ _) (nI_clamp (by omega)) (nI_pos (by omega)) (by omega) (ha_10 _ _ _ _ _) ?_
                    refine zw_aload_n 28 f21_27 rfl (zl1_ne rfl rfl rfl) ?_
                    refine zw_iload_n 29 f21_28 rfl zl1_eq ?_
                    refine zw_iconst 1 30 f21_29 rfl (by decide +kernel) ?_
                    refine zw_iadd (nI (np + 1)) 31 f21_30 rfl (nI_add _ 1) ?_
                    refine zw_put _ 34 f21_31 rfl g21_43_4 (hb_1 _ _ _ _) rfl (Nat.le_of_ble_eq_true rfl) (by decide +kernel) (hi_1_1 _ _ _ _ _) ?_
                    refine zw_iload_n 35 f21_34 rfl zl1_eq ?_
                    refine zw_ireturn f21_35 r21 u21 ⟨_, rfl, ?_⟩
                    refine zw_istore _ 89 f83_87 rfl (by decide +kernel) rfl ?_
                    refine zw_iload 91 f83_89 rfl zl1_eq ?_
                    refine zw_iconst (-1) 92 f83_91 rfl (by decide +kernel) ?_
                    refine zw_ic_ne_t 101 f83_92 (by decide +kernel) (nI_nem (by omega)) ?_
                    refine zw_aload_n 102 f83_101 rfl (zl1_ne rfl rfl (zl1_ne rfl rfl (zl1_ne rfl rfl rfl))) ?_
                    refine zw_getfield 105 f83_102 rfl g83_21_11 (hb_0 _ _ _ _) rfl ?_
                    refine zw_getfield 108 f83_105 rfl g83_134_10 (hb_11 _ _ _ _) rfl ?_
                    refine zw_getfield 111 f83_108 rfl g83_138_9 (hb_12 _ _ _ _) rfl ?_
                    refine zw_iload 113 f83_111 rfl zl1_eq ?_
                    refine zw_iload_n 114 f83_113 rfl (zl1_ne rfl rfl (zl1_ne rfl rfl (zl1_ne rfl rfl rfl))) ?_
                    refine zw_ast np _ 115 f83_114 rfl (hb_15 _ _ _ _) (nI_clamp (by omega)) (nI_pos (by omega)) (by omega) (ha_15 _ _ _ _ _) ?_
                    refine zw_aload_n 116 f83_115 rfl (zl1_ne rfl rfl (zl1_ne rfl rfl (zl1_ne rfl rfl rfl))) ?_
                    refine zw_getfield 119 f83_116 rfl g83_21_11 (hb_0 _ _ _ _) rfl ?_
                    refine zw_getfield 122 f83_119 rfl g83_134_10 (hb_11 _ _ _ _) rfl ?_
                    refine zw_iload 124 f83_122 rfl zl1_eq ?_
                    refine zw_iconst 1 125 f83_124 rfl (by decide +kernel) ?_
                    refine zw_virtual_v 128 0 0 [.ref 12, .int (nI np), .int 1] [(0, .ref 12), (1, .int (nI np)), (2, .int 1)] f83_125 rfl n83_143 k83_143_9 rfl (hb_12 _ _ _ _) (by decide +kernel) (Nat.le_of_ble_eq_true rfl) rfl rfl (by decide +kernel) (by decide +kernel) rfl (Nat.le_of_ble_eq_true rfl) rfl ?_
                    refine zw_aload_n 1 f44_0 rfl rfl ?_
                    refine zw_iload_n 2 f44_1 rfl rfl ?_
                    refine zw_if_eq_f 5 16 f44_2 (by decide +kernel) rfl (by decide +kernel) ?_
                    refine zw_aload_n 6 f44_5 rfl rfl ?_
                    refine zw_getI (I 12 5) 9 f44_6 rfl g44_38_9 (hb_12 _ _ _ _) rfl rfl ?_
                    refine zw_iconst 1 10 f44_9 rfl (by decide +kernel) ?_
                    refine zw_iload_n 11 f44_10 rfl rfl ?_
                    refine zw_ishl (1 <<< ((nI np) &&& 31)) 12 f44_11 rfl rfl ?_
                    refine zw_ior ((I 12 5) ||| (1 <<< ((nI np) &&& 31))) 13 f44_12 rfl rfl ?_
                    refine zw_goto 26 f44_13 (by decide +kernel) ?_
                    refine zw_put _ 29 f44_26 rfl g44_38_9 (hb_12 _ _ _ _) rfl (Nat.le_of_ble_eq_true rfl) (by decide +kernel) (hi_12_5 _ _ _ _ _) ?_
                    refine zw_vreturn f44_29 r44 u44 ⟨rfl, ?_⟩
                    refine zw_aload_n 129 f83_128 rfl (zl1_ne rfl rfl (zl1_ne rfl rfl (zl1_ne rfl rfl rfl))) ?_
                    refine zw_iload 131 f83_129 rfl zl1_eq ?_
                    refine zw_virtual_i 134 0 0 [.ref 0, .int (nI np)] [(0, .ref 0), (1, .int (nI np))] f83_131 rfl n83_86 k83_86_11 rfl (hb_0 _ _ _ _) (by decide +kernel) (Nat.le_of_ble_eq_true rfl) rfl rfl (by decide +kernel) (by decide +kernel) rfl (Nat.le_of_ble_eq_true rfl) rfl ?_
                    refine zw_aload_n 1 f107_0 rfl rfl ?_
                    refine zw_getfield 4 f107_1 rfl g107_21_11 (hb_0 _ _ _ _) rfl ?_
                    refine zw_virtual_v 7 0 0 [.ref 11] [(0, .ref 11)] f107_4 rfl n107_318 k107_318_10 rfl (hb_11 _ _ _ _) (by decide +kernel) (Nat.le_of_ble_eq_true rfl) rfl rfl (by decide +kernel) (by decide +kernel) rfl (Nat.le_of_ble_eq_true rfl) rfl ?_
                    have hok1 : ok_pipe nv np P a b c := ⟨(Or.inl hc1), (Or.inr ⟨(qV.ofc (by omega) hc3 hc4), hc6⟩), (fun q => hc2 q.2), ⟨hc7, hc8⟩, (by omega)⟩
                    obtain ⟨hp2, hW2⟩ := hok hok1
                    have hR2 : cRS 11 nv (np + 1) (updA (updA (updA P 60 (upd (P 60) np a)) 61 (upd ((updA P 60 (upd (P 60) np a)) 61) np b)) 62 (upd ((updA (updA P 60 (upd (P 60) np a)) 61 (upd ((updA P 60 (upd (P 60) np a)) 61) np b)) 62) np c)) (wOpn np 1 W) (upd2 (upd2 I 1 1 (nI (np + 1))) 12 5 ((I 12 5) ||| (1 <<< ((nI np) &&& 31)))) G (updA (updA (updA A 9 (upd (A 9) np a)) 10 (upd ((updA A 9 (upd (A 9) np a)) 10) np b)) 15 (upd ((updA (updA A 9 (upd (A 9) np a)) 10 (upd ((updA A 9 (upd (A 9) np a)) 10) np b)) 15) np c)) B := ⟨⟨hR.1.1, rfl⟩, PE.of10 ((hR.2.1 53 (by omega) (by omega))) ((hR.2.1 54 (by omega) (by omega))) ((hR.2.1 55 (by omega) (by omega))) ((hR.2.1 56 (by omega) (by omega))) ((hR.2.1 57 (by omega) (by omega))) ((hR.2.1 58 (by omega) (by omega))) ((hR.2.1 59 (by omega) (by omega))) ((congrArg (fun z => upd z np a) ((hR.2.1 60 (by omega) (by omega))))) ((congrArg (fun z => upd z np b) ((hR.2.1 61 (by omega) (by omega))))) ((congrArg (fun z => upd z np c) ((hR.2.1 62 (by omega) (by omega))))), ⟨hR.2.2.1.1, hR.2.2.1.2.1, hR.2.2.1.2.2.1, hR.2.2.1.2.2.2⟩, hR.2.2.2.1, hR.2.2.2.2.1, ((bOf_set (by omega) (by omega)).trans (congrArg (fun z => upd z np 1) hR.2.2.2.2.2.1)), hR.2.2.2.2.2.2⟩
                    have hL2 : cLg L (upd2 (upd2 I 1 1 (nI (np + 1))) 12 5 ((I 12 5) ||| (1 <<< ((nI np) &&& 31)))) (updA (updA (updA A 9 (upd (A 9) np a)) 10 (upd ((updA A 9 (upd (A 9) np a)) 10) np b)) 15 (upd ((updA (updA A 9 (upd (A 9) np a)) 10 (upd ((updA A 9 (upd (A 9) np a)) 10) np b)) 15) np c)) := hL
                    refine zWp.mono (cx_settle_11 ro nv (np + 1) _ (wOpn np 1 W) 10000 (K + 1000) _ _ _ _ hR2 hp2 hW2.2.1 hW2.1 (by omega) (by omega)) ?_
                    rintro r h1 ⟨I_s, G_s, A_s, B_s, rfl, K_s, ⟨hR3, hH3⟩, rfl⟩
                    refine ⟨rfl, ?_⟩
                    have hL3 := hL2.k K_s rfl rfl rfl rfl rfl
                    refine zw_aload_n 8 f107_7 rfl rfl ?_
                    refine zw_getfield 11 f107_8 rfl g107_31_11 (hb_0 _ _ _ _) rfl ?_
                    refine zw_aload_n 12 f107_11 rfl rfl ?_
                    refine zw_getfield 15 f107_12 rfl g107_21_11 (hb_0 _ _ _ _) rfl ?_
                    refine zw_virtual_v 18 0 0 [.ref 33, .ref 11] [(0, .ref 33), (1, .ref 11)] f107_15 rfl n107_187 k107_187_3 rfl (hb_33 _ _ _ _) (by decide +kernel) (Nat.le_of_ble_eq_true rfl) rfl rfl (by decide +kernel) (by decide +kernel) rfl (Nat.le_of_ble_eq_true rfl) rfl ?_
                    have hq2 := mom_t hp2 hW2.2.1 hW2.1 (by omega) (by omega)
                    refine zWp.mono (cx_take ro _ _ _ _ _ _ (wOpn np 1 W).2.1 (wOpn np 1 W).1 so L (wEv nv _ (wOpn np 1 W)) hR3.2.2.1.2.1 hR3.2.2.1.1 hq2.1 hq2.2.1 hH3 hq2.2.2 hL3 (by omega)) ?_
                    rintro r h1 ⟨I_u, G_u, A_u, B_u, rfl, K_u, hL4, rfl⟩
                    refine ⟨rfl, ?_⟩
                    have hR4 := hR3.k K_u ⟨rfl, rfl⟩ fLt_w pLt_w
                    refine zw_aload_n 19 f107_18 rfl rfl ?_
                    refine zw_iload_n 20 f107_19 rfl rfl ?_
                    refine zw_virtual_i 23 0 0 [.ref 0, .int (nI np)] [(0, .ref 0), (1, .int (nI np))] f107_20 rfl n107_181 k107_181_11 rfl (hb_0 _ _ _ _) (by decide +kernel) (Nat.le_of_ble_eq_true rfl) rfl rfl (by decide +kernel) (by decide +kernel) rfl (Nat.le_of_ble_eq_true rfl) rfl ?_
                    refine zw_aload_n 1 f106_0 rfl rfl ?_
                    refine zw_iconst 0 2 f106_1 rfl (by decide +kernel) ?_
                    refine zw_put _ 5 f106_2 rfl g106_70_11 (hb_0 _ _ _ _) rfl (Nat.le_of_ble_eq_true rfl) (by decide +kernel) (hi_0_7 _ _ _ _ _) ?_
                    refine zw_iload_n 6 f106_5 rfl rfl ?_
                    refine zw_ireturn f106_6 r106 u106 ⟨_, rfl, ?_⟩
                    refine zw_ireturn f107_23 r107 u107 ⟨_, rfl, ?_⟩
                    refine zw_ireturn f83_134 r83 u83 ?_
                    exact ⟨_, _, _, _, rfl, (KQ.i rfl (KQ.tr (KQ.tr (KQ.i rfl (KQ.a rfl (KQ.i rfl (KQ.a rfl (KQ.a rfl KQ.rf))))) (KQ.wk K_s fSe_Hd pSe_Hd)) (KQ.wk K_u fLt_Hd pLt_Hd))), Or.inr ⟨hok1, hR4.k (show KQ (fun k j => decide (k = 0 ∧ j = 7)) p0 _ _ _ _ _ _ _ _ from KQ.i (k := 0) (j := 7) (v := 0) rfl KQ.rf) ⟨rfl, rfl⟩ (fun j _ _ => by simp) (p0_w 11), hL4, rfl⟩⟩
                  · have hn_hc9 : 14 ≤ np := zn_ge (by omega) (by omega) (Int32.not_lt.mp hc9)
                    refine zw_iconst (-1) 12 f21_11 rfl (by decide +kernel) ?_
                    refine zw_ireturn f21_12 r21 u21 ⟨_, rfl, ?_⟩
                    refine zw_istore _ 89 f83_87 rfl (by decide +kernel) rfl ?_
                    refine zw_iload 91 f83_89 rfl zl1_eq ?_
                    refine zw_iconst (-1) 92 f83_91 rfl (by decide +kernel) ?_
                    refine zw_ic_ne_f 95 101 f83_92 (by decide +kernel) rfl (by decide +kernel) ?_
                    refine zw_aload_n 96 f83_95 rfl (zl1_ne rfl rfl (zl1_ne rfl rfl (zl1_ne rfl rfl rfl))) ?_
                    refine zw_iconst 2 97 f83_96 rfl (by decide +kernel) ?_
                    refine zw_virtual_i 100 0 0 [.ref 0, .int 2] [(0, .ref 0), (1, .int 2)] f83_97 rfl n83_78 k83_78_11 rfl (hb_0 _ _ _ _) (by decide +kernel) (Nat.le_of_ble_eq_true rfl) rfl rfl (by decide +kernel) (by decide +kernel) rfl (Nat.le_of_ble_eq_true rfl) rfl ?_
                    refine zw_aload_n 1 f105_0 rfl rfl ?_
                    refine zw_iload_n 2 f105_1 rfl rfl ?_
                    refine zw_put _ 5 f105_2 rfl g105_70_11 (hb_0 _ _ _ _) rfl (Nat.le_of_ble_eq_true rfl) (by decide +kernel) (hi_0_7 _ _ _ _ _) ?_
                    refine zw_iconst (-1) 6 f105_5 rfl (by decide +kernel) ?_
                    refine zw_ireturn f105_6 r105 u105 ⟨_, rfl, ?_⟩
                    refine zw_ireturn f83_100 r83 u83 ?_
                    exact ⟨_, _, _, _, rfl, (KQ.i rfl KQ.rf), Or.inl ⟨(fun q => (fun q => q (by omega)) q.2.2.2.2), hR.k (show KQ (fun k j => decide (k = 0 ∧ j = 7)) p0 _ _ _ _ _ _ _ _ from KQ.i (k := 0) (j := 7) (v := 2) rfl KQ.rf) ⟨rfl, rfl⟩ (fun j _ _ => by simp) (p0_w 11), hL, rfl⟩⟩
    · refine zw_iconst 1 34 f83_33 rfl (by decide +kernel) ?_
      refine zw_goto 38 f83_34 (by decide +kernel) ?_
      refine zw_istore _ 40 f83_38 rfl (by decide +kernel) rfl ?_
      refine zw_iload 42 f83_40 rfl (zl1_ne rfl rfl zl1_eq) ?_
      refine zw_if_eq_f 45 72 f83_42 (by decide +kernel) rfl (by decide +kernel) ?_
      refine zw_iload 47 f83_45 rfl zl1_eq ?_
      refine zw_if_ne_t 72 f83_47 (by decide +kernel) (by decide +kernel) ?_
      refine zw_aload_n 73 f83_72 rfl (zl1_ne rfl rfl (zl1_ne rfl rfl rfl)) ?_
      refine zw_iconst 1 74 f83_73 rfl (by decide +kernel) ?_
      refine zw_virtual_i 77 0 0 [.ref 0, .int 1] [(0, .ref 0), (1, .int 1)] f83_74 rfl n83_78 k83_78_11 rfl (hb_0 _ _ _ _) (by decide +kernel) (Nat.le_of_ble_eq_true rfl) rfl rfl (by decide +kernel) (by decide +kernel) rfl (Nat.le_of_ble_eq_true rfl) rfl ?_
      refine zw_aload_n 1 f105_0 rfl rfl ?_
      refine zw_iload_n 2 f105_1 rfl rfl ?_
      refine zw_put _ 5 f105_2 rfl g105_70_11 (hb_0 _ _ _ _) rfl (Nat.le_of_ble_eq_true rfl) (by decide +kernel) (hi_0_7 _ _ _ _ _) ?_
      refine zw_iconst (-1) 6 f105_5 rfl (by decide +kernel) ?_
      refine zw_ireturn f105_6 r105 u105 ⟨_, rfl, ?_⟩
      refine zw_ireturn f83_77 r83 u83 ?_
      exact ⟨_, _, _, _, rfl, (KQ.i rfl KQ.rf), Or.inl ⟨(fun q => (fun q => q ⟨hc1, (Decidable.of_not_not hc2)⟩) q.2.2.1), hR.k (show KQ (fun k j => decide (k = 0 ∧ j = 7)) p0 _ _ _ _ _ _ _ _ from KQ.i (k := 0) (j := 7) (v := 1) rfl KQ.rf) ⟨rfl, rfl⟩ (fun j _ _ => by simp) (p0_w 11), hL, rfl⟩⟩
  · refine zw_aload_n 6 f83_5 rfl rfl ?_
    refine zw_getfield 9 f83_6 rfl g83_10_11 (hb_0 _ _ _ _) rfl ?_
    refine zw_iload_n 10 f83_9 rfl rfl ?_
    refine zw_virtual_i 13 0 0 [.ref 1, .int a] [(0, .ref 1), (1, .int a)] f83_10 rfl n83_89 k83_89_4 rfl (hb_1 _ _ _ _) (by decide +kernel) (Nat.le_of_ble_eq_true rfl) rfl rfl (by decide +kernel) (by decide +kernel) rfl (Nat.le_of_ble_eq_true rfl) rfl ?_
    refine zw_iload_n 1 f13_0 rfl rfl ?_
    refine zw_if_lt 4 22 f13_1 (by decide +kernel) rfl (fun hc10 => ?_) (fun hc10 => ?_)
    · refine zw_iconst 0 23 f13_22 rfl (by decide +kernel) ?_
      refine zw_zreturn f13_23 r13 u13 (by decide +kernel) ⟨_, rfl, ?_⟩
      refine zw_if_eq_t 20 f83_13 (by decide +kernel) (by decide +kernel) ?_
      refine zw_iconst 0 21 f83_20 rfl (by decide +kernel) ?_
      refine zw_istore _ 23 f83_21 rfl (by decide +kernel) rfl ?_
      refine zw_iload_n 24 f83_23 rfl (zl1_ne rfl rfl rfl) ?_
      refine zw_iconst (-1) 25 f83_24 rfl (by decide +kernel) ?_
      refine zw_ic_ne_t 37 f83_25 (by decide +kernel) hc1 ?_
      refine zw_iconst 0 38 f83_37 rfl (by decide +kernel) ?_
      refine zw_istore _ 40 f83_38 rfl (by decide +kernel) rfl ?_
      refine zw_iload 42 f83_40 rfl (zl1_ne rfl rfl zl1_eq) ?_
      refine zw_if_eq_t 72 f83_42 (by decide +kernel) (by decide +kernel) ?_
      refine zw_aload_n 73 f83_72 rfl (zl1_ne rfl rfl (zl1_ne rfl rfl rfl)) ?_
      refine zw_iconst 1 74 f83_73 rfl (by decide +kernel) ?_
      refine zw_virtual_i 77 0 0 [.ref 0, .int 1] [(0, .ref 0), (1, .int 1)] f83_74 rfl n83_78 k83_78_11 rfl (hb_0 _ _ _ _) (by decide +kernel) (Nat.le_of_ble_eq_true rfl) rfl rfl (by decide +kernel) (by decide +kernel) rfl (Nat.le_of_ble_eq_true rfl) rfl ?_
      refine zw_aload_n 1 f105_0 rfl rfl ?_
      refine zw_iload_n 2 f105_1 rfl rfl ?_
      refine zw_put _ 5 f105_2 rfl g105_70_11 (hb_0 _ _ _ _) rfl (Nat.le_of_ble_eq_true rfl) (by decide +kernel) (hi_0_7 _ _ _ _ _) ?_
      refine zw_iconst (-1) 6 f105_5 rfl (by decide +kernel) ?_
      refine zw_ireturn f105_6 r105 u105 ⟨_, rfl, ?_⟩
      refine zw_ireturn f83_77 r83 u83 ?_
      exact ⟨_, _, _, _, rfl, (KQ.i rfl KQ.rf), Or.inl ⟨(fun q => (fun q => q.elim hc1 (qV.n0 (by omega) hc10)) q.1), hR.k (show KQ (fun k j => decide (k = 0 ∧ j = 7)) p0 _ _ _ _ _ _ _ _ from KQ.i (k := 0) (j := 7) (v := 1) rfl KQ.rf) ⟨rfl, rfl⟩ (fun j _ _ => by simp) (p0_w 11), hL, rfl⟩⟩
    · refine zw_iload_n 5 f13_4 rfl rfl ?_
      refine zw_aload_n 6 f13_5 rfl rfl ?_
      refine zw_getI (nI nv) 9 f13_6 rfl g13_39_4 (hb_1 _ _ _ _) rfl hR.1.1 ?_
      refine zw_ic_ge 12 22 f13_9 (by decide +kernel) rfl (fun hc11 => ?_) (fun hc11 => ?_)
      · refine zw_iconst 0 23 f13_22 rfl (by decide +kernel) ?_
        refine zw_zreturn f13_23 r13 u13 (by decide +kernel) ⟨_, rfl, ?_⟩
        refine zw_if_eq_t 20 f83_13 (by decide +kernel) (by decide +kernel) ?_
        refine zw_iconst 0 21 f83_20 rfl (by decide +kernel) ?_
        refine zw_istore _ 23 f83_21 rfl (by decide +kernel) rfl ?_
        refine zw_iload_n 24 f83_23 rfl (zl1_ne rfl rfl rfl) ?_
        refine zw_iconst (-1) 25 f83_24 rfl (by decide +kernel) ?_
        refine zw_ic_ne_t 37 f83_25 (by decide +kernel) hc1 ?_
        refine zw_iconst 0 38 f83_37 rfl (by decide +kernel) ?_
        refine zw_istore _ 40 f83_38 rfl (by decide +kernel) rfl ?_
        refine zw_iload 42 f83_40 rfl (zl1_ne rfl rfl zl1_eq) ?_
        refine zw_if_eq_t 72 f83_42 (by decide +kernel) (by decide +kernel) ?_
        refine zw_aload_n 73 f83_72 rfl (zl1_ne rfl rfl (zl1_ne rfl rfl rfl)) ?_
        refine zw_iconst 1 74 f83_73 rfl (by decide +kernel) ?_
        refine zw_virtual_i 77 0 0 [.ref 0, .int 1] [(0, .ref 0), (1, .int 1)] f83_74 rfl n83_78 k83_78_11 rfl (hb_0 _ _ _ _) (by decide +kernel) (Nat.le_of_ble_eq_true rfl) rfl rfl (by decide +kernel) (by decide +kernel) rfl (Nat.le_of_ble_eq_true rfl) rfl ?_
        refine zw_aload_n 1 f105_0 rfl rfl ?_
        refine zw_iload_n 2 f105_1 rfl rfl ?_
        refine zw_put _ 5 f105_2 rfl g105_70_11 (hb_0 _ _ _ _) rfl (Nat.le_of_ble_eq_true rfl) (by decide +kernel) (hi_0_7 _ _ _ _ _) ?_
        refine zw_iconst (-1) 6 f105_5 rfl (by decide +kernel) ?_
        refine zw_ireturn f105_6 r105 u105 ⟨_, rfl, ?_⟩
        refine zw_ireturn f83_77 r83 u83 ?_
        exact ⟨_, _, _, _, rfl, (KQ.i rfl KQ.rf), Or.inl ⟨(fun q => (fun q => q.elim hc1 (qV.n2 (by omega) hc11)) q.1), hR.k (show KQ (fun k j => decide (k = 0 ∧ j = 7)) p0 _ _ _ _ _ _ _ _ from KQ.i (k := 0) (j := 7) (v := 1) rfl KQ.rf) ⟨rfl, rfl⟩ (fun j _ _ => by simp) (p0_w 11), hL, rfl⟩⟩
      · refine zw_iload_n 13 f13_12 rfl rfl ?_
        refine zw_bipush 8 15 f13_13 rfl (by decide +kernel) ?_
        refine zw_ic_ge 18 22 f13_15 (by decide +kernel) rfl (fun hc12 => ?_) (fun hc12 => ?_)
        · refine zw_iconst 0 23 f13_22 rfl (by decide +kernel) ?_
          refine zw_zreturn f13_23 r13 u13 (by decide +kernel) ⟨_, rfl, ?_⟩
          refine zw_if_eq_t 20 f83_13 (by decide +kernel) (by decide +kernel) ?_
          refine zw_iconst 0 21 f83_20 rfl (by decide +kernel) ?_
          refine zw_istore _ 23 f83_21 rfl (by decide +kernel) rfl ?_
          refine zw_iload_n 24 f83_23 rfl (zl1_ne rfl rfl rfl) ?_
          refine zw_iconst (-1) 25 f83_24 rfl (by decide +kernel) ?_
          refine zw_ic_ne_t 37 f83_25 (by decide +kernel) hc1 ?_
          refine zw_iconst 0 38 f83_37 rfl (by decide +kernel) ?_
          refine zw_istore _ 40 f83_38 rfl (by decide +kernel) rfl ?_
          refine zw_iload 42 f83_40 rfl (zl1_ne rfl rfl zl1_eq) ?_
          refine zw_if_eq_t 72 f83_42 (by decide +kernel) (by decide +kernel) ?_
          refine zw_aload_n 73 f83_72 rfl (zl1_ne rfl rfl (zl1_ne rfl rfl rfl)) ?_
          refine zw_iconst 1 74 f83_73 rfl (by decide +kernel) ?_
          refine zw_virtual_i 77 0 0 [.ref 0, .int 1] [(0, .ref 0), (1, .int 1)] f83_74 rfl n83_78 k83_78_11 rfl (hb_0 _ _ _ _) (by decide +kernel) (Nat.le_of_ble_eq_true rfl) rfl rfl (by decide +kernel) (by decide +kernel) rfl (Nat.le_of_ble_eq_true rfl) rfl ?_
          refine zw_aload_n 1 f105_0 rfl rfl ?_
          refine zw_iload_n 2 f105_1 rfl rfl ?_
          refine zw_put _ 5 f105_2 rfl g105_70_11 (hb_0 _ _ _ _) rfl (Nat.le_of_ble_eq_true rfl) (by decide +kernel) (hi_0_7 _ _ _ _ _) ?_
          refine zw_iconst (-1) 6 f105_5 rfl (by decide +kernel) ?_
          refine zw_ireturn f105_6 r105 u105 ⟨_, rfl, ?_⟩
          refine zw_ireturn f83_77 r83 u83 ?_
          exact ⟨_, _, _, _, rfl, (KQ.i rfl KQ.rf), Or.inl ⟨(fun q => (fun q => q.elim hc1 (qV.n3 (m := 8) (N := 8) (by omega) (by omega) (by decide) hc12)) q.1), hR.k (show KQ (fun k j => decide (k = 0 ∧ j = 7)) p0 _ _ _ _ _ _ _ _ from KQ.i (k := 0) (j := 7) (v := 1) rfl KQ.rf) ⟨rfl, rfl⟩ (fun j _ _ => by simp) (p0_w 11), hL, rfl⟩⟩
        · refine zw_iconst 1 19 f13_18 rfl (by decide +kernel) ?_
          refine zw_goto 23 f13_19 (by decide +kernel) ?_
          refine zw_zreturn f13_23 r13 u13 (by decide +kernel) ⟨_, rfl, ?_⟩
          refine zw_if_eq_f 16 20 f83_13 (by decide +kernel) rfl (by decide +kernel) ?_
          refine zw_iconst 1 17 f83_16 rfl (by decide +kernel) ?_
          refine zw_goto 21 f83_17 (by decide +kernel) ?_
          refine zw_istore _ 23 f83_21 rfl (by decide +kernel) rfl ?_
          refine zw_iload_n 24 f83_23 rfl (zl1_ne rfl rfl rfl) ?_
          refine zw_iconst (-1) 25 f83_24 rfl (by decide +kernel) ?_
          refine zw_ic_ne_t 37 f83_25 (by decide +kernel) hc1 ?_
          refine zw_iconst 0 38 f83_37 rfl (by decide +kernel) ?_
          refine zw_istore _ 40 f83_38 rfl (by decide +kernel) rfl ?_
          refine zw_iload 42 f83_40 rfl (zl1_ne rfl rfl zl1_eq) ?_
          refine zw_if_eq_f 45 72 f83_42 (by decide +kernel) rfl (by decide +kernel) ?_
          refine zw_iload 47 f83_45 rfl zl1_eq ?_
          refine zw_if_ne_f 50 72 f83_47 (by decide +kernel) rfl (by decide +kernel) ?_
          refine zw_aload_n 51 f83_50 rfl (zl1_ne rfl rfl (zl1_ne rfl rfl rfl)) ?_
          refine zw_getfield 54 f83_51 rfl g83_10_11 (hb_0 _ _ _ _) rfl ?_
          refine zw_iload_n 55 f83_54 rfl (zl1_ne rfl rfl (zl1_ne rfl rfl rfl)) ?_
          refine zw_iload_n 56 f83_55 rfl (zl1_ne rfl rfl (zl1_ne rfl rfl rfl)) ?_
          refine zw_virtual_i 59 0 0 [.ref 1, .int b, .int a] [(0, .ref 1), (1, .int b), (2, .int a)] f83_56 rfl n83_121 k83_121_4 rfl (hb_1 _ _ _ _) (by decide +kernel) (Nat.le_of_ble_eq_true rfl) rfl rfl (by decide +kernel) (by decide +kernel) rfl (Nat.le_of_ble_eq_true rfl) rfl ?_
          refine zw_iload_n 1 f19_0 rfl rfl ?_
          refine zw_iconst (-1) 2 f19_1 rfl (by decide +kernel) ?_
          refine zw_ic_eq 5 18 f19_2 (by decide +kernel) rfl (fun hc13 => ?_) (fun hc13 => ?_)
          · refine zw_iconst 1 19 f19_18 rfl (by decide +kernel) ?_
            refine zw_goto 23 f19_19 (by decide +kernel) ?_
            refine zw_zreturn f19_23 r19 u19 (by decide +kernel) ⟨_, rfl, ?_⟩
            refine zw_if_eq_f 62 72 f83_59 (by decide +kernel) rfl (by decide +kernel) ?_
            refine zw_iload_n 63 f83_62 rfl (zl1_ne rfl rfl (zl1_ne rfl rfl rfl)) ?_
            refine zw_iconst 1 64 f83_63 rfl (by decide +kernel) ?_
            refine zw_bipush 20 66 f83_64 rfl (by decide +kernel) ?_
            refine zw_static_i 69 0 0 [.int c, .int 1, .int 20] [] [(0, .int c), (1, .int 1), (2, .int 20)] f83_66 rfl k83_74_99 rfl (by decide +kernel) (Nat.le_of_ble_eq_true rfl) (Nat.le_of_ble_eq_true rfl) rfl rfl (by decide +kernel) (by decide +kernel) rfl (Nat.le_of_ble_eq_true rfl) rfl ?_
            refine zw_iload_n 1 f112_0 rfl rfl ?_
            refine zw_iload_n 2 f112_1 rfl rfl ?_
            refine zw_ic_lt 5 14 f112_2 (by decide +kernel) rfl (fun hc14 => ?_) (fun hc14 => ?_)
            · refine zw_iconst 0 15 f112_14 rfl (by decide +kernel) ?_
              refine zw_zreturn f112_15 r112 u112 (by decide +kernel) ⟨_, rfl, ?_⟩
              refine zw_if_ne_f 72 78 f83_69 (by decide +kernel) rfl (by decide +kernel) ?_
              refine zw_aload_n 73 f83_72 rfl (zl1_ne rfl rfl (zl1_ne rfl rfl rfl)) ?_
              refine zw_iconst 1 74 f83_73 rfl (by decide +kernel) ?_
              refine zw_virtual_i 77 0 0 [.ref 0, .int 1] [(0, .ref 0), (1, .int 1)] f83_74 rfl n83_78 k83_78_11 rfl (hb_0 _ _ _ _) (by decide +kernel) (Nat.le_of_ble_eq_true rfl) rfl rfl (by decide +kernel) (by decide +kernel) rfl (Nat.le_of_ble_eq_true rfl) rfl ?_
              refine zw_aload_n 1 f105_0 rfl rfl ?_
              refine zw_iload_n 2 f105_1 rfl rfl ?_
              refine zw_put _ 5 f105_2 rfl g105_70_11 (hb_0 _ _ _ _) rfl (Nat.le_of_ble_eq_true rfl) (by decide +kernel) (hi_0_7 _ _ _ _ _) ?_
              refine zw_iconst (-1) 6 f105_5 rfl (by decide +kernel) ?_
              refine zw_ireturn f105_6 r105 u105 ⟨_, rfl, ?_⟩
              refine zw_ireturn f83_77 r83 u83 ?_
              exact ⟨_, _, _, _, rfl, (KQ.i rfl KQ.rf), Or.inl ⟨(fun q => (fun q => q.1 hc14) q.2.2.2.1), hR.k (show KQ (fun k j => decide (k = 0 ∧ j = 7)) p0 _ _ _ _ _ _ _ _ from KQ.i (k := 0) (j := 7) (v := 1) rfl KQ.rf) ⟨rfl, rfl⟩ (fun j _ _ => by simp) (p0_w 11), hL, rfl⟩⟩
            · refine zw_iload_n 6 f112_5 rfl rfl ?_
              refine zw_iload_n 7 f112_6 rfl rfl ?_
              refine zw_ic_gt 10 14 f112_7 (by decide +kernel) rfl (fun hc15 => ?_) (fun hc15 => ?_)
              · refine zw_iconst 0 15 f112_14 rfl (by decide +kernel) ?_
                refine zw_zreturn f112_15 r112 u112 (by decide +kernel) ⟨_, rfl, ?_⟩
                refine zw_if_ne_f 72 78 f83_69 (by decide +kernel) rfl (by decide +kernel) ?_
                refine zw_aload_n 73 f83_72 rfl (zl1_ne rfl rfl (zl1_ne rfl rfl rfl)) ?_
                refine zw_iconst 1 74 f83_73 rfl (by decide +kernel) ?_
                refine zw_virtual_i 77 0 0 [.ref 0, .int 1] [(0, .ref 0), (1, .int 1)] f83_74 rfl n83_78 k83_78_11 rfl (hb_0 _ _ _ _) (by decide +kernel) (Nat.le_of_ble_eq_true rfl) rfl rfl (by decide +kernel) (by decide +kernel) rfl (Nat.le_of_ble_eq_true rfl) rfl ?_
                refine zw_aload_n 1 f105_0 rfl rfl ?_
                refine zw_iload_n 2 f105_1 rfl rfl ?_
                refine zw_put _ 5 f105_2 rfl g105_70_11 (hb_0 _ _ _ _) rfl (Nat.le_of_ble_eq_true rfl) (by decide +kernel) (hi_0_7 _ _ _ _ _) ?_
                refine zw_iconst (-1) 6 f105_5 rfl (by decide +kernel) ?_
                refine zw_ireturn f105_6 r105 u105 ⟨_, rfl, ?_⟩
                refine zw_ireturn f83_77 r83 u83 ?_
                exact ⟨_, _, _, _, rfl, (KQ.i rfl KQ.rf), Or.inl ⟨(fun q => (fun q => q.2 hc15) q.2.2.2.1), hR.k (show KQ (fun k j => decide (k = 0 ∧ j = 7)) p0 _ _ _ _ _ _ _ _ from KQ.i (k := 0) (j := 7) (v := 1) rfl KQ.rf) ⟨rfl, rfl⟩ (fun j _ _ => by simp) (p0_w 11), hL, rfl⟩⟩
              · refine zw_iconst 1 11 f112_10 rfl (by decide +kernel) ?_
                refine zw_goto 15 f112_11 (by decide +kernel) ?_
                refine zw_zreturn f112_15 r112 u112 (by decide +kernel) ⟨_, rfl, ?_⟩
                refine zw_if_ne_t 78 f83_69 (by decide +kernel) (by decide +kernel) ?_
                refine zw_aload_n 79 f83_78 rfl (zl1_ne rfl rfl (zl1_ne rfl rfl rfl)) ?_
                refine zw_getfield 82 f83_79 rfl g83_10_11 (hb_0 _ _ _ _) rfl ?_
                refine zw_iload_n 83 f83_82 rfl (zl1_ne rfl rfl (zl1_ne rfl rfl rfl)) ?_
                refine zw_iload_n 84 f83_83 rfl (zl1_ne rfl rfl (zl1_ne rfl rfl rfl)) ?_
                refine zw_virtual_i 87 0 0 [.ref 1, .int a, .int b] [(0, .ref 1), (1, .int a), (2, .int b)] f83_84 rfl n83_131 k83_131_4 rfl (hb_1 _ _ _ _) (by decide +kernel) (Nat.le_of_ble_eq_true rfl) rfl rfl (by decide +kernel) (by decide +kernel) rfl (Nat.le_of_ble_eq_true rfl) rfl ?_
                refine zw_aload_n 1 f21_0 rfl rfl ?_
                refine zw_getI (nI np) 4 f21_1 rfl g21_43_4 (hb_1 _ _ _ _) rfl hR.1.2 ?_
                refine zw_istore_n _ 5 f21_4 rfl (by decide +kernel) rfl ?_
                refine zw_iload_n 6 f21_5 rfl zl1_eq ?_
                refine zw_bipush 14 8 f21_6 rfl (by decide +kernel) ?_
                refine zw_ic_lt 11 13 f21_8 (by decide +kernel) rfl (fun hc16 => ?_) (fun hc16 => ?_)
                · have hn_hc16 : np < 14 := zn_lt (by omega) (by omega) (Int32.not_le.mpr hc16)
                  refine zw_aload_n 14 f21_13 rfl (zl1_ne rfl rfl rfl) ?_
                  refine zw_getfield 17 f21_14 rfl g21_33_4 (hb_1 _ _ _ _) rfl ?_
                  refine zw_iload_n 18 f21_17 rfl zl1_eq ?_
                  refine zw_iload_n 19 f21_18 rfl (zl1_ne rfl rfl rfl) ?_
                  refine zw_ast np _ 20 f21_19 rfl (hb_9 _ _ _ _) (nI_clamp (by omega)) (nI_pos (by omega)) (by omega) (ha_9 _ _ _ _ _) ?_
                  refine zw_aload_n 21 f21_20 rfl (zl1_ne rfl rfl rfl) ?_
                  refine zw_getfield 24 f21_21 rfl g21_36_4 (hb_1 _ _ _ _) rfl ?_
                  refine zw_iload_n 25 f21_24 rfl zl1_eq ?_
                  refine zw_iload_n 26 f21_25 rfl (zl1_ne rfl rfl rfl) ?_
                  refine zw_ast np _ 27 f21_26 rfl (hb_10 _ _ _ _) (nI_clamp (by omega)) (nI_pos (by omega)) (by omega) (ha_10 _ _ _ _ _) ?_
                  refine zw_aload_n 28 f21_27 rfl (zl1_ne rfl rfl rfl) ?_
                  refine zw_iload_n 29 f21_28 rfl zl1_eq ?_
                  refine zw_iconst 1 30 f21_29 rfl (by decide +kernel) ?_
                  refine zw_iadd (nI (np + 1)) 31 f21_30 rfl (nI_add _ 1) ?_
                  refine zw_put _ 34 f21_31 rfl g21_43_4 (hb_1 _ _ _ _) rfl (Nat.le_of_ble_eq_true rfl) (by decide +kernel) (hi_1_1 _ _ _ _ _) ?_
                  refine zw_iload_n 35 f21_34 rfl zl1_eq ?_
                  refine zw_ireturn f21_35 r21 u21 ⟨_, rfl, ?_⟩
                  refine zw_istore _ 89 f83_87 rfl (by decide +kernel) rfl ?_
                  refine zw_iload 91 f83_89 rfl zl1_eq ?_
                  refine zw_iconst (-1) 92 f83_91 rfl (by decide +kernel) ?_
                  refine zw_ic_ne_t 101 f83_92 (by decide +kernel) (nI_nem (by omega)) ?_
                  refine zw_aload_n 102 f83_101 rfl (zl1_ne rfl rfl (zl1_ne rfl rfl (zl1_ne rfl rfl rfl))) ?_
                  refine zw_getfield 105 f83_102 rfl g83_21_11 (hb_0 _ _ _ _) rfl ?_
                  refine zw_getfield 108 f83_105 rfl g83_134_10 (hb_11 _ _ _ _) rfl ?_
                  refine zw_getfield 111 f83_108 rfl g83_138_9 (hb_12 _ _ _ _) rfl ?_
                  refine zw_iload 113 f83_111 rfl zl1_eq ?_
                  refine zw_iload_n 114 f83_113 rfl (zl1_ne rfl rfl (zl1_ne rfl rfl (zl1_ne rfl rfl rfl))) ?_
                  refine zw_ast np _ 115 f83_114 rfl (hb_15 _ _ _ _) (nI_clamp (by omega)) (nI_pos (by omega)) (by omega) (ha_15 _ _ _ _ _) ?_
                  refine zw_aload_n 116 f83_115 rfl (zl1_ne rfl rfl (zl1_ne rfl rfl (zl1_ne rfl rfl rfl))) ?_
                  refine zw_getfield 119 f83_116 rfl g83_21_11 (hb_0 _ _ _ _) rfl ?_
                  refine zw_getfield 122 f83_119 rfl g83_134_10 (hb_11 _ _ _ _) rfl ?_
                  refine zw_iload 124 f83_122 rfl zl1_eq ?_
                  refine zw_iconst 1 125 f83_124 rfl (by decide +kernel) ?_
                  refine zw_virtual_v 128 0 0 [.ref 12, .int (nI np), .int 1] [(0, .ref 12), (1, .int (nI np)), (2, .int 1)] f83_125 rfl n83_143 k83_143_9 rfl (hb_12 _ _ _ _) (by decide +kernel) (Nat.le_of_ble_eq_true rfl) rfl rfl (by decide +kernel) (by decide +kernel) rfl (Nat.le_of_ble_eq_true rfl) rfl ?_
                  refine zw_aload_n 1 f44_0 rfl rfl ?_
                  refine zw_iload_n 2 f44_1 rfl rfl ?_
                  refine zw_if_eq_f 5 16 f44_2 (by decide +kernel) rfl (by decide +kernel) ?_
                  refine zw_aload_n 6 f44_5 rfl rfl ?_
                  refine zw_getI (I 12 5) 9 f44_6 rfl g44_38_9 (hb_12 _ _ _ _) rfl rfl ?_
                  refine zw_iconst 1 10 f44_9 rfl (by decide +kernel) ?_
                  refine zw_iload_n 11 f44_10 rfl rfl ?_
                  refine zw_ishl (1 <<< ((nI np) &&& 31)) 12 f44_11 rfl rfl ?_
                  refine zw_ior ((I 12 5) ||| (1 <<< ((nI np) &&& 31))) 13 f44_12 rfl rfl ?_
                  refine zw_goto 26 f44_13 (by decide +kernel) ?_
                  refine zw_put _ 29 f44_26 rfl g44_38_9 (hb_12 _ _ _ _) rfl (Nat.le_of_ble_eq_true rfl) (by decide +kernel) (hi_12_5 _ _ _ _ _) ?_
                  refine zw_vreturn f44_29 r44 u44 ⟨rfl, ?_⟩
                  refine zw_aload_n 129 f83_128 rfl (zl1_ne rfl rfl (zl1_ne rfl rfl (zl1_ne rfl rfl rfl))) ?_
                  refine zw_iload 131 f83_129 rfl zl1_eq ?_
                  refine zw_virtual_i 134 0 0 [.ref 0, .int (nI np)] [(0, .ref 0), (1, .int (nI np))] f83_131 rfl n83_86 k83_86_11 rfl (hb_0 _ _ _ _) (by decide +kernel) (Nat.le_of_ble_eq_true rfl) rfl rfl (by decide +kernel) (by decide +kernel) rfl (Nat.le_of_ble_eq_true rfl) rfl ?_
                  refine zw_aload_n 1 f107_0 rfl rfl ?_
                  refine zw_getfield 4 f107_1 rfl g107_21_11 (hb_0 _ _ _ _) rfl ?_
                  refine zw_virtual_v 7 0 0 [.ref 11] [(0, .ref 11)] f107_4 rfl n107_318 k107_318_10 rfl (hb_11 _ _ _ _) (by decide +kernel) (Nat.le_of_ble_eq_true rfl) rfl rfl (by decide +kernel) (by decide +kernel) rfl (Nat.le_of_ble_eq_true rfl) rfl ?_
                  have hok1 : ok_pipe nv np P a b c := ⟨(Or.inr (qV.ofc (by omega) hc10 hc11)), (Or.inl hc13), (fun q => hc1 q.1), ⟨hc14, hc15⟩, (by omega)⟩
                  obtain ⟨hp2, hW2⟩ := hok hok1
                  have hR2 : cRS 11 nv (np + 1) (updA (updA (updA P 60 (upd (P 60) np a)) 61 (upd ((updA P 60 (upd (P 60) np a)) 61) np b)) 62 (upd ((updA (updA P 60 (upd (P 60) np a)) 61 (upd ((updA P 60 (upd (P 60) np a)) 61) np b)) 62) np c)) (wOpn np 1 W) (upd2 (upd2 I 1 1 (nI (np + 1))) 12 5 ((I 12 5) ||| (1 <<< ((nI np) &&& 31)))) G (updA (updA (updA A 9 (upd (A 9) np a)) 10 (upd ((updA A 9 (upd (A 9) np a)) 10) np b)) 15 (upd ((updA (updA A 9 (upd (A 9) np a)) 10 (upd ((updA A 9 (upd (A 9) np a)) 10) np b)) 15) np c)) B := ⟨⟨hR.1.1, rfl⟩, PE.of10 ((hR.2.1 53 (by omega) (by omega))) ((hR.2.1 54 (by omega) (by omega))) ((hR.2.1 55 (by omega) (by omega))) ((hR.2.1 56 (by omega) (by omega))) ((hR.2.1 57 (by omega) (by omega))) ((hR.2.1 58 (by omega) (by omega))) ((hR.2.1 59 (by omega) (by omega))) ((congrArg (fun z => upd z np a) ((hR.2.1 60 (by omega) (by omega))))) ((congrArg (fun z => upd z np b) ((hR.2.1 61 (by omega) (by omega))))) ((congrArg (fun z => upd z np c) ((hR.2.1 62 (by omega) (by omega))))), ⟨hR.2.2.1.1, hR.2.2.1.2.1, hR.2.2.1.2.2.1, hR.2.2.1.2.2.2⟩, hR.2.2.2.1, hR.2.2.2.2.1, ((bOf_set (by omega) (by omega)).trans (congrArg (fun z => upd z np 1) hR.2.2.2.2.2.1)), hR.2.2.2.2.2.2⟩
                  have hL2 : cLg L (upd2 (upd2 I 1 1 (nI (np + 1))) 12 5 ((I 12 5) ||| (1 <<< ((nI np) &&& 31)))) (updA (updA (updA A 9 (upd (A 9) np a)) 10 (upd ((updA A 9 (upd (A 9) np a)) 10) np b)) 15 (upd ((updA (updA A 9 (upd (A 9) np a)) 10 (upd ((updA A 9 (upd (A 9) np a)) 10) np b)) 15) np c)) := hL
                  refine zWp.mono (cx_settle_11 ro nv (np + 1) _ (wOpn np 1 W) 10000 (K + 1000) _ _ _ _ hR2 hp2 hW2.2.1 hW2.1 (by omega) (by omega)) ?_
                  rintro r h1 ⟨I_s, G_s, A_s, B_s, rfl, K_s, ⟨hR3, hH3⟩, rfl⟩
                  refine ⟨rfl, ?_⟩
                  have hL3 := hL2.k K_s rfl rfl rfl rfl rfl
                  refine zw_aload_n 8 f107_7 rfl rfl ?_
                  refine zw_getfield 11 f107_8 rfl g107_31_11 (hb_0 _ _ _ _) rfl ?_
                  refine zw_aload_n 12 f107_11 rfl rfl ?_
                  refine zw_getfield 15 f107_12 rfl g107_21_11 (hb_0 _ _ _ _) rfl ?_
                  refine zw_virtual_v 18 0 0 [.ref 33, .ref 11] [(0, .ref 33), (1, .ref 11)] f107_15 rfl n107_187 k107_187_3 rfl (hb_33 _ _ _ _) (by decide +kernel) (Nat.le_of_ble_eq_true rfl) rfl rfl (by decide +kernel) (by decide +kernel) rfl (Nat.le_of_ble_eq_true rfl) rfl ?_
                  have hq2 := mom_t hp2 hW2.2.1 hW2.1 (by omega) (by omega)
                  refine zWp.mono (cx_take ro _ _ _ _ _ _ (wOpn np 1 W).2.1 (wOpn np 1 W).1 so L (wEv nv _ (wOpn np 1 W)) hR3.2.2.1.2.1 hR3.2.2.1.1 hq2.1 hq2.2.1 hH3 hq2.2.2 hL3 (by omega)) ?_
                  rintro r h1 ⟨I_u, G_u, A_u, B_u, rfl, K_u, hL4, rfl⟩
                  refine ⟨rfl, ?_⟩
                  have hR4 := hR3.k K_u ⟨rfl, rfl⟩ fLt_w pLt_w
                  refine zw_aload_n 19 f107_18 rfl rfl ?_
                  refine zw_iload_n 20 f107_19 rfl rfl ?_
                  refine zw_virtual_i 23 0 0 [.ref 0, .int (nI np)] [(0, .ref 0), (1, .int (nI np))] f107_20 rfl n107_181 k107_181_11 rfl (hb_0 _ _ _ _) (by decide +kernel) (Nat.le_of_ble_eq_true rfl) rfl rfl (by decide +kernel) (by decide +kernel) rfl (Nat.le_of_ble_eq_true rfl) rfl ?_
                  refine zw_aload_n 1 f106_0 rfl rfl ?_
                  refine zw_iconst 0 2 f106_1 rfl (by decide +kernel) ?_
                  refine zw_put _ 5 f106_2 rfl g106_70_11 (hb_0 _ _ _ _) rfl (Nat.le_of_ble_eq_true rfl) (by decide +kernel) (hi_0_7 _ _ _ _ _) ?_
                  refine zw_iload_n 6 f106_5 rfl rfl ?_
                  refine zw_ireturn f106_6 r106 u106 ⟨_, rfl, ?_⟩
                  refine zw_ireturn f107_23 r107 u107 ⟨_, rfl, ?_⟩
                  refine zw_ireturn f83_134 r83 u83 ?_
                  exact ⟨_, _, _, _, rfl, (KQ.i rfl (KQ.tr (KQ.tr (KQ.i rfl (KQ.a rfl (KQ.i rfl (KQ.a rfl (KQ.a rfl KQ.rf))))) (KQ.wk K_s fSe_Hd pSe_Hd)) (KQ.wk K_u fLt_Hd pLt_Hd))), Or.inr ⟨hok1, hR4.k (show KQ (fun k j => decide (k = 0 ∧ j = 7)) p0 _ _ _ _ _ _ _ _ from KQ.i (k := 0) (j := 7) (v := 0) rfl KQ.rf) ⟨rfl, rfl⟩ (fun j _ _ => by simp) (p0_w 11), hL4, rfl⟩⟩
                · have hn_hc16 : 14 ≤ np := zn_ge (by omega) (by omega) (Int32.not_lt.mp hc16)
                  refine zw_iconst (-1) 12 f21_11 rfl (by decide +kernel) ?_
                  refine zw_ireturn f21_12 r21 u21 ⟨_, rfl, ?_⟩
                  refine zw_istore _ 89 f83_87 rfl (by decide +kernel) rfl ?_
                  refine zw_iload 91 f83_89 rfl zl1_eq ?_
                  refine zw_iconst (-1) 92 f83_91 rfl (by decide +kernel) ?_
                  refine zw_ic_ne_f 95 101 f83_92 (by decide +kernel) rfl (by decide +kernel) ?_
                  refine zw_aload_n 96 f83_95 rfl (zl1_ne rfl rfl (zl1_ne rfl rfl (zl1_ne rfl rfl rfl))) ?_
                  refine zw_iconst 2 97 f83_96 rfl (by decide +kernel) ?_
                  refine zw_virtual_i 100 0 0 [.ref 0, .int 2] [(0, .ref 0), (1, .int 2)] f83_97 rfl n83_78 k83_78_11 rfl (hb_0 _ _ _ _) (by decide +kernel) (Nat.le_of_ble_eq_true rfl) rfl rfl (by decide +kernel) (by decide +kernel) rfl (Nat.le_of_ble_eq_true rfl) rfl ?_
                  refine zw_aload_n 1 f105_0 rfl rfl ?_
                  refine zw_iload_n 2 f105_1 rfl rfl ?_
                  refine zw_put _ 5 f105_2 rfl g105_70_11 (hb_0 _ _ _ _) rfl (Nat.le_of_ble_eq_true rfl) (by decide +kernel) (hi_0_7 _ _ _ _ _) ?_
                  refine zw_iconst (-1) 6 f105_5 rfl (by decide +kernel) ?_
                  refine zw_ireturn f105_6 r105 u105 ⟨_, rfl, ?_⟩
                  refine zw_ireturn f83_100 r83 u83 ?_
                  exact ⟨_, _, _, _, rfl, (KQ.i rfl KQ.rf), Or.inl ⟨(fun q => (fun q => q (by omega)) q.2.2.2.2), hR.k (show KQ (fun k j => decide (k = 0 ∧ j = 7)) p0 _ _ _ _ _ _ _ _ from KQ.i (k := 0) (j := 7) (v := 2) rfl KQ.rf) ⟨rfl, rfl⟩ (fun j _ _ => by simp) (p0_w 11), hL, rfl⟩⟩
          · refine zw_aload_n 6 f19_5 rfl rfl ?_
            refine zw_iload_n 7 f19_6 rfl rfl ?_
            refine zw_virtual_i 10 0 0 [.ref 1, .int b] [(0, .ref 1), (1, .int b)] f19_7 rfl n19_46 k19_46_4 rfl (hb_1 _ _ _ _) (by decide +kernel) (Nat.le_of_ble_eq_true rfl) rfl rfl (by decide +kernel) (by decide +kernel) rfl (Nat.le_of_ble_eq_true rfl) rfl ?_
            refine zw_iload_n 1 f13_0 rfl rfl ?_
            refine zw_if_lt 4 22 f13_1 (by decide +kernel) rfl (fun hc17 => ?_) (fun hc17 => ?_)
            · refine zw_iconst 0 23 f13_22 rfl (by decide +kernel) ?_
              refine zw_zreturn f13_23 r13 u13 (by decide +kernel) ⟨_, rfl, ?_⟩
              refine zw_if_eq_t 22 f19_10 (by decide +kernel) (by decide +kernel) ?_
              refine zw_iconst 0 23 f19_22 rfl (by decide +kernel) ?_
              refine zw_zreturn f19_23 r19 u19 (by decide +kernel) ⟨_, rfl, ?_⟩
              refine zw_if_eq_t 72 f83_59 (by decide +kernel) (by decide +kernel) ?_
              refine zw_aload_n 73 f83_72 rfl (zl1_ne rfl rfl (zl1_ne rfl rfl rfl)) ?_
              refine zw_iconst 1 74 f83_73 rfl (by decide +kernel) ?_
              refine zw_virtual_i 77 0 0 [.ref 0, .int 1] [(0, .ref 0), (1, .int 1)] f83_74 rfl n83_78 k83_78_11 rfl (hb_0 _ _ _ _) (by decide +kernel) (Nat.le_of_ble_eq_true rfl) rfl rfl (by decide +kernel) (by decide +kernel) rfl (Nat.le_of_ble_eq_true rfl) rfl ?_
              refine zw_aload_n 1 f105_0 rfl rfl ?_
              refine zw_iload_n 2 f105_1 rfl rfl ?_
              refine zw_put _ 5 f105_2 rfl g105_70_11 (hb_0 _ _ _ _) rfl (Nat.le_of_ble_eq_true rfl) (by decide +kernel) (hi_0_7 _ _ _ _ _) ?_
              refine zw_iconst (-1) 6 f105_5 rfl (by decide +kernel) ?_
              refine zw_ireturn f105_6 r105 u105 ⟨_, rfl, ?_⟩
              refine zw_ireturn f83_77 r83 u83 ?_
              exact ⟨_, _, _, _, rfl, (KQ.i rfl KQ.rf), Or.inl ⟨(fun q => (fun q => q.elim hc13 (fun z => (qV.n0 (by omega) hc17) z.1)) q.2.1), hR.k (show KQ (fun k j => decide (k = 0 ∧ j = 7)) p0 _ _ _ _ _ _ _ _ from KQ.i (k := 0) (j := 7) (v := 1) rfl KQ.rf) ⟨rfl, rfl⟩ (fun j _ _ => by simp) (p0_w 11), hL, rfl⟩⟩
            · refine zw_iload_n 5 f13_4 rfl rfl ?_
              refine zw_aload_n 6 f13_5 rfl rfl ?_
              refine zw_getI (nI nv) 9 f13_6 rfl g13_39_4 (hb_1 _ _ _ _) rfl hR.1.1 ?_
              refine zw_ic_ge 12 22 f13_9 (by decide +kernel) rfl (fun hc18 => ?_) (fun hc18 => ?_)
              · refine zw_iconst 0 23 f13_22 rfl (by decide +kernel) ?_
                refine zw_zreturn f13_23 r13 u13 (by decide +kernel) ⟨_, rfl, ?_⟩
                refine zw_if_eq_t 22 f19_10 (by decide +kernel) (by decide +kernel) ?_
                refine zw_iconst 0 23 f19_22 rfl (by decide +kernel) ?_
                refine zw_zreturn f19_23 r19 u19 (by decide +kernel) ⟨_, rfl, ?_⟩
                refine zw_if_eq_t 72 f83_59 (by decide +kernel) (by decide +kernel) ?_
                refine zw_aload_n 73 f83_72 rfl (zl1_ne rfl rfl (zl1_ne rfl rfl rfl)) ?_
                refine zw_iconst 1 74 f83_73 rfl (by decide +kernel) ?_
                refine zw_virtual_i 77 0 0 [.ref 0, .int 1] [(0, .ref 0), (1, .int 1)] f83_74 rfl n83_78 k83_78_11 rfl (hb_0 _ _ _ _) (by decide +kernel) (Nat.le_of_ble_eq_true rfl) rfl rfl (by decide +kernel) (by decide +kernel) rfl (Nat.le_of_ble_eq_true rfl) rfl ?_
                refine zw_aload_n 1 f105_0 rfl rfl ?_
                refine zw_iload_n 2 f105_1 rfl rfl ?_
                refine zw_put _ 5 f105_2 rfl g105_70_11 (hb_0 _ _ _ _) rfl (Nat.le_of_ble_eq_true rfl) (by decide +kernel) (hi_0_7 _ _ _ _ _) ?_
                refine zw_iconst (-1) 6 f105_5 rfl (by decide +kernel) ?_
                refine zw_ireturn f105_6 r105 u105 ⟨_, rfl, ?_⟩
                refine zw_ireturn f83_77 r83 u83 ?_
                exact ⟨_, _, _, _, rfl, (KQ.i rfl KQ.rf), Or.inl ⟨(fun q => (fun q => q.elim hc13 (fun z => (qV.n2 (by omega) hc18) z.1)) q.2.1), hR.k (show KQ (fun k j => decide (k = 0 ∧ j = 7)) p0 _ _ _ _ _ _ _ _ from KQ.i (k := 0) (j := 7) (v := 1) rfl KQ.rf) ⟨rfl, rfl⟩ (fun j _ _ => by simp) (p0_w 11), hL, rfl⟩⟩
              · refine zw_iload_n 13 f13_12 rfl rfl ?_
                refine zw_bipush 8 15 f13_13 rfl (by decide +kernel) ?_
                refine zw_ic_ge 18 22 f13_15 (by decide +kernel) rfl (fun hc19 => ?_) (fun hc19 => ?_)
                · refine zw_iconst 0 23 f13_22 rfl (by decide +kernel) ?_
                  refine zw_zreturn f13_23 r13 u13 (by decide +kernel) ⟨_, rfl, ?_⟩
                  refine zw_if_eq_t 22 f19_10 (by decide +kernel) (by decide +kernel) ?_
                  refine zw_iconst 0 23 f19_22 rfl (by decide +kernel) ?_
                  refine zw_zreturn f19_23 r19 u19 (by decide +kernel) ⟨_, rfl, ?_⟩
                  refine zw_if_eq_t 72 f83_59 (by decide +kernel) (by decide +kernel) ?_
                  refine zw_aload_n 73 f83_72 rfl (zl1_ne rfl rfl (zl1_ne rfl rfl rfl)) ?_
                  refine zw_iconst 1 74 f83_73 rfl (by decide +kernel) ?_
                  refine zw_virtual_i 77 0 0 [.ref 0, .int 1] [(0, .ref 0), (1, .int 1)] f83_74 rfl n83_78 k83_78_11 rfl (hb_0 _ _ _ _) (by decide +kernel) (Nat.le_of_ble_eq_true rfl) rfl rfl (by decide +kernel) (by decide +kernel) rfl (Nat.le_of_ble_eq_true rfl) rfl ?_
                  refine zw_aload_n 1 f105_0 rfl rfl ?_
                  refine zw_iload_n 2 f105_1 rfl rfl ?_
                  refine zw_put _ 5 f105_2 rfl g105_70_11 (hb_0 _ _ _ _) rfl (Nat.le_of_ble_eq_true rfl) (by decide +kernel) (hi_0_7 _ _ _ _ _) ?_
                  refine zw_iconst (-1) 6 f105_5 rfl (by decide +kernel) ?_
                  refine zw_ireturn f105_6 r105 u105 ⟨_, rfl, ?_⟩
                  refine zw_ireturn f83_77 r83 u83 ?_
                  exact ⟨_, _, _, _, rfl, (KQ.i rfl KQ.rf), Or.inl ⟨(fun q => (fun q => q.elim hc13 (fun z => (qV.n3 (m := 8) (N := 8) (by omega) (by omega) (by decide) hc19) z.1)) q.2.1), hR.k (show KQ (fun k j => decide (k = 0 ∧ j = 7)) p0 _ _ _ _ _ _ _ _ from KQ.i (k := 0) (j := 7) (v := 1) rfl KQ.rf) ⟨rfl, rfl⟩ (fun j _ _ => by simp) (p0_w 11), hL, rfl⟩⟩
                · refine zw_iconst 1 19 f13_18 rfl (by decide +kernel) ?_
                  refine zw_goto 23 f13_19 (by decide +kernel) ?_
                  refine zw_zreturn f13_23 r13 u13 (by decide +kernel) ⟨_, rfl, ?_⟩
                  refine zw_if_eq_f 13 22 f19_10 (by decide +kernel) rfl (by decide +kernel) ?_
                  refine zw_iload_n 14 f19_13 rfl rfl ?_
                  refine zw_iload_n 15 f19_14 rfl rfl ?_
                  refine zw_ic_le 18 22 f19_15 (by decide +kernel) rfl (fun hc20 => ?_) (fun hc20 => ?_)
                  · refine zw_iconst 0 23 f19_22 rfl (by decide +kernel) ?_
                    refine zw_zreturn f19_23 r19 u19 (by decide +kernel) ⟨_, rfl, ?_⟩
                    refine zw_if_eq_t 72 f83_59 (by decide +kernel) (by decide +kernel) ?_
                    refine zw_aload_n 73 f83_72 rfl (zl1_ne rfl rfl (zl1_ne rfl rfl rfl)) ?_
                    refine zw_iconst 1 74 f83_73 rfl (by decide +kernel) ?_
                    refine zw_virtual_i 77 0 0 [.ref 0, .int 1] [(0, .ref 0), (1, .int 1)] f83_74 rfl n83_78 k83_78_11 rfl (hb_0 _ _ _ _) (by decide +kernel) (Nat.le_of_ble_eq_true rfl) rfl rfl (by decide +kernel) (by decide +kernel) rfl (Nat.le_of_ble_eq_true rfl) rfl ?_
                    refine zw_aload_n 1 f105_0 rfl rfl ?_
                    refine zw_iload_n 2 f105_1 rfl rfl ?_
                    refine zw_put _ 5 f105_2 rfl g105_70_11 (hb_0 _ _ _ _) rfl (Nat.le_of_ble_eq_true rfl) (by decide +kernel) (hi_0_7 _ _ _ _ _) ?_
                    refine zw_iconst (-1) 6 f105_5 rfl (by decide +kernel) ?_
                    refine zw_ireturn f105_6 r105 u105 ⟨_, rfl, ?_⟩
                    refine zw_ireturn f83_77 r83 u83 ?_
                    exact ⟨_, _, _, _, rfl, (KQ.i rfl KQ.rf), Or.inl ⟨(fun q => (fun q => q.elim hc13 (fun z => z.2 hc20)) q.2.1), hR.k (show KQ (fun k j => decide (k = 0 ∧ j = 7)) p0 _ _ _ _ _ _ _ _ from KQ.i (k := 0) (j := 7) (v := 1) rfl KQ.rf) ⟨rfl, rfl⟩ (fun j _ _ => by simp) (p0_w 11), hL, rfl⟩⟩
                  · refine zw_iconst 1 19 f19_18 rfl (by decide +kernel) ?_
                    refine zw_goto 23 f19_19 (by decide +kernel) ?_
                    refine zw_zreturn f19_23 r19 u19 (by decide +kernel) ⟨_, rfl, ?_⟩
                    refine zw_if_eq_f 62 72 f83_59 (by decide +kernel) rfl (by decide +kernel) ?_
                    refine zw_iload_n 63 f83_62 rfl (zl1_ne rfl rfl (zl1_ne rfl rfl rfl)) ?_
                    refine zw_iconst 1 64 f83_63 rfl (by decide +kernel) ?_
                    refine zw_bipush 20 66 f83_64 rfl (by decide +kernel) ?_
                    refine zw_static_i 69 0 0 [.int c, .int 1, .int 20] [] [(0, .int c), (1, .int 1), (2, .int 20)] f83_66 rfl k83_74_99 rfl (by decide +kernel) (Nat.le_of_ble_eq_true rfl) (Nat.le_of_ble_eq_true rfl) rfl rfl (by decide +kernel) (by decide +kernel) rfl (Nat.le_of_ble_eq_true rfl) rfl ?_
                    refine zw_iload_n 1 f112_0 rfl rfl ?_
                    refine zw_iload_n 2 f112_1 rfl rfl ?_
                    refine zw_ic_lt 5 14 f112_2 (by decide +kernel) rfl (fun hc21 => ?_) (fun hc21 => ?_)
                    · refine zw_iconst 0 15 f112_14 rfl (by decide +kernel) ?_
                      refine zw_zreturn f112_15 r112 u112 (by decide +kernel) ⟨_, rfl, ?_⟩
                      refine zw_if_ne_f 72 78 f83_69 (by decide +kernel) rfl (by decide +kernel) ?_
                      refine zw_aload_n 73 f83_72 rfl (zl1_ne rfl rfl (zl1_ne rfl rfl rfl)) ?_
                      refine zw_iconst 1 74 f83_73 rfl (by decide +kernel) ?_
                      refine zw_virtual_i 77 0 0 [.ref 0, .int 1] [(0, .ref 0), (1, .int 1)] f83_74 rfl n83_78 k83_78_11 rfl (hb_0 _ _ _ _) (by decide +kernel) (Nat.le_of_ble_eq_true rfl) rfl rfl (by decide +kernel) (by decide +kernel) rfl (Nat.le_of_ble_eq_true rfl) rfl ?_
                      refine zw_aload_n 1 f105_0 rfl rfl ?_
                      refine zw_iload_n 2 f105_1 rfl rfl ?_
                      refine zw_put _ 5 f105_2 rfl g105_70_11 (hb_0 _ _ _ _) rfl (Nat.le_of_ble_eq_true rfl) (by decide +kernel) (hi_0_7 _ _ _ _ _) ?_
                      refine zw_iconst (-1) 6 f105_5 rfl (by decide +kernel) ?_
                      refine zw_ireturn f105_6 r105 u105 ⟨_, rfl, ?_⟩
                      refine zw_ireturn f83_77 r83 u83 ?_
                      exact ⟨_, _, _, _, rfl, (KQ.i rfl KQ.rf), Or.inl ⟨(fun q => (fun q => q.1 hc21) q.2.2.2.1), hR.k (show KQ (fun k j => decide (k = 0 ∧ j = 7)) p0 _ _ _ _ _ _ _ _ from KQ.i (k := 0) (j := 7) (v := 1) rfl KQ.rf) ⟨rfl, rfl⟩ (fun j _ _ => by simp) (p0_w 11), hL, rfl⟩⟩
                    · refine zw_iload_n 6 f112_5 rfl rfl ?_
                      refine zw_iload_n 7 f112_6 rfl rfl ?_
                      refine zw_ic_gt 10 14 f112_7 (by decide +kernel) rfl (fun hc22 => ?_) (fun hc22 => ?_)
                      · refine zw_iconst 0 15 f112_14 rfl (by decide +kernel) ?_
                        refine zw_zreturn f112_15 r112 u112 (by decide +kernel) ⟨_, rfl, ?_⟩
                        refine zw_if_ne_f 72 78 f83_69 (by decide +kernel) rfl (by decide +kernel) ?_
                        refine zw_aload_n 73 f83_72 rfl (zl1_ne rfl rfl (zl1_ne rfl rfl rfl)) ?_
                        refine zw_iconst 1 74 f83_73 rfl (by decide +kernel) ?_
                        refine zw_virtual_i 77 0 0 [.ref 0, .int 1] [(0, .ref 0), (1, .int 1)] f83_74 rfl n83_78 k83_78_11 rfl (hb_0 _ _ _ _) (by decide +kernel) (Nat.le_of_ble_eq_true rfl) rfl rfl (by decide +kernel) (by decide +kernel) rfl (Nat.le_of_ble_eq_true rfl) rfl ?_
                        refine zw_aload_n 1 f105_0 rfl rfl ?_
                        refine zw_iload_n 2 f105_1 rfl rfl ?_
                        refine zw_put _ 5 f105_2 rfl g105_70_11 (hb_0 _ _ _ _) rfl (Nat.le_of_ble_eq_true rfl) (by decide +kernel) (hi_0_7 _ _ _ _ _) ?_
                        refine zw_iconst (-1) 6 f105_5 rfl (by decide +kernel) ?_
                        refine zw_ireturn f105_6 r105 u105 ⟨_, rfl, ?_⟩
                        refine zw_ireturn f83_77 r83 u83 ?_
                        exact ⟨_, _, _, _, rfl, (KQ.i rfl KQ.rf), Or.inl ⟨(fun q => (fun q => q.2 hc22) q.2.2.2.1), hR.k (show KQ (fun k j => decide (k = 0 ∧ j = 7)) p0 _ _ _ _ _ _ _ _ from KQ.i (k := 0) (j := 7) (v := 1) rfl KQ.rf) ⟨rfl, rfl⟩ (fun j _ _ => by simp) (p0_w 11), hL, rfl⟩⟩
                      · refine zw_iconst 1 11 f112_10 rfl (by decide +kernel) ?_
                        refine zw_goto 15 f112_11 (by decide +kernel) ?_
                        refine zw_zreturn f112_15 r112 u112 (by decide +kernel) ⟨_, rfl, ?_⟩
                        refine zw_if_ne_t 78 f83_69 (by decide +kernel) (by decide +kernel) ?_
                        refine zw_aload_n 79 f83_78 rfl (zl1_ne rfl rfl (zl1_ne rfl rfl rfl)) ?_
                        refine zw_getfield 82 f83_79 rfl g83_10_11 (hb_0 _ _ _ _) rfl ?_
                        refine zw_iload_n 83 f83_82 rfl (zl1_ne rfl rfl (zl1_ne rfl rfl rfl)) ?_
                        refine zw_iload_n 84 f83_83 rfl (zl1_ne rfl rfl (zl1_ne rfl rfl rfl)) ?_
                        refine zw_virtual_i 87 0 0 [.ref 1, .int a, .int b] [(0, .ref 1), (1, .int a), (2, .int b)] f83_84 rfl n83_131 k83_131_4 rfl (hb_1 _ _ _ _) (by decide +kernel) (Nat.le_of_ble_eq_true rfl) rfl rfl (by decide +kernel) (by decide +kernel) rfl (Nat.le_of_ble_eq_true rfl) rfl ?_
                        refine zw_aload_n 1 f21_0 rfl rfl ?_
                        refine zw_getI (nI np) 4 f21_1 rfl g21_43_4 (hb_1 _ _ _ _) rfl hR.1.2 ?_
                        refine zw_istore_n _ 5 f21_4 rfl (by decide +kernel) rfl ?_
                        refine zw_iload_n 6 f21_5 rfl zl1_eq ?_
                        refine zw_bipush 14 8 f21_6 rfl (by decide +kernel) ?_
                        refine zw_ic_lt 11 13 f21_8 (by decide +kernel) rfl (fun hc23 => ?_) (fun hc23 => ?_)
                        · have hn_hc23 : np < 14 := zn_lt (by omega) (by omega) (Int32.not_le.mpr hc23)
                          refine zw_aload_n 14 f21_13 rfl (zl1_ne rfl rfl rfl) ?_
                          refine zw_getfield 17 f21_14 rfl g21_33_4 (hb_1 _ _ _ _) rfl ?_
                          refine zw_iload_n 18 f21_17 rfl zl1_eq ?_
                          refine zw_iload_n 19 f21_18 rfl (zl1_ne rfl rfl rfl) ?_
                          refine zw_ast np _ 20 f21_19 rfl (hb_9 _ _ _ _) (nI_clamp (by omega)) (nI_pos (by omega)) (by omega) (ha_9 _ _ _ _ _) ?_
                          refine zw_aload_n 21 f21_20 rfl (zl1_ne rfl rfl rfl) ?_
                          refine zw_getfield 24 f21_21 rfl g21_36_4 (hb_1 _ _ _ _) rfl ?_
                          refine zw_iload_n 25 f21_24 rfl zl1_eq ?_
                          refine zw_iload_n 26 f21_25 rfl (zl1_ne rfl rfl rfl) ?_
                          refine zw_ast np _ 27 f21_26 rfl (hb_10 _ _ _ _) (nI_clamp (by omega)) (nI_pos (by omega)) (by omega) (ha_10 _ _ _ _ _) ?_
                          refine zw_aload_n 28 f21_27 rfl (zl1_ne rfl rfl rfl) ?_
                          refine zw_iload_n 29 f21_28 rfl zl1_eq ?_
                          refine zw_iconst 1 30 f21_29 rfl (by decide +kernel) ?_
                          refine zw_iadd (nI (np + 1)) 31 f21_30 rfl (nI_add _ 1) ?_
                          refine zw_put _ 34 f21_31 rfl g21_43_4 (hb_1 _ _ _ _) rfl (Nat.le_of_ble_eq_true rfl) (by decide +kernel) (hi_1_1 _ _ _ _ _) ?_
                          refine zw_iload_n 35 f21_34 rfl zl1_eq ?_
                          refine zw_ireturn f21_35 r21 u21 ⟨_, rfl, ?_⟩
                          refine zw_istore _ 89 f83_87 rfl (by decide +kernel) rfl ?_
                          refine zw_iload 91 f83_89 rfl zl1_eq ?_
                          refine zw_iconst (-1) 92 f83_91 rfl (by decide +kernel) ?_
                          refine zw_ic_ne_t 101 f83_92 (by decide +kernel) (nI_nem (by omega)) ?_
                          refine zw_aload_n 102 f83_101 rfl (zl1_ne rfl rfl (zl1_ne rfl rfl (zl1_ne rfl rfl rfl))) ?_
                          refine zw_getfield 105 f83_102 rfl g83_21_11 (hb_0 _ _ _ _) rfl ?_
                          refine zw_getfield 108 f83_105 rfl g83_134_10 (hb_11 _ _ _ _) rfl ?_
                          refine zw_getfield 111 f83_108 rfl g83_138_9 (hb_12 _ _ _ _) rfl ?_
                          refine zw_iload 113 f83_111 rfl zl1_eq ?_
                          refine zw_iload_n 114 f83_113 rfl (zl1_ne rfl rfl (zl1_ne rfl rfl (zl1_ne rfl rfl rfl))) ?_
                          refine zw_ast np _ 115 f83_114 rfl (hb_15 _ _ _ _) (nI_clamp (by omega)) (nI_pos (by omega)) (by omega) (ha_15 _ _ _ _ _) ?_
                          refine zw_aload_n 116 f83_115 rfl (zl1_ne rfl rfl (zl1_ne rfl rfl (zl1_ne rfl rfl rfl))) ?_
                          refine zw_getfield 119 f83_116 rfl g83_21_11 (hb_0 _ _ _ _) rfl ?_
                          refine zw_getfield 122 f83_119 rfl g83_134_10 (hb_11 _ _ _ _) rfl ?_
                          refine zw_iload 124 f83_122 rfl zl1_eq ?_
                          refine zw_iconst 1 125 f83_124 rfl (by decide +kernel) ?_
                          refine zw_virtual_v 128 0 0 [.ref 12, .int (nI np), .int 1] [(0, .ref 12), (1, .int (nI np)), (2, .int 1)] f83_125 rfl n83_143 k83_143_9 rfl (hb_12 _ _ _ _) (by decide +kernel) (Nat.le_of_ble_eq_true rfl) rfl rfl (by decide +kernel) (by decide +kernel) rfl (Nat.le_of_ble_eq_true rfl) rfl ?_
                          refine zw_aload_n 1 f44_0 rfl rfl ?_
                          refine zw_iload_n 2 f44_1 rfl rfl ?_
                          refine zw_if_eq_f 5 16 f44_2 (by decide +kernel) rfl (by decide +kernel) ?_
                          refine zw_aload_n 6 f44_5 rfl rfl ?_
                          refine zw_getI (I 12 5) 9 f44_6 rfl g44_38_9 (hb_12 _ _ _ _) rfl rfl ?_
                          refine zw_iconst 1 10 f44_9 rfl (by decide +kernel) ?_
                          refine zw_iload_n 11 f44_10 rfl rfl ?_
                          refine zw_ishl (1 <<< ((nI np) &&& 31)) 12 f44_11 rfl rfl ?_
                          refine zw_ior ((I 12 5) ||| (1 <<< ((nI np) &&& 31))) 13 f44_12 rfl rfl ?_
                          refine zw_goto 26 f44_13 (by decide +kernel) ?_
                          refine zw_put _ 29 f44_26 rfl g44_38_9 (hb_12 _ _ _ _) rfl (Nat.le_of_ble_eq_true rfl) (by decide +kernel) (hi_12_5 _ _ _ _ _) ?_
                          refine zw_vreturn f44_29 r44 u44 ⟨rfl, ?_⟩
                          refine zw_aload_n 129 f83_128 rfl (zl1_ne rfl rfl (zl1_ne rfl rfl (zl1_ne rfl rfl rfl))) ?_
                          refine zw_iload 131 f83_129 rfl zl1_eq ?_
                          refine zw_virtual_i 134 0 0 [.ref 0, .int (nI np)] [(0, .ref 0), (1, .int (nI np))] f83_131 rfl n83_86 k83_86_11 rfl (hb_0 _ _ _ _) (by decide +kernel) (Nat.le_of_ble_eq_true rfl) rfl rfl (by decide +kernel) (by decide +kernel) rfl (Nat.le_of_ble_eq_true rfl) rfl ?_
                          refine zw_aload_n 1 f107_0 rfl rfl ?_
                          refine zw_getfield 4 f107_1 rfl g107_21_11 (hb_0 _ _ _ _) rfl ?_
                          refine zw_virtual_v 7 0 0 [.ref 11] [(0, .ref 11)] f107_4 rfl n107_318 k107_318_10 rfl (hb_11 _ _ _ _) (by decide +kernel) (Nat.le_of_ble_eq_true rfl) rfl rfl (by decide +kernel) (by decide +kernel) rfl (Nat.le_of_ble_eq_true rfl) rfl ?_
                          have hok1 : ok_pipe nv np P a b c := ⟨(Or.inr (qV.ofc (by omega) hc10 hc11)), (Or.inr ⟨(qV.ofc (by omega) hc17 hc18), hc20⟩), (fun q => hc1 q.1), ⟨hc21, hc22⟩, (by omega)⟩
                          obtain ⟨hp2, hW2⟩ := hok hok1
                          have hR2 : cRS 11 nv (np + 1) (updA (updA (updA P 60 (upd (P 60) np a)) 61 (upd ((updA P 60 (upd (P 60) np a)) 61) np b)) 62 (upd ((updA (updA P 60 (upd (P 60) np a)) 61 (upd ((updA P 60 (upd (P 60) np a)) 61) np b)) 62) np c)) (wOpn np 1 W) (upd2 (upd2 I 1 1 (nI (np + 1))) 12 5 ((I 12 5) ||| (1 <<< ((nI np) &&& 31)))) G (updA (updA (updA A 9 (upd (A 9) np a)) 10 (upd ((updA A 9 (upd (A 9) np a)) 10) np b)) 15 (upd ((updA (updA A 9 (upd (A 9) np a)) 10 (upd ((updA A 9 (upd (A 9) np a)) 10) np b)) 15) np c)) B := ⟨⟨hR.1.1, rfl⟩, PE.of10 ((hR.2.1 53 (by omega) (by omega))) ((hR.2.1 54 (by omega) (by omega))) ((hR.2.1 55 (by omega) (by omega))) ((hR.2.1 56 (by omega) (by omega))) ((hR.2.1 57 (by omega) (by omega))) ((hR.2.1 58 (by omega) (by omega))) ((hR.2.1 59 (by omega) (by omega))) ((congrArg (fun z => upd z np a) ((hR.2.1 60 (by omega) (by omega))))) ((congrArg (fun z => upd z np b) ((hR.2.1 61 (by omega) (by omega))))) ((congrArg (fun z => upd z np c) ((hR.2.1 62 (by omega) (by omega))))), ⟨hR.2.2.1.1, hR.2.2.1.2.1, hR.2.2.1.2.2.1, hR.2.2.1.2.2.2⟩, hR.2.2.2.1, hR.2.2.2.2.1, ((bOf_set (by omega) (by omega)).trans (congrArg (fun z => upd z np 1) hR.2.2.2.2.2.1)), hR.2.2.2.2.2.2⟩
                          have hL2 : cLg L (upd2 (upd2 I 1 1 (nI (np + 1))) 12 5 ((I 12 5) ||| (1 <<< ((nI np) &&& 31)))) (updA (updA (updA A 9 (upd (A 9) np a)) 10 (upd ((updA A 9 (upd (A 9) np a)) 10) np b)) 15 (upd ((updA (updA A 9 (upd (A 9) np a)) 10 (upd ((updA A 9 (upd (A 9) np a)) 10) np b)) 15) np c)) := hL
                          refine zWp.mono (cx_settle_11 ro nv (np + 1) _ (wOpn np 1 W) 10000 (K + 1000) _ _ _ _ hR2 hp2 hW2.2.1 hW2.1 (by omega) (by omega)) ?_
                          rintro r h1 ⟨I_s, G_s, A_s, B_s, rfl, K_s, ⟨hR3, hH3⟩, rfl⟩
                          refine ⟨rfl, ?_⟩
                          have hL3 := hL2.k K_s rfl rfl rfl rfl rfl
                          refine zw_aload_n 8 f107_7 rfl rfl ?_
                          refine zw_getfield 11 f107_8 rfl g107_31_11 (hb_0 _ _ _ _) rfl ?_
                          refine zw_aload_n 12 f107_11 rfl rfl ?_
                          refine zw_getfield 15 f107_12 rfl g107_21_11 (hb_0 _ _ _ _) rfl ?_
                          refine zw_virtual_v 18 0 0 [.ref 33, .ref 11] [(0, .ref 33), (1, .ref 11)] f107_15 rfl n107_187 k107_187_3 rfl (hb_33 _ _ _ _) (by decide +kernel) (Nat.le_of_ble_eq_true rfl) rfl rfl (by decide +kernel) (by decide +kernel) rfl (Nat.le_of_ble_eq_true rfl) rfl ?_
                          have hq2 := mom_t hp2 hW2.2.1 hW2.1 (by omega) (by omega)
                          refine zWp.mono (cx_take ro _ _ _ _ _ _ (wOpn np 1 W).2.1 (wOpn np 1 W).1 so L (wEv nv _ (wOpn np 1 W)) hR3.2.2.1.2.1 hR3.2.2.1.1 hq2.1 hq2.2.1 hH3 hq2.2.2 hL3 (by omega)) ?_
                          rintro r h1 ⟨I_u, G_u, A_u, B_u, rfl, K_u, hL4, rfl⟩
                          refine ⟨rfl, ?_⟩
                          have hR4 := hR3.k K_u ⟨rfl, rfl⟩ fLt_w pLt_w
                          refine zw_aload_n 19 f107_18 rfl rfl ?_
                          refine zw_iload_n 20 f107_19 rfl rfl ?_
                          refine zw_virtual_i 23 0 0 [.ref 0, .int (nI np)] [(0, .ref 0), (1, .int (nI np))] f107_20 rfl n107_181 k107_181_11 rfl (hb_0 _ _ _ _) (by decide +kernel) (Nat.le_of_ble_eq_true rfl) rfl rfl (by decide +kernel) (by decide +kernel) rfl (Nat.le_of_ble_eq_true rfl) rfl ?_
                          refine zw_aload_n 1 f106_0 rfl rfl ?_
                          refine zw_iconst 0 2 f106_1 rfl (by decide +kernel) ?_
                          refine zw_put _ 5 f106_2 rfl g106_70_11 (hb_0 _ _ _ _) rfl (Nat.le_of_ble_eq_true rfl) (by decide +kernel) (hi_0_7 _ _ _ _ _) ?_
                          refine zw_iload_n 6 f106_5 rfl rfl ?_
                          refine zw_ireturn f106_6 r106 u106 ⟨_, rfl, ?_⟩
                          refine zw_ireturn f107_23 r107 u107 ⟨_, rfl, ?_⟩
                          refine zw_ireturn f83_134 r83 u83 ?_
                          exact ⟨_, _, _, _, rfl, (KQ.i rfl (KQ.tr (KQ.tr (KQ.i rfl (KQ.a rfl (KQ.i rfl (KQ.a rfl (KQ.a rfl KQ.rf))))) (KQ.wk K_s fSe_Hd pSe_Hd)) (KQ.wk K_u fLt_Hd pLt_Hd))), Or.inr ⟨hok1, hR4.k (show KQ (fun k j => decide (k = 0 ∧ j = 7)) p0 _ _ _ _ _ _ _ _ from KQ.i (k := 0) (j := 7) (v := 0) rfl KQ.rf) ⟨rfl, rfl⟩ (fun j _ _ => by simp) (p0_w 11), hL4, rfl⟩⟩
                        · have hn_hc23 : 14 ≤ np := zn_ge (by omega) (by omega) (Int32.not_lt.mp hc23)
                          refine zw_iconst (-1) 12 f21_11 rfl (by decide +kernel) ?_
                          refine zw_ireturn f21_12 r21 u21 ⟨_, rfl, ?_⟩
                          refine zw_istore _ 89 f83_87 rfl (by decide +kernel) rfl ?_
                          refine zw_iload 91 f83_89 rfl zl1_eq ?_
                          refine zw_iconst (-1) 92 f83_91 rfl (by decide +kernel) ?_
                          refine zw_ic_ne_f 95 101 f83_92 (by decide +kernel) rfl (by decide +kernel) ?_
                          refine zw_aload_n 96 f83_95 rfl (zl1_ne rfl rfl (zl1_ne rfl rfl (zl1_ne rfl rfl rfl))) ?_
                          refine zw_iconst 2 97 f83_96 rfl (by decide +kernel) ?_
                          refine zw_virtual_i 100 0 0 [.ref 0, .int 2] [(0, .ref 0), (1, .int 2)] f83_97 rfl n83_78 k83_78_11 rfl (hb_0 _ _ _ _) (by decide +kernel) (Nat.le_of_ble_eq_true rfl) rfl rfl (by decide +kernel) (by decide +kernel) rfl (Nat.le_of_ble_eq_true rfl) rfl ?_
                          refine zw_aload_n 1 f105_0 rfl rfl ?_
                          refine zw_iload_n 2 f105_1 rfl rfl ?_
                          refine zw_put _ 5 f105_2 rfl g105_70_11 (hb_0 _ _ _ _) rfl (Nat.le_of_ble_eq_true rfl) (by decide +kernel) (hi_0_7 _ _ _ _ _) ?_
                          refine zw_iconst (-1) 6 f105_5 rfl (by decide +kernel) ?_
                          refine zw_ireturn f105_6 r105 u105 ⟨_, rfl, ?_⟩
                          refine zw_ireturn f83_100 r83 u83 ?_
                          exact ⟨_, _, _, _, rfl, (KQ.i rfl KQ.rf), Or.inl ⟨(fun q => (fun q => q (by omega)) q.2.2.2.2), hR.k (show KQ (fun k j => decide (k = 0 ∧ j = 7)) p0 _ _ _ _ _ _ _ _ from KQ.i (k := 0) (j := 7) (v := 2) rfl KQ.rf) ⟨rfl, rfl⟩ (fun j _ _ => by simp) (p0_w 11), hL, rfl⟩⟩
set_option maxRecDepth 100000 in
set_option maxHeartbeats 0 in
theorem cx_amount (ro : UInt32 → Nat × (Nat → Int32)) (nv np : Nat) (P : Nat → Nat → Int32) (W : qW) (L : qLog) (K : Int) (so : Int32) (I : Nat → Nat → Int32) (G : Nat → Nat → Int64) (A : Nat → Nat → Int32) (B : Nat → Nat → Int64) (hR : cRS 11 nv np P W I G A B) (hp : MPa nv np P) (hW : wInv nv 10000 K P W) (hQ : qKd nv P) (hL : cLg L I A) (hK : K ≤ 199000000) (hn : L.1 < 900000000) (a : Int32) (b : Int32) (hok : ok_amount nv np P a b → MPa nv np (updA P 62 (upd (P 62) a.toNatClampNeg b)) ∧ wInv nv 10000 (K + 1000) (updA P 62 (upd (P 62) a.toNatClampNeg b)) W) : zWp ro 86 0 [(0, .ref 0), (1, .int a), (2, .int b)] [] (hS I G A B) 0 0 (fun r h1 => ∃ I2 G2 A2 B2, h1 = hS I2 G2 A2 B2 ∧ KQ fHd pHd I G A B I2 G2 A2 B2 ∧ ((¬ ok_amount nv np P a b ∧ cRS 11 nv np P W I2 G2 A2 B2 ∧ cLg L I2 A2 ∧ r = some (.int (-1))) ∨ (ok_amount nv np P a b ∧ cRS 11 nv np (updA P 62 (upd (P 62) a.toNatClampNeg b)) (wMom nv (updA P 62 (upd (P 62) a.toNatClampNeg b)) W) I2 G2 A2 B2 ∧ cLg (qNotes 1 W.2.1 W.1 so L (wEv nv (updA P 62 (upd (P 62) a.toNatClampNeg b)) W)) I2 A2 ∧ r = some (.int (P 62 a.toNatClampNeg))))) := by
  have h8 := hp.1
  have h14 := hp.2.1
  have hg : 1 ≤ W.1.toInt ∧ W.1.toInt ≤ 10000 := hW.1.1.1
  refine zw_aload_n 1 f86_0 rfl rfl ?_
  refine zw_getfield 4 f86_1 rfl g86_10_11 (hb_0 _ _ _ _) rfl ?_
  refine zw_iload_n 5 f86_4 rfl rfl ?_
  refine zw_virtual_i 8 0 0 [.ref 1, .int a] [(0, .ref 1), (1, .int a)] f86_5 rfl n86_109 k86_109_4 rfl (hb_1 _ _ _ _) (by decide +kernel) (Nat.le_of_ble_eq_true rfl) rfl rfl (by decide +kernel) (by decide +kernel) rfl (Nat.le_of_ble_eq_true rfl) rfl ?_
  refine zw_iload_n 1 f14_0 rfl rfl ?_
  refine zw_if_lt 4 22 f14_1 (by decide +kernel) rfl (fun hc1 => ?_) (fun hc1 => ?_)
  · refine zw_iconst 0 23 f14_22 rfl (by decide +kernel) ?_
    refine zw_zreturn f14_23 r14 u14 (by decide +kernel) ⟨_, rfl, ?_⟩
    refine zw_if_eq_t 21 f86_8 (by decide +kernel) (by decide +kernel) ?_
    refine zw_aload_n 22 f86_21 rfl rfl ?_
    refine zw_iconst 1 23 f86_22 rfl (by decide +kernel) ?_
    refine zw_virtual_i 26 0 0 [.ref 0, .int 1] [(0, .ref 0), (1, .int 1)] f86_23 rfl n86_78 k86_78_11 rfl (hb_0 _ _ _ _) (by decide +kernel) (Nat.le_of_ble_eq_true rfl) rfl rfl (by decide +kernel) (by decide +kernel) rfl (Nat.le_of_ble_eq_true rfl) rfl ?_
    refine zw_aload_n 1 f105_0 rfl rfl ?_
    refine zw_iload_n 2 f105_1 rfl rfl ?_
    refine zw_put _ 5 f105_2 rfl g105_70_11 (hb_0 _ _ _ _) rfl (Nat.le_of_ble_eq_true rfl) (by decide +kernel) (hi_0_7 _ _ _ _ _) ?_
    refine zw_iconst (-1) 6 f105_5 rfl (by decide +kernel) ?_
    refine zw_ireturn f105_6 r105 u105 ⟨_, rfl, ?_⟩
    refine zw_ireturn f86_26 r86 u86 ?_
    exact ⟨_, _, _, _, rfl, (KQ.i rfl KQ.rf), Or.inl ⟨(fun q => (qV.n0 (by omega) hc1) q.1), hR.k (show KQ (fun k j => decide (k = 0 ∧ j = 7)) p0 _ _ _ _ _ _ _ _ from KQ.i (k := 0) (j := 7) (v := 1) rfl KQ.rf) ⟨rfl, rfl⟩ (fun j _ _ => by simp) (p0_w 11), hL, rfl⟩⟩
  · refine zw_iload_n 5 f14_4 rfl rfl ?_
    refine zw_aload_n 6 f14_5 rfl rfl ?_
    refine zw_getI (nI np) 9 f14_6 rfl g14_43_4 (hb_1 _ _ _ _) rfl hR.1.2 ?_
    refine zw_ic_ge 12 22 f14_9 (by decide +kernel) rfl (fun hc2 => ?_) (fun hc2 => ?_)
    · refine zw_iconst 0 23 f14_22 rfl (by decide +kernel) ?_
      refine zw_zreturn f14_23 r14 u14 (by decide +kernel) ⟨_, rfl, ?_⟩
      refine zw_if_eq_t 21 f86_8 (by decide +kernel) (by decide +kernel) ?_
      refine zw_aload_n 22 f86_21 rfl rfl ?_
      refine zw_iconst 1 23 f86_22 rfl (by decide +kernel) ?_
      refine zw_virtual_i 26 0 0 [.ref 0, .int 1] [(0, .ref 0), (1, .int 1)] f86_23 rfl n86_78 k86_78_11 rfl (hb_0 _ _ _ _) (by decide +kernel) (Nat.le_of_ble_eq_true rfl) rfl rfl (by decide +kernel) (by decide +kernel) rfl (Nat.le_of_ble_eq_true rfl) rfl ?_
      refine zw_aload_n 1 f105_0 rfl rfl ?_
      refine zw_iload_n 2 f105_1 rfl rfl ?_
      refine zw_put _ 5 f105_2 rfl g105_70_11 (hb_0 _ _ _ _) rfl (Nat.le_of_ble_eq_true rfl) (by decide +kernel) (hi_0_7 _ _ _ _ _) ?_
      refine zw_iconst (-1) 6 f105_5 rfl (by decide +kernel) ?_
      refine zw_ireturn f105_6 r105 u105 ⟨_, rfl, ?_⟩
      refine zw_ireturn f86_26 r86 u86 ?_
      exact ⟨_, _, _, _, rfl, (KQ.i rfl KQ.rf), Or.inl ⟨(fun q => (qV.n2 (by omega) hc2) q.1), hR.k (show KQ (fun k j => decide (k = 0 ∧ j = 7)) p0 _ _ _ _ _ _ _ _ from KQ.i (k := 0) (j := 7) (v := 1) rfl KQ.rf) ⟨rfl, rfl⟩ (fun j _ _ => by simp) (p0_w 11), hL, rfl⟩⟩
    · refine zw_iload_n 13 f14_12 rfl rfl ?_
      refine zw_bipush 14 15 f14_13 rfl (by decide +kernel) ?_
      refine zw_ic_ge 18 22 f14_15 (by decide +kernel) rfl (fun hc3 => ?_) (fun hc3 => ?_)
      · refine zw_iconst 0 23 f14_22 rfl (by decide +kernel) ?_
        refine zw_zreturn f14_23 r14 u14 (by decide +kernel) ⟨_, rfl, ?_⟩
        refine zw_if_eq_t 21 f86_8 (by decide +kernel) (by decide +kernel) ?_
        refine zw_aload_n 22 f86_21 rfl rfl ?_
        refine zw_iconst 1 23 f86_22 rfl (by decide +kernel) ?_
        refine zw_virtual_i 26 0 0 [.ref 0, .int 1] [(0, .ref 0), (1, .int 1)] f86_23 rfl n86_78 k86_78_11 rfl (hb_0 _ _ _ _) (by decide +kernel) (Nat.le_of_ble_eq_true rfl) rfl rfl (by decide +kernel) (by decide +kernel) rfl (Nat.le_of_ble_eq_true rfl) rfl ?_
        refine zw_aload_n 1 f105_0 rfl rfl ?_
        refine zw_iload_n 2 f105_1 rfl rfl ?_
        refine zw_put _ 5 f105_2 rfl g105_70_11 (hb_0 _ _ _ _) rfl (Nat.le_of_ble_eq_true rfl) (by decide +kernel) (hi_0_7 _ _ _ _ _) ?_
        refine zw_iconst (-1) 6 f105_5 rfl (by decide +kernel) ?_
        refine zw_ireturn f105_6 r105 u105 ⟨_, rfl, ?_⟩
        refine zw_ireturn f86_26 r86 u86 ?_
        exact ⟨_, _, _, _, rfl, (KQ.i rfl KQ.rf), Or.inl ⟨(fun q => (qV.n3 (m := 14) (N := 14) (by omega) (by omega) (by decide) hc3) q.1), hR.k (show KQ (fun k j => decide (k = 0 ∧ j = 7)) p0 _ _ _ _ _ _ _ _ from KQ.i (k := 0) (j := 7) (v := 1) rfl KQ.rf) ⟨rfl, rfl⟩ (fun j _ _ => by simp) (p0_w 11), hL, rfl⟩⟩
      · refine zw_iconst 1 19 f14_18 rfl (by decide +kernel) ?_
        refine zw_goto 23 f14_19 (by decide +kernel) ?_
        refine zw_zreturn f14_23 r14 u14 (by decide +kernel) ⟨_, rfl, ?_⟩
        refine zw_if_eq_f 11 21 f86_8 (by decide +kernel) rfl (by decide +kernel) ?_
        refine zw_iload_n 12 f86_11 rfl rfl ?_
        refine zw_iconst 1 13 f86_12 rfl (by decide +kernel) ?_
        refine zw_bipush 20 15 f86_13 rfl (by decide +kernel) ?_
        refine zw_static_i 18 0 0 [.int b, .int 1, .int 20] [] [(0, .int b), (1, .int 1), (2, .int 20)] f86_15 rfl k86_74_99 rfl (by decide +kernel) (Nat.le_of_ble_eq_true rfl) (Nat.le_of_ble_eq_true rfl) rfl rfl (by decide +kernel) (by decide +kernel) rfl (Nat.le_of_ble_eq_true rfl) rfl ?_
        refine zw_iload_n 1 f112_0 rfl rfl ?_
        refine zw_iload_n 2 f112_1 rfl rfl ?_
        refine zw_ic_lt 5 14 f112_2 (by decide +kernel) rfl (fun hc4 => ?_) (fun hc4 => ?_)
        · refine zw_iconst 0 15 f112_14 rfl (by decide +kernel) ?_
          refine zw_zreturn f112_15 r112 u112 (by decide +kernel) ⟨_, rfl, ?_⟩
          refine zw_if_ne_f 21 27 f86_18 (by decide +kernel) rfl (by decide +kernel) ?_
          refine zw_aload_n 22 f86_21 rfl rfl ?_
          refine zw_iconst 1 23 f86_22 rfl (by decide +kernel) ?_
          refine zw_virtual_i 26 0 0 [.ref 0, .int 1] [(0, .ref 0), (1, .int 1)] f86_23 rfl n86_78 k86_78_11 rfl (hb_0 _ _ _ _) (by decide +kernel) (Nat.le_of_ble_eq_true rfl) rfl rfl (by decide +kernel) (by decide +kernel) rfl (Nat.le_of_ble_eq_true rfl) rfl ?_
          refine zw_aload_n 1 f105_0 rfl rfl ?_
          refine zw_iload_n 2 f105_1 rfl rfl ?_
          refine zw_put _ 5 f105_2 rfl g105_70_11 (hb_0 _ _ _ _) rfl (Nat.le_of_ble_eq_true rfl) (by decide +kernel) (hi_0_7 _ _ _ _ _) ?_
          refine zw_iconst (-1) 6 f105_5 rfl (by decide +kernel) ?_
          refine zw_ireturn f105_6 r105 u105 ⟨_, rfl, ?_⟩
          refine zw_ireturn f86_26 r86 u86 ?_
          exact ⟨_, _, _, _, rfl, (KQ.i rfl KQ.rf), Or.inl ⟨(fun q => (fun q => q.1 hc4) q.2), hR.k (show KQ (fun k j => decide (k = 0 ∧ j = 7)) p0 _ _ _ _ _ _ _ _ from KQ.i (k := 0) (j := 7) (v := 1) rfl KQ.rf) ⟨rfl, rfl⟩ (fun j _ _ => by simp) (p0_w 11), hL, rfl⟩⟩
        · refine zw_iload_n 6 f112_5 rfl rfl ?_
          refine zw_iload_n 7 f112_6 rfl rfl ?_
          refine zw_ic_gt 10 14 f112_7 (by decide +kernel) rfl (fun hc5 => ?_) (fun hc5 => ?_)
          · refine zw_iconst 0 15 f112_14 rfl (by decide +kernel) ?_
            refine zw_zreturn f112_15 r112 u112 (by decide +kernel) ⟨_, rfl, ?_⟩
            refine zw_if_ne_f 21 27 f86_18 (by decide +kernel) rfl (by decide +kernel) ?_
            refine zw_aload_n 22 f86_21 rfl rfl ?_
            refine zw_iconst 1 23 f86_22 rfl (by decide +kernel) ?_
            refine zw_virtual_i 26 0 0 [.ref 0, .int 1] [(0, .ref 0), (1, .int 1)] f86_23 rfl n86_78 k86_78_11 rfl (hb_0 _ _ _ _) (by decide +kernel) (Nat.le_of_ble_eq_true rfl) rfl rfl (by decide +kernel) (by decide +kernel) rfl (Nat.le_of_ble_eq_true rfl) rfl ?_
            refine zw_aload_n 1 f105_0 rfl rfl ?_
            refine zw_iload_n 2 f105_1 rfl rfl ?_
            refine zw_put _ 5 f105_2 rfl g105_70_11 (hb_0 _ _ _ _) rfl (Nat.le_of_ble_eq_true rfl) (by decide +kernel) (hi_0_7 _ _ _ _ _) ?_
            refine zw_iconst (-1) 6 f105_5 rfl (by decide +kernel) ?_
            refine zw_ireturn f105_6 r105 u105 ⟨_, rfl, ?_⟩
            refine zw_ireturn f86_26 r86 u86 ?_
            exact ⟨_, _, _, _, rfl, (KQ.i rfl KQ.rf), Or.inl ⟨(fun q => (fun q => q.2 hc5) q.2), hR.k (show KQ (fun k j => decide (k = 0 ∧ j = 7)) p0 _ _ _ _ _ _ _ _ from KQ.i (k := 0) (j := 7) (v := 1) rfl KQ.rf) ⟨rfl, rfl⟩ (fun j _ _ => by simp) (p0_w 11), hL, rfl⟩⟩
          · refine zw_iconst 1 11 f112_10 rfl (by decide +kernel) ?_
            refine zw_goto 15 f112_11 (by decide +kernel) ?_
            refine zw_zreturn f112_15 r112 u112 (by decide +kernel) ⟨_, rfl, ?_⟩
            refine zw_if_ne_t 27 f86_18 (by decide +kernel) (by decide +kernel) ?_
            refine zw_aload_n 28 f86_27 rfl rfl ?_
            refine zw_getfield 31 f86_28 rfl g86_21_11 (hb_0 _ _ _ _) rfl ?_
            refine zw_getfield 34 f86_31 rfl g86_134_10 (hb_11 _ _ _ _) rfl ?_
            refine zw_getfield 37 f86_34 rfl g86_138_9 (hb_12 _ _ _ _) rfl ?_
            refine zw_iload_n 38 f86_37 rfl rfl ?_
            refine zw_iaload a.toNatClampNeg (P 62 a.toNatClampNeg) 39 f86_38 rfl (hb_15 _ _ _ _) rfl hc1 (zix (by decide) hc1 hc3) (congrFun ((hR.2.1 62 (by omega) (by omega))) a.toNatClampNeg) ?_
            refine zw_istore_n _ 40 f86_39 rfl (by decide +kernel) rfl ?_
            refine zw_aload_n 41 f86_40 rfl (zl1_ne rfl rfl rfl) ?_
            refine zw_getfield 44 f86_41 rfl g86_21_11 (hb_0 _ _ _ _) rfl ?_
            refine zw_getfield 47 f86_44 rfl g86_134_10 (hb_11 _ _ _ _) rfl ?_
            refine zw_getfield 50 f86_47 rfl g86_138_9 (hb_12 _ _ _ _) rfl ?_
            refine zw_iload_n 51 f86_50 rfl (zl1_ne rfl rfl rfl) ?_
            refine zw_iload_n 52 f86_51 rfl (zl1_ne rfl rfl rfl) ?_
            refine zw_ast a.toNatClampNeg _ 53 f86_52 rfl (hb_15 _ _ _ _) rfl hc1 (zix (by decide) hc1 hc3) (ha_15 _ _ _ _ _) ?_
            refine zw_aload_n 54 f86_53 rfl (zl1_ne rfl rfl rfl) ?_
            refine zw_iload_n 55 f86_54 rfl zl1_eq ?_
            refine zw_virtual_i 58 0 0 [.ref 0, .int (P 62 a.toNatClampNeg)] [(0, .ref 0), (1, .int (P 62 a.toNatClampNeg))] f86_55 rfl n86_86 k86_86_11 rfl (hb_0 _ _ _ _) (by decide +kernel) (Nat.le_of_ble_eq_true rfl) rfl rfl (by decide +kernel) (by decide +kernel) rfl (Nat.le_of_ble_eq_true rfl) rfl ?_
            refine zw_aload_n 1 f107_0 rfl rfl ?_
            refine zw_getfield 4 f107_1 rfl g107_21_11 (hb_0 _ _ _ _) rfl ?_
            refine zw_virtual_v 7 0 0 [.ref 11] [(0, .ref 11)] f107_4 rfl n107_318 k107_318_10 rfl (hb_11 _ _ _ _) (by decide +kernel) (Nat.le_of_ble_eq_true rfl) rfl rfl (by decide +kernel) (by decide +kernel) rfl (Nat.le_of_ble_eq_true rfl) rfl ?_
            have hok1 : ok_amount nv np P a b := ⟨(qV.ofc (by omega) hc1 hc2), ⟨hc4, hc5⟩⟩
            obtain ⟨hp2, hW2⟩ := hok hok1
            have hR2 : cRS 11 nv np (updA P 62 (upd (P 62) a.toNatClampNeg b)) W I G (updA A 15 (upd (A 15) a.toNatClampNeg b)) B := ⟨⟨hR.1.1, hR.1.2⟩, PE.of10 ((hR.2.1 53 (by omega) (by omega))) ((hR.2.1 54 (by omega) (by omega))) ((hR.2.1 55 (by omega) (by omega))) ((hR.2.1 56 (by omega) (by omega))) ((hR.2.1 57 (by omega) (by omega))) ((hR.2.1 58 (by omega) (by omega))) ((hR.2.1 59 (by omega) (by omega))) ((hR.2.1 60 (by omega) (by omega))) ((hR.2.1 61 (by omega) (by omega))) ((congrArg (fun z => upd z a.toNatClampNeg b) ((hR.2.1 62 (by omega) (by omega))))), ⟨hR.2.2.1.1, hR.2.2.1.2.1, hR.2.2.1.2.2.1, hR.2.2.1.2.2.2⟩, hR.2.2.2.1, hR.2.2.2.2.1, hR.2.2.2.2.2.1, hR.2.2.2.2.2.2⟩
            have hL2 : cLg L I (updA A 15 (upd (A 15) a.toNatClampNeg b)) := hL
            refine zWp.mono (cx_settle_11 ro nv np _ W 10000 (K + 1000) _ _ _ _ hR2 hp2 hW2.2.1 hW2.1 (by omega) (by omega)) ?_
            rintro r h1 ⟨I_s, G_s, A_s, B_s, rfl, K_s, ⟨hR3, hH3⟩, rfl⟩
            refine ⟨rfl, ?_⟩
            have hL3 := hL2.k K_s rfl rfl rfl rfl rfl
            refine zw_aload_n 8 f107_7 rfl rfl ?_
            refine zw_getfield 11 f107_8 rfl g107_31_11 (hb_0 _ _ _ _) rfl ?_
            refine zw_aload_n 12 f107_11 rfl rfl ?_
            refine zw_getfield 15 f107_12 rfl g107_21_11 (hb_0 _ _ _ _) rfl ?_
            refine zw_virtual_v 18 0 0 [.ref 33, .ref 11] [(0, .ref 33), (1, .ref 11)] f107_15 rfl n107_187 k107_187_3 rfl (hb_33 _ _ _ _) (by decide +kernel) (Nat.le_of_ble_eq_true rfl) rfl rfl (by decide +kernel) (by decide +kernel) rfl (Nat.le_of_ble_eq_true rfl) rfl ?_
            have hq2 := mom_t hp2 hW2.2.1 hW2.1 (by omega) (by omega)
            refine zWp.mono (cx_take ro _ _ _ _ _ _ W.2.1 W.1 so L (wEv nv _ W) hR3.2.2.1.2.1 hR3.2.2.1.1 hq2.1 hq2.2.1 hH3 hq2.2.2 hL3 (by omega)) ?_
            rintro r h1 ⟨I_u, G_u, A_u, B_u, rfl, K_u, hL4, rfl⟩
            refine ⟨rfl, ?_⟩
            have hR4 := hR3.k K_u ⟨rfl, rfl⟩ fLt_w pLt_w
            refine zw_aload_n 19 f107_18 rfl rfl ?_
            refine zw_iload_n 20 f107_19 rfl rfl ?_
            refine zw_virtual_i 23 0 0 [.ref 0, .int (P 62 a.toNatClampNeg)] [(0, .ref 0), (1, .int (P 62 a.toNatClampNeg))] f107_20 rfl n107_181 k107_181_11 rfl (hb_0 _ _ _ _) (by decide +kernel) (Nat.le_of_ble_eq_true rfl) rfl rfl (by decide +kernel) (by decide +kernel) rfl (Nat.le_of_ble_eq_true rfl) rfl ?_
            refine zw_aload_n 1 f106_0 rfl rfl ?_
            refine zw_iconst 0 2 f106_1 rfl (by decide +kernel) ?_
            refine zw_put _ 5 f106_2 rfl g106_70_11 (hb_0 _ _ _ _) rfl (Nat.le_of_ble_eq_true rfl) (by decide +kernel) (hi_0_7 _ _ _ _ _) ?_
            refine zw_iload_n 6 f106_5 rfl rfl ?_
            refine zw_ireturn f106_6 r106 u106 ⟨_, rfl, ?_⟩
            refine zw_ireturn f107_23 r107 u107 ⟨_, rfl, ?_⟩
            refine zw_ireturn f86_58 r86 u86 ?_
            exact ⟨_, _, _, _, rfl, (KQ.i rfl (KQ.tr (KQ.tr (KQ.a rfl KQ.rf) (KQ.wk K_s fSe_Hd pSe_Hd)) (KQ.wk K_u fLt_Hd pLt_Hd))), Or.inr ⟨hok1, hR4.k (show KQ (fun k j => decide (k = 0 ∧ j = 7)) p0 _ _ _ _ _ _ _ _ from KQ.i (k := 0) (j := 7) (v := 0) rfl KQ.rf) ⟨rfl, rfl⟩ (fun j _ _ => by simp) (p0_w 11), hL4, rfl⟩⟩
set_option maxRecDepth 100000 in
set_option maxHeartbeats 0 in
theorem cx_fill (ro : UInt32 → Nat × (Nat → Int32)) (nv np : Nat) (P : Nat → Nat → Int32) (W : qW) (L : qLog) (K : Int) (so : Int32) (I : Nat → Nat → Int32) (G : Nat → Nat → Int64) (A : Nat → Nat → Int32) (B : Nat → Nat → Int64) (hR : cRS 11 nv np P W I G A B) (hp : MPa nv np P) (hW : wInv nv 10000 K P W) (hQ : qKd nv P) (hL : cLg L I A) (hK : K ≤ 199000000) (hn : L.1 < 900000000) (a : Int32) (b : Int32) (hok : ok_fill nv np P a b → MPa nv np P ∧ wInv nv 10000 (K + 1000) P (wFill (P 54) (P 59) a b W)) : zWp ro 84 0 [(0, .ref 0), (1, .int a), (2, .int b)] [] (hS I G A B) 0 0 (fun r h1 => ∃ I2 G2 A2 B2, h1 = hS I2 G2 A2 B2 ∧ KQ fHd pHd I G A B I2 G2 A2 B2 ∧ ((¬ ok_fill nv np P a b ∧ cRS 11 nv np P W I2 G2 A2 B2 ∧ cLg L I2 A2 ∧ r = some (.int (-1))) ∨ (ok_fill nv np P a b ∧ cRS 11 nv np P (wMom nv P (wFill (P 54) (P 59) a b W)) I2 G2 A2 B2 ∧ cLg (qNotes 1 (wFill (P 54) (P 59) a b W).2.1 (wFill (P 54) (P 59) a b W).1 so L (wEv nv P (wFill (P 54) (P 59) a b W))) I2 A2 ∧ r = some (.int 1)))) := by
  have h8 := hp.1
  have h14 := hp.2.1
  have hg : 1 ≤ W.1.toInt ∧ W.1.toInt ≤ 10000 := hW.1.1.1
  refine zw_aload_n 1 f84_0 rfl rfl ?_
  refine zw_getfield 4 f84_1 rfl g84_10_11 (hb_0 _ _ _ _) rfl ?_
  refine zw_iload_n 5 f84_4 rfl rfl ?_
  refine zw_virtual_i 8 0 0 [.ref 1, .int a] [(0, .ref 1), (1, .int a)] f84_5 rfl n84_89 k84_89_4 rfl (hb_1 _ _ _ _) (by decide +kernel) (Nat.le_of_ble_eq_true rfl) rfl rfl (by decide +kernel) (by decide +kernel) rfl (Nat.le_of_ble_eq_true rfl) rfl ?_
  refine zw_iload_n 1 f13_0 rfl rfl ?_
  refine zw_if_lt 4 22 f13_1 (by decide +kernel) rfl (fun hc1 => ?_) (fun hc1 => ?_)
  · refine zw_iconst 0 23 f13_22 rfl (by decide +kernel) ?_
    refine zw_zreturn f13_23 r13 u13 (by decide +kernel) ⟨_, rfl, ?_⟩
    refine zw_if_eq_t 22 f84_8 (by decide +kernel) (by decide +kernel) ?_
    refine zw_aload_n 23 f84_22 rfl rfl ?_
    refine zw_iconst 1 24 f84_23 rfl (by decide +kernel) ?_
    refine zw_virtual_i 27 0 0 [.ref 0, .int 1] [(0, .ref 0), (1, .int 1)] f84_24 rfl n84_78 k84_78_11 rfl (hb_0 _ _ _ _) (by decide +kernel) (Nat.le_of_ble_eq_true rfl) rfl rfl (by decide +kernel) (by decide +kernel) rfl (Nat.le_of_ble_eq_true rfl) rfl ?_
    refine zw_aload_n 1 f105_0 rfl rfl ?_
    refine zw_iload_n 2 f105_1 rfl rfl ?_
    refine zw_put _ 5 f105_2 rfl g105_70_11 (hb_0 _ _ _ _) rfl (Nat.le_of_ble_eq_true rfl) (by decide +kernel) (hi_0_7 _ _ _ _ _) ?_
    refine zw_iconst (-1) 6 f105_5 rfl (by decide +kernel) ?_
    refine zw_ireturn f105_6 r105 u105 ⟨_, rfl, ?_⟩
    refine zw_ireturn f84_27 r84 u84 ?_
    exact ⟨_, _, _, _, rfl, (KQ.i rfl KQ.rf), Or.inl ⟨(fun q => (qV.n0 (by omega) hc1) q.1), hR.k (show KQ (fun k j => decide (k = 0 ∧ j = 7)) p0 _ _ _ _ _ _ _ _ from KQ.i (k := 0) (j := 7) (v := 1) rfl KQ.rf) ⟨rfl, rfl⟩ (fun j _ _ => by simp) (p0_w 11), hL, rfl⟩⟩
  · refine zw_iload_n 5 f13_4 rfl rfl ?_
    refine zw_aload_n 6 f13_5 rfl rfl ?_
    refine zw_getI (nI nv) 9 f13_6 rfl g13_39_4 (hb_1 _ _ _ _) rfl hR.1.1 ?_
    refine zw_ic_ge 12 22 f13_9 (by decide +kernel) rfl (fun hc2 => ?_) (fun hc2 => ?_)
    · refine zw_iconst 0 23 f13_22 rfl (by decide +kernel) ?_
      refine zw_zreturn f13_23 r13 u13 (by decide +kernel) ⟨_, rfl, ?_⟩
      refine zw_if_eq_t 22 f84_8 (by decide +kernel) (by decide +kernel) ?_
      refine zw_aload_n 23 f84_22 rfl rfl ?_
      refine zw_iconst 1 24 f84_23 rfl (by decide +kernel) ?_
      refine zw_virtual_i 27 0 0 [.ref 0, .int 1] [(0, .ref 0), (1, .int 1)] f84_24 rfl n84_78 k84_78_11 rfl (hb_0 _ _ _ _) (by decide +kernel) (Nat.le_of_ble_eq_true rfl) rfl rfl (by decide +kernel) (by decide +kernel) rfl (Nat.le_of_ble_eq_true rfl) rfl ?_
      refine zw_aload_n 1 f105_0 rfl rfl ?_
      refine zw_iload_n 2 f105_1 rfl rfl ?_
      refine zw_put _ 5 f105_2 rfl g105_70_11 (hb_0 _ _ _ _) rfl (Nat.le_of_ble_eq_true rfl) (by decide +kernel) (hi_0_7 _ _ _ _ _) ?_
      refine zw_iconst (-1) 6 f105_5 rfl (by decide +kernel) ?_
      refine zw_ireturn f105_6 r105 u105 ⟨_, rfl, ?_⟩
      refine zw_ireturn f84_27 r84 u84 ?_
      exact ⟨_, _, _, _, rfl, (KQ.i rfl KQ.rf), Or.inl ⟨(fun q => (qV.n2 (by omega) hc2) q.1), hR.k (show KQ (fun k j => decide (k = 0 ∧ j = 7)) p0 _ _ _ _ _ _ _ _ from KQ.i (k := 0) (j := 7) (v := 1) rfl KQ.rf) ⟨rfl, rfl⟩ (fun j _ _ => by simp) (p0_w 11), hL, rfl⟩⟩
    · refine zw_iload_n 13 f13_12 rfl rfl ?_
      refine zw_bipush 8 15 f13_13 rfl (by decide +kernel) ?_
      refine zw_ic_ge 18 22 f13_15 (by decide +kernel) rfl (fun hc3 => ?_) (fun hc3 => ?_)
      · refine zw_iconst 0 23 f13_22 rfl (by decide +kernel) ?_
        refine zw_zreturn f13_23 r13 u13 (by decide +kernel) ⟨_, rfl, ?_⟩
        refine zw_if_eq_t 22 f84_8 (by decide +kernel) (by decide +kernel) ?_
        refine zw_aload_n 23 f84_22 rfl rfl ?_
        refine zw_iconst 1 24 f84_23 rfl (by decide +kernel) ?_
        refine zw_virtual_i 27 0 0 [.ref 0, .int 1] [(0, .ref 0), (1, .int 1)] f84_24 rfl n84_78 k84_78_11 rfl (hb_0 _ _ _ _) (by decide +kernel) (Nat.le_of_ble_eq_true rfl) rfl rfl (by decide +kernel) (by decide +kernel) rfl (Nat.le_of_ble_eq_true rfl) rfl ?_
        refine zw_aload_n 1 f105_0 rfl rfl ?_
        refine zw_iload_n 2 f105_1 rfl rfl ?_
        refine zw_put _ 5 f105_2 rfl g105_70_11 (hb_0 _ _ _ _) rfl (Nat.le_of_ble_eq_true rfl) (by decide +kernel) (hi_0_7 _ _ _ _ _) ?_
        refine zw_iconst (-1) 6 f105_5 rfl (by decide +kernel) ?_
        refine zw_ireturn f105_6 r105 u105 ⟨_, rfl, ?_⟩
        refine zw_ireturn f84_27 r84 u84 ?_
        exact ⟨_, _, _, _, rfl, (KQ.i rfl KQ.rf), Or.inl ⟨(fun q => (qV.n3 (m := 8) (N := 8) (by omega) (by omega) (by decide) hc3) q.1), hR.k (show KQ (fun k j => decide (k = 0 ∧ j = 7)) p0 _ _ _ _ _ _ _ _ from KQ.i (k := 0) (j := 7) (v := 1) rfl KQ.rf) ⟨rfl, rfl⟩ (fun j _ _ => by simp) (p0_w 11), hL, rfl⟩⟩
      · refine zw_iconst 1 19 f13_18 rfl (by decide +kernel) ?_
        refine zw_goto 23 f13_19 (by decide +kernel) ?_
        refine zw_zreturn f13_23 r13 u13 (by decide +kernel) ⟨_, rfl, ?_⟩
        refine zw_if_eq_f 11 22 f84_8 (by decide +kernel) rfl (by decide +kernel) ?_
        refine zw_iload_n 12 f84_11 rfl rfl ?_
        refine zw_iconst 1 13 f84_12 rfl (by decide +kernel) ?_
        refine zw_sipush 1000 16 f84_13 rfl (by decide +kernel) ?_
        refine zw_static_i 19 0 0 [.int b, .int 1, .int 1000] [] [(0, .int b), (1, .int 1), (2, .int 1000)] f84_16 rfl k84_74_99 rfl (by decide +kernel) (Nat.le_of_ble_eq_true rfl) (Nat.le_of_ble_eq_true rfl) rfl rfl (by decide +kernel) (by decide +kernel) rfl (Nat.le_of_ble_eq_true rfl) rfl ?_
        refine zw_iload_n 1 f112_0 rfl rfl ?_
        refine zw_iload_n 2 f112_1 rfl rfl ?_
        refine zw_ic_lt 5 14 f112_2 (by decide +kernel) rfl (fun hc4 => ?_) (fun hc4 => ?_)
        · refine zw_iconst 0 15 f112_14 rfl (by decide +kernel) ?_
          refine zw_zreturn f112_15 r112 u112 (by decide +kernel) ⟨_, rfl, ?_⟩
          refine zw_if_ne_f 22 28 f84_19 (by decide +kernel) rfl (by decide +kernel) ?_
          refine zw_aload_n 23 f84_22 rfl rfl ?_
          refine zw_iconst 1 24 f84_23 rfl (by decide +kernel) ?_
          refine zw_virtual_i 27 0 0 [.ref 0, .int 1] [(0, .ref 0), (1, .int 1)] f84_24 rfl n84_78 k84_78_11 rfl (hb_0 _ _ _ _) (by decide +kernel) (Nat.le_of_ble_eq_true rfl) rfl rfl (by decide +kernel) (by decide +kernel) rfl (Nat.le_of_ble_eq_true rfl) rfl ?_
          refine zw_aload_n 1 f105_0 rfl rfl ?_
          refine zw_iload_n 2 f105_1 rfl rfl ?_
          refine zw_put _ 5 f105_2 rfl g105_70_11 (hb_0 _ _ _ _) rfl (Nat.le_of_ble_eq_true rfl) (by decide +kernel) (hi_0_7 _ _ _ _ _) ?_
          refine zw_iconst (-1) 6 f105_5 rfl (by decide +kernel) ?_
          refine zw_ireturn f105_6 r105 u105 ⟨_, rfl, ?_⟩
          refine zw_ireturn f84_27 r84 u84 ?_
          exact ⟨_, _, _, _, rfl, (KQ.i rfl KQ.rf), Or.inl ⟨(fun q => (fun q => q.1 hc4) q.2), hR.k (show KQ (fun k j => decide (k = 0 ∧ j = 7)) p0 _ _ _ _ _ _ _ _ from KQ.i (k := 0) (j := 7) (v := 1) rfl KQ.rf) ⟨rfl, rfl⟩ (fun j _ _ => by simp) (p0_w 11), hL, rfl⟩⟩
        · refine zw_iload_n 6 f112_5 rfl rfl ?_
          refine zw_iload_n 7 f112_6 rfl rfl ?_
          refine zw_ic_gt 10 14 f112_7 (by decide +kernel) rfl (fun hc5 => ?_) (fun hc5 => ?_)
          · refine zw_iconst 0 15 f112_14 rfl (by decide +kernel) ?_
            refine zw_zreturn f112_15 r112 u112 (by decide +kernel) ⟨_, rfl, ?_⟩
            refine zw_if_ne_f 22 28 f84_19 (by decide +kernel) rfl (by decide +kernel) ?_
            refine zw_aload_n 23 f84_22 rfl rfl ?_
            refine zw_iconst 1 24 f84_23 rfl (by decide +kernel) ?_
            refine zw_virtual_i 27 0 0 [.ref 0, .int 1] [(0, .ref 0), (1, .int 1)] f84_24 rfl n84_78 k84_78_11 rfl (hb_0 _ _ _ _) (by decide +kernel) (Nat.le_of_ble_eq_true rfl) rfl rfl (by decide +kernel) (by decide +kernel) rfl (Nat.le_of_ble_eq_true rfl) rfl ?_
            refine zw_aload_n 1 f105_0 rfl rfl ?_
            refine zw_iload_n 2 f105_1 rfl rfl ?_
            refine zw_put _ 5 f105_2 rfl g105_70_11 (hb_0 _ _ _ _) rfl (Nat.le_of_ble_eq_true rfl) (by decide +kernel) (hi_0_7 _ _ _ _ _) ?_
            refine zw_iconst (-1) 6 f105_5 rfl (by decide +kernel) ?_
            refine zw_ireturn f105_6 r105 u105 ⟨_, rfl, ?_⟩
            refine zw_ireturn f84_27 r84 u84 ?_
            exact ⟨_, _, _, _, rfl, (KQ.i rfl KQ.rf), Or.inl ⟨(fun q => (fun q => q.2 hc5) q.2), hR.k (show KQ (fun k j => decide (k = 0 ∧ j = 7)) p0 _ _ _ _ _ _ _ _ from KQ.i (k := 0) (j := 7) (v := 1) rfl KQ.rf) ⟨rfl, rfl⟩ (fun j _ _ => by simp) (p0_w 11), hL, rfl⟩⟩
          · refine zw_iconst 1 11 f112_10 rfl (by decide +kernel) ?_
            refine zw_goto 15 f112_11 (by decide +kernel) ?_
            refine zw_zreturn f112_15 r112 u112 (by decide +kernel) ⟨_, rfl, ?_⟩
            refine zw_if_ne_t 28 f84_19 (by decide +kernel) (by decide +kernel) ?_
            refine zw_aload_n 29 f84_28 rfl rfl ?_
            refine zw_getfield 32 f84_29 rfl g84_21_11 (hb_0 _ _ _ _) rfl ?_
            refine zw_getfield 35 f84_32 rfl g84_134_10 (hb_11 _ _ _ _) rfl ?_
            refine zw_dup 36 f84_35 rfl rfl ?_
            refine zw_getG (G 12 4) 39 f84_36 rfl g84_147_9 (hb_12 _ _ _ _) rfl rfl ?_
            refine zw_iload_n 40 f84_39 rfl rfl ?_
            refine zw_i2l (Int32.toInt64 b) 41 f84_40 rfl rfl ?_
            refine zw_ladd ((G 12 4) + (Int32.toInt64 b)) 42 f84_41 rfl rfl ?_
            refine zw_put _ 45 f84_42 rfl g84_147_9 (hb_12 _ _ _ _) rfl (Nat.le_of_ble_eq_true rfl) (by decide +kernel) (hg_12_4 _ _ _ _ _) ?_
            refine zw_aload_n 46 f84_45 rfl rfl ?_
            refine zw_getfield 49 f84_46 rfl g84_21_11 (hb_0 _ _ _ _) rfl ?_
            refine zw_iload_n 50 f84_49 rfl rfl ?_
            refine zw_iload_n 51 f84_50 rfl rfl ?_
            refine zw_i2l (Int32.toInt64 b) 52 f84_51 rfl rfl ?_
            refine zw_aload_n 53 f84_52 rfl rfl ?_
            refine zw_getfield 56 f84_53 rfl g84_21_11 (hb_0 _ _ _ _) rfl ?_
            refine zw_getfield 59 f84_56 rfl g84_134_10 (hb_11 _ _ _ _) rfl ?_
            refine zw_getG W.1 62 f84_59 rfl g84_151_9 (hb_12 _ _ _ _) rfl hR.2.2.1.1 ?_
            refine zw_lmul ((Int32.toInt64 b) * W.1) 63 f84_62 rfl rfl ?_
            refine zw_virtual_v 66 0 0 [.ref 11, .int a, .long ((Int32.toInt64 b) * W.1)] [(0, .ref 11), (1, .int a), (2, .long ((Int32.toInt64 b) * W.1))] f84_63 rfl n84_154 k84_154_10 rfl (hb_11 _ _ _ _) (by decide +kernel) (Nat.le_of_ble_eq_true rfl) rfl rfl (by decide +kernel) (by decide +kernel) rfl (Nat.le_of_ble_eq_true rfl) rfl ?_
            have fb := fil_b hg ⟨hc4, hc5⟩
            refine zWp.mono (cx_pour_11 ro nv np P I (upd2 G 12 4 ((G 12 4) + (Int32.toInt64 b))) A B hp W.1 W.2.2.2.1 hg hR.1.1 (hR.2.1 54 (by omega) (by omega)) (hR.2.1 59 (by omega) (by omega)) hR.2.2.1.1 W.2.2.2.2.1 hR.2.2.2.1 hR.2.2.1.2.2.2 ⟨hW.1.1.2.1, hW.1.1.2.2⟩ a (Int32.toInt64 b * W.1) (qV.to (qV.ofc (by omega) hc1 hc2)) fb.1 fb.2) ?_
            rintro r h1 ⟨I_p, G_p, A_p, B_p, rfl, K_p, hP, rfl⟩
            refine ⟨rfl, ?_⟩
            have K_pp : KQ (fun k j => decide (k = 12)) (fun k => decide (k = 13)) I G A B I_p G_p A_p B_p := KQ.tr (KQ.g (k := 12) (j := 4) rfl KQ.rf) (KQ.wk K_p (by intro k j h; simp only [fCp, decide_eq_false_iff_not] at h ⊢; omega) (by intro k h; simp only [pCa, decide_eq_false_iff_not] at h ⊢; omega))
            refine zw_aload_n 67 f84_66 rfl rfl ?_
            refine zw_iconst 1 68 f84_67 rfl (by decide +kernel) ?_
            refine zw_virtual_i 71 0 0 [.ref 0, .int 1] [(0, .ref 0), (1, .int 1)] f84_68 rfl n84_86 k84_86_11 rfl (hb_0 _ _ _ _) (by decide +kernel) (Nat.le_of_ble_eq_true rfl) rfl rfl (by decide +kernel) (by decide +kernel) rfl (Nat.le_of_ble_eq_true rfl) rfl ?_
            refine zw_aload_n 1 f107_0 rfl rfl ?_
            refine zw_getfield 4 f107_1 rfl g107_21_11 (hb_0 _ _ _ _) rfl ?_
            refine zw_virtual_v 7 0 0 [.ref 11] [(0, .ref 11)] f107_4 rfl n107_318 k107_318_10 rfl (hb_11 _ _ _ _) (by decide +kernel) (Nat.le_of_ble_eq_true rfl) rfl rfl (by decide +kernel) (by decide +kernel) rfl (Nat.le_of_ble_eq_true rfl) rfl ?_
            have hok1 : ok_fill nv np P a b := ⟨(qV.ofc (by omega) hc1 hc2), ⟨hc4, hc5⟩⟩
            obtain ⟨hp2, hW2⟩ := hok hok1
            have hR2 : cRS 11 nv np P (wFill (P 54) (P 59) a b W) I_p G_p A_p B_p := ⟨⟨((K_p.1 1 0 rfl).trans hR.1.1), ((K_p.1 1 1 rfl).trans hR.1.2)⟩, PE.of10 (((K_p.2.2.1 2 rfl).trans (hR.2.1 53 (by omega) (by omega)))) (((K_p.2.2.1 3 rfl).trans (hR.2.1 54 (by omega) (by omega)))) (((K_p.2.2.1 4 rfl).trans (hR.2.1 55 (by omega) (by omega)))) (((K_p.2.2.1 5 rfl).trans (hR.2.1 56 (by omega) (by omega)))) (((K_p.2.2.1 6 rfl).trans (hR.2.1 57 (by omega) (by omega)))) (((K_p.2.2.1 7 rfl).trans (hR.2.1 58 (by omega) (by omega)))) (((K_p.2.2.1 8 rfl).trans (hR.2.1 59 (by omega) (by omega)))) (((K_p.2.2.1 9 rfl).trans (hR.2.1 60 (by omega) (by omega)))) (((K_p.2.2.1 10 rfl).trans (hR.2.1 61 (by omega) (by omega)))) (((K_p.2.2.1 15 rfl).trans (hR.2.1 62 (by omega) (by omega)))), ⟨((K_p.2.1 12 0 rfl).trans hR.2.2.1.1), ((K_p.2.1 12 1 rfl).trans hR.2.2.1.2.1), ((K_p.2.1 12 2 rfl).trans hR.2.2.1.2.2.1), hP.2⟩, hP.1, ((congrArg (bOf 8) (K_p.1 12 6 rfl)).trans hR.2.2.2.2.1), ((congrArg (bOf 14) (K_p.1 12 5 rfl)).trans hR.2.2.2.2.2.1), (fun v hv => (congrFun (K_p.2.2.1 14 rfl) v).trans (hR.2.2.2.2.2.2 v hv))⟩
            have hL2 := hL.k K_pp rfl rfl rfl rfl rfl
            refine zWp.mono (cx_settle_11 ro nv np _ (wFill (P 54) (P 59) a b W) 10000 (K + 1000) _ _ _ _ hR2 hp2 hW2.2.1 hW2.1 (by omega) (by omega)) ?_
            rintro r h1 ⟨I_s, G_s, A_s, B_s, rfl, K_s, ⟨hR3, hH3⟩, rfl⟩
            refine ⟨rfl, ?_⟩
            have hL3 := hL2.k K_s rfl rfl rfl rfl rfl
            refine zw_aload_n 8 f107_7 rfl rfl ?_
            refine zw_getfield 11 f107_8 rfl g107_31_11 (hb_0 _ _ _ _) rfl ?_
            refine zw_aload_n 12 f107_11 rfl rfl ?_
            refine zw_getfield 15 f107_12 rfl g107_21_11 (hb_0 _ _ _ _) rfl ?_
            refine zw_virtual_v 18 0 0 [.ref 33, .ref 11] [(0, .ref 33), (1, .ref 11)] f107_15 rfl n107_187 k107_187_3 rfl (hb_33 _ _ _ _) (by decide +kernel) (Nat.le_of_ble_eq_true rfl) rfl rfl (by decide +kernel) (by decide +kernel) rfl (Nat.le_of_ble_eq_true rfl) rfl ?_
            have hq2 := mom_t hp2 hW2.2.1 hW2.1 (by omega) (by omega)
            refine zWp.mono (cx_take ro _ _ _ _ _ _ (wFill (P 54) (P 59) a b W).2.1 (wFill (P 54) (P 59) a b W).1 so L (wEv nv _ (wFill (P 54) (P 59) a b W)) hR3.2.2.1.2.1 hR3.2.2.1.1 hq2.1 hq2.2.1 hH3 hq2.2.2 hL3 (by omega)) ?_
            rintro r h1 ⟨I_u, G_u, A_u, B_u, rfl, K_u, hL4, rfl⟩
            refine ⟨rfl, ?_⟩
            have hR4 := hR3.k K_u ⟨rfl, rfl⟩ fLt_w pLt_w
            refine zw_aload_n 19 f107_18 rfl rfl ?_
            refine zw_iload_n 20 f107_19 rfl rfl ?_
            refine zw_virtual_i 23 0 0 [.ref 0, .int 1] [(0, .ref 0), (1, .int 1)] f107_20 rfl n107_181 k107_181_11 rfl (hb_0 _ _ _ _) (by decide +kernel) (Nat.le_of_ble_eq_true rfl) rfl rfl (by decide +kernel) (by decide +kernel) rfl (Nat.le_of_ble_eq_true rfl) rfl ?_
            refine zw_aload_n 1 f106_0 rfl rfl ?_
            refine zw_iconst 0 2 f106_1 rfl (by decide +kernel) ?_
            refine zw_put _ 5 f106_2 rfl g106_70_11 (hb_0 _ _ _ _) rfl (Nat.le_of_ble_eq_true rfl) (by decide +kernel) (hi_0_7 _ _ _ _ _) ?_
            refine zw_iload_n 6 f106_5 rfl rfl ?_
            refine zw_ireturn f106_6 r106 u106 ⟨_, rfl, ?_⟩
            refine zw_ireturn f107_23 r107 u107 ⟨_, rfl, ?_⟩
            refine zw_ireturn f84_71 r84 u84 ?_
            exact ⟨_, _, _, _, rfl, (KQ.i rfl (KQ.tr (KQ.tr (KQ.tr (KQ.g rfl KQ.rf) (KQ.wk K_p fCp_Hd pCa_Hd)) (KQ.wk K_s fSe_Hd pSe_Hd)) (KQ.wk K_u fLt_Hd pLt_Hd))), Or.inr ⟨hok1, hR4.k (show KQ (fun k j => decide (k = 0 ∧ j = 7)) p0 _ _ _ _ _ _ _ _ from KQ.i (k := 0) (j := 7) (v := 0) rfl KQ.rf) ⟨rfl, rfl⟩ (fun j _ _ => by simp) (p0_w 11), hL4, rfl⟩⟩
set_option maxRecDepth 100000 in
set_option maxHeartbeats 0 in
theorem cx_shut (ro : UInt32 → Nat × (Nat → Int32)) (nv np : Nat) (P : Nat → Nat → Int32) (W : qW) (L : qLog) (K : Int) (so : Int32) (I : Nat → Nat → Int32) (G : Nat → Nat → Int64) (A : Nat → Nat → Int32) (B : Nat → Nat → Int64) (hR : cRS 11 nv np P W I G A B) (hp : MPa nv np P) (hW : wInv nv 10000 K P W) (hQ : qKd nv P) (hL : cLg L I A) (hK : K ≤ 199000000) (hn : L.1 < 900000000) (a : Int32) (b : Int32) (hz : b = 0 ∨ b = 1) (hok : ok_shut nv np P a b → MPa nv np P ∧ wInv nv 10000 (K + 1000) P (wOpn a.toNatClampNeg (if b = 0 then 1 else 0) W)) : zWp ro 85 0 [(0, .ref 0), (1, .int a), (2, .int b)] [] (hS I G A B) 0 0 (fun r h1 => ∃ I2 G2 A2 B2, h1 = hS I2 G2 A2 B2 ∧ KQ fHd pHd I G A B I2 G2 A2 B2 ∧ ((¬ ok_shut nv np P a b ∧ cRS 11 nv np P W I2 G2 A2 B2 ∧ cLg L I2 A2 ∧ r = some (.int (-1))) ∨ (ok_shut nv np P a b ∧ cRS 11 nv np P (wMom nv P (wOpn a.toNatClampNeg (if b = 0 then 1 else 0) W)) I2 G2 A2 B2 ∧ cLg (qNotes 1 (wOpn a.toNatClampNeg (if b = 0 then 1 else 0) W).2.1 (wOpn a.toNatClampNeg (if b = 0 then 1 else 0) W).1 so L (wEv nv P (wOpn a.toNatClampNeg (if b = 0 then 1 else 0) W))) I2 A2 ∧ r = some (.int (if (W.2.2.2.2.2.2.1 a.toNatClampNeg) = b then 1 else 0))))) := by
  have h8 := hp.1
  have h14 := hp.2.1
  have hg : 1 ≤ W.1.toInt ∧ W.1.toInt ≤ 10000 := hW.1.1.1
  refine zw_aload_n 1 f85_0 rfl rfl ?_
  refine zw_getfield 4 f85_1 rfl g85_10_11 (hb_0 _ _ _ _) rfl ?_
  refine zw_iload_n 5 f85_4 rfl rfl ?_
  refine zw_virtual_i 8 0 0 [.ref 1, .int a] [(0, .ref 1), (1, .int a)] f85_5 rfl n85_109 k85_109_4 rfl (hb_1 _ _ _ _) (by decide +kernel) (Nat.le_of_ble_eq_true rfl) rfl rfl (by decide +kernel) (by decide +kernel) rfl (Nat.le_of_ble_eq_true rfl) rfl ?_
  refine zw_iload_n 1 f14_0 rfl rfl ?_
  refine zw_if_lt 4 22 f14_1 (by decide +kernel) rfl (fun hc1 => ?_) (fun hc1 => ?_)
  · refine zw_iconst 0 23 f14_22 rfl (by decide +kernel) ?_
    refine zw_zreturn f14_23 r14 u14 (by decide +kernel) ⟨_, rfl, ?_⟩
    refine zw_if_ne_f 11 17 f85_8 (by decide +kernel) rfl (by decide +kernel) ?_
    refine zw_aload_n 12 f85_11 rfl rfl ?_
    refine zw_iconst 1 13 f85_12 rfl (by decide +kernel) ?_
    refine zw_virtual_i 16 0 0 [.ref 0, .int 1] [(0, .ref 0), (1, .int 1)] f85_13 rfl n85_78 k85_78_11 rfl (hb_0 _ _ _ _) (by decide +kernel) (Nat.le_of_ble_eq_true rfl) rfl rfl (by decide +kernel) (by decide +kernel) rfl (Nat.le_of_ble_eq_true rfl) rfl ?_
    refine zw_aload_n 1 f105_0 rfl rfl ?_
    refine zw_iload_n 2 f105_1 rfl rfl ?_
    refine zw_put _ 5 f105_2 rfl g105_70_11 (hb_0 _ _ _ _) rfl (Nat.le_of_ble_eq_true rfl) (by decide +kernel) (hi_0_7 _ _ _ _ _) ?_
    refine zw_iconst (-1) 6 f105_5 rfl (by decide +kernel) ?_
    refine zw_ireturn f105_6 r105 u105 ⟨_, rfl, ?_⟩
    refine zw_ireturn f85_16 r85 u85 ?_
    exact ⟨_, _, _, _, rfl, (KQ.i rfl KQ.rf), Or.inl ⟨(fun q => (qV.n0 (by omega) hc1) q), hR.k (show KQ (fun k j => decide (k = 0 ∧ j = 7)) p0 _ _ _ _ _ _ _ _ from KQ.i (k := 0) (j := 7) (v := 1) rfl KQ.rf) ⟨rfl, rfl⟩ (fun j _ _ => by simp) (p0_w 11), hL, rfl⟩⟩
  · refine zw_iload_n 5 f14_4 rfl rfl ?_
    refine zw_aload_n 6 f14_5 rfl rfl ?_
    refine zw_getI (nI np) 9 f14_6 rfl g14_43_4 (hb_1 _ _ _ _) rfl hR.1.2 ?_
    refine zw_ic_ge 12 22 f14_9 (by decide +kernel) rfl (fun hc2 => ?_) (fun hc2 => ?_)
    · refine zw_iconst 0 23 f14_22 rfl (by decide +kernel) ?_
      refine zw_zreturn f14_23 r14 u14 (by decide +kernel) ⟨_, rfl, ?_⟩
      refine zw_if_ne_f 11 17 f85_8 (by decide +kernel) rfl (by decide +kernel) ?_
      refine zw_aload_n 12 f85_11 rfl rfl ?_
      refine zw_iconst 1 13 f85_12 rfl (by decide +kernel) ?_
      refine zw_virtual_i 16 0 0 [.ref 0, .int 1] [(0, .ref 0), (1, .int 1)] f85_13 rfl n85_78 k85_78_11 rfl (hb_0 _ _ _ _) (by decide +kernel) (Nat.le_of_ble_eq_true rfl) rfl rfl (by decide +kernel) (by decide +kernel) rfl (Nat.le_of_ble_eq_true rfl) rfl ?_
      refine zw_aload_n 1 f105_0 rfl rfl ?_
      refine zw_iload_n 2 f105_1 rfl rfl ?_
      refine zw_put _ 5 f105_2 rfl g105_70_11 (hb_0 _ _ _ _) rfl (Nat.le_of_ble_eq_true rfl) (by decide +kernel) (hi_0_7 _ _ _ _ _) ?_
      refine zw_iconst (-1) 6 f105_5 rfl (by decide +kernel) ?_
      refine zw_ireturn f105_6 r105 u105 ⟨_, rfl, ?_⟩
      refine zw_ireturn f85_16 r85 u85 ?_
      exact ⟨_, _, _, _, rfl, (KQ.i rfl KQ.rf), Or.inl ⟨(fun q => (qV.n2 (by omega) hc2) q), hR.k (show KQ (fun k j => decide (k = 0 ∧ j = 7)) p0 _ _ _ _ _ _ _ _ from KQ.i (k := 0) (j := 7) (v := 1) rfl KQ.rf) ⟨rfl, rfl⟩ (fun j _ _ => by simp) (p0_w 11), hL, rfl⟩⟩
    · refine zw_iload_n 13 f14_12 rfl rfl ?_
      refine zw_bipush 14 15 f14_13 rfl (by decide +kernel) ?_
      refine zw_ic_ge 18 22 f14_15 (by decide +kernel) rfl (fun hc3 => ?_) (fun hc3 => ?_)
      · refine zw_iconst 0 23 f14_22 rfl (by decide +kernel) ?_
        refine zw_zreturn f14_23 r14 u14 (by decide +kernel) ⟨_, rfl, ?_⟩
        refine zw_if_ne_f 11 17 f85_8 (by decide +kernel) rfl (by decide +kernel) ?_
        refine zw_aload_n 12 f85_11 rfl rfl ?_
        refine zw_iconst 1 13 f85_12 rfl (by decide +kernel) ?_
        refine zw_virtual_i 16 0 0 [.ref 0, .int 1] [(0, .ref 0), (1, .int 1)] f85_13 rfl n85_78 k85_78_11 rfl (hb_0 _ _ _ _) (by decide +kernel) (Nat.le_of_ble_eq_true rfl) rfl rfl (by decide +kernel) (by decide +kernel) rfl (Nat.le_of_ble_eq_true rfl) rfl ?_
        refine zw_aload_n 1 f105_0 rfl rfl ?_
        refine zw_iload_n 2 f105_1 rfl rfl ?_
        refine zw_put _ 5 f105_2 rfl g105_70_11 (hb_0 _ _ _ _) rfl (Nat.le_of_ble_eq_true rfl) (by decide +kernel) (hi_0_7 _ _ _ _ _) ?_
        refine zw_iconst (-1) 6 f105_5 rfl (by decide +kernel) ?_
        refine zw_ireturn f105_6 r105 u105 ⟨_, rfl, ?_⟩
        refine zw_ireturn f85_16 r85 u85 ?_
        exact ⟨_, _, _, _, rfl, (KQ.i rfl KQ.rf), Or.inl ⟨(fun q => (qV.n3 (m := 14) (N := 14) (by omega) (by omega) (by decide) hc3) q), hR.k (show KQ (fun k j => decide (k = 0 ∧ j = 7)) p0 _ _ _ _ _ _ _ _ from KQ.i (k := 0) (j := 7) (v := 1) rfl KQ.rf) ⟨rfl, rfl⟩ (fun j _ _ => by simp) (p0_w 11), hL, rfl⟩⟩
      · refine zw_iconst 1 19 f14_18 rfl (by decide +kernel) ?_
        refine zw_goto 23 f14_19 (by decide +kernel) ?_
        refine zw_zreturn f14_23 r14 u14 (by decide +kernel) ⟨_, rfl, ?_⟩
        refine zw_if_ne_t 17 f85_8 (by decide +kernel) (by decide +kernel) ?_
        refine zw_aload_n 18 f85_17 rfl rfl ?_
        refine zw_getfield 21 f85_18 rfl g85_21_11 (hb_0 _ _ _ _) rfl ?_
        refine zw_getfield 24 f85_21 rfl g85_134_10 (hb_11 _ _ _ _) rfl ?_
        refine zw_iload_n 25 f85_24 rfl rfl ?_
        refine zw_virtual_i 28 0 0 [.ref 12, .int a] [(0, .ref 12), (1, .int a)] f85_25 rfl n85_158 k85_158_9 rfl (hb_12 _ _ _ _) (by decide +kernel) (Nat.le_of_ble_eq_true rfl) rfl rfl (by decide +kernel) (by decide +kernel) rfl (Nat.le_of_ble_eq_true rfl) rfl ?_
        have va := (qV.ofc (by omega) hc1 hc2)
        have vn := va.1
        have io : zWp ro 43 0 [(0, .ref 12), (1, .int a)] [] (hS I G A B) 0 0 (fun r h1 => h1 = hS I G A B ∧ r = some (.int (W.2.2.2.2.2.2.1 a.toNatClampNeg))) := by
          have q := cx_isOpen_11 ro nv np P W I G A B hR hp hW.2.1 a.toNatClampNeg (by omega)
          rw [← va.2] at q
          exact q
        refine zWp.mono io ?_
        rintro r h1 ⟨rfl, rfl⟩
        refine ⟨_, rfl, ?_⟩
        refine zw_if_ne 31 35 f85_28 (by decide +kernel) rfl (fun hc4 => ?_) (fun hc4 => ?_)
        · refine zw_iconst 0 36 f85_35 rfl (by decide +kernel) ?_
          refine zw_istore_n _ 37 f85_36 rfl (by decide +kernel) rfl ?_
          refine zw_aload_n 38 f85_37 rfl (zl1_ne rfl rfl rfl) ?_
          refine zw_getfield 41 f85_38 rfl g85_21_11 (hb_0 _ _ _ _) rfl ?_
          refine zw_getfield 44 f85_41 rfl g85_134_10 (hb_11 _ _ _ _) rfl ?_
          refine zw_iload_n 45 f85_44 rfl (zl1_ne rfl rfl rfl) ?_
          refine zw_iload_n 46 f85_45 rfl (zl1_ne rfl rfl rfl) ?_
          refine zw_if_ne 49 53 f85_46 (by decide +kernel) rfl (fun hc5 => ?_) (fun hc5 => ?_)
          · refine zw_iconst 0 54 f85_53 rfl (by decide +kernel) ?_
            refine zw_virtual_v 57 0 0 [.ref 12, .int a, .int 0] [(0, .ref 12), (1, .int a), (2, .int 0)] f85_54 rfl n85_143 k85_143_9 rfl (hb_12 _ _ _ _) (by decide +kernel) (Nat.le_of_ble_eq_true rfl) rfl rfl (by decide +kernel) (by decide +kernel) rfl (Nat.le_of_ble_eq_true rfl) rfl ?_
            refine zw_aload_n 1 f44_0 rfl rfl ?_
            refine zw_iload_n 2 f44_1 rfl rfl ?_
            refine zw_if_eq_t 16 f44_2 (by decide +kernel) (by decide +kernel) ?_
            refine zw_aload_n 17 f44_16 rfl rfl ?_
            refine zw_getI (I 12 5) 20 f44_17 rfl g44_38_9 (hb_12 _ _ _ _) rfl rfl ?_
            refine zw_iconst 1 21 f44_20 rfl (by decide +kernel) ?_
            refine zw_iload_n 22 f44_21 rfl rfl ?_
            refine zw_ishl (1 <<< (a &&& 31)) 23 f44_22 rfl rfl ?_
            refine zw_iconst (-1) 24 f44_23 rfl (by decide +kernel) ?_
            refine zw_ixor ((1 <<< (a &&& 31)) ^^^ (-1)) 25 f44_24 rfl rfl ?_
            refine zw_iand ((I 12 5) &&& ((1 <<< (a &&& 31)) ^^^ (-1))) 26 f44_25 rfl rfl ?_
            refine zw_put _ 29 f44_26 rfl g44_38_9 (hb_12 _ _ _ _) rfl (Nat.le_of_ble_eq_true rfl) (by decide +kernel) (hi_12_5 _ _ _ _ _) ?_
            refine zw_vreturn f44_29 r44 u44 ⟨rfl, ?_⟩
            refine zw_aload_n 58 f85_57 rfl (zl1_ne rfl rfl rfl) ?_
            refine zw_iload_n 59 f85_58 rfl zl1_eq ?_
            refine zw_iload_n 60 f85_59 rfl (zl1_ne rfl rfl rfl) ?_
            refine zw_ic_eq_f 63 67 f85_60 (by decide +kernel) rfl (fun q => absurd (q.trans (hz.resolve_left hc5)) (by decide)) ?_
            refine zw_iconst 1 64 f85_63 rfl (by decide +kernel) ?_
            refine zw_goto 68 f85_64 (by decide +kernel) ?_
            refine zw_virtual_i 71 0 0 [.ref 0, .int 1] [(0, .ref 0), (1, .int 1)] f85_68 rfl n85_86 k85_86_11 rfl (hb_0 _ _ _ _) (by decide +kernel) (Nat.le_of_ble_eq_true rfl) rfl rfl (by decide +kernel) (by decide +kernel) rfl (Nat.le_of_ble_eq_true rfl) rfl ?_
            refine zw_aload_n 1 f107_0 rfl rfl ?_
            refine zw_getfield 4 f107_1 rfl g107_21_11 (hb_0 _ _ _ _) rfl ?_
            refine zw_virtual_v 7 0 0 [.ref 11] [(0, .ref 11)] f107_4 rfl n107_318 k107_318_10 rfl (hb_11 _ _ _ _) (by decide +kernel) (Nat.le_of_ble_eq_true rfl) rfl rfl (by decide +kernel) (by decide +kernel) rfl (Nat.le_of_ble_eq_true rfl) rfl ?_
            have hok1 : ok_shut nv np P a b := (qV.ofc (by omega) hc1 hc2)
            obtain ⟨hp2, hW2⟩ := hok hok1
            have hR2 : cRS 11 nv np P (wOpn a.toNatClampNeg (if b = 0 then 1 else 0) W) (upd2 I 12 5 ((I 12 5) &&& ((1 <<< (a &&& 31)) ^^^ (-1)))) G A B := ⟨⟨hR.1.1, hR.1.2⟩, PE.of10 ((hR.2.1 53 (by omega) (by omega))) ((hR.2.1 54 (by omega) (by omega))) ((hR.2.1 55 (by omega) (by omega))) ((hR.2.1 56 (by omega) (by omega))) ((hR.2.1 57 (by omega) (by omega))) ((hR.2.1 58 (by omega) (by omega))) ((hR.2.1 59 (by omega) (by omega))) ((hR.2.1 60 (by omega) (by omega))) ((hR.2.1 61 (by omega) (by omega))) ((hR.2.1 62 (by omega) (by omega))), ⟨hR.2.2.1.1, hR.2.2.1.2.1, hR.2.2.1.2.2.1, hR.2.2.1.2.2.2⟩, hR.2.2.2.1, hR.2.2.2.2.1, (by show _ = upd _ _ (if b = 0 then (1 : Int32) else 0); rw [show (if b = 0 then (1 : Int32) else 0) = 0 from if_neg hc5]; exact (bclr_a (va.mono h14) hR.2.2.2.2.2.1)), hR.2.2.2.2.2.2⟩
            have hL2 : cLg L (upd2 I 12 5 ((I 12 5) &&& ((1 <<< (a &&& 31)) ^^^ (-1)))) A := hL
            refine zWp.mono (cx_settle_11 ro nv np _ (wOpn a.toNatClampNeg (if b = 0 then 1 else 0) W) 10000 (K + 1000) _ _ _ _ hR2 hp2 hW2.2.1 hW2.1 (by omega) (by omega)) ?_
            rintro r h1 ⟨I_s, G_s, A_s, B_s, rfl, K_s, ⟨hR3, hH3⟩, rfl⟩
            refine ⟨rfl, ?_⟩
            have hL3 := hL2.k K_s rfl rfl rfl rfl rfl
            refine zw_aload_n 8 f107_7 rfl rfl ?_
            refine zw_getfield 11 f107_8 rfl g107_31_11 (hb_0 _ _ _ _) rfl ?_
            refine zw_aload_n 12 f107_11 rfl rfl ?_
            refine zw_getfield 15 f107_12 rfl g107_21_11 (hb_0 _ _ _ _) rfl ?_
            refine zw_virtual_v 18 0 0 [.ref 33, .ref 11] [(0, .ref 33), (1, .ref 11)] f107_15 rfl n107_187 k107_187_3 rfl (hb_33 _ _ _ _) (by decide +kernel) (Nat.le_of_ble_eq_true rfl) rfl rfl (by decide +kernel) (by decide +kernel) rfl (Nat.le_of_ble_eq_true rfl) rfl ?_
            have hq2 := mom_t hp2 hW2.2.1 hW2.1 (by omega) (by omega)
            refine zWp.mono (cx_take ro _ _ _ _ _ _ (wOpn a.toNatClampNeg (if b = 0 then 1 else 0) W).2.1 (wOpn a.toNatClampNeg (if b = 0 then 1 else 0) W).1 so L (wEv nv _ (wOpn a.toNatClampNeg (if b = 0 then 1 else 0) W)) hR3.2.2.1.2.1 hR3.2.2.1.1 hq2.1 hq2.2.1 hH3 hq2.2.2 hL3 (by omega)) ?_
            rintro r h1 ⟨I_u, G_u, A_u, B_u, rfl, K_u, hL4, rfl⟩
            refine ⟨rfl, ?_⟩
            have hR4 := hR3.k K_u ⟨rfl, rfl⟩ fLt_w pLt_w
            refine zw_aload_n 19 f107_18 rfl rfl ?_
            refine zw_iload_n 20 f107_19 rfl rfl ?_
            refine zw_virtual_i 23 0 0 [.ref 0, .int 1] [(0, .ref 0), (1, .int 1)] f107_20 rfl n107_181 k107_181_11 rfl (hb_0 _ _ _ _) (by decide +kernel) (Nat.le_of_ble_eq_true rfl) rfl rfl (by decide +kernel) (by decide +kernel) rfl (Nat.le_of_ble_eq_true rfl) rfl ?_
            refine zw_aload_n 1 f106_0 rfl rfl ?_
            refine zw_iconst 0 2 f106_1 rfl (by decide +kernel) ?_
            refine zw_put _ 5 f106_2 rfl g106_70_11 (hb_0 _ _ _ _) rfl (Nat.le_of_ble_eq_true rfl) (by decide +kernel) (hi_0_7 _ _ _ _ _) ?_
            refine zw_iload_n 6 f106_5 rfl rfl ?_
            refine zw_ireturn f106_6 r106 u106 ⟨_, rfl, ?_⟩
            refine zw_ireturn f107_23 r107 u107 ⟨_, rfl, ?_⟩
            refine zw_ireturn f85_71 r85 u85 ?_
            exact ⟨_, _, _, _, rfl, (KQ.i rfl (KQ.tr (KQ.tr (KQ.i rfl KQ.rf) (KQ.wk K_s fSe_Hd pSe_Hd)) (KQ.wk K_u fLt_Hd pLt_Hd))), Or.inr ⟨hok1, hR4.k (show KQ (fun k j => decide (k = 0 ∧ j = 7)) p0 _ _ _ _ _ _ _ _ from KQ.i (k := 0) (j := 7) (v := 0) rfl KQ.rf) ⟨rfl, rfl⟩ (fun j _ _ => by simp) (p0_w 11), hL4, (by rw [show (if (W.2.2.2.2.2.2.1 a.toNatClampNeg) = b then (1 : Int32) else 0) = 1 from if_pos (((hW.2.1.1 a.toNatClampNeg (by omega)).resolve_left hc4).trans (hz.resolve_left hc5).symm)])⟩⟩
          · refine zw_iconst 1 50 f85_49 rfl (by decide +kernel) ?_
            refine zw_goto 54 f85_50 (by decide +kernel) ?_
            refine zw_virtual_v 57 0 0 [.ref 12, .int a, .int 1] [(0, .ref 12), (1, .int a), (2, .int 1)] f85_54 rfl n85_143 k85_143_9 rfl (hb_12 _ _ _ _) (by decide +kernel) (Nat.le_of_ble_eq_true rfl) rfl rfl (by decide +kernel) (by decide +kernel) rfl (Nat.le_of_ble_eq_true rfl) rfl ?_
            refine zw_aload_n 1 f44_0 rfl rfl ?_
            refine zw_iload_n 2 f44_1 rfl rfl ?_
            refine zw_if_eq_f 5 16 f44_2 (by decide +kernel) rfl (by decide +kernel) ?_
            refine zw_aload_n 6 f44_5 rfl rfl ?_
            refine zw_getI (I 12 5) 9 f44_6 rfl g44_38_9 (hb_12 _ _ _ _) rfl rfl ?_
            refine zw_iconst 1 10 f44_9 rfl (by decide +kernel) ?_
            refine zw_iload_n 11 f44_10 rfl rfl ?_
            refine zw_ishl (1 <<< (a &&& 31)) 12 f44_11 rfl rfl ?_
            refine zw_ior ((I 12 5) ||| (1 <<< (a &&& 31))) 13 f44_12 rfl rfl ?_
            refine zw_goto 26 f44_13 (by decide +kernel) ?_
            refine zw_put _ 29 f44_26 rfl g44_38_9 (hb_12 _ _ _ _) rfl (Nat.le_of_ble_eq_true rfl) (by decide +kernel) (hi_12_5 _ _ _ _ _) ?_
            refine zw_vreturn f44_29 r44 u44 ⟨rfl, ?_⟩
            refine zw_aload_n 58 f85_57 rfl (zl1_ne rfl rfl rfl) ?_
            refine zw_iload_n 59 f85_58 rfl zl1_eq ?_
            refine zw_iload_n 60 f85_59 rfl (zl1_ne rfl rfl rfl) ?_
            refine zw_ic_eq_t 67 f85_60 (by decide +kernel) (Decidable.of_not_not hc5).symm ?_
            refine zw_iconst 0 68 f85_67 rfl (by decide +kernel) ?_
            refine zw_virtual_i 71 0 0 [.ref 0, .int 0] [(0, .ref 0), (1, .int 0)] f85_68 rfl n85_86 k85_86_11 rfl (hb_0 _ _ _ _) (by decide +kernel) (Nat.le_of_ble_eq_true rfl) rfl rfl (by decide +kernel) (by decide +kernel) rfl (Nat.le_of_ble_eq_true rfl) rfl ?_
            refine zw_aload_n 1 f107_0 rfl rfl ?_
            refine zw_getfield 4 f107_1 rfl g107_21_11 (hb_0 _ _ _ _) rfl ?_
            refine zw_virtual_v 7 0 0 [.ref 11] [(0, .ref 11)] f107_4 rfl n107_318 k107_318_10 rfl (hb_11 _ _ _ _) (by decide +kernel) (Nat.le_of_ble_eq_true rfl) rfl rfl (by decide +kernel) (by decide +kernel) rfl (Nat.le_of_ble_eq_true rfl) rfl ?_
            have hok1 : ok_shut nv np P a b := (qV.ofc (by omega) hc1 hc2)
            obtain ⟨hp2, hW2⟩ := hok hok1
            have hR2 : cRS 11 nv np P (wOpn a.toNatClampNeg (if b = 0 then 1 else 0) W) (upd2 I 12 5 ((I 12 5) ||| (1 <<< (a &&& 31)))) G A B := ⟨⟨hR.1.1, hR.1.2⟩, PE.of10 ((hR.2.1 53 (by omega) (by omega))) ((hR.2.1 54 (by omega) (by omega))) ((hR.2.1 55 (by omega) (by omega))) ((hR.2.1 56 (by omega) (by omega))) ((hR.2.1 57 (by omega) (by omega))) ((hR.2.1 58 (by omega) (by omega))) ((hR.2.1 59 (by omega) (by omega))) ((hR.2.1 60 (by omega) (by omega))) ((hR.2.1 61 (by omega) (by omega))) ((hR.2.1 62 (by omega) (by omega))), ⟨hR.2.2.1.1, hR.2.2.1.2.1, hR.2.2.1.2.2.1, hR.2.2.1.2.2.2⟩, hR.2.2.2.1, hR.2.2.2.2.1, (by show _ = upd _ _ (if b = 0 then (1 : Int32) else 0); rw [show (if b = 0 then (1 : Int32) else 0) = 1 from if_pos (Decidable.of_not_not hc5)]; exact (bset_a (va.mono h14) hR.2.2.2.2.2.1)), hR.2.2.2.2.2.2⟩
            have hL2 : cLg L (upd2 I 12 5 ((I 12 5) ||| (1 <<< (a &&& 31)))) A := hL
            refine zWp.mono (cx_settle_11 ro nv np _ (wOpn a.toNatClampNeg (if b = 0 then 1 else 0) W) 10000 (K + 1000) _ _ _ _ hR2 hp2 hW2.2.1 hW2.1 (by omega) (by omega)) ?_
            rintro r h1 ⟨I_s, G_s, A_s, B_s, rfl, K_s, ⟨hR3, hH3⟩, rfl⟩
            refine ⟨rfl, ?_⟩
            have hL3 := hL2.k K_s rfl rfl rfl rfl rfl
            refine zw_aload_n 8 f107_7 rfl rfl ?_
            refine zw_getfield 11 f107_8 rfl g107_31_11 (hb_0 _ _ _ _) rfl ?_
            refine zw_aload_n 12 f107_11 rfl rfl ?_
            refine zw_getfield 15 f107_12 rfl g107_21_11 (hb_0 _ _ _ _) rfl ?_
            refine zw_virtual_v 18 0 0 [.ref 33, .ref 11] [(0, .ref 33), (1, .ref 11)] f107_15 rfl n107_187 k107_187_3 rfl (hb_33 _ _ _ _) (by decide +kernel) (Nat.le_of_ble_eq_true rfl) rfl rfl (by decide +kernel) (by decide +kernel) rfl (Nat.le_of_ble_eq_true rfl) rfl ?_
            have hq2 := mom_t hp2 hW2.2.1 hW2.1 (by omega) (by omega)
            refine zWp.mono (cx_take ro _ _ _ _ _ _ (wOpn a.toNatClampNeg (if b = 0 then 1 else 0) W).2.1 (wOpn a.toNatClampNeg (if b = 0 then 1 else 0) W).1 so L (wEv nv _ (wOpn a.toNatClampNeg (if b = 0 then 1 else 0) W)) hR3.2.2.1.2.1 hR3.2.2.1.1 hq2.1 hq2.2.1 hH3 hq2.2.2 hL3 (by omega)) ?_
            rintro r h1 ⟨I_u, G_u, A_u, B_u, rfl, K_u, hL4, rfl⟩
            refine ⟨rfl, ?_⟩
            have hR4 := hR3.k K_u ⟨rfl, rfl⟩ fLt_w pLt_w
            refine zw_aload_n 19 f107_18 rfl rfl ?_
            refine zw_iload_n 20 f107_19 rfl rfl ?_
            refine zw_virtual_i 23 0 0 [.ref 0, .int 0] [(0, .ref 0), (1, .int 0)] f107_20 rfl n107_181 k107_181_11 rfl (hb_0 _ _ _ _) (by decide +kernel) (Nat.le_of_ble_eq_true rfl) rfl rfl (by decide +kernel) (by decide +kernel) rfl (Nat.le_of_ble_eq_true rfl) rfl ?_
            refine zw_aload_n 1 f106_0 rfl rfl ?_
            refine zw_iconst 0 2 f106_1 rfl (by decide +kernel) ?_
            refine zw_put _ 5 f106_2 rfl g106_70_11 (hb_0 _ _ _ _) rfl (Nat.le_of_ble_eq_true rfl) (by decide +kernel) (hi_0_7 _ _ _ _ _) ?_
            refine zw_iload_n 6 f106_5 rfl rfl ?_
            refine zw_ireturn f106_6 r106 u106 ⟨_, rfl, ?_⟩
            refine zw_ireturn f107_23 r107 u107 ⟨_, rfl, ?_⟩
            refine zw_ireturn f85_71 r85 u85 ?_
            exact ⟨_, _, _, _, rfl, (KQ.i rfl (KQ.tr (KQ.tr (KQ.i rfl KQ.rf) (KQ.wk K_s fSe_Hd pSe_Hd)) (KQ.wk K_u fLt_Hd pLt_Hd))), Or.inr ⟨hok1, hR4.k (show KQ (fun k j => decide (k = 0 ∧ j = 7)) p0 _ _ _ _ _ _ _ _ from KQ.i (k := 0) (j := 7) (v := 0) rfl KQ.rf) ⟨rfl, rfl⟩ (fun j _ _ => by simp) (p0_w 11), hL4, (by rw [show (if (W.2.2.2.2.2.2.1 a.toNatClampNeg) = b then (1 : Int32) else 0) = 0 from if_neg (fun z => absurd (((hW.2.1.1 a.toNatClampNeg (by omega)).resolve_left hc4).symm.trans (z.trans (Decidable.of_not_not hc5))) (by decide))])⟩⟩
        · refine zw_iconst 1 32 f85_31 rfl (by decide +kernel) ?_
          refine zw_goto 36 f85_32 (by decide +kernel) ?_
          refine zw_istore_n _ 37 f85_36 rfl (by decide +kernel) rfl ?_
          refine zw_aload_n 38 f85_37 rfl (zl1_ne rfl rfl rfl) ?_
          refine zw_getfield 41 f85_38 rfl g85_21_11 (hb_0 _ _ _ _) rfl ?_
          refine zw_getfield 44 f85_41 rfl g85_134_10 (hb_11 _ _ _ _) rfl ?_
          refine zw_iload_n 45 f85_44 rfl (zl1_ne rfl rfl rfl) ?_
          refine zw_iload_n 46 f85_45 rfl (zl1_ne rfl rfl rfl) ?_
          refine zw_if_ne 49 53 f85_46 (by decide +kernel) rfl (fun hc6 => ?_) (fun hc6 => ?_)
          · refine zw_iconst 0 54 f85_53 rfl (by decide +kernel) ?_
            refine zw_virtual_v 57 0 0 [.ref 12, .int a, .int 0] [(0, .ref 12), (1, .int a), (2, .int 0)] f85_54 rfl n85_143 k85_143_9 rfl (hb_12 _ _ _ _) (by decide +kernel) (Nat.le_of_ble_eq_true rfl) rfl rfl (by decide +kernel) (by decide +kernel) rfl (Nat.le_of_ble_eq_true rfl) rfl ?_
            refine zw_aload_n 1 f44_0 rfl rfl ?_
            refine zw_iload_n 2 f44_1 rfl rfl ?_
            refine zw_if_eq_t 16 f44_2 (by decide +kernel) (by decide +kernel) ?_
            refine zw_aload_n 17 f44_16 rfl rfl ?_
            refine zw_getI (I 12 5) 20 f44_17 rfl g44_38_9 (hb_12 _ _ _ _) rfl rfl ?_
            refine zw_iconst 1 21 f44_20 rfl (by decide +kernel) ?_
            refine zw_iload_n 22 f44_21 rfl rfl ?_
            refine zw_ishl (1 <<< (a &&& 31)) 23 f44_22 rfl rfl ?_
            refine zw_iconst (-1) 24 f44_23 rfl (by decide +kernel) ?_
            refine zw_ixor ((1 <<< (a &&& 31)) ^^^ (-1)) 25 f44_24 rfl rfl ?_
            refine zw_iand ((I 12 5) &&& ((1 <<< (a &&& 31)) ^^^ (-1))) 26 f44_25 rfl rfl ?_
            refine zw_put _ 29 f44_26 rfl g44_38_9 (hb_12 _ _ _ _) rfl (Nat.le_of_ble_eq_true rfl) (by decide +kernel) (hi_12_5 _ _ _ _ _) ?_
            refine zw_vreturn f44_29 r44 u44 ⟨rfl, ?_⟩
            refine zw_aload_n 58 f85_57 rfl (zl1_ne rfl rfl rfl) ?_
            refine zw_iload_n 59 f85_58 rfl zl1_eq ?_
            refine zw_iload_n 60 f85_59 rfl (zl1_ne rfl rfl rfl) ?_
            refine zw_ic_eq_t 67 f85_60 (by decide +kernel) (hz.resolve_left hc6).symm ?_
            refine zw_iconst 0 68 f85_67 rfl (by decide +kernel) ?_
            refine zw_virtual_i 71 0 0 [.ref 0, .int 0] [(0, .ref 0), (1, .int 0)] f85_68 rfl n85_86 k85_86_11 rfl (hb_0 _ _ _ _) (by decide +kernel) (Nat.le_of_ble_eq_true rfl) rfl rfl (by decide +kernel) (by decide +kernel) rfl (Nat.le_of_ble_eq_true rfl) rfl ?_
            refine zw_aload_n 1 f107_0 rfl rfl ?_
            refine zw_getfield 4 f107_1 rfl g107_21_11 (hb_0 _ _ _ _) rfl ?_
            refine zw_virtual_v 7 0 0 [.ref 11] [(0, .ref 11)] f107_4 rfl n107_318 k107_318_10 rfl (hb_11 _ _ _ _) (by decide +kernel) (Nat.le_of_ble_eq_true rfl) rfl rfl (by decide +kernel) (by decide +kernel) rfl (Nat.le_of_ble_eq_true rfl) rfl ?_
            have hok1 : ok_shut nv np P a b := (qV.ofc (by omega) hc1 hc2)
            obtain ⟨hp2, hW2⟩ := hok hok1
            have hR2 : cRS 11 nv np P (wOpn a.toNatClampNeg (if b = 0 then 1 else 0) W) (upd2 I 12 5 ((I 12 5) &&& ((1 <<< (a &&& 31)) ^^^ (-1)))) G A B := ⟨⟨hR.1.1, hR.1.2⟩, PE.of10 ((hR.2.1 53 (by omega) (by omega))) ((hR.2.1 54 (by omega) (by omega))) ((hR.2.1 55 (by omega) (by omega))) ((hR.2.1 56 (by omega) (by omega))) ((hR.2.1 57 (by omega) (by omega))) ((hR.2.1 58 (by omega) (by omega))) ((hR.2.1 59 (by omega) (by omega))) ((hR.2.1 60 (by omega) (by omega))) ((hR.2.1 61 (by omega) (by omega))) ((hR.2.1 62 (by omega) (by omega))), ⟨hR.2.2.1.1, hR.2.2.1.2.1, hR.2.2.1.2.2.1, hR.2.2.1.2.2.2⟩, hR.2.2.2.1, hR.2.2.2.2.1, (by show _ = upd _ _ (if b = 0 then (1 : Int32) else 0); rw [show (if b = 0 then (1 : Int32) else 0) = 0 from if_neg hc6]; exact (bclr_a (va.mono h14) hR.2.2.2.2.2.1)), hR.2.2.2.2.2.2⟩
            have hL2 : cLg L (upd2 I 12 5 ((I 12 5) &&& ((1 <<< (a &&& 31)) ^^^ (-1)))) A := hL
            refine zWp.mono (cx_settle_11 ro nv np _ (wOpn a.toNatClampNeg (if b = 0 then 1 else 0) W) 10000 (K + 1000) _ _ _ _ hR2 hp2 hW2.2.1 hW2.1 (by omega) (by omega)) ?_
            rintro r h1 ⟨I_s, G_s, A_s, B_s, rfl, K_s, ⟨hR3, hH3⟩, rfl⟩
            refine ⟨rfl, ?_⟩
            have hL3 := hL2.k K_s rfl rfl rfl rfl rfl
            refine zw_aload_n 8 f107_7 rfl rfl ?_
            refine zw_getfield 11 f107_8 rfl g107_31_11 (hb_0 _ _ _ _) rfl ?_
            refine zw_aload_n 12 f107_11 rfl rfl ?_
            refine zw_getfield 15 f107_12 rfl g107_21_11 (hb_0 _ _ _ _) rfl ?_
            refine zw_virtual_v 18 0 0 [.ref 33, .ref 11] [(0, .ref 33), (1, .ref 11)] f107_15 rfl n107_187 k107_187_3 rfl (hb_33 _ _ _ _) (by decide +kernel) (Nat.le_of_ble_eq_true rfl) rfl rfl (by decide +kernel) (by decide +kernel) rfl (Nat.le_of_ble_eq_true rfl) rfl ?_
            have hq2 := mom_t hp2 hW2.2.1 hW2.1 (by omega) (by omega)
            refine zWp.mono (cx_take ro _ _ _ _ _ _ (wOpn a.toNatClampNeg (if b = 0 then 1 else 0) W).2.1 (wOpn a.toNatClampNeg (if b = 0 then 1 else 0) W).1 so L (wEv nv _ (wOpn a.toNatClampNeg (if b = 0 then 1 else 0) W)) hR3.2.2.1.2.1 hR3.2.2.1.1 hq2.1 hq2.2.1 hH3 hq2.2.2 hL3 (by omega)) ?_
            rintro r h1 ⟨I_u, G_u, A_u, B_u, rfl, K_u, hL4, rfl⟩
            refine ⟨rfl, ?_⟩
            have hR4 := hR3.k K_u ⟨rfl, rfl⟩ fLt_w pLt_w
            refine zw_aload_n 19 f107_18 rfl rfl ?_
            refine zw_iload_n 20 f107_19 rfl rfl ?_
            refine zw_virtual_i 23 0 0 [.ref 0, .int 0] [(0, .ref 0), (1, .int 0)] f107_20 rfl n107_181 k107_181_11 rfl (hb_0 _ _ _ _) (by decide +kernel) (Nat.le_of_ble_eq_true rfl) rfl rfl (by decide +kernel) (by decide +kernel) rfl (Nat.le_of_ble_eq_true rfl) rfl ?_
            refine zw_aload_n 1 f106_0 rfl rfl ?_
            refine zw_iconst 0 2 f106_1 rfl (by decide +kernel) ?_
            refine zw_put _ 5 f106_2 rfl g106_70_11 (hb_0 _ _ _ _) rfl (Nat.le_of_ble_eq_true rfl) (by decide +kernel) (hi_0_7 _ _ _ _ _) ?_
            refine zw_iload_n 6 f106_5 rfl rfl ?_
            refine zw_ireturn f106_6 r106 u106 ⟨_, rfl, ?_⟩
            refine zw_ireturn f107_23 r107 u107 ⟨_, rfl, ?_⟩
            refine zw_ireturn f85_71 r85 u85 ?_
            exact ⟨_, _, _, _, rfl, (KQ.i rfl (KQ.tr (KQ.tr (KQ.i rfl KQ.rf) (KQ.wk K_s fSe_Hd pSe_Hd)) (KQ.wk K_u fLt_Hd pLt_Hd))), Or.inr ⟨hok1, hR4.k (show KQ (fun k j => decide (k = 0 ∧ j = 7)) p0 _ _ _ _ _ _ _ _ from KQ.i (k := 0) (j := 7) (v := 0) rfl KQ.rf) ⟨rfl, rfl⟩ (fun j _ _ => by simp) (p0_w 11), hL4, (by rw [show (if (W.2.2.2.2.2.2.1 a.toNatClampNeg) = b then (1 : Int32) else 0) = 0 from if_neg (fun z => absurd ((Decidable.of_not_not hc4).symm.trans (z.trans (hz.resolve_left hc6))) (by decide))])⟩⟩
          · refine zw_iconst 1 50 f85_49 rfl (by decide +kernel) ?_
            refine zw_goto 54 f85_50 (by decide +kernel) ?_
            refine zw_virtual_v 57 0 0 [.ref 12, .int a, .int 1] [(0, .ref 12), (1, .int a), (2, .int 1)] f85_54 rfl n85_143 k85_143_9 rfl (hb_12 _ _ _ _) (by decide +kernel) (Nat.le_of_ble_eq_true rfl) rfl rfl (by decide +kernel) (by decide +kernel) rfl (Nat.le_of_ble_eq_true rfl) rfl ?_
            refine zw_aload_n 1 f44_0 rfl rfl ?_
            refine zw_iload_n 2 f44_1 rfl rfl ?_
            refine zw_if_eq_f 5 16 f44_2 (by decide +kernel) rfl (by decide +kernel) ?_
            refine zw_aload_n 6 f44_5 rfl rfl ?_
            refine zw_getI (I 12 5) 9 f44_6 rfl g44_38_9 (hb_12 _ _ _ _) rfl rfl ?_
            refine zw_iconst 1 10 f44_9 rfl (by decide +kernel) ?_
            refine zw_iload_n 11 f44_10 rfl rfl ?_
            refine zw_ishl (1 <<< (a &&& 31)) 12 f44_11 rfl rfl ?_
            refine zw_ior ((I 12 5) ||| (1 <<< (a &&& 31))) 13 f44_12 rfl rfl ?_
            refine zw_goto 26 f44_13 (by decide +kernel) ?_
            refine zw_put _ 29 f44_26 rfl g44_38_9 (hb_12 _ _ _ _) rfl (Nat.le_of_ble_eq_true rfl) (by decide +kernel) (hi_12_5 _ _ _ _ _) ?_
            refine zw_vreturn f44_29 r44 u44 ⟨rfl, ?_⟩
            refine zw_aload_n 58 f85_57 rfl (zl1_ne rfl rfl rfl) ?_
            refine zw_iload_n 59 f85_58 rfl zl1_eq ?_
            refine zw_iload_n 60 f85_59 rfl (zl1_ne rfl rfl rfl) ?_
            refine zw_ic_eq_f 63 67 f85_60 (by decide +kernel) rfl (fun q => absurd (q.trans (Decidable.of_not_not hc6)) (by decide)) ?_
            refine zw_iconst 1 64 f85_63 rfl (by decide +kernel) ?_
            refine zw_goto 68 f85_64 (by decide +kernel) ?_
            refine zw_virtual_i 71 0 0 [.ref 0, .int 1] [(0, .ref 0), (1, .int 1)] f85_68 rfl n85_86 k85_86_11 rfl (hb_0 _ _ _ _) (by decide +kernel) (Nat.le_of_ble_eq_true rfl) rfl rfl (by decide +kernel) (by decide +kernel) rfl (Nat.le_of_ble_eq_true rfl) rfl ?_
            refine zw_aload_n 1 f107_0 rfl rfl ?_
            refine zw_getfield 4 f107_1 rfl g107_21_11 (hb_0 _ _ _ _) rfl ?_
            refine zw_virtual_v 7 0 0 [.ref 11] [(0, .ref 11)] f107_4 rfl n107_318 k107_318_10 rfl (hb_11 _ _ _ _) (by decide +kernel) (Nat.le_of_ble_eq_true rfl) rfl rfl (by decide +kernel) (by decide +kernel) rfl (Nat.le_of_ble_eq_true rfl) rfl ?_
            have hok1 : ok_shut nv np P a b := (qV.ofc (by omega) hc1 hc2)
            obtain ⟨hp2, hW2⟩ := hok hok1
            have hR2 : cRS 11 nv np P (wOpn a.toNatClampNeg (if b = 0 then 1 else 0) W) (upd2 I 12 5 ((I 12 5) ||| (1 <<< (a &&& 31)))) G A B := ⟨⟨hR.1.1, hR.1.2⟩, PE.of10 ((hR.2.1 53 (by omega) (by omega))) ((hR.2.1 54 (by omega) (by omega))) ((hR.2.1 55 (by omega) (by omega))) ((hR.2.1 56 (by omega) (by omega))) ((hR.2.1 57 (by omega) (by omega))) ((hR.2.1 58 (by omega) (by omega))) ((hR.2.1 59 (by omega) (by omega))) ((hR.2.1 60 (by omega) (by omega))) ((hR.2.1 61 (by omega) (by omega))) ((hR.2.1 62 (by omega) (by omega))), ⟨hR.2.2.1.1, hR.2.2.1.2.1, hR.2.2.1.2.2.1, hR.2.2.1.2.2.2⟩, hR.2.2.2.1, hR.2.2.2.2.1, (by show _ = upd _ _ (if b = 0 then (1 : Int32) else 0); rw [show (if b = 0 then (1 : Int32) else 0) = 1 from if_pos (Decidable.of_not_not hc6)]; exact (bset_a (va.mono h14) hR.2.2.2.2.2.1)), hR.2.2.2.2.2.2⟩
            have hL2 : cLg L (upd2 I 12 5 ((I 12 5) ||| (1 <<< (a &&& 31)))) A := hL
            refine zWp.mono (cx_settle_11 ro nv np _ (wOpn a.toNatClampNeg (if b = 0 then 1 else 0) W) 10000 (K + 1000) _ _ _ _ hR2 hp2 hW2.2.1 hW2.1 (by omega) (by omega)) ?_
            rintro r h1 ⟨I_s, G_s, A_s, B_s, rfl, K_s, ⟨hR3, hH3⟩, rfl⟩
            refine ⟨rfl, ?_⟩
            have hL3 := hL2.k K_s rfl rfl rfl rfl rfl
            refine zw_aload_n 8 f107_7 rfl rfl ?_
            refine zw_getfield 11 f107_8 rfl g107_31_11 (hb_0 _ _ _ _) rfl ?_
            refine zw_aload_n 12 f107_11 rfl rfl ?_
            refine zw_getfield 15 f107_12 rfl g107_21_11 (hb_0 _ _ _ _) rfl ?_
            refine zw_virtual_v 18 0 0 [.ref 33, .ref 11] [(0, .ref 33), (1, .ref 11)] f107_15 rfl n107_187 k107_187_3 rfl (hb_33 _ _ _ _) (by decide +kernel) (Nat.le_of_ble_eq_true rfl) rfl rfl (by decide +kernel) (by decide +kernel) rfl (Nat.le_of_ble_eq_true rfl) rfl ?_
            have hq2 := mom_t hp2 hW2.2.1 hW2.1 (by omega) (by omega)
            refine zWp.mono (cx_take ro _ _ _ _ _ _ (wOpn a.toNatClampNeg (if b = 0 then 1 else 0) W).2.1 (wOpn a.toNatClampNeg (if b = 0 then 1 else 0) W).1 so L (wEv nv _ (wOpn a.toNatClampNeg (if b = 0 then 1 else 0) W)) hR3.2.2.1.2.1 hR3.2.2.1.1 hq2.1 hq2.2.1 hH3 hq2.2.2 hL3 (by omega)) ?_
            rintro r h1 ⟨I_u, G_u, A_u, B_u, rfl, K_u, hL4, rfl⟩
            refine ⟨rfl, ?_⟩
            have hR4 := hR3.k K_u ⟨rfl, rfl⟩ fLt_w pLt_w
            refine zw_aload_n 19 f107_18 rfl rfl ?_
            refine zw_iload_n 20 f107_19 rfl rfl ?_
            refine zw_virtual_i 23 0 0 [.ref 0, .int 1] [(0, .ref 0), (1, .int 1)] f107_20 rfl n107_181 k107_181_11 rfl (hb_0 _ _ _ _) (by decide +kernel) (Nat.le_of_ble_eq_true rfl) rfl rfl (by decide +kernel) (by decide +kernel) rfl (Nat.le_of_ble_eq_true rfl) rfl ?_
            refine zw_aload_n 1 f106_0 rfl rfl ?_
            refine zw_iconst 0 2 f106_1 rfl (by decide +kernel) ?_
            refine zw_put _ 5 f106_2 rfl g106_70_11 (hb_0 _ _ _ _) rfl (Nat.le_of_ble_eq_true rfl) (by decide +kernel) (hi_0_7 _ _ _ _ _) ?_
            refine zw_iload_n 6 f106_5 rfl rfl ?_
            refine zw_ireturn f106_6 r106 u106 ⟨_, rfl, ?_⟩
            refine zw_ireturn f107_23 r107 u107 ⟨_, rfl, ?_⟩
            refine zw_ireturn f85_71 r85 u85 ?_
            exact ⟨_, _, _, _, rfl, (KQ.i rfl (KQ.tr (KQ.tr (KQ.i rfl KQ.rf) (KQ.wk K_s fSe_Hd pSe_Hd)) (KQ.wk K_u fLt_Hd pLt_Hd))), Or.inr ⟨hok1, hR4.k (show KQ (fun k j => decide (k = 0 ∧ j = 7)) p0 _ _ _ _ _ _ _ _ from KQ.i (k := 0) (j := 7) (v := 0) rfl KQ.rf) ⟨rfl, rfl⟩ (fun j _ _ => by simp) (p0_w 11), hL4, (by rw [show (if (W.2.2.2.2.2.2.1 a.toNatClampNeg) = b then (1 : Int32) else 0) = 1 from if_pos ((Decidable.of_not_not hc4).trans (Decidable.of_not_not hc6).symm)])⟩⟩
